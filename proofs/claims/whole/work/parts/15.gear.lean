/-! the gear -/
def onS (σ : Nat → Int32) (P : Nat) (sd : Int32) : Int32 := fnd σ sd (bxS σ P sd)
def flyN (σ : Nat → Int32) (P : Nat) : Int32 := if onS σ P 0 = -6 then onS σ P 1 else onS σ P 0
def rsC (σ : Nat → Int32) (C P : Nat) : Int32 := if C = 0 then 1 else if ¬ onS σ P 0 = -6 ∧ ¬ onS σ P 1 = -6 then 4 else if onS σ P 0 = -6 ∧ onS σ P 1 = -6 then 5 else if 0 < σ (13 + 4 * (flyN σ P).toNatClampNeg) then 0 else 6
def farV (σ : Nat → Int32) (P : Nat) (sd : Nat) (z : Int32) : Int32 := if 0 ≤ σ (3 + 1 * sd) - bxS σ P z then σ (3 + 1 * sd) - bxS σ P z else 0 - (σ (3 + 1 * sd) - bxS σ P z)
def stf (σ : Nat → Int32) (P : Nat) : Int32 := if 4 - σ 2 < farV σ P 0 0 then 0 else if 4 - σ 2 < farV σ P 1 1 then 1 else -6
def rsG (σ : Nat → Int32) (C P : Nat) : Int32 := if C = 0 then 1 else if ¬ fbF σ 12 0 = -6 then 2 else if ¬ stf σ P = -6 then 3 else rsC σ C P
def nTold (σ : Nat → Int32) (P : Nat) (r : Int32) : Int32 := if r = 2 then fbF σ 12 0 else if r = 3 then stf σ P else if r = 4 then onS σ P 0 else if r = 6 then flyN σ P else -6
theorem fndF_nI {σ : Nat → Int32} {a b : Int32} : ∀ (n k : Nat), n + k = 5 → ¬ fndF σ a b n k = -6 → ∃ j, j < 5 ∧ fndF σ a b n k = nI j
  | 0, k, _, h => absurd rfl h
  | n + 1, k, hk, h => by
    rw [fndF] at h ⊢
    by_cases q : σ (14 + 4 * k) = a ∧ σ (15 + 4 * k) = b
    · rw [if_pos q]; exact ⟨k, by omega, rfl⟩
    · rw [if_neg q] at h ⊢; exact fndF_nI n (k + 1) (by omega) h
theorem fnd_nI {σ : Nat → Int32} {a b : Int32} (h : ¬ fnd σ a b = -6) : ∃ j, j < 5 ∧ fnd σ a b = nI j := fndF_nI 5 0 rfl h
theorem onS_nI {σ : Nat → Int32} {P : Nat} {sd : Int32} (h : ¬ onS σ P sd = -6) : ∃ j, j < 5 ∧ onS σ P sd = nI j := fnd_nI h
theorem sw26 (x : Int32) : x = 2 ∨ x = 3 ∨ x = 4 ∨ x = 5 ∨ x = 6 ∨ (x.toInt < 2 ∨ 6 < x.toInt) := by
  by_cases h1 : x.toInt < 2
  · exact Or.inr (Or.inr (Or.inr (Or.inr (Or.inr (Or.inl h1)))))
  by_cases h2 : 6 < x.toInt
  · exact Or.inr (Or.inr (Or.inr (Or.inr (Or.inr (Or.inr h2)))))
  have h : x.toInt = 2 ∨ x.toInt = 3 ∨ x.toInt = 4 ∨ x.toInt = 5 ∨ x.toInt = 6 := by omega
  rcases h with h | h | h | h | h
  · exact Or.inl (Int32.toInt_inj.mp h)
  · exact Or.inr (Or.inl (Int32.toInt_inj.mp h))
  · exact Or.inr (Or.inr (Or.inl (Int32.toInt_inj.mp h)))
  · exact Or.inr (Or.inr (Or.inr (Or.inl (Int32.toInt_inj.mp h))))
  · exact Or.inr (Or.inr (Or.inr (Or.inr (Or.inl (Int32.toInt_inj.mp h)))))
def flS (σ : Nat → Int32) (k : Nat) (m : Int32) : Nat → Int32 := if σ (14 + 4 * k) = 0 then upd (upd (upd σ (14 + 4 * k) 1) (15 + 4 * k) (σ 4)) (13 + 4 * k) (σ (13 + 4 * k) + m) else upd (upd (upd σ (14 + 4 * k) 0) (15 + 4 * k) (σ 3)) (13 + 4 * k) (σ (13 + 4 * k) + m)
theorem flS_out {σ : Nat → Int32} {k : Nat} {m : Int32} {i : Nat} (hk : k < 5) (h : ¬ (12 ≤ i ∧ i < 32)) : flS σ k m i = σ i := by
  unfold flS
  split <;> rw [pk_un (by omega), pk_un (by omega), pk_un (by omega)]
def mvS1 (σ : Nat → Int32) (P : Nat) : Nat → Int32 := upd (upd σ 3 (bxS σ P 0)) 4 (bxS σ P 1)
def mvS2 (σ : Nat → Int32) (P : Nat) : Nat → Int32 := wrK (mvS1 σ P) (mvS1 σ P 5 ^^^ mvS1 σ P (56 + 3 * P)) 12
def mvS3 (σ : Nat → Int32) (P : Nat) : Nat → Int32 := upd (mvS2 σ P) 5 (mvS2 σ P (56 + 3 * P))
def mvS4 (σ : Nat → Int32) (P k : Nat) : Nat → Int32 := flS (mvS3 σ P) k (-1)
def mvS (σ : Nat → Int32) (C P k : Nat) : Nat → Int32 := upd (mvS4 σ P k) 1 (nI (goP P C))
theorem mvS1_o {σ : Nat → Int32} {P i : Nat} (h : ¬ (i = 3 ∨ i = 4)) : mvS1 σ P i = σ i := by unfold mvS1; rw [pk_un (by omega), pk_un (by omega)]
theorem mvS2_o {σ : Nat → Int32} {P i : Nat} (h : ¬ (i = 3 ∨ i = 4)) (h2 : ¬ (32 ≤ i ∧ i < 56)) : mvS2 σ P i = σ i := by unfold mvS2; rw [wrK_out h2, mvS1_o h]
theorem mvS3_o {σ : Nat → Int32} {P i : Nat} (h : ¬ (i = 3 ∨ i = 4 ∨ i = 5)) (h2 : ¬ (32 ≤ i ∧ i < 56)) : mvS3 σ P i = σ i := by unfold mvS3; rw [pk_un (by omega), mvS2_o (by omega) h2]
theorem mvS4_o {σ : Nat → Int32} {P k i : Nat} (hk : k < 5) (h : ¬ (i = 3 ∨ i = 4 ∨ i = 5)) (h2 : ¬ (12 ≤ i ∧ i < 56)) : mvS4 σ P k i = σ i := by unfold mvS4; rw [flS_out hk (by omega), mvS3_o h (by omega)]
theorem mvS_o {σ : Nat → Int32} {C P k i : Nat} (hk : k < 5) (h : ¬ (i = 1 ∨ i = 3 ∨ i = 4 ∨ i = 5)) (h2 : ¬ (12 ≤ i ∧ i < 56)) : mvS σ C P k i = σ i := by unfold mvS; rw [pk_un (by omega), mvS4_o hk (by omega) h2]
set_option maxRecDepth 100000 in
set_option maxHeartbeats 4000000 in
theorem c_X3_frames (l : Launch) (g : Ge) (N o : Nat) (σ : Nat → Int32) (C P : Nat) (hC : σ 0 = nI C) (hP : σ 1 = nI P) (hPC : P < C) (hC16 : C ≤ 16) : Cb l g yX3_frames (.code yX3_frames cX3_frames 1 (some .int)) 2 [.ref o] N o (geL g o σ) (some (.int (σ (56 + 3 * P)))) (geL g o σ) := by
  intro f hB0
  have hB : BB g N o 14 := hB0
  refine ct_of (own := RX3) [some (.ref o)] (by decide +kernel) rfl rfl (Nat.le_of_ble_eq_true rfl) ?_
  intro vp ve vs vm va vb vt vc hnm X
  refine v_aload_n X dX3_frames_0 (i := 0) rfl rfl ?_
  refine v_getB X hB cf3 2 (Nat.le_of_ble_eq_true rfl) m_fl_X3_28 dX3_frames_1 0 (Nat.le_of_ble_eq_true rfl) rfl rfl ?_
  refine v_aload_n X dX3_frames_4 (i := 0) rfl rfl ?_
  refine v_getB X hB cf3 2 (Nat.le_of_ble_eq_true rfl) m_fl_X3_28 dX3_frames_5 0 (Nat.le_of_ble_eq_true rfl) rfl rfl ?_
  refine v_getB X hB cf1 4 (Nat.le_of_ble_eq_true rfl) m_fl_X3_59 dX3_frames_8 9 (Nat.le_of_ble_eq_true rfl) rfl rfl ?_
  refine v_cvB X rfl yv_X1_framesOf m_ml_X3_86 9 9 (c_X1_framesOf l g N (o + 9) (σ 1) P hP σ _ hC hPC hC16) hB (Nat.le_of_ble_eq_true rfl) rfl (Nat.le_of_ble_eq_true rfl) rfl (L' := (geL g o σ)) (rfl) rfl (Nat.le_of_ble_eq_true rfl) rfl rfl (Nat.le_of_ble_eq_true rfl) ⟨Nat.le_of_ble_eq_true rfl, Nat.le_of_ble_eq_true rfl⟩ ⟨Nat.le_of_ble_eq_true rfl, Nat.le_of_ble_eq_true rfl⟩ dX3_frames_11 rfl ?_
  exact v_iret X rfl dX3_frames_14 (rfl) (rfl)
set_option maxRecDepth 100000 in
set_option maxHeartbeats 4000000 in
theorem c_X3_moveRaces (l : Launch) (g : Ge) (N o : Nat) (σ : Nat → Int32) (a b : Int32) : Cb l g yX3_moveRaces (.code yX3_moveRaces cX3_moveRaces 3 none) 0 [.ref o, .int a, .int b] N o (geL g o σ) none (geL g o (upd (upd σ 3 a) 4 b)) := by
  intro f hB0
  have hB : BB g N o 14 := hB0
  refine ct_of (own := RX3) [some (.ref o), some (.int a), some (.int b)] (by decide +kernel) rfl rfl (Nat.le_of_ble_eq_true rfl) ?_
  intro vp ve vs vm va vb vt vc hnm X
  refine v_aload_n X dX3_moveRaces_0 (i := 0) rfl rfl ?_
  refine v_getB X hB cf3 3 (Nat.le_of_ble_eq_true rfl) m_fl_X3_32 dX3_moveRaces_1 0 (Nat.le_of_ble_eq_true rfl) rfl rfl ?_
  refine v_iconst X dX3_moveRaces_4 (v := (0 : Int32)) (by decide) ?_
  refine v_iload_n X dX3_moveRaces_5 (i := 1) rfl rfl ?_
  refine v_iastB (n := 2) X hB dX3_moveRaces_6 13 (Nat.le_of_ble_eq_true rfl) rfl 0 rfl (by omega) (Nat.le_of_ble_eq_true rfl) (L' := (geL g o (upd σ (3 + 1 * 0) a))) (w_ge_13 (by omega)) ?_
  refine v_aload_n X dX3_moveRaces_7 (i := 0) rfl rfl ?_
  refine v_getB X hB cf3 3 (Nat.le_of_ble_eq_true rfl) m_fl_X3_32 dX3_moveRaces_8 0 (Nat.le_of_ble_eq_true rfl) rfl rfl ?_
  refine v_iconst X dX3_moveRaces_11 (v := (1 : Int32)) (by decide) ?_
  refine v_iload_n X dX3_moveRaces_12 (i := 2) rfl rfl ?_
  refine v_iastB (n := 2) X hB dX3_moveRaces_13 13 (Nat.le_of_ble_eq_true rfl) rfl 1 rfl (by omega) (Nat.le_of_ble_eq_true rfl) (L' := (geL g o (upd (upd σ (3 + 1 * 0) a) (3 + 1 * 1) b))) (w_ge_13 (by omega)) ?_
  exact v_vret X rfl dX3_moveRaces_14 (rfl) (rfl)
set_option maxRecDepth 100000 in
set_option maxHeartbeats 4000000 in
theorem c_X3_shuttleOn (l : Launch) (g : Ge) (N o : Nat) (σ : Nat → Int32) (C P : Nat) (hC : σ 0 = nI C) (hP : σ 1 = nI P) (hPC : P < C) (hC16 : C ≤ 16) (sd : Int32) : Cb l g yX3_shuttleOn (.code yX3_shuttleOn cX3_shuttleOn 2 (some .int)) 2 [.ref o, .int sd] N o (geL g o σ) (some (.int (onS σ P sd))) (geL g o σ) := by
  intro f hB0
  have hB : BB g N o 14 := hB0
  refine ct_of (own := RX3) [some (.ref o), some (.int sd)] (by decide +kernel) rfl rfl (Nat.le_of_ble_eq_true rfl) ?_
  intro vp ve vs vm va vb vt vc hnm X
  refine v_aload_n X dX3_shuttleOn_0 (i := 0) rfl rfl ?_
  refine v_getB X hB cf3 0 (Nat.le_of_ble_eq_true rfl) m_fl_X3_12 dX3_shuttleOn_1 0 (Nat.le_of_ble_eq_true rfl) rfl rfl ?_
  refine v_iload_n X dX3_shuttleOn_4 (i := 1) rfl rfl ?_
  refine v_aload_n X dX3_shuttleOn_5 (i := 0) rfl rfl ?_
  refine v_getB X hB cf3 2 (Nat.le_of_ble_eq_true rfl) m_fl_X3_28 dX3_shuttleOn_6 0 (Nat.le_of_ble_eq_true rfl) rfl rfl ?_
  refine v_aload_n X dX3_shuttleOn_9 (i := 0) rfl rfl ?_
  refine v_getB X hB cf3 2 (Nat.le_of_ble_eq_true rfl) m_fl_X3_28 dX3_shuttleOn_10 0 (Nat.le_of_ble_eq_true rfl) rfl rfl ?_
  refine v_getB X hB cf1 4 (Nat.le_of_ble_eq_true rfl) m_fl_X3_59 dX3_shuttleOn_13 9 (Nat.le_of_ble_eq_true rfl) rfl rfl ?_
  refine v_iload_n X dX3_shuttleOn_16 (i := 1) rfl rfl ?_
  refine v_cvB X rfl yv_X1_boxOf m_ml_X3_89 9 9 (c_X1_boxOf l g N (o + 9) (σ 1) P hP σ _ hC hPC hC16 _) hB (Nat.le_of_ble_eq_true rfl) rfl (Nat.le_of_ble_eq_true rfl) rfl (L' := (geL g o σ)) (rfl) rfl (Nat.le_of_ble_eq_true rfl) rfl rfl (Nat.le_of_ble_eq_true rfl) ⟨Nat.le_of_ble_eq_true rfl, Nat.le_of_ble_eq_true rfl⟩ ⟨Nat.le_of_ble_eq_true rfl, Nat.le_of_ble_eq_true rfl⟩ dX3_shuttleOn_17 rfl ?_
  refine v_cvB X rfl yv_X5_findIn m_ml_X3_119 1 1 (c_X5_findIn l g N (o + 1) σ sd (bxS σ P sd) ) hB (Nat.le_of_ble_eq_true rfl) rfl (Nat.le_of_ble_eq_true rfl) rfl (L' := (geL g o σ)) (rfl) rfl (Nat.le_of_ble_eq_true rfl) rfl rfl (Nat.le_of_ble_eq_true rfl) ⟨Nat.le_of_ble_eq_true rfl, Nat.le_of_ble_eq_true rfl⟩ ⟨Nat.le_of_ble_eq_true rfl, Nat.le_of_ble_eq_true rfl⟩ dX3_shuttleOn_20 rfl ?_
  exact v_iret X rfl dX3_shuttleOn_23 (rfl) (rfl)
set_option maxRecDepth 100000 in
set_option maxHeartbeats 4000000 in
theorem c_X3_flyingShuttle (l : Launch) (g : Ge) (N o : Nat) (σ : Nat → Int32) (C P : Nat) (hC : σ 0 = nI C) (hP : σ 1 = nI P) (hPC : P < C) (hC16 : C ≤ 16) : Cb l g yX3_flyingShuttle (.code yX3_flyingShuttle cX3_flyingShuttle 2 (some .int)) 3 [.ref o] N o (geL g o σ) (some (.int (flyN σ P))) (geL g o σ) := by
  intro f hB0
  have hB : BB g N o 14 := hB0
  refine ct_of (own := RX3) [some (.ref o), none] (by decide +kernel) rfl rfl (Nat.le_of_ble_eq_true rfl) ?_
  intro vp ve vs vm va vb vt vc hnm X
  refine v_aload_n X dX3_flyingShuttle_0 (i := 0) rfl rfl ?_
  refine v_iconst X dX3_flyingShuttle_1 (v := (0 : Int32)) (by decide) ?_
  refine v_cvB X rfl yv_X3_shuttleOn m_ml_X3_76 0 0 (c_X3_shuttleOn l g N o σ _ _ hC hP hPC hC16 _) hB (Nat.le_of_ble_eq_true rfl) rfl (Nat.le_of_ble_eq_true rfl) rfl (L' := (geL g o σ)) (rfl) rfl (Nat.le_of_ble_eq_true rfl) rfl rfl (Nat.le_of_ble_eq_true rfl) ⟨Nat.le_of_ble_eq_true rfl, Nat.le_of_ble_eq_true rfl⟩ ⟨Nat.le_of_ble_eq_true rfl, Nat.le_of_ble_eq_true rfl⟩ dX3_flyingShuttle_2 rfl ?_
  refine v_istore_n X dX3_flyingShuttle_5 (i := 1) rfl (Nat.le_of_ble_eq_true rfl) rfl ?_
  refine v_iload_n X dX3_flyingShuttle_6 (i := 1) rfl rfl ?_
  refine v_bipush X dX3_flyingShuttle_7 (v := (-6 : Int32)) (by decide) ?_
  refine v_icmp_eq X dX3_flyingShuttle_9 (tgt := 16) (by decide) (fun c9 => ?_) (fun c9 => ?_)
  · skip
    refine v_aload_n X dX3_flyingShuttle_16 (i := 0) rfl rfl ?_
    refine v_iconst X dX3_flyingShuttle_17 (v := (1 : Int32)) (by decide) ?_
    refine v_cvB X rfl yv_X3_shuttleOn m_ml_X3_76 0 0 (c_X3_shuttleOn l g N o σ _ _ hC hP hPC hC16 _) hB (Nat.le_of_ble_eq_true rfl) rfl (Nat.le_of_ble_eq_true rfl) rfl (L' := (geL g o σ)) (rfl) rfl (Nat.le_of_ble_eq_true rfl) rfl rfl (Nat.le_of_ble_eq_true rfl) ⟨Nat.le_of_ble_eq_true rfl, Nat.le_of_ble_eq_true rfl⟩ ⟨Nat.le_of_ble_eq_true rfl, Nat.le_of_ble_eq_true rfl⟩ dX3_flyingShuttle_18 rfl ?_
    exact v_iret X rfl dX3_flyingShuttle_21 (by rw [flyN, if_pos c9]) (rfl)
  · skip
    refine v_iload_n X dX3_flyingShuttle_12 (i := 1) rfl rfl ?_
    refine v_goto X dX3_flyingShuttle_13 (tgt := 21) (by decide) ?_
    exact v_iret X rfl dX3_flyingShuttle_21 (by rw [flyN, if_neg c9]) (rfl)
set_option maxRecDepth 100000 in
set_option maxHeartbeats 4000000 in
theorem c_X3_sideTooFar (l : Launch) (g : Ge) (N o : Nat) (σ : Nat → Int32) (C P : Nat) (hC : σ 0 = nI C) (hP : σ 1 = nI P) (hPC : P < C) (hC16 : C ≤ 16) : Cb l g yX3_sideTooFar (.code yX3_sideTooFar cX3_sideTooFar 3 (some .int)) 2 [.ref o] N o (geL g o σ) (some (.int (stf σ P))) (geL g o σ) := by
  intro f hB0
  have hB : BB g N o 14 := hB0
  refine ct_of (own := RX3) [some (.ref o), none, none] (by decide +kernel) rfl rfl (Nat.le_of_ble_eq_true rfl) ?_
  intro vp ve vs vm va vb vt vc hnm X
  refine v_iconst X dX3_sideTooFar_0 (v := (0 : Int32)) (by decide) ?_
  refine v_istore_n X dX3_sideTooFar_1 (i := 1) rfl (Nat.le_of_ble_eq_true rfl) rfl ?_
  refine v_iload_n X dX3_sideTooFar_2 (i := 1) rfl rfl ?_
  refine v_iconst X dX3_sideTooFar_3 (v := (2 : Int32)) (by decide) ?_
  refine v_icmp_ge X dX3_sideTooFar_4 (tgt := 51) (by decide) (fun c4 => ?_) (fun c4 => ?_)
  · skip
    exact absurd c4 (by decide)
  · skip
    refine v_aload_n X dX3_sideTooFar_7 (i := 0) rfl rfl ?_
    refine v_getB X hB cf3 3 (Nat.le_of_ble_eq_true rfl) m_fl_X3_32 dX3_sideTooFar_8 0 (Nat.le_of_ble_eq_true rfl) rfl rfl ?_
    refine v_iload_n X dX3_sideTooFar_11 (i := 1) rfl rfl ?_
    refine v_iald_vw (b := 3) (s' := 1) X hB dX3_sideTooFar_12 13 (Nat.le_of_ble_eq_true rfl) rfl 0 rfl (by omega) (Nat.le_of_ble_eq_true rfl) ?_
    refine v_aload_n X dX3_sideTooFar_13 (i := 0) rfl rfl ?_
    refine v_getB X hB cf3 2 (Nat.le_of_ble_eq_true rfl) m_fl_X3_28 dX3_sideTooFar_14 0 (Nat.le_of_ble_eq_true rfl) rfl rfl ?_
    refine v_aload_n X dX3_sideTooFar_17 (i := 0) rfl rfl ?_
    refine v_getB X hB cf3 2 (Nat.le_of_ble_eq_true rfl) m_fl_X3_28 dX3_sideTooFar_18 0 (Nat.le_of_ble_eq_true rfl) rfl rfl ?_
    refine v_getB X hB cf1 4 (Nat.le_of_ble_eq_true rfl) m_fl_X3_59 dX3_sideTooFar_21 9 (Nat.le_of_ble_eq_true rfl) rfl rfl ?_
    refine v_iload_n X dX3_sideTooFar_24 (i := 1) rfl rfl ?_
    refine v_cvB X rfl yv_X1_boxOf m_ml_X3_89 9 9 (c_X1_boxOf l g N (o + 9) (σ 1) P hP σ _ hC hPC hC16 _) hB (Nat.le_of_ble_eq_true rfl) rfl (Nat.le_of_ble_eq_true rfl) rfl (L' := (geL g o σ)) (rfl) rfl (Nat.le_of_ble_eq_true rfl) rfl rfl (Nat.le_of_ble_eq_true rfl) ⟨Nat.le_of_ble_eq_true rfl, Nat.le_of_ble_eq_true rfl⟩ ⟨Nat.le_of_ble_eq_true rfl, Nat.le_of_ble_eq_true rfl⟩ dX3_sideTooFar_25 rfl ?_
    refine v_isub X dX3_sideTooFar_28 ?_
    refine v_mabs (v := (farV σ P 0 0)) X m_ml_X3_122 (Nat.le_of_ble_eq_true rfl) ⟨Nat.le_of_ble_eq_true rfl, Nat.le_of_ble_eq_true rfl⟩ ⟨Nat.le_of_ble_eq_true rfl, Nat.le_of_ble_eq_true rfl⟩ dX3_sideTooFar_29 (by rfl) ?_
    refine v_istore_n X dX3_sideTooFar_32 (i := 2) rfl (Nat.le_of_ble_eq_true rfl) rfl ?_
    refine v_iload_n X dX3_sideTooFar_33 (i := 2) rfl rfl ?_
    refine v_iconst X dX3_sideTooFar_34 (v := (4 : Int32)) (by decide) ?_
    refine v_aload_n X dX3_sideTooFar_35 (i := 0) rfl rfl ?_
    refine v_getB X hB cf3 4 (Nat.le_of_ble_eq_true rfl) m_fl_X3_36 dX3_sideTooFar_36 0 (Nat.le_of_ble_eq_true rfl) rfl rfl ?_
    refine v_isub X dX3_sideTooFar_39 ?_
    refine v_icmp_le X dX3_sideTooFar_40 (tgt := 45) (by decide) (fun c40 => ?_) (fun c40 => ?_)
    · skip
      refine v_iinc X dX3_sideTooFar_45 (v := (1 : Int32)) rfl (by decide) (Nat.le_of_ble_eq_true rfl) rfl ?_
      refine v_goto X dX3_sideTooFar_48 (tgt := 2) (by decide) ?_
      refine v_iload_n X dX3_sideTooFar_2 (i := 1) rfl rfl ?_
      refine v_iconst X dX3_sideTooFar_3 (v := (2 : Int32)) (by decide) ?_
      refine v_icmp_ge X dX3_sideTooFar_4 (tgt := 51) (by decide) (fun c4 => ?_) (fun c4 => ?_)
      · skip
        exact absurd c4 (by decide)
      · skip
        refine v_aload_n X dX3_sideTooFar_7 (i := 0) rfl rfl ?_
        refine v_getB X hB cf3 3 (Nat.le_of_ble_eq_true rfl) m_fl_X3_32 dX3_sideTooFar_8 0 (Nat.le_of_ble_eq_true rfl) rfl rfl ?_
        refine v_iload_n X dX3_sideTooFar_11 (i := 1) rfl rfl ?_
        refine v_iald_vw (b := 3) (s' := 1) X hB dX3_sideTooFar_12 13 (Nat.le_of_ble_eq_true rfl) rfl 1 rfl (by omega) (Nat.le_of_ble_eq_true rfl) ?_
        refine v_aload_n X dX3_sideTooFar_13 (i := 0) rfl rfl ?_
        refine v_getB X hB cf3 2 (Nat.le_of_ble_eq_true rfl) m_fl_X3_28 dX3_sideTooFar_14 0 (Nat.le_of_ble_eq_true rfl) rfl rfl ?_
        refine v_aload_n X dX3_sideTooFar_17 (i := 0) rfl rfl ?_
        refine v_getB X hB cf3 2 (Nat.le_of_ble_eq_true rfl) m_fl_X3_28 dX3_sideTooFar_18 0 (Nat.le_of_ble_eq_true rfl) rfl rfl ?_
        refine v_getB X hB cf1 4 (Nat.le_of_ble_eq_true rfl) m_fl_X3_59 dX3_sideTooFar_21 9 (Nat.le_of_ble_eq_true rfl) rfl rfl ?_
        refine v_iload_n X dX3_sideTooFar_24 (i := 1) rfl rfl ?_
        refine v_cvB X rfl yv_X1_boxOf m_ml_X3_89 9 9 (c_X1_boxOf l g N (o + 9) (σ 1) P hP σ _ hC hPC hC16 _) hB (Nat.le_of_ble_eq_true rfl) rfl (Nat.le_of_ble_eq_true rfl) rfl (L' := (geL g o σ)) (rfl) rfl (Nat.le_of_ble_eq_true rfl) rfl rfl (Nat.le_of_ble_eq_true rfl) ⟨Nat.le_of_ble_eq_true rfl, Nat.le_of_ble_eq_true rfl⟩ ⟨Nat.le_of_ble_eq_true rfl, Nat.le_of_ble_eq_true rfl⟩ dX3_sideTooFar_25 rfl ?_
        refine v_isub X dX3_sideTooFar_28 ?_
        refine v_mabs (v := (farV σ P 1 1)) X m_ml_X3_122 (Nat.le_of_ble_eq_true rfl) ⟨Nat.le_of_ble_eq_true rfl, Nat.le_of_ble_eq_true rfl⟩ ⟨Nat.le_of_ble_eq_true rfl, Nat.le_of_ble_eq_true rfl⟩ dX3_sideTooFar_29 (by rfl) ?_
        refine v_istore_n X dX3_sideTooFar_32 (i := 2) rfl (Nat.le_of_ble_eq_true rfl) rfl ?_
        refine v_iload_n X dX3_sideTooFar_33 (i := 2) rfl rfl ?_
        refine v_iconst X dX3_sideTooFar_34 (v := (4 : Int32)) (by decide) ?_
        refine v_aload_n X dX3_sideTooFar_35 (i := 0) rfl rfl ?_
        refine v_getB X hB cf3 4 (Nat.le_of_ble_eq_true rfl) m_fl_X3_36 dX3_sideTooFar_36 0 (Nat.le_of_ble_eq_true rfl) rfl rfl ?_
        refine v_isub X dX3_sideTooFar_39 ?_
        refine v_icmp_le X dX3_sideTooFar_40 (tgt := 45) (by decide) (fun d40 => ?_) (fun d40 => ?_)
        · skip
          refine v_iinc X dX3_sideTooFar_45 (v := (2 : Int32)) rfl (by decide) (Nat.le_of_ble_eq_true rfl) rfl ?_
          refine v_goto X dX3_sideTooFar_48 (tgt := 2) (by decide) ?_
          refine v_iload_n X dX3_sideTooFar_2 (i := 1) rfl rfl ?_
          refine v_iconst X dX3_sideTooFar_3 (v := (2 : Int32)) (by decide) ?_
          refine v_icmp_ge X dX3_sideTooFar_4 (tgt := 51) (by decide) (fun c4 => ?_) (fun c4 => ?_)
          · skip
            refine v_bipush X dX3_sideTooFar_51 (v := (-6 : Int32)) (by decide) ?_
            exact v_iret X rfl dX3_sideTooFar_53 (by rw [stf, if_neg (Int32.not_lt.mpr c40), if_neg (Int32.not_lt.mpr d40)]) (rfl)
          · skip
            exact absurd c4 (by decide)
        · skip
          refine v_iload_n X dX3_sideTooFar_43 (i := 1) rfl rfl ?_
          exact v_iret X rfl dX3_sideTooFar_44 (by rw [stf, if_neg (Int32.not_lt.mpr c40), if_pos d40]) (rfl)
    · skip
      refine v_iload_n X dX3_sideTooFar_43 (i := 1) rfl rfl ?_
      exact v_iret X rfl dX3_sideTooFar_44 (by rw [stf, if_pos c40]) (rfl)
set_option maxRecDepth 100000 in
set_option maxHeartbeats 4000000 in
theorem c_X3_reasonOfCardOrShuttle (l : Launch) (g : Ge) (N o : Nat) (σ : Nat → Int32) (C P : Nat) (hC : σ 0 = nI C) (hP : σ 1 = nI P) (hPC : P < C ∨ (C = 0 ∧ P = 0)) (hC16 : C ≤ 16) : Cb l g yX3_reasonOfCardOrShuttle (.code yX3_reasonOfCardOrShuttle cX3_reasonOfCardOrShuttle 3 (some .int)) 3 [.ref o] N o (geL g o σ) (some (.int (rsC σ C P))) (geL g o σ) := by
  intro f hB0
  have hB : BB g N o 14 := hB0
  refine ct_of (own := RX3) [some (.ref o), none, none] (by decide +kernel) rfl rfl (Nat.le_of_ble_eq_true rfl) ?_
  intro vp ve vs vm va vb vt vc hnm X
  refine v_aload_n X dX3_reasonOfCardOrShuttle_0 (i := 0) rfl rfl ?_
  refine v_getB X hB cf3 2 (Nat.le_of_ble_eq_true rfl) m_fl_X3_28 dX3_reasonOfCardOrShuttle_1 0 (Nat.le_of_ble_eq_true rfl) rfl rfl ?_
  refine v_aload_n X dX3_reasonOfCardOrShuttle_4 (i := 0) rfl rfl ?_
  refine v_getB X hB cf3 2 (Nat.le_of_ble_eq_true rfl) m_fl_X3_28 dX3_reasonOfCardOrShuttle_5 0 (Nat.le_of_ble_eq_true rfl) rfl rfl ?_
  refine v_getB X hB cf1 4 (Nat.le_of_ble_eq_true rfl) m_fl_X3_59 dX3_reasonOfCardOrShuttle_8 9 (Nat.le_of_ble_eq_true rfl) rfl rfl ?_
  refine v_cvB X rfl yv_X1_has m_ml_X3_62 9 9 (c_X1_has l g N (o + 9) σ (σ 1) ) hB (Nat.le_of_ble_eq_true rfl) rfl (Nat.le_of_ble_eq_true rfl) rfl (L' := (geL g o σ)) (rfl) rfl (Nat.le_of_ble_eq_true rfl) rfl rfl (Nat.le_of_ble_eq_true rfl) ⟨Nat.le_of_ble_eq_true rfl, Nat.le_of_ble_eq_true rfl⟩ ⟨Nat.le_of_ble_eq_true rfl, Nat.le_of_ble_eq_true rfl⟩ dX3_reasonOfCardOrShuttle_11 rfl ?_
  refine v_if_neB X dX3_reasonOfCardOrShuttle_14 (tgt := 19) (by decide) (fun c14 => ?_) (fun c14 => ?_)
  · skip
    have hPC : P < C := by
      obtain ⟨j, hj, ej⟩ := of_has hC hC16 c14
      rw [hP] at ej
      have := (nI_eq (by omega) (by omega)).mp ej
      omega
    have hC0 : ¬ C = 0 := by omega
    refine v_aload_n X dX3_reasonOfCardOrShuttle_19 (i := 0) rfl rfl ?_
    refine v_iconst X dX3_reasonOfCardOrShuttle_20 (v := (0 : Int32)) (by decide) ?_
    refine v_cvB X rfl yv_X3_shuttleOn m_ml_X3_76 0 0 (c_X3_shuttleOn l g N o σ _ _ hC hP hPC hC16 _) hB (Nat.le_of_ble_eq_true rfl) rfl (Nat.le_of_ble_eq_true rfl) rfl (L' := (geL g o σ)) (rfl) rfl (Nat.le_of_ble_eq_true rfl) rfl rfl (Nat.le_of_ble_eq_true rfl) ⟨Nat.le_of_ble_eq_true rfl, Nat.le_of_ble_eq_true rfl⟩ ⟨Nat.le_of_ble_eq_true rfl, Nat.le_of_ble_eq_true rfl⟩ dX3_reasonOfCardOrShuttle_21 rfl ?_
    refine v_istore_n X dX3_reasonOfCardOrShuttle_24 (i := 1) rfl (Nat.le_of_ble_eq_true rfl) rfl ?_
    refine v_aload_n X dX3_reasonOfCardOrShuttle_25 (i := 0) rfl rfl ?_
    refine v_iconst X dX3_reasonOfCardOrShuttle_26 (v := (1 : Int32)) (by decide) ?_
    refine v_cvB X rfl yv_X3_shuttleOn m_ml_X3_76 0 0 (c_X3_shuttleOn l g N o σ _ _ hC hP hPC hC16 _) hB (Nat.le_of_ble_eq_true rfl) rfl (Nat.le_of_ble_eq_true rfl) rfl (L' := (geL g o σ)) (rfl) rfl (Nat.le_of_ble_eq_true rfl) rfl rfl (Nat.le_of_ble_eq_true rfl) ⟨Nat.le_of_ble_eq_true rfl, Nat.le_of_ble_eq_true rfl⟩ ⟨Nat.le_of_ble_eq_true rfl, Nat.le_of_ble_eq_true rfl⟩ dX3_reasonOfCardOrShuttle_27 rfl ?_
    refine v_istore_n X dX3_reasonOfCardOrShuttle_30 (i := 2) rfl (Nat.le_of_ble_eq_true rfl) rfl ?_
    refine v_iload_n X dX3_reasonOfCardOrShuttle_31 (i := 1) rfl rfl ?_
    refine v_bipush X dX3_reasonOfCardOrShuttle_32 (v := (-6 : Int32)) (by decide) ?_
    refine v_icmp_eq X dX3_reasonOfCardOrShuttle_34 (tgt := 45) (by decide) (fun c34 => ?_) (fun c34 => ?_)
    · skip
      refine v_iload_n X dX3_reasonOfCardOrShuttle_45 (i := 1) rfl rfl ?_
      refine v_bipush X dX3_reasonOfCardOrShuttle_46 (v := (-6 : Int32)) (by decide) ?_
      refine v_icmp_ne X dX3_reasonOfCardOrShuttle_48 (tgt := 59) (by decide) (fun c48 => ?_) (fun c48 => ?_)
      · skip
        refine v_aload_n X dX3_reasonOfCardOrShuttle_59 (i := 0) rfl rfl ?_
        refine v_getB X hB cf3 0 (Nat.le_of_ble_eq_true rfl) m_fl_X3_12 dX3_reasonOfCardOrShuttle_60 0 (Nat.le_of_ble_eq_true rfl) rfl rfl ?_
        refine v_iload_n X dX3_reasonOfCardOrShuttle_63 (i := 1) rfl rfl ?_
        refine v_bipush X dX3_reasonOfCardOrShuttle_64 (v := (-6 : Int32)) (by decide) ?_
        refine v_icmp_eq X dX3_reasonOfCardOrShuttle_66 (tgt := 73) (by decide) (fun c66 => ?_) (fun c66 => ?_)
        · skip
          refine v_iload_n X dX3_reasonOfCardOrShuttle_73 (i := 2) rfl rfl ?_
          have hne : ¬ onS σ P 1 = -6 := by
            first | exact c54 | exact absurd c66 c48
          obtain ⟨k9, h9, e9⟩ := onS_nI hne
          have hfl : flyN σ P = nI k9 := by rw [flyN, if_pos c66, e9]
          have hcl : (flyN σ P).toNatClampNeg = k9 := by rw [hfl]; exact nI_clamp (by omega)
          refine v_cvB X rfl yv_X5_hasYarn m_ml_X3_80 1 1 (c_X5_hasYarn l g N (o + 1) (onS σ P (1 : Int32)) k9 e9 σ h9) hB (Nat.le_of_ble_eq_true rfl) rfl (Nat.le_of_ble_eq_true rfl) rfl (L' := (geL g o σ)) (rfl) rfl (Nat.le_of_ble_eq_true rfl) rfl rfl (Nat.le_of_ble_eq_true rfl) ⟨Nat.le_of_ble_eq_true rfl, Nat.le_of_ble_eq_true rfl⟩ ⟨Nat.le_of_ble_eq_true rfl, Nat.le_of_ble_eq_true rfl⟩ dX3_reasonOfCardOrShuttle_74 rfl ?_
          refine v_if_eqB X dX3_reasonOfCardOrShuttle_77 (tgt := 84) (by decide) (fun c77 => ?_) (fun c77 => ?_)
          · skip
            refine v_bipush X dX3_reasonOfCardOrShuttle_84 (v := (6 : Int32)) (by decide) ?_
            have q4 : ¬ (¬ onS σ P 0 = -6 ∧ ¬ onS σ P 1 = -6) := by
              intro q
              first | exact q.1 c34 | exact q.2 c40
            have q5 : ¬ (onS σ P 0 = -6 ∧ onS σ P 1 = -6) := by
              intro q
              first | exact c48 q.1 | exact c54 q.2
            exact v_iret X rfl dX3_reasonOfCardOrShuttle_86 (by rw [rsC, if_neg hC0, if_neg q4, if_neg q5, hcl, if_neg c77]) (rfl)
          · skip
            refine v_iconst X dX3_reasonOfCardOrShuttle_80 (v := (0 : Int32)) (by decide) ?_
            refine v_goto X dX3_reasonOfCardOrShuttle_81 (tgt := 86) (by decide) ?_
            have q4 : ¬ (¬ onS σ P 0 = -6 ∧ ¬ onS σ P 1 = -6) := by
              intro q
              first | exact q.1 c34 | exact q.2 c40
            have q5 : ¬ (onS σ P 0 = -6 ∧ onS σ P 1 = -6) := by
              intro q
              first | exact c48 q.1 | exact c54 q.2
            exact v_iret X rfl dX3_reasonOfCardOrShuttle_86 (by rw [rsC, if_neg hC0, if_neg q4, if_neg q5, hcl, if_pos c77]) (rfl)
        · skip
          refine v_iload_n X dX3_reasonOfCardOrShuttle_69 (i := 1) rfl rfl ?_
          refine v_goto X dX3_reasonOfCardOrShuttle_70 (tgt := 74) (by decide) ?_
          obtain ⟨k9, h9, e9⟩ := onS_nI c66
          have hfl : flyN σ P = nI k9 := by rw [flyN, if_neg c66, e9]
          have hcl : (flyN σ P).toNatClampNeg = k9 := by rw [hfl]; exact nI_clamp (by omega)
          refine v_cvB X rfl yv_X5_hasYarn m_ml_X3_80 1 1 (c_X5_hasYarn l g N (o + 1) (onS σ P (0 : Int32)) k9 e9 σ h9) hB (Nat.le_of_ble_eq_true rfl) rfl (Nat.le_of_ble_eq_true rfl) rfl (L' := (geL g o σ)) (rfl) rfl (Nat.le_of_ble_eq_true rfl) rfl rfl (Nat.le_of_ble_eq_true rfl) ⟨Nat.le_of_ble_eq_true rfl, Nat.le_of_ble_eq_true rfl⟩ ⟨Nat.le_of_ble_eq_true rfl, Nat.le_of_ble_eq_true rfl⟩ dX3_reasonOfCardOrShuttle_74 rfl ?_
          refine v_if_eqB X dX3_reasonOfCardOrShuttle_77 (tgt := 84) (by decide) (fun c77 => ?_) (fun c77 => ?_)
          · skip
            refine v_bipush X dX3_reasonOfCardOrShuttle_84 (v := (6 : Int32)) (by decide) ?_
            have q4 : ¬ (¬ onS σ P 0 = -6 ∧ ¬ onS σ P 1 = -6) := by
              intro q
              first | exact q.1 c34 | exact q.2 c40
            have q5 : ¬ (onS σ P 0 = -6 ∧ onS σ P 1 = -6) := by
              intro q
              first | exact c48 q.1 | exact c54 q.2
            exact v_iret X rfl dX3_reasonOfCardOrShuttle_86 (by rw [rsC, if_neg hC0, if_neg q4, if_neg q5, hcl, if_neg c77]) (rfl)
          · skip
            refine v_iconst X dX3_reasonOfCardOrShuttle_80 (v := (0 : Int32)) (by decide) ?_
            refine v_goto X dX3_reasonOfCardOrShuttle_81 (tgt := 86) (by decide) ?_
            have q4 : ¬ (¬ onS σ P 0 = -6 ∧ ¬ onS σ P 1 = -6) := by
              intro q
              first | exact q.1 c34 | exact q.2 c40
            have q5 : ¬ (onS σ P 0 = -6 ∧ onS σ P 1 = -6) := by
              intro q
              first | exact c48 q.1 | exact c54 q.2
            exact v_iret X rfl dX3_reasonOfCardOrShuttle_86 (by rw [rsC, if_neg hC0, if_neg q4, if_neg q5, hcl, if_pos c77]) (rfl)
      · skip
        refine v_iload_n X dX3_reasonOfCardOrShuttle_51 (i := 2) rfl rfl ?_
        refine v_bipush X dX3_reasonOfCardOrShuttle_52 (v := (-6 : Int32)) (by decide) ?_
        refine v_icmp_ne X dX3_reasonOfCardOrShuttle_54 (tgt := 59) (by decide) (fun c54 => ?_) (fun c54 => ?_)
        · skip
          refine v_aload_n X dX3_reasonOfCardOrShuttle_59 (i := 0) rfl rfl ?_
          refine v_getB X hB cf3 0 (Nat.le_of_ble_eq_true rfl) m_fl_X3_12 dX3_reasonOfCardOrShuttle_60 0 (Nat.le_of_ble_eq_true rfl) rfl rfl ?_
          refine v_iload_n X dX3_reasonOfCardOrShuttle_63 (i := 1) rfl rfl ?_
          refine v_bipush X dX3_reasonOfCardOrShuttle_64 (v := (-6 : Int32)) (by decide) ?_
          refine v_icmp_eq X dX3_reasonOfCardOrShuttle_66 (tgt := 73) (by decide) (fun c66 => ?_) (fun c66 => ?_)
          · skip
            refine v_iload_n X dX3_reasonOfCardOrShuttle_73 (i := 2) rfl rfl ?_
            have hne : ¬ onS σ P 1 = -6 := by
              first | exact c54 | exact absurd c66 c48
            obtain ⟨k9, h9, e9⟩ := onS_nI hne
            have hfl : flyN σ P = nI k9 := by rw [flyN, if_pos c66, e9]
            have hcl : (flyN σ P).toNatClampNeg = k9 := by rw [hfl]; exact nI_clamp (by omega)
            refine v_cvB X rfl yv_X5_hasYarn m_ml_X3_80 1 1 (c_X5_hasYarn l g N (o + 1) (onS σ P (1 : Int32)) k9 e9 σ h9) hB (Nat.le_of_ble_eq_true rfl) rfl (Nat.le_of_ble_eq_true rfl) rfl (L' := (geL g o σ)) (rfl) rfl (Nat.le_of_ble_eq_true rfl) rfl rfl (Nat.le_of_ble_eq_true rfl) ⟨Nat.le_of_ble_eq_true rfl, Nat.le_of_ble_eq_true rfl⟩ ⟨Nat.le_of_ble_eq_true rfl, Nat.le_of_ble_eq_true rfl⟩ dX3_reasonOfCardOrShuttle_74 rfl ?_
            refine v_if_eqB X dX3_reasonOfCardOrShuttle_77 (tgt := 84) (by decide) (fun c77 => ?_) (fun c77 => ?_)
            · skip
              refine v_bipush X dX3_reasonOfCardOrShuttle_84 (v := (6 : Int32)) (by decide) ?_
              have q4 : ¬ (¬ onS σ P 0 = -6 ∧ ¬ onS σ P 1 = -6) := by
                intro q
                first | exact q.1 c34 | exact q.2 c40
              have q5 : ¬ (onS σ P 0 = -6 ∧ onS σ P 1 = -6) := by
                intro q
                first | exact c48 q.1 | exact c54 q.2
              exact v_iret X rfl dX3_reasonOfCardOrShuttle_86 (by rw [rsC, if_neg hC0, if_neg q4, if_neg q5, hcl, if_neg c77]) (rfl)
            · skip
              refine v_iconst X dX3_reasonOfCardOrShuttle_80 (v := (0 : Int32)) (by decide) ?_
              refine v_goto X dX3_reasonOfCardOrShuttle_81 (tgt := 86) (by decide) ?_
              have q4 : ¬ (¬ onS σ P 0 = -6 ∧ ¬ onS σ P 1 = -6) := by
                intro q
                first | exact q.1 c34 | exact q.2 c40
              have q5 : ¬ (onS σ P 0 = -6 ∧ onS σ P 1 = -6) := by
                intro q
                first | exact c48 q.1 | exact c54 q.2
              exact v_iret X rfl dX3_reasonOfCardOrShuttle_86 (by rw [rsC, if_neg hC0, if_neg q4, if_neg q5, hcl, if_pos c77]) (rfl)
          · skip
            refine v_iload_n X dX3_reasonOfCardOrShuttle_69 (i := 1) rfl rfl ?_
            refine v_goto X dX3_reasonOfCardOrShuttle_70 (tgt := 74) (by decide) ?_
            obtain ⟨k9, h9, e9⟩ := onS_nI c66
            have hfl : flyN σ P = nI k9 := by rw [flyN, if_neg c66, e9]
            have hcl : (flyN σ P).toNatClampNeg = k9 := by rw [hfl]; exact nI_clamp (by omega)
            refine v_cvB X rfl yv_X5_hasYarn m_ml_X3_80 1 1 (c_X5_hasYarn l g N (o + 1) (onS σ P (0 : Int32)) k9 e9 σ h9) hB (Nat.le_of_ble_eq_true rfl) rfl (Nat.le_of_ble_eq_true rfl) rfl (L' := (geL g o σ)) (rfl) rfl (Nat.le_of_ble_eq_true rfl) rfl rfl (Nat.le_of_ble_eq_true rfl) ⟨Nat.le_of_ble_eq_true rfl, Nat.le_of_ble_eq_true rfl⟩ ⟨Nat.le_of_ble_eq_true rfl, Nat.le_of_ble_eq_true rfl⟩ dX3_reasonOfCardOrShuttle_74 rfl ?_
            refine v_if_eqB X dX3_reasonOfCardOrShuttle_77 (tgt := 84) (by decide) (fun c77 => ?_) (fun c77 => ?_)
            · skip
              refine v_bipush X dX3_reasonOfCardOrShuttle_84 (v := (6 : Int32)) (by decide) ?_
              have q4 : ¬ (¬ onS σ P 0 = -6 ∧ ¬ onS σ P 1 = -6) := by
                intro q
                first | exact q.1 c34 | exact q.2 c40
              have q5 : ¬ (onS σ P 0 = -6 ∧ onS σ P 1 = -6) := by
                intro q
                first | exact c48 q.1 | exact c54 q.2
              exact v_iret X rfl dX3_reasonOfCardOrShuttle_86 (by rw [rsC, if_neg hC0, if_neg q4, if_neg q5, hcl, if_neg c77]) (rfl)
            · skip
              refine v_iconst X dX3_reasonOfCardOrShuttle_80 (v := (0 : Int32)) (by decide) ?_
              refine v_goto X dX3_reasonOfCardOrShuttle_81 (tgt := 86) (by decide) ?_
              have q4 : ¬ (¬ onS σ P 0 = -6 ∧ ¬ onS σ P 1 = -6) := by
                intro q
                first | exact q.1 c34 | exact q.2 c40
              have q5 : ¬ (onS σ P 0 = -6 ∧ onS σ P 1 = -6) := by
                intro q
                first | exact c48 q.1 | exact c54 q.2
              exact v_iret X rfl dX3_reasonOfCardOrShuttle_86 (by rw [rsC, if_neg hC0, if_neg q4, if_neg q5, hcl, if_pos c77]) (rfl)
        · skip
          refine v_iconst X dX3_reasonOfCardOrShuttle_57 (v := (5 : Int32)) (by decide) ?_
          have q4 : ¬ (¬ onS σ P 0 = -6 ∧ ¬ onS σ P 1 = -6) := fun q => q.1 c48
          exact v_iret X rfl dX3_reasonOfCardOrShuttle_58 (by rw [rsC, if_neg hC0, if_neg q4, if_pos ⟨c48, c54⟩]) (rfl)
    · skip
      refine v_iload_n X dX3_reasonOfCardOrShuttle_37 (i := 2) rfl rfl ?_
      refine v_bipush X dX3_reasonOfCardOrShuttle_38 (v := (-6 : Int32)) (by decide) ?_
      refine v_icmp_eq X dX3_reasonOfCardOrShuttle_40 (tgt := 45) (by decide) (fun c40 => ?_) (fun c40 => ?_)
      · skip
        refine v_iload_n X dX3_reasonOfCardOrShuttle_45 (i := 1) rfl rfl ?_
        refine v_bipush X dX3_reasonOfCardOrShuttle_46 (v := (-6 : Int32)) (by decide) ?_
        refine v_icmp_ne X dX3_reasonOfCardOrShuttle_48 (tgt := 59) (by decide) (fun c48 => ?_) (fun c48 => ?_)
        · skip
          refine v_aload_n X dX3_reasonOfCardOrShuttle_59 (i := 0) rfl rfl ?_
          refine v_getB X hB cf3 0 (Nat.le_of_ble_eq_true rfl) m_fl_X3_12 dX3_reasonOfCardOrShuttle_60 0 (Nat.le_of_ble_eq_true rfl) rfl rfl ?_
          refine v_iload_n X dX3_reasonOfCardOrShuttle_63 (i := 1) rfl rfl ?_
          refine v_bipush X dX3_reasonOfCardOrShuttle_64 (v := (-6 : Int32)) (by decide) ?_
          refine v_icmp_eq X dX3_reasonOfCardOrShuttle_66 (tgt := 73) (by decide) (fun c66 => ?_) (fun c66 => ?_)
          · skip
            refine v_iload_n X dX3_reasonOfCardOrShuttle_73 (i := 2) rfl rfl ?_
            have hne : ¬ onS σ P 1 = -6 := by
              first | exact c54 | exact absurd c66 c48
            obtain ⟨k9, h9, e9⟩ := onS_nI hne
            have hfl : flyN σ P = nI k9 := by rw [flyN, if_pos c66, e9]
            have hcl : (flyN σ P).toNatClampNeg = k9 := by rw [hfl]; exact nI_clamp (by omega)
            refine v_cvB X rfl yv_X5_hasYarn m_ml_X3_80 1 1 (c_X5_hasYarn l g N (o + 1) (onS σ P (1 : Int32)) k9 e9 σ h9) hB (Nat.le_of_ble_eq_true rfl) rfl (Nat.le_of_ble_eq_true rfl) rfl (L' := (geL g o σ)) (rfl) rfl (Nat.le_of_ble_eq_true rfl) rfl rfl (Nat.le_of_ble_eq_true rfl) ⟨Nat.le_of_ble_eq_true rfl, Nat.le_of_ble_eq_true rfl⟩ ⟨Nat.le_of_ble_eq_true rfl, Nat.le_of_ble_eq_true rfl⟩ dX3_reasonOfCardOrShuttle_74 rfl ?_
            refine v_if_eqB X dX3_reasonOfCardOrShuttle_77 (tgt := 84) (by decide) (fun c77 => ?_) (fun c77 => ?_)
            · skip
              refine v_bipush X dX3_reasonOfCardOrShuttle_84 (v := (6 : Int32)) (by decide) ?_
              have q4 : ¬ (¬ onS σ P 0 = -6 ∧ ¬ onS σ P 1 = -6) := by
                intro q
                first | exact q.1 c34 | exact q.2 c40
              have q5 : ¬ (onS σ P 0 = -6 ∧ onS σ P 1 = -6) := by
                intro q
                first | exact c48 q.1 | exact c54 q.2
              exact v_iret X rfl dX3_reasonOfCardOrShuttle_86 (by rw [rsC, if_neg hC0, if_neg q4, if_neg q5, hcl, if_neg c77]) (rfl)
            · skip
              refine v_iconst X dX3_reasonOfCardOrShuttle_80 (v := (0 : Int32)) (by decide) ?_
              refine v_goto X dX3_reasonOfCardOrShuttle_81 (tgt := 86) (by decide) ?_
              have q4 : ¬ (¬ onS σ P 0 = -6 ∧ ¬ onS σ P 1 = -6) := by
                intro q
                first | exact q.1 c34 | exact q.2 c40
              have q5 : ¬ (onS σ P 0 = -6 ∧ onS σ P 1 = -6) := by
                intro q
                first | exact c48 q.1 | exact c54 q.2
              exact v_iret X rfl dX3_reasonOfCardOrShuttle_86 (by rw [rsC, if_neg hC0, if_neg q4, if_neg q5, hcl, if_pos c77]) (rfl)
          · skip
            refine v_iload_n X dX3_reasonOfCardOrShuttle_69 (i := 1) rfl rfl ?_
            refine v_goto X dX3_reasonOfCardOrShuttle_70 (tgt := 74) (by decide) ?_
            obtain ⟨k9, h9, e9⟩ := onS_nI c66
            have hfl : flyN σ P = nI k9 := by rw [flyN, if_neg c66, e9]
            have hcl : (flyN σ P).toNatClampNeg = k9 := by rw [hfl]; exact nI_clamp (by omega)
            refine v_cvB X rfl yv_X5_hasYarn m_ml_X3_80 1 1 (c_X5_hasYarn l g N (o + 1) (onS σ P (0 : Int32)) k9 e9 σ h9) hB (Nat.le_of_ble_eq_true rfl) rfl (Nat.le_of_ble_eq_true rfl) rfl (L' := (geL g o σ)) (rfl) rfl (Nat.le_of_ble_eq_true rfl) rfl rfl (Nat.le_of_ble_eq_true rfl) ⟨Nat.le_of_ble_eq_true rfl, Nat.le_of_ble_eq_true rfl⟩ ⟨Nat.le_of_ble_eq_true rfl, Nat.le_of_ble_eq_true rfl⟩ dX3_reasonOfCardOrShuttle_74 rfl ?_
            refine v_if_eqB X dX3_reasonOfCardOrShuttle_77 (tgt := 84) (by decide) (fun c77 => ?_) (fun c77 => ?_)
            · skip
              refine v_bipush X dX3_reasonOfCardOrShuttle_84 (v := (6 : Int32)) (by decide) ?_
              have q4 : ¬ (¬ onS σ P 0 = -6 ∧ ¬ onS σ P 1 = -6) := by
                intro q
                first | exact q.1 c34 | exact q.2 c40
              have q5 : ¬ (onS σ P 0 = -6 ∧ onS σ P 1 = -6) := by
                intro q
                first | exact c48 q.1 | exact c54 q.2
              exact v_iret X rfl dX3_reasonOfCardOrShuttle_86 (by rw [rsC, if_neg hC0, if_neg q4, if_neg q5, hcl, if_neg c77]) (rfl)
            · skip
              refine v_iconst X dX3_reasonOfCardOrShuttle_80 (v := (0 : Int32)) (by decide) ?_
              refine v_goto X dX3_reasonOfCardOrShuttle_81 (tgt := 86) (by decide) ?_
              have q4 : ¬ (¬ onS σ P 0 = -6 ∧ ¬ onS σ P 1 = -6) := by
                intro q
                first | exact q.1 c34 | exact q.2 c40
              have q5 : ¬ (onS σ P 0 = -6 ∧ onS σ P 1 = -6) := by
                intro q
                first | exact c48 q.1 | exact c54 q.2
              exact v_iret X rfl dX3_reasonOfCardOrShuttle_86 (by rw [rsC, if_neg hC0, if_neg q4, if_neg q5, hcl, if_pos c77]) (rfl)
        · skip
          refine v_iload_n X dX3_reasonOfCardOrShuttle_51 (i := 2) rfl rfl ?_
          refine v_bipush X dX3_reasonOfCardOrShuttle_52 (v := (-6 : Int32)) (by decide) ?_
          refine v_icmp_ne X dX3_reasonOfCardOrShuttle_54 (tgt := 59) (by decide) (fun c54 => ?_) (fun c54 => ?_)
          · skip
            refine v_aload_n X dX3_reasonOfCardOrShuttle_59 (i := 0) rfl rfl ?_
            refine v_getB X hB cf3 0 (Nat.le_of_ble_eq_true rfl) m_fl_X3_12 dX3_reasonOfCardOrShuttle_60 0 (Nat.le_of_ble_eq_true rfl) rfl rfl ?_
            refine v_iload_n X dX3_reasonOfCardOrShuttle_63 (i := 1) rfl rfl ?_
            refine v_bipush X dX3_reasonOfCardOrShuttle_64 (v := (-6 : Int32)) (by decide) ?_
            refine v_icmp_eq X dX3_reasonOfCardOrShuttle_66 (tgt := 73) (by decide) (fun c66 => ?_) (fun c66 => ?_)
            · skip
              refine v_iload_n X dX3_reasonOfCardOrShuttle_73 (i := 2) rfl rfl ?_
              have hne : ¬ onS σ P 1 = -6 := by
                first | exact c54 | exact absurd c66 c48
              obtain ⟨k9, h9, e9⟩ := onS_nI hne
              have hfl : flyN σ P = nI k9 := by rw [flyN, if_pos c66, e9]
              have hcl : (flyN σ P).toNatClampNeg = k9 := by rw [hfl]; exact nI_clamp (by omega)
              refine v_cvB X rfl yv_X5_hasYarn m_ml_X3_80 1 1 (c_X5_hasYarn l g N (o + 1) (onS σ P (1 : Int32)) k9 e9 σ h9) hB (Nat.le_of_ble_eq_true rfl) rfl (Nat.le_of_ble_eq_true rfl) rfl (L' := (geL g o σ)) (rfl) rfl (Nat.le_of_ble_eq_true rfl) rfl rfl (Nat.le_of_ble_eq_true rfl) ⟨Nat.le_of_ble_eq_true rfl, Nat.le_of_ble_eq_true rfl⟩ ⟨Nat.le_of_ble_eq_true rfl, Nat.le_of_ble_eq_true rfl⟩ dX3_reasonOfCardOrShuttle_74 rfl ?_
              refine v_if_eqB X dX3_reasonOfCardOrShuttle_77 (tgt := 84) (by decide) (fun c77 => ?_) (fun c77 => ?_)
              · skip
                refine v_bipush X dX3_reasonOfCardOrShuttle_84 (v := (6 : Int32)) (by decide) ?_
                have q4 : ¬ (¬ onS σ P 0 = -6 ∧ ¬ onS σ P 1 = -6) := by
                  intro q
                  first | exact q.1 c34 | exact q.2 c40
                have q5 : ¬ (onS σ P 0 = -6 ∧ onS σ P 1 = -6) := by
                  intro q
                  first | exact c48 q.1 | exact c54 q.2
                exact v_iret X rfl dX3_reasonOfCardOrShuttle_86 (by rw [rsC, if_neg hC0, if_neg q4, if_neg q5, hcl, if_neg c77]) (rfl)
              · skip
                refine v_iconst X dX3_reasonOfCardOrShuttle_80 (v := (0 : Int32)) (by decide) ?_
                refine v_goto X dX3_reasonOfCardOrShuttle_81 (tgt := 86) (by decide) ?_
                have q4 : ¬ (¬ onS σ P 0 = -6 ∧ ¬ onS σ P 1 = -6) := by
                  intro q
                  first | exact q.1 c34 | exact q.2 c40
                have q5 : ¬ (onS σ P 0 = -6 ∧ onS σ P 1 = -6) := by
                  intro q
                  first | exact c48 q.1 | exact c54 q.2
                exact v_iret X rfl dX3_reasonOfCardOrShuttle_86 (by rw [rsC, if_neg hC0, if_neg q4, if_neg q5, hcl, if_pos c77]) (rfl)
            · skip
              refine v_iload_n X dX3_reasonOfCardOrShuttle_69 (i := 1) rfl rfl ?_
              refine v_goto X dX3_reasonOfCardOrShuttle_70 (tgt := 74) (by decide) ?_
              obtain ⟨k9, h9, e9⟩ := onS_nI c66
              have hfl : flyN σ P = nI k9 := by rw [flyN, if_neg c66, e9]
              have hcl : (flyN σ P).toNatClampNeg = k9 := by rw [hfl]; exact nI_clamp (by omega)
              refine v_cvB X rfl yv_X5_hasYarn m_ml_X3_80 1 1 (c_X5_hasYarn l g N (o + 1) (onS σ P (0 : Int32)) k9 e9 σ h9) hB (Nat.le_of_ble_eq_true rfl) rfl (Nat.le_of_ble_eq_true rfl) rfl (L' := (geL g o σ)) (rfl) rfl (Nat.le_of_ble_eq_true rfl) rfl rfl (Nat.le_of_ble_eq_true rfl) ⟨Nat.le_of_ble_eq_true rfl, Nat.le_of_ble_eq_true rfl⟩ ⟨Nat.le_of_ble_eq_true rfl, Nat.le_of_ble_eq_true rfl⟩ dX3_reasonOfCardOrShuttle_74 rfl ?_
              refine v_if_eqB X dX3_reasonOfCardOrShuttle_77 (tgt := 84) (by decide) (fun c77 => ?_) (fun c77 => ?_)
              · skip
                refine v_bipush X dX3_reasonOfCardOrShuttle_84 (v := (6 : Int32)) (by decide) ?_
                have q4 : ¬ (¬ onS σ P 0 = -6 ∧ ¬ onS σ P 1 = -6) := by
                  intro q
                  first | exact q.1 c34 | exact q.2 c40
                have q5 : ¬ (onS σ P 0 = -6 ∧ onS σ P 1 = -6) := by
                  intro q
                  first | exact c48 q.1 | exact c54 q.2
                exact v_iret X rfl dX3_reasonOfCardOrShuttle_86 (by rw [rsC, if_neg hC0, if_neg q4, if_neg q5, hcl, if_neg c77]) (rfl)
              · skip
                refine v_iconst X dX3_reasonOfCardOrShuttle_80 (v := (0 : Int32)) (by decide) ?_
                refine v_goto X dX3_reasonOfCardOrShuttle_81 (tgt := 86) (by decide) ?_
                have q4 : ¬ (¬ onS σ P 0 = -6 ∧ ¬ onS σ P 1 = -6) := by
                  intro q
                  first | exact q.1 c34 | exact q.2 c40
                have q5 : ¬ (onS σ P 0 = -6 ∧ onS σ P 1 = -6) := by
                  intro q
                  first | exact c48 q.1 | exact c54 q.2
                exact v_iret X rfl dX3_reasonOfCardOrShuttle_86 (by rw [rsC, if_neg hC0, if_neg q4, if_neg q5, hcl, if_pos c77]) (rfl)
          · skip
            refine v_iconst X dX3_reasonOfCardOrShuttle_57 (v := (5 : Int32)) (by decide) ?_
            have q4 : ¬ (¬ onS σ P 0 = -6 ∧ ¬ onS σ P 1 = -6) := fun q => q.1 c48
            exact v_iret X rfl dX3_reasonOfCardOrShuttle_58 (by rw [rsC, if_neg hC0, if_neg q4, if_pos ⟨c48, c54⟩]) (rfl)
      · skip
        refine v_iconst X dX3_reasonOfCardOrShuttle_43 (v := (4 : Int32)) (by decide) ?_
        exact v_iret X rfl dX3_reasonOfCardOrShuttle_44 (by rw [rsC, if_neg hC0, if_pos ⟨c34, c40⟩]) (rfl)
  · skip
    have hC0 : C = 0 := by
      rcases hPC with q | q
      · exact absurd (by rw [hP]; exact has_nI hC q hC16) c14
      · exact q.1
    refine v_iconst X dX3_reasonOfCardOrShuttle_17 (v := (1 : Int32)) (by decide) ?_
    exact v_iret X rfl dX3_reasonOfCardOrShuttle_18 (by rw [rsC, if_pos hC0]) (rfl)
set_option maxRecDepth 100000 in
set_option maxHeartbeats 4000000 in
theorem c_X3_reasonToStop (l : Launch) (g : Ge) (N o : Nat) (σ : Nat → Int32) (C P : Nat) (hC : σ 0 = nI C) (hP : σ 1 = nI P) (hPC : P < C ∨ (C = 0 ∧ P = 0)) (hC16 : C ≤ 16) : Cb l g yX3_reasonToStop (.code yX3_reasonToStop cX3_reasonToStop 1 (some .int)) 4 [.ref o] N o (geL g o σ) (some (.int (rsG σ C P))) (geL g o σ) := by
  intro f hB0
  have hB : BB g N o 14 := hB0
  refine ct_of (own := RX3) [some (.ref o)] (by decide +kernel) rfl rfl (Nat.le_of_ble_eq_true rfl) ?_
  intro vp ve vs vm va vb vt vc hnm X
  refine v_aload_n X dX3_reasonToStop_0 (i := 0) rfl rfl ?_
  refine v_getB X hB cf3 2 (Nat.le_of_ble_eq_true rfl) m_fl_X3_28 dX3_reasonToStop_1 0 (Nat.le_of_ble_eq_true rfl) rfl rfl ?_
  refine v_aload_n X dX3_reasonToStop_4 (i := 0) rfl rfl ?_
  refine v_getB X hB cf3 2 (Nat.le_of_ble_eq_true rfl) m_fl_X3_28 dX3_reasonToStop_5 0 (Nat.le_of_ble_eq_true rfl) rfl rfl ?_
  refine v_getB X hB cf1 4 (Nat.le_of_ble_eq_true rfl) m_fl_X3_59 dX3_reasonToStop_8 9 (Nat.le_of_ble_eq_true rfl) rfl rfl ?_
  refine v_cvB X rfl yv_X1_has m_ml_X3_62 9 9 (c_X1_has l g N (o + 9) σ (σ 1) ) hB (Nat.le_of_ble_eq_true rfl) rfl (Nat.le_of_ble_eq_true rfl) rfl (L' := (geL g o σ)) (rfl) rfl (Nat.le_of_ble_eq_true rfl) rfl rfl (Nat.le_of_ble_eq_true rfl) ⟨Nat.le_of_ble_eq_true rfl, Nat.le_of_ble_eq_true rfl⟩ ⟨Nat.le_of_ble_eq_true rfl, Nat.le_of_ble_eq_true rfl⟩ dX3_reasonToStop_11 rfl ?_
  refine v_if_neB X dX3_reasonToStop_14 (tgt := 19) (by decide) (fun c14 => ?_) (fun c14 => ?_)
  · skip
    have hPC : P < C := by
      obtain ⟨j, hj, ej⟩ := of_has hC hC16 c14
      rw [hP] at ej
      have := (nI_eq (by omega) (by omega)).mp ej
      omega
    have hC0 : ¬ C = 0 := by omega
    refine v_aload_n X dX3_reasonToStop_19 (i := 0) rfl rfl ?_
    refine v_getB X hB cf3 1 (Nat.le_of_ble_eq_true rfl) m_fl_X3_21 dX3_reasonToStop_20 0 (Nat.le_of_ble_eq_true rfl) rfl rfl ?_
    refine v_cvB X rfl yv_X6_firstBroken m_ml_X3_66 6 6 (c_X6_firstBroken l g N (o + 6) σ ) hB (Nat.le_of_ble_eq_true rfl) rfl (Nat.le_of_ble_eq_true rfl) rfl (L' := (geL g o σ)) (rfl) rfl (Nat.le_of_ble_eq_true rfl) rfl rfl (Nat.le_of_ble_eq_true rfl) ⟨Nat.le_of_ble_eq_true rfl, Nat.le_of_ble_eq_true rfl⟩ ⟨Nat.le_of_ble_eq_true rfl, Nat.le_of_ble_eq_true rfl⟩ dX3_reasonToStop_23 rfl ?_
    refine v_bipush X dX3_reasonToStop_26 (v := (-6 : Int32)) (by decide) ?_
    refine v_icmp_eq X dX3_reasonToStop_28 (tgt := 33) (by decide) (fun c28 => ?_) (fun c28 => ?_)
    · skip
      refine v_aload_n X dX3_reasonToStop_33 (i := 0) rfl rfl ?_
      refine v_cvB X rfl yv_X3_sideTooFar m_ml_X3_70 0 0 (c_X3_sideTooFar l g N o σ _ _ hC hP hPC hC16) hB (Nat.le_of_ble_eq_true rfl) rfl (Nat.le_of_ble_eq_true rfl) rfl (L' := (geL g o σ)) (rfl) rfl (Nat.le_of_ble_eq_true rfl) rfl rfl (Nat.le_of_ble_eq_true rfl) ⟨Nat.le_of_ble_eq_true rfl, Nat.le_of_ble_eq_true rfl⟩ ⟨Nat.le_of_ble_eq_true rfl, Nat.le_of_ble_eq_true rfl⟩ dX3_reasonToStop_34 rfl ?_
      refine v_bipush X dX3_reasonToStop_37 (v := (-6 : Int32)) (by decide) ?_
      refine v_icmp_eq X dX3_reasonToStop_39 (tgt := 44) (by decide) (fun c39 => ?_) (fun c39 => ?_)
      · skip
        refine v_aload_n X dX3_reasonToStop_44 (i := 0) rfl rfl ?_
        refine v_cvB X rfl yv_X3_reasonOfCardOrShuttle m_ml_X3_73 0 0 (c_X3_reasonOfCardOrShuttle l g N o σ _ _ hC hP (Or.inl hPC) hC16) hB (Nat.le_of_ble_eq_true rfl) rfl (Nat.le_of_ble_eq_true rfl) rfl (L' := (geL g o σ)) (rfl) rfl (Nat.le_of_ble_eq_true rfl) rfl rfl (Nat.le_of_ble_eq_true rfl) ⟨Nat.le_of_ble_eq_true rfl, Nat.le_of_ble_eq_true rfl⟩ ⟨Nat.le_of_ble_eq_true rfl, Nat.le_of_ble_eq_true rfl⟩ dX3_reasonToStop_45 rfl ?_
        exact v_iret X rfl dX3_reasonToStop_48 (by rw [rsG, if_neg hC0, if_neg (not_not_intro c28), if_neg (not_not_intro c39)]) (rfl)
      · skip
        refine v_iconst X dX3_reasonToStop_42 (v := (3 : Int32)) (by decide) ?_
        exact v_iret X rfl dX3_reasonToStop_43 (by rw [rsG, if_neg hC0, if_neg (not_not_intro c28), if_pos c39]) (rfl)
    · skip
      refine v_iconst X dX3_reasonToStop_31 (v := (2 : Int32)) (by decide) ?_
      exact v_iret X rfl dX3_reasonToStop_32 (by rw [rsG, if_neg hC0, if_pos c28]) (rfl)
  · skip
    have hC0 : C = 0 := by
      rcases hPC with q | q
      · exact absurd (by rw [hP]; exact has_nI hC q hC16) c14
      · exact q.1
    refine v_iconst X dX3_reasonToStop_17 (v := (1 : Int32)) (by decide) ?_
    exact v_iret X rfl dX3_reasonToStop_18 (by rw [rsG, if_pos hC0]) (rfl)
set_option maxRecDepth 100000 in
set_option maxHeartbeats 4000000 in
theorem c_X3_numberTold (l : Launch) (g : Ge) (N o : Nat) (σ : Nat → Int32) (C P : Nat) (r : Int32) (hC : σ 0 = nI C) (hP : σ 1 = nI P) (hPC0 : r = 3 ∨ r = 4 ∨ r = 6 → P < C) (hC16 : C ≤ 16) : Cb l g yX3_numberTold (.code yX3_numberTold cX3_numberTold 2 (some .int)) 4 [.ref o, .int r] N o (geL g o σ) (some (.int (nTold σ P r))) (geL g o σ) := by
  intro f hB0
  have hB : BB g N o 14 := hB0
  refine ct_of (own := RX3) [some (.ref o), some (.int r)] (by decide +kernel) rfl rfl (Nat.le_of_ble_eq_true rfl) ?_
  intro vp ve vs vm va vb vt vc hnm X
  refine v_iload_n X dX3_numberTold_0 (i := 1) rfl rfl ?_
  rcases sw26 r with rfl | rfl | rfl | rfl | rfl | hwd
  · skip
    refine v_tabIn X dX3_numberTold_1 (tgt := 36) (by decide) (by decide) rfl (by decide) ?_
    refine v_aload_n X dX3_numberTold_36 (i := 0) rfl rfl ?_
    refine v_getB X hB cf3 1 (Nat.le_of_ble_eq_true rfl) m_fl_X3_21 dX3_numberTold_37 0 (Nat.le_of_ble_eq_true rfl) rfl rfl ?_
    refine v_cvB X rfl yv_X6_firstBroken m_ml_X3_66 6 6 (c_X6_firstBroken l g N (o + 6) σ ) hB (Nat.le_of_ble_eq_true rfl) rfl (Nat.le_of_ble_eq_true rfl) rfl (L' := (geL g o σ)) (rfl) rfl (Nat.le_of_ble_eq_true rfl) rfl rfl (Nat.le_of_ble_eq_true rfl) ⟨Nat.le_of_ble_eq_true rfl, Nat.le_of_ble_eq_true rfl⟩ ⟨Nat.le_of_ble_eq_true rfl, Nat.le_of_ble_eq_true rfl⟩ dX3_numberTold_40 rfl ?_
    exact v_iret X rfl dX3_numberTold_43 (by rw [nTold, if_pos rfl]) (rfl)
  · skip
    refine v_tabIn X dX3_numberTold_1 (tgt := 44) (by decide) (by decide) rfl (by decide) ?_
    refine v_aload_n X dX3_numberTold_44 (i := 0) rfl rfl ?_
    refine v_cvB X rfl yv_X3_sideTooFar m_ml_X3_70 0 0 (c_X3_sideTooFar l g N o σ _ _ hC hP (hPC0 (by decide)) hC16) hB (Nat.le_of_ble_eq_true rfl) rfl (Nat.le_of_ble_eq_true rfl) rfl (L' := (geL g o σ)) (rfl) rfl (Nat.le_of_ble_eq_true rfl) rfl rfl (Nat.le_of_ble_eq_true rfl) ⟨Nat.le_of_ble_eq_true rfl, Nat.le_of_ble_eq_true rfl⟩ ⟨Nat.le_of_ble_eq_true rfl, Nat.le_of_ble_eq_true rfl⟩ dX3_numberTold_45 rfl ?_
    exact v_iret X rfl dX3_numberTold_48 (by rw [nTold, if_neg (by decide), if_pos rfl]) (rfl)
  · skip
    refine v_tabIn X dX3_numberTold_1 (tgt := 49) (by decide) (by decide) rfl (by decide) ?_
    refine v_aload_n X dX3_numberTold_49 (i := 0) rfl rfl ?_
    refine v_iconst X dX3_numberTold_50 (v := (0 : Int32)) (by decide) ?_
    refine v_cvB X rfl yv_X3_shuttleOn m_ml_X3_76 0 0 (c_X3_shuttleOn l g N o σ _ _ hC hP (hPC0 (by decide)) hC16 _) hB (Nat.le_of_ble_eq_true rfl) rfl (Nat.le_of_ble_eq_true rfl) rfl (L' := (geL g o σ)) (rfl) rfl (Nat.le_of_ble_eq_true rfl) rfl rfl (Nat.le_of_ble_eq_true rfl) ⟨Nat.le_of_ble_eq_true rfl, Nat.le_of_ble_eq_true rfl⟩ ⟨Nat.le_of_ble_eq_true rfl, Nat.le_of_ble_eq_true rfl⟩ dX3_numberTold_51 rfl ?_
    exact v_iret X rfl dX3_numberTold_54 (by rw [nTold, if_neg (by decide), if_neg (by decide), if_pos rfl]) (rfl)
  · skip
    refine v_tabIn X dX3_numberTold_1 (tgt := 60) (by decide) (by decide) rfl (by decide) ?_
    refine v_bipush X dX3_numberTold_60 (v := (-6 : Int32)) (by decide) ?_
    exact v_iret X rfl dX3_numberTold_62 (by rw [nTold, if_neg (by decide), if_neg (by decide), if_neg (by decide), if_neg (by decide)]) (rfl)
  · skip
    refine v_tabIn X dX3_numberTold_1 (tgt := 55) (by decide) (by decide) rfl (by decide) ?_
    refine v_aload_n X dX3_numberTold_55 (i := 0) rfl rfl ?_
    refine v_cvB X rfl yv_X3_flyingShuttle m_ml_X3_83 0 0 (c_X3_flyingShuttle l g N o σ _ _ hC hP (hPC0 (by decide)) hC16) hB (Nat.le_of_ble_eq_true rfl) rfl (Nat.le_of_ble_eq_true rfl) rfl (L' := (geL g o σ)) (rfl) rfl (Nat.le_of_ble_eq_true rfl) rfl rfl (Nat.le_of_ble_eq_true rfl) ⟨Nat.le_of_ble_eq_true rfl, Nat.le_of_ble_eq_true rfl⟩ ⟨Nat.le_of_ble_eq_true rfl, Nat.le_of_ble_eq_true rfl⟩ dX3_numberTold_56 rfl ?_
    exact v_iret X rfl dX3_numberTold_59 (by rw [nTold, if_neg (by decide), if_neg (by decide), if_neg (by decide), if_pos rfl]) (rfl)
  · skip
    refine v_tabOut X dX3_numberTold_1 (tgt := 60) hwd (by decide) ?_
    refine v_bipush X dX3_numberTold_60 (v := (-6 : Int32)) (by decide) ?_
    exact v_iret X rfl dX3_numberTold_62 (by rw [nTold, if_neg (fun q => by subst q; exact absurd hwd (by decide)), if_neg (fun q => by subst q; exact absurd hwd (by decide)), if_neg (fun q => by subst q; exact absurd hwd (by decide)), if_neg (fun q => by subst q; exact absurd hwd (by decide))]) (rfl)
set_option maxRecDepth 100000 in
set_option maxHeartbeats 4000000 in
theorem c_X3_fly (l : Launch) (g : Ge) (N o : Nat) (x_k : Int32) (k : Nat) (hx_k : x_k = nI k) (σ : Nat → Int32) (m : Int32) (hk : k < 5) : Cb l g yX3_fly (.code yX3_fly cX3_fly 4 none) 3 [.ref o, .int x_k, .int m] N o (geL g o σ) none (geL g o (flS σ k m)) := by
  intro f hB0
  have hB : BB g N o 14 := hB0
  subst hx_k
  refine ct_of (own := RX3) [some (.ref o), some (.int (nI k)), some (.int m), none] (by decide +kernel) rfl rfl (Nat.le_of_ble_eq_true rfl) ?_
  intro vp ve vs vm va vb vt vc hnm X
  refine v_aload_n X dX3_fly_0 (i := 0) rfl rfl ?_
  refine v_getB X hB cf3 0 (Nat.le_of_ble_eq_true rfl) m_fl_X3_12 dX3_fly_1 0 (Nat.le_of_ble_eq_true rfl) rfl rfl ?_
  refine v_iload_n X dX3_fly_4 (i := 1) rfl rfl ?_
  refine v_cvB X rfl yv_X5_isOnLeft m_ml_X3_110 1 1 (c_X5_isOnLeft l g N (o + 1) (nI k) k rfl σ hk) hB (Nat.le_of_ble_eq_true rfl) rfl (Nat.le_of_ble_eq_true rfl) rfl (L' := (geL g o σ)) (rfl) rfl (Nat.le_of_ble_eq_true rfl) rfl rfl (Nat.le_of_ble_eq_true rfl) ⟨Nat.le_of_ble_eq_true rfl, Nat.le_of_ble_eq_true rfl⟩ ⟨Nat.le_of_ble_eq_true rfl, Nat.le_of_ble_eq_true rfl⟩ dX3_fly_5 rfl ?_
  refine v_if_eqB X dX3_fly_8 (tgt := 15) (by decide) (fun c8 => ?_) (fun c8 => ?_)
  · skip
    refine v_iconst X dX3_fly_15 (v := (0 : Int32)) (by decide) ?_
    refine v_istore_n X dX3_fly_16 (i := 3) rfl (Nat.le_of_ble_eq_true rfl) rfl ?_
    refine v_aload_n X dX3_fly_17 (i := 0) rfl rfl ?_
    refine v_getB X hB cf3 0 (Nat.le_of_ble_eq_true rfl) m_fl_X3_12 dX3_fly_18 0 (Nat.le_of_ble_eq_true rfl) rfl rfl ?_
    refine v_iload_n X dX3_fly_21 (i := 1) rfl rfl ?_
    refine v_iload_n X dX3_fly_22 (i := 3) rfl rfl ?_
    refine v_aload_n X dX3_fly_23 (i := 0) rfl rfl ?_
    refine v_getB X hB cf3 3 (Nat.le_of_ble_eq_true rfl) m_fl_X3_32 dX3_fly_24 0 (Nat.le_of_ble_eq_true rfl) rfl rfl ?_
    refine v_iload_n X dX3_fly_27 (i := 3) rfl rfl ?_
    refine v_iald_vw (b := 3) (s' := 1) X hB dX3_fly_28 13 (Nat.le_of_ble_eq_true rfl) rfl 0 rfl (by omega) (Nat.le_of_ble_eq_true rfl) ?_
    refine v_cvB X rfl yv_X5_place m_ml_X3_113 1 1 (c_X5_place l g N (o + 1) (nI k) k rfl σ (0 : Int32) (σ (3 + 1 * 0)) hk) hB (Nat.le_of_ble_eq_true rfl) rfl (Nat.le_of_ble_eq_true rfl) rfl (L' := (geL g o (upd (upd σ (14 + 4 * k) (0 : Int32)) (15 + 4 * k) (σ (3 + 1 * 0))))) (geL_sh (fun i hi => by rw [pk_un (by omega), pk_un (by omega)] <;> rfl)) rfl (Nat.le_of_ble_eq_true rfl) rfl rfl (Nat.le_of_ble_eq_true rfl) ⟨Nat.le_of_ble_eq_true rfl, Nat.le_of_ble_eq_true rfl⟩ ⟨Nat.le_of_ble_eq_true rfl, Nat.le_of_ble_eq_true rfl⟩ dX3_fly_29 rfl ?_
    refine v_aload_n X dX3_fly_32 (i := 0) rfl rfl ?_
    refine v_getB X hB cf3 0 (Nat.le_of_ble_eq_true rfl) m_fl_X3_12 dX3_fly_33 0 (Nat.le_of_ble_eq_true rfl) rfl rfl ?_
    refine v_iload_n X dX3_fly_36 (i := 1) rfl rfl ?_
    refine v_iload_n X dX3_fly_37 (i := 2) rfl rfl ?_
    refine v_cvB X rfl yv_X5_addYarn m_ml_X3_116 1 1 (c_X5_addYarn l g N (o + 1) (nI k) k rfl (upd (upd σ (14 + 4 * k) (0 : Int32)) (15 + 4 * k) (σ (3 + 1 * 0))) m hk) hB (Nat.le_of_ble_eq_true rfl) rfl (Nat.le_of_ble_eq_true rfl) rfl (L' := (geL g o (upd (upd (upd σ (14 + 4 * k) (0 : Int32)) (15 + 4 * k) (σ (3 + 1 * 0))) (13 + 4 * k) ((upd (upd σ (14 + 4 * k) (0 : Int32)) (15 + 4 * k) (σ (3 + 1 * 0))) (13 + 4 * k) + m)))) (geL_sh (fun i hi => pk_un (by omega))) rfl (Nat.le_of_ble_eq_true rfl) rfl rfl (Nat.le_of_ble_eq_true rfl) ⟨Nat.le_of_ble_eq_true rfl, Nat.le_of_ble_eq_true rfl⟩ ⟨Nat.le_of_ble_eq_true rfl, Nat.le_of_ble_eq_true rfl⟩ dX3_fly_38 rfl ?_
    exact v_vret X rfl dX3_fly_41 (rfl) (by rw [flS, if_neg c8]; rw [pk_un (f := upd σ (14 + 4 * k) _) (by omega), pk_un (f := σ) (by omega)])
  · skip
    refine v_iconst X dX3_fly_11 (v := (1 : Int32)) (by decide) ?_
    refine v_goto X dX3_fly_12 (tgt := 16) (by decide) ?_
    refine v_istore_n X dX3_fly_16 (i := 3) rfl (Nat.le_of_ble_eq_true rfl) rfl ?_
    refine v_aload_n X dX3_fly_17 (i := 0) rfl rfl ?_
    refine v_getB X hB cf3 0 (Nat.le_of_ble_eq_true rfl) m_fl_X3_12 dX3_fly_18 0 (Nat.le_of_ble_eq_true rfl) rfl rfl ?_
    refine v_iload_n X dX3_fly_21 (i := 1) rfl rfl ?_
    refine v_iload_n X dX3_fly_22 (i := 3) rfl rfl ?_
    refine v_aload_n X dX3_fly_23 (i := 0) rfl rfl ?_
    refine v_getB X hB cf3 3 (Nat.le_of_ble_eq_true rfl) m_fl_X3_32 dX3_fly_24 0 (Nat.le_of_ble_eq_true rfl) rfl rfl ?_
    refine v_iload_n X dX3_fly_27 (i := 3) rfl rfl ?_
    refine v_iald_vw (b := 3) (s' := 1) X hB dX3_fly_28 13 (Nat.le_of_ble_eq_true rfl) rfl 1 rfl (by omega) (Nat.le_of_ble_eq_true rfl) ?_
    refine v_cvB X rfl yv_X5_place m_ml_X3_113 1 1 (c_X5_place l g N (o + 1) (nI k) k rfl σ (1 : Int32) (σ (3 + 1 * 1)) hk) hB (Nat.le_of_ble_eq_true rfl) rfl (Nat.le_of_ble_eq_true rfl) rfl (L' := (geL g o (upd (upd σ (14 + 4 * k) (1 : Int32)) (15 + 4 * k) (σ (3 + 1 * 1))))) (geL_sh (fun i hi => by rw [pk_un (by omega), pk_un (by omega)] <;> rfl)) rfl (Nat.le_of_ble_eq_true rfl) rfl rfl (Nat.le_of_ble_eq_true rfl) ⟨Nat.le_of_ble_eq_true rfl, Nat.le_of_ble_eq_true rfl⟩ ⟨Nat.le_of_ble_eq_true rfl, Nat.le_of_ble_eq_true rfl⟩ dX3_fly_29 rfl ?_
    refine v_aload_n X dX3_fly_32 (i := 0) rfl rfl ?_
    refine v_getB X hB cf3 0 (Nat.le_of_ble_eq_true rfl) m_fl_X3_12 dX3_fly_33 0 (Nat.le_of_ble_eq_true rfl) rfl rfl ?_
    refine v_iload_n X dX3_fly_36 (i := 1) rfl rfl ?_
    refine v_iload_n X dX3_fly_37 (i := 2) rfl rfl ?_
    refine v_cvB X rfl yv_X5_addYarn m_ml_X3_116 1 1 (c_X5_addYarn l g N (o + 1) (nI k) k rfl (upd (upd σ (14 + 4 * k) (1 : Int32)) (15 + 4 * k) (σ (3 + 1 * 1))) m hk) hB (Nat.le_of_ble_eq_true rfl) rfl (Nat.le_of_ble_eq_true rfl) rfl (L' := (geL g o (upd (upd (upd σ (14 + 4 * k) (1 : Int32)) (15 + 4 * k) (σ (3 + 1 * 1))) (13 + 4 * k) ((upd (upd σ (14 + 4 * k) (1 : Int32)) (15 + 4 * k) (σ (3 + 1 * 1))) (13 + 4 * k) + m)))) (geL_sh (fun i hi => pk_un (by omega))) rfl (Nat.le_of_ble_eq_true rfl) rfl rfl (Nat.le_of_ble_eq_true rfl) ⟨Nat.le_of_ble_eq_true rfl, Nat.le_of_ble_eq_true rfl⟩ ⟨Nat.le_of_ble_eq_true rfl, Nat.le_of_ble_eq_true rfl⟩ dX3_fly_38 rfl ?_
    exact v_vret X rfl dX3_fly_41 (rfl) (by rw [flS, if_pos c8]; rw [pk_un (f := upd σ (14 + 4 * k) _) (by omega), pk_un (f := σ) (by omega)])
set_option maxRecDepth 100000 in
set_option maxHeartbeats 4000000 in
theorem c_X3_makePick (l : Launch) (g : Ge) (N o : Nat) (σ : Nat → Int32) (C P : Nat) (hC : σ 0 = nI C) (hP : σ 1 = nI P) (hPC : P < C) (hC16 : C ≤ 16) (k : Nat) (hk : k < 5) (hfl : flyN σ P = nI k) : Cb l g yX3_makePick (.code yX3_makePick cX3_makePick 2 none) 4 [.ref o] N o (geL g o σ) none (geL g o (mvS σ C P k)) := by
  intro f hB0
  have hB : BB g N o 14 := hB0
  refine ct_of (own := RX3) [some (.ref o), none] (by decide +kernel) rfl rfl (Nat.le_of_ble_eq_true rfl) ?_
  intro vp ve vs vm va vb vt vc hnm X
  refine v_aload_n X dX3_makePick_0 (i := 0) rfl rfl ?_
  refine v_cvB X rfl yv_X3_flyingShuttle m_ml_X3_83 0 0 (c_X3_flyingShuttle l g N o σ _ _ hC hP hPC hC16) hB (Nat.le_of_ble_eq_true rfl) rfl (Nat.le_of_ble_eq_true rfl) rfl (L' := (geL g o σ)) (rfl) rfl (Nat.le_of_ble_eq_true rfl) rfl rfl (Nat.le_of_ble_eq_true rfl) ⟨Nat.le_of_ble_eq_true rfl, Nat.le_of_ble_eq_true rfl⟩ ⟨Nat.le_of_ble_eq_true rfl, Nat.le_of_ble_eq_true rfl⟩ dX3_makePick_1 rfl ?_
  refine v_istore_n X dX3_makePick_4 (i := 1) rfl (Nat.le_of_ble_eq_true rfl) rfl ?_
  refine v_aload_n X dX3_makePick_5 (i := 0) rfl rfl ?_
  refine v_aload_n X dX3_makePick_6 (i := 0) rfl rfl ?_
  refine v_getB X hB cf3 2 (Nat.le_of_ble_eq_true rfl) m_fl_X3_28 dX3_makePick_7 0 (Nat.le_of_ble_eq_true rfl) rfl rfl ?_
  refine v_aload_n X dX3_makePick_10 (i := 0) rfl rfl ?_
  refine v_getB X hB cf3 2 (Nat.le_of_ble_eq_true rfl) m_fl_X3_28 dX3_makePick_11 0 (Nat.le_of_ble_eq_true rfl) rfl rfl ?_
  refine v_getB X hB cf1 4 (Nat.le_of_ble_eq_true rfl) m_fl_X3_59 dX3_makePick_14 9 (Nat.le_of_ble_eq_true rfl) rfl rfl ?_
  refine v_iconst X dX3_makePick_17 (v := (0 : Int32)) (by decide) ?_
  refine v_cvB X rfl yv_X1_boxOf m_ml_X3_89 9 9 (c_X1_boxOf l g N (o + 9) (σ 1) P hP σ _ hC hPC hC16 _) hB (Nat.le_of_ble_eq_true rfl) rfl (Nat.le_of_ble_eq_true rfl) rfl (L' := (geL g o σ)) (rfl) rfl (Nat.le_of_ble_eq_true rfl) rfl rfl (Nat.le_of_ble_eq_true rfl) ⟨Nat.le_of_ble_eq_true rfl, Nat.le_of_ble_eq_true rfl⟩ ⟨Nat.le_of_ble_eq_true rfl, Nat.le_of_ble_eq_true rfl⟩ dX3_makePick_18 rfl ?_
  refine v_aload_n X dX3_makePick_21 (i := 0) rfl rfl ?_
  refine v_getB X hB cf3 2 (Nat.le_of_ble_eq_true rfl) m_fl_X3_28 dX3_makePick_22 0 (Nat.le_of_ble_eq_true rfl) rfl rfl ?_
  refine v_aload_n X dX3_makePick_25 (i := 0) rfl rfl ?_
  refine v_getB X hB cf3 2 (Nat.le_of_ble_eq_true rfl) m_fl_X3_28 dX3_makePick_26 0 (Nat.le_of_ble_eq_true rfl) rfl rfl ?_
  refine v_getB X hB cf1 4 (Nat.le_of_ble_eq_true rfl) m_fl_X3_59 dX3_makePick_29 9 (Nat.le_of_ble_eq_true rfl) rfl rfl ?_
  refine v_iconst X dX3_makePick_32 (v := (1 : Int32)) (by decide) ?_
  refine v_cvB X rfl yv_X1_boxOf m_ml_X3_89 9 9 (c_X1_boxOf l g N (o + 9) (σ 1) P hP σ _ hC hPC hC16 _) hB (Nat.le_of_ble_eq_true rfl) rfl (Nat.le_of_ble_eq_true rfl) rfl (L' := (geL g o σ)) (rfl) rfl (Nat.le_of_ble_eq_true rfl) rfl rfl (Nat.le_of_ble_eq_true rfl) ⟨Nat.le_of_ble_eq_true rfl, Nat.le_of_ble_eq_true rfl⟩ ⟨Nat.le_of_ble_eq_true rfl, Nat.le_of_ble_eq_true rfl⟩ dX3_makePick_33 rfl ?_
  refine v_cvB X rfl yv_X3_moveRaces m_ml_X3_93 0 0 (c_X3_moveRaces l g N o σ (bxS σ P (0 : Int32)) (bxS σ P (1 : Int32)) ) hB (Nat.le_of_ble_eq_true rfl) rfl (Nat.le_of_ble_eq_true rfl) rfl (L' := (geL g o (upd (upd σ 3 (bxS σ P (0 : Int32))) 4 (bxS σ P (1 : Int32))))) (rfl) rfl (Nat.le_of_ble_eq_true rfl) rfl rfl (Nat.le_of_ble_eq_true rfl) ⟨Nat.le_of_ble_eq_true rfl, Nat.le_of_ble_eq_true rfl⟩ ⟨Nat.le_of_ble_eq_true rfl, Nat.le_of_ble_eq_true rfl⟩ dX3_makePick_36 rfl ?_
  refine v_aload_n X dX3_makePick_39 (i := 0) rfl rfl ?_
  refine v_getB X hB cf3 1 (Nat.le_of_ble_eq_true rfl) m_fl_X3_21 dX3_makePick_40 0 (Nat.le_of_ble_eq_true rfl) rfl rfl ?_
  refine v_aload_n X dX3_makePick_43 (i := 0) rfl rfl ?_
  refine v_getB X hB cf3 5 (Nat.le_of_ble_eq_true rfl) m_fl_X3_40 dX3_makePick_44 0 (Nat.le_of_ble_eq_true rfl) rfl rfl ?_
  refine v_aload_n X dX3_makePick_47 (i := 0) rfl rfl ?_
  refine v_cvB X rfl yv_X3_frames m_ml_X3_97 0 0 (c_X3_frames l g N o (mvS1 σ P) C P ((mvS1_o (by omega)).trans hC) ((mvS1_o (by omega)).trans hP) hPC hC16) hB (Nat.le_of_ble_eq_true rfl) rfl (Nat.le_of_ble_eq_true rfl) rfl (L' := (geL g o (mvS1 σ P))) (rfl) rfl (Nat.le_of_ble_eq_true rfl) rfl rfl (Nat.le_of_ble_eq_true rfl) ⟨Nat.le_of_ble_eq_true rfl, Nat.le_of_ble_eq_true rfl⟩ ⟨Nat.le_of_ble_eq_true rfl, Nat.le_of_ble_eq_true rfl⟩ dX3_makePick_48 rfl ?_
  refine v_ixor X dX3_makePick_51 ?_
  refine v_cvB X rfl yv_X6_wearOut m_ml_X3_100 6 6 (c_X6_wearOut l g N (o + 6) (mvS1 σ P) (((mvS1 σ P) 5) ^^^ ((mvS1 σ P) (56 + 3 * P))) ) hB (Nat.le_of_ble_eq_true rfl) rfl (Nat.le_of_ble_eq_true rfl) rfl (L' := (geL g o (wrK (mvS1 σ P) (((mvS1 σ P) 5) ^^^ ((mvS1 σ P) (56 + 3 * P))) 12))) (geL_th (fun i hi => wrK_out hi)) rfl (Nat.le_of_ble_eq_true rfl) rfl rfl (Nat.le_of_ble_eq_true rfl) ⟨Nat.le_of_ble_eq_true rfl, Nat.le_of_ble_eq_true rfl⟩ ⟨Nat.le_of_ble_eq_true rfl, Nat.le_of_ble_eq_true rfl⟩ dX3_makePick_52 rfl ?_
  refine v_aload_n X dX3_makePick_55 (i := 0) rfl rfl ?_
  refine v_aload_n X dX3_makePick_56 (i := 0) rfl rfl ?_
  refine v_cvB X rfl yv_X3_frames m_ml_X3_97 0 0 (c_X3_frames l g N o (mvS2 σ P) C P ((mvS2_o (by omega) (by omega)).trans hC) ((mvS2_o (by omega) (by omega)).trans hP) hPC hC16) hB (Nat.le_of_ble_eq_true rfl) rfl (Nat.le_of_ble_eq_true rfl) rfl (L' := (geL g o (mvS2 σ P))) (rfl) rfl (Nat.le_of_ble_eq_true rfl) rfl rfl (Nat.le_of_ble_eq_true rfl) ⟨Nat.le_of_ble_eq_true rfl, Nat.le_of_ble_eq_true rfl⟩ ⟨Nat.le_of_ble_eq_true rfl, Nat.le_of_ble_eq_true rfl⟩ dX3_makePick_57 rfl ?_
  refine v_putB X hB cf3 5 (Nat.le_of_ble_eq_true rfl) rfl m_fl_X3_40 dX3_makePick_60 0 (Nat.le_of_ble_eq_true rfl) rfl rfl rfl (Nat.le_of_ble_eq_true rfl) (L' := (geL g o (upd (mvS2 σ P) 5 ((mvS2 σ P) (56 + 3 * P))))) w_ge_0_lifted ?_
  refine v_aload_n X dX3_makePick_63 (i := 0) rfl rfl ?_
  refine v_iload_n X dX3_makePick_64 (i := 1) rfl rfl ?_
  refine v_iconst X dX3_makePick_65 (v := (-1 : Int32)) (by decide) ?_
  refine v_cvB X rfl yv_X3_fly m_ml_X3_104 0 0 (c_X3_fly l g N o (flyN σ P) k hfl (mvS3 σ P) (-1 : Int32) hk) hB (Nat.le_of_ble_eq_true rfl) rfl (Nat.le_of_ble_eq_true rfl) rfl (L' := (geL g o (flS (mvS3 σ P) k (-1 : Int32)))) (rfl) rfl (Nat.le_of_ble_eq_true rfl) rfl rfl (Nat.le_of_ble_eq_true rfl) ⟨Nat.le_of_ble_eq_true rfl, Nat.le_of_ble_eq_true rfl⟩ ⟨Nat.le_of_ble_eq_true rfl, Nat.le_of_ble_eq_true rfl⟩ dX3_makePick_66 rfl ?_
  refine v_aload_n X dX3_makePick_69 (i := 0) rfl rfl ?_
  refine v_getB X hB cf3 2 (Nat.le_of_ble_eq_true rfl) m_fl_X3_28 dX3_makePick_70 0 (Nat.le_of_ble_eq_true rfl) rfl rfl ?_
  refine v_cvB X rfl yv_X1_goOn m_ml_X3_107 9 9 (c_X1_goOn l g N (o + 9) (mvS4 σ P k) P C ((mvS4_o hk (by omega) (by omega)).trans hC) ((mvS4_o hk (by omega) (by omega)).trans hP) hPC hC16) hB (Nat.le_of_ble_eq_true rfl) rfl (Nat.le_of_ble_eq_true rfl) rfl (L' := (geL g o (upd (mvS4 σ P k) 1 (nI (goP P C))))) (geL_ch (fun i hi => pk_un (by omega))) rfl (Nat.le_of_ble_eq_true rfl) rfl rfl (Nat.le_of_ble_eq_true rfl) ⟨Nat.le_of_ble_eq_true rfl, Nat.le_of_ble_eq_true rfl⟩ ⟨Nat.le_of_ble_eq_true rfl, Nat.le_of_ble_eq_true rfl⟩ dX3_makePick_73 rfl ?_
  exact v_vret X rfl dX3_makePick_76 (rfl) (rfl)
set_option maxRecDepth 100000 in
set_option maxHeartbeats 4000000 in
theorem c_X3_copyFrom (l : Launch) (g : Ge) (N o o2 : Nat) (σ σ2 : Nat → Int32) : Cb2 l g yX3_copyFrom (.code yX3_copyFrom cX3_copyFrom 2 none) 2 [.ref o, .ref o2] N o (geL g o σ) o2 (geL g o2 σ2) none (geL g o σ2) := by
  intro f hB0 hO0
  have hB : BB g N o 14 := hB0
  have hO : OB g N f o 14 o2 14 (geL g o2 σ2) := hO0
  refine ct_of (own := RX3) [some (.ref o), some (.ref o2)] (by decide +kernel) rfl rfl (Nat.le_of_ble_eq_true rfl) ?_
  intro vp ve vs vm va vb vt vc hnm X
  refine v_aload_n X dX3_copyFrom_0 (i := 0) rfl rfl ?_
  refine v_getB X hB cf3 0 (Nat.le_of_ble_eq_true rfl) m_fl_X3_12 dX3_copyFrom_1 0 (Nat.le_of_ble_eq_true rfl) rfl rfl ?_
  refine v_aload_n X dX3_copyFrom_4 (i := 1) rfl rfl ?_
  refine v_getO X hO rfl cf3 0 (Nat.le_of_ble_eq_true rfl) m_fl_X3_12 dX3_copyFrom_5 0 rfl rfl ?_
  refine v_cvB2 X rfl yv_X5_copyFrom m_ml_X3_43 1 1 (c_X5_copyFrom l g N (o + 1) (o2 + 1) σ σ2 ) hB (hO.sub rfl (Nat.le_of_ble_eq_true rfl) (j2 := 1) (Nat.le_of_ble_eq_true rfl) rfl) (Nat.le_of_ble_eq_true rfl) rfl (Nat.le_of_ble_eq_true rfl) rfl (L' := _) (rfl) rfl (Nat.le_of_ble_eq_true rfl) rfl rfl (Nat.le_of_ble_eq_true rfl) ⟨Nat.le_of_ble_eq_true rfl, Nat.le_of_ble_eq_true rfl⟩ ⟨Nat.le_of_ble_eq_true rfl, Nat.le_of_ble_eq_true rfl⟩ dX3_copyFrom_8 rfl ?_
  refine v_aload_n X dX3_copyFrom_11 (i := 0) rfl rfl ?_
  refine v_getB X hB cf3 1 (Nat.le_of_ble_eq_true rfl) m_fl_X3_21 dX3_copyFrom_12 0 (Nat.le_of_ble_eq_true rfl) rfl rfl ?_
  refine v_aload_n X dX3_copyFrom_15 (i := 1) rfl rfl ?_
  refine v_getO X hO rfl cf3 1 (Nat.le_of_ble_eq_true rfl) m_fl_X3_21 dX3_copyFrom_16 0 rfl rfl ?_
  refine v_cvB2 X rfl yv_X6_copyFrom m_ml_X3_47 6 6 (c_X6_copyFrom l g N (o + 6) (o2 + 6) σ σ2 ) hB (hO.sub rfl (Nat.le_of_ble_eq_true rfl) (j2 := 6) (Nat.le_of_ble_eq_true rfl) rfl) (Nat.le_of_ble_eq_true rfl) rfl (Nat.le_of_ble_eq_true rfl) rfl (L' := _) (rfl) rfl (Nat.le_of_ble_eq_true rfl) rfl rfl (Nat.le_of_ble_eq_true rfl) ⟨Nat.le_of_ble_eq_true rfl, Nat.le_of_ble_eq_true rfl⟩ ⟨Nat.le_of_ble_eq_true rfl, Nat.le_of_ble_eq_true rfl⟩ dX3_copyFrom_19 rfl ?_
  refine v_aload_n X dX3_copyFrom_22 (i := 0) rfl rfl ?_
  refine v_getB X hB cf3 2 (Nat.le_of_ble_eq_true rfl) m_fl_X3_28 dX3_copyFrom_23 0 (Nat.le_of_ble_eq_true rfl) rfl rfl ?_
  refine v_aload_n X dX3_copyFrom_26 (i := 1) rfl rfl ?_
  refine v_getO X hO rfl cf3 2 (Nat.le_of_ble_eq_true rfl) m_fl_X3_28 dX3_copyFrom_27 0 rfl rfl ?_
  refine v_cvB2 X rfl yv_X1_copyFrom m_ml_X3_50 9 9 (c_X1_copyFrom l g N (o + 9) (o2 + 9) σ σ2 ) hB (hO.sub rfl (Nat.le_of_ble_eq_true rfl) (j2 := 9) (Nat.le_of_ble_eq_true rfl) rfl) (Nat.le_of_ble_eq_true rfl) rfl (Nat.le_of_ble_eq_true rfl) rfl (L' := _) (rfl) rfl (Nat.le_of_ble_eq_true rfl) rfl rfl (Nat.le_of_ble_eq_true rfl) ⟨Nat.le_of_ble_eq_true rfl, Nat.le_of_ble_eq_true rfl⟩ ⟨Nat.le_of_ble_eq_true rfl, Nat.le_of_ble_eq_true rfl⟩ dX3_copyFrom_30 rfl ?_
  refine v_aload_n X dX3_copyFrom_33 (i := 1) rfl rfl ?_
  refine v_getO X hO rfl cf3 3 (Nat.le_of_ble_eq_true rfl) m_fl_X3_32 dX3_copyFrom_34 0 rfl rfl ?_
  refine v_iconst X dX3_copyFrom_37 (v := (0 : Int32)) (by decide) ?_
  refine v_aload_n X dX3_copyFrom_38 (i := 0) rfl rfl ?_
  refine v_getB X hB cf3 3 (Nat.le_of_ble_eq_true rfl) m_fl_X3_32 dX3_copyFrom_39 0 (Nat.le_of_ble_eq_true rfl) rfl rfl ?_
  refine v_iconst X dX3_copyFrom_42 (v := (0 : Int32)) (by decide) ?_
  refine v_iconst X dX3_copyFrom_43 (v := (2 : Int32)) (by decide) ?_
  refine v_copyW (n := 2) (b := 3) (s' := 1) X hO rfl hB m_ml_X3_53 rfl rfl rfl (Nat.le_of_ble_eq_true rfl) 13 rfl 13 (Nat.le_of_ble_eq_true rfl) rfl (L' := _) (rfl) (Nat.le_of_ble_eq_true rfl) ⟨Nat.le_of_ble_eq_true rfl, Nat.le_of_ble_eq_true rfl⟩ dX3_copyFrom_44 ?_
  refine v_aload_n X dX3_copyFrom_47 (i := 0) rfl rfl ?_
  refine v_aload_n X dX3_copyFrom_48 (i := 1) rfl rfl ?_
  refine v_getO X hO rfl cf3 4 (Nat.le_of_ble_eq_true rfl) m_fl_X3_36 dX3_copyFrom_49 0 rfl rfl ?_
  refine v_putB X hB cf3 4 (Nat.le_of_ble_eq_true rfl) rfl m_fl_X3_36 dX3_copyFrom_52 0 (Nat.le_of_ble_eq_true rfl) rfl rfl rfl (Nat.le_of_ble_eq_true rfl) rfl ?_
  refine v_aload_n X dX3_copyFrom_55 (i := 0) rfl rfl ?_
  refine v_aload_n X dX3_copyFrom_56 (i := 1) rfl rfl ?_
  refine v_getO X hO rfl cf3 5 (Nat.le_of_ble_eq_true rfl) m_fl_X3_40 dX3_copyFrom_57 0 rfl rfl ?_
  refine v_putB X hB cf3 5 (Nat.le_of_ble_eq_true rfl) rfl m_fl_X3_40 dX3_copyFrom_60 0 (Nat.le_of_ble_eq_true rfl) rfl rfl rfl (Nat.le_of_ble_eq_true rfl) rfl ?_
  exact v_vret X rfl dX3_copyFrom_63 (rfl) (rfl)
