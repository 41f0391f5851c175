/-! the threads and the chain -/
def fbF (σ : Nat → Int32) : Nat → Nat → Int32
  | 0, _ => -6
  | n + 1, k => if σ (33 + 2 * k) = 0 then nI k else fbF σ n (k + 1)
theorem fbF_hit {σ : Nat → Int32} {k : Nat} (hk : k < 12) (h1 : σ (33 + 2 * k) = 0) : fbF σ (12 - k) k = nI k := by
  obtain ⟨n, hn⟩ : ∃ n, 12 - k = n + 1 := ⟨12 - k - 1, by omega⟩
  rw [hn, fbF, if_pos h1]
theorem fbF_miss {σ : Nat → Int32} {k : Nat} (hk : k < 12) (h : ¬ σ (33 + 2 * k) = 0) : fbF σ (12 - k) k = fbF σ (12 - (k + 1)) (k + 1) := by
  obtain ⟨n, hn⟩ : ∃ n, 12 - k = n + 1 := ⟨12 - k - 1, by omega⟩
  rw [hn, fbF, if_neg h]
  congr 1; omega
def thS (σ : Nat → Int32) (fr : Int32) : Nat → Int32
  | 0 => 0
  | k + 1 => if (fr >>> (σ (32 + 2 * k) &&& 31)) &&& 1 = 1 then thS σ fr k ||| ((1 : Int32) <<< (nI k &&& 31)) else thS σ fr k
def wrK (σ : Nat → Int32) (mv : Int32) (k : Nat) : Nat → Int32 := fun i => if (33 ≤ i ∧ i < 32 + 2 * k ∧ i % 2 = 1) ∧ (mv >>> (σ (i - 1) &&& 31)) &&& 1 = 1 then σ i - 1 else σ i
theorem wrK_0 {σ : Nat → Int32} {mv : Int32} : wrK σ mv 0 = σ := by
  funext i
  have : ¬ ((33 ≤ i ∧ i < 32 + 2 * 0 ∧ i % 2 = 1) ∧ (mv >>> (σ (i - 1) &&& 31)) &&& 1 = 1) := fun h => by omega
  rw [wrK, if_neg this]
theorem wrK_ev {σ : Nat → Int32} {mv : Int32} {k j : Nat} : wrK σ mv k (32 + 2 * j) = σ (32 + 2 * j) := by
  have : ¬ ((33 ≤ 32 + 2 * j ∧ 32 + 2 * j < 32 + 2 * k ∧ (32 + 2 * j) % 2 = 1) ∧ (mv >>> (σ (32 + 2 * j - 1) &&& 31)) &&& 1 = 1) := fun h => by omega
  rw [wrK, if_neg this]
theorem wrK_od {σ : Nat → Int32} {mv : Int32} {k : Nat} : wrK σ mv k (33 + 2 * k) = σ (33 + 2 * k) := by
  have : ¬ ((33 ≤ 33 + 2 * k ∧ 33 + 2 * k < 32 + 2 * k ∧ (33 + 2 * k) % 2 = 1) ∧ (mv >>> (σ (33 + 2 * k - 1) &&& 31)) &&& 1 = 1) := fun h => by omega
  rw [wrK, if_neg this]
theorem wrK_hit {σ : Nat → Int32} {mv : Int32} {k : Nat} (h : (mv >>> (wrK σ mv k (32 + 2 * k) &&& 31)) &&& 1 = 1) : upd (wrK σ mv k) (33 + 2 * k) (wrK σ mv k (33 + 2 * k) - 1) = wrK σ mv (k + 1) := by
  rw [wrK_ev] at h
  funext i
  by_cases e : i = 33 + 2 * k
  · subst e
    rw [pk_us, wrK_od, wrK, if_pos ⟨⟨by omega, by omega, by omega⟩, by rw [show 33 + 2 * k - 1 = 32 + 2 * k by omega]; exact h⟩]
  · rw [pk_un e, wrK, wrK]
    have e2 : (33 ≤ i ∧ i < 32 + 2 * k ∧ i % 2 = 1) ↔ (33 ≤ i ∧ i < 32 + 2 * (k + 1) ∧ i % 2 = 1) := by omega
    simp only [e2]
theorem wrK_miss {σ : Nat → Int32} {mv : Int32} {k : Nat} (h : ¬ (mv >>> (wrK σ mv k (32 + 2 * k) &&& 31)) &&& 1 = 1) : wrK σ mv k = wrK σ mv (k + 1) := by
  rw [wrK_ev] at h
  funext i
  by_cases e : i = 33 + 2 * k
  · subst e
    rw [wrK_od, wrK, if_neg]
    rw [show 33 + 2 * k - 1 = 32 + 2 * k by omega]
    exact fun q => h q.2
  · rw [wrK, wrK]
    have e2 : (33 ≤ i ∧ i < 32 + 2 * k ∧ i % 2 = 1) ↔ (33 ≤ i ∧ i < 32 + 2 * (k + 1) ∧ i % 2 = 1) := by omega
    simp only [e2]
theorem wrK_out {σ : Nat → Int32} {mv : Int32} {i : Nat} (h : ¬ (32 ≤ i ∧ i < 56)) : wrK σ mv 12 i = σ i := by
  rw [wrK, if_neg]
  intro q; omega
def shK (σ : Nat → Int32) (k j : Nat) : Nat → Int32 := fun i => if 56 + 3 * k ≤ i ∧ i < 56 + 3 * j then σ (i + 3) else σ i
theorem shK_0 {σ : Nat → Int32} {k : Nat} : shK σ k k = σ := by
  funext i
  rw [shK, if_neg (by omega)]
theorem shK_lo {σ : Nat → Int32} {k j i : Nat} (h : i < 56) : shK σ k j i = σ i := by rw [shK, if_neg (by omega)]
theorem shK_hi {σ : Nat → Int32} {k j i : Nat} (h : 56 + 3 * j ≤ i) : shK σ k j i = σ i := by rw [shK, if_neg (by omega)]
def bxS (σ : Nat → Int32) (P : Nat) (sd : Int32) : Int32 := if sd = 0 then σ (57 + 3 * P) else σ (58 + 3 * P)
def rmP (k P C : Nat) : Nat := if C - 1 ≤ (if k < P then P - 1 else P) then 0 else (if k < P then P - 1 else P)
def rmS (σ : Nat → Int32) (k P C : Nat) : Nat → Int32 := upd (upd (shK σ k (C - 1)) 0 (nI (C - 1))) 1 (nI (rmP k P C))
def apS (σ : Nat → Int32) (C : Nat) (fr a b : Int32) : Nat → Int32 := upd (upd (upd (upd σ (56 + 3 * C) fr) (57 + 3 * C) a) (58 + 3 * C) b) 0 (nI (C + 1))
theorem shK_st {σ : Nat → Int32} {k j : Nat} (h : k ≤ j) : upd (upd (upd (shK σ k j) (56 + 3 * j) (σ (56 + 3 * (j + 1)))) (57 + 3 * j) (σ (57 + 3 * (j + 1)))) (58 + 3 * j) (σ (58 + 3 * (j + 1))) = shK σ k (j + 1) := by
  funext i
  by_cases e1 : i = 58 + 3 * j
  · subst e1; rw [pk_us, shK, if_pos (by omega)]; congr 1
  · rw [pk_un e1]
    by_cases e2 : i = 57 + 3 * j
    · subst e2; rw [pk_us, shK, if_pos (by omega)]; congr 1
    · rw [pk_un e2]
      by_cases e3 : i = 56 + 3 * j
      · subst e3; rw [pk_us, shK, if_pos (by omega)]; congr 1
      · rw [pk_un e3, shK, shK]
        have : (56 + 3 * k ≤ i ∧ i < 56 + 3 * j) ↔ (56 + 3 * k ≤ i ∧ i < 56 + 3 * (j + 1)) := by omega
        simp only [this]
set_option maxRecDepth 100000 in
set_option maxHeartbeats 4000000 in
theorem c_X6_firstBroken (l : Launch) (g : Ge) (N o : Nat) (σ : Nat → Int32) : Cb l g yX6_firstBroken (.code yX6_firstBroken cX6_firstBroken 2 (some .int)) 0 [.ref o] N o (thL g o σ) (some (.int (fbF σ 12 0))) (thL g o σ) := by
  intro f hB0
  have hB : BB g N o 3 := hB0
  refine ct_of (own := RX6) [some (.ref o), none] (by decide +kernel) rfl rfl (Nat.le_of_ble_eq_true rfl) ?_
  intro vp ve vs vm va vb vt vc hnm X
  refine v_iconst X dX6_firstBroken_0 (v := (0 : Int32)) (by decide) ?_
  refine v_istore_n X dX6_firstBroken_1 (i := 1) rfl (Nat.le_of_ble_eq_true rfl) rfl ?_
  have LP2 : ∀ (n_ : Nat) (k : Nat), (k ≤ 12) → (fbF σ 12 0 = fbF σ (12 - k) k) → 12 - k < n_ → Vm vp l ve vs vm va vb vt vc g 0 2 N (some (.int (fbF σ 12 0))) (ovr f o (thL g o σ)) (ovr f o (thL g o σ)) 2 [some (.ref o), some (.int (nI k))] [] := by
    intro n_
    induction n_ with
    | zero => intro k hk hr hm_; exact absurd hm_ (Nat.not_lt_zero _)
    | succ n_ ih2 =>
      intro k hk hr hm2
      refine v_iload_n X dX6_firstBroken_2 (i := 1) rfl rfl ?_
      refine v_bipush X dX6_firstBroken_3 (v := (12 : Int32)) (by decide) ?_
      refine v_icmp_ge X dX6_firstBroken_5 (tgt := 25) (by decide) (fun c5 => ?_) (fun c5 => ?_)
      · skip
        have hk5 : k = 12 := Nat.le_antisymm hk (le_of_nI (a := 12) (by omega) (by omega) c5)
        refine v_bipush X dX6_firstBroken_25 (v := (-6 : Int32)) (by decide) ?_
        exact v_iret X rfl dX6_firstBroken_27 (by rw [hr, hk5]; rfl) (rfl)
      · skip
        have hk5 : k < 12 := lt_of_nI (b := 12) (by omega) (by omega) c5
        refine v_aload_n X dX6_firstBroken_8 (i := 0) rfl rfl ?_
        refine v_getB X hB cf6 1 (Nat.le_of_ble_eq_true rfl) m_fl_X6_15 dX6_firstBroken_9 0 (Nat.le_of_ble_eq_true rfl) rfl rfl ?_
        refine v_iload_n X dX6_firstBroken_12 (i := 1) rfl rfl ?_
        refine v_iald_vw (b := 33) (s' := 2) X hB dX6_firstBroken_13 2 (Nat.le_of_ble_eq_true rfl) rfl k rfl (by omega) (Nat.le_of_ble_eq_true rfl) ?_
        refine v_if_ne X dX6_firstBroken_14 (tgt := 19) (by decide) (fun c14 => ?_) (fun c14 => ?_)
        · skip
          refine v_iinc X dX6_firstBroken_19 (v := nI (k + 1)) rfl (ix_inc rfl) (Nat.le_of_ble_eq_true rfl) rfl ?_
          refine v_goto X dX6_firstBroken_22 (tgt := 2) (by decide) ?_
          exact ih2 (k + 1) (by omega) (hr.trans (fbF_miss hk5 c14)) (by omega)
        · skip
          refine v_iload_n X dX6_firstBroken_17 (i := 1) rfl rfl ?_
          exact v_iret X rfl dX6_firstBroken_18 (congrArg (fun z => some (Value.int z)) (hr.trans (fbF_hit hk5 c14)).symm) (rfl)
  exact LP2 _ 0 (Nat.zero_le _) rfl (Nat.lt_succ_self _)
set_option maxRecDepth 100000 in
set_option maxHeartbeats 4000000 in
theorem c_X6_inFrames (l : Launch) (g : Ge) (N o : Nat) (σ : Nat → Int32) (fr : Int32) : Cb l g yX6_inFrames (.code yX6_inFrames cX6_inFrames 4 (some .int)) 1 [.ref o, .int fr] N o (thL g o σ) (some (.int (thS σ fr 12))) (thL g o σ) := by
  intro f hB0
  have hB : BB g N o 3 := hB0
  refine ct_of (own := RX6) [some (.ref o), some (.int fr), none, none] (by decide +kernel) rfl rfl (Nat.le_of_ble_eq_true rfl) ?_
  intro vp ve vs vm va vb vt vc hnm X
  refine v_iconst X dX6_inFrames_0 (v := (0 : Int32)) (by decide) ?_
  refine v_istore_n X dX6_inFrames_1 (i := 2) rfl (Nat.le_of_ble_eq_true rfl) rfl ?_
  refine v_iconst X dX6_inFrames_2 (v := (0 : Int32)) (by decide) ?_
  refine v_istore_n X dX6_inFrames_3 (i := 3) rfl (Nat.le_of_ble_eq_true rfl) rfl ?_
  have LP4 : ∀ (n_ : Nat) (k : Nat), (k ≤ 12) → 12 - k < n_ → Vm vp l ve vs vm va vb vt vc g 1 4 N (some (.int (thS σ fr 12))) (ovr f o (thL g o σ)) (ovr f o (thL g o σ)) 4 [some (.ref o), some (.int fr), some (.int (thS σ fr k)), some (.int (nI k))] [] := by
    intro n_
    induction n_ with
    | zero => intro k hk hm_; exact absurd hm_ (Nat.not_lt_zero _)
    | succ n_ ih4 =>
      intro k hk hm4
      refine v_iload_n X dX6_inFrames_4 (i := 3) rfl rfl ?_
      refine v_bipush X dX6_inFrames_5 (v := (12 : Int32)) (by decide) ?_
      refine v_icmp_ge X dX6_inFrames_7 (tgt := 35) (by decide) (fun c7 => ?_) (fun c7 => ?_)
      · skip
        have hk5 : k = 12 := Nat.le_antisymm hk (le_of_nI (a := 12) (by omega) (by omega) c7)
        refine v_iload_n X dX6_inFrames_35 (i := 2) rfl rfl ?_
        exact v_iret X rfl dX6_inFrames_36 (by rw [hk5]) (rfl)
      · skip
        have hk5 : k < 12 := lt_of_nI (b := 12) (by omega) (by omega) c7
        refine v_iload_n X dX6_inFrames_10 (i := 1) rfl rfl ?_
        refine v_aload_n X dX6_inFrames_11 (i := 0) rfl rfl ?_
        refine v_getB X hB cf6 0 (Nat.le_of_ble_eq_true rfl) m_fl_X6_9 dX6_inFrames_12 0 (Nat.le_of_ble_eq_true rfl) rfl rfl ?_
        refine v_iload_n X dX6_inFrames_15 (i := 3) rfl rfl ?_
        refine v_iald_vw (b := 32) (s' := 2) X hB dX6_inFrames_16 1 (Nat.le_of_ble_eq_true rfl) rfl k rfl (by omega) (Nat.le_of_ble_eq_true rfl) ?_
        refine v_csN X rfl yv_X7_contains m_mn_X6_24 (c_X7_contains l g fr (σ (32 + 2 * k)) ) rfl rfl (Nat.le_of_ble_eq_true rfl) ⟨Nat.le_of_ble_eq_true rfl, Nat.le_of_ble_eq_true rfl⟩ ⟨Nat.le_of_ble_eq_true rfl, Nat.le_of_ble_eq_true rfl⟩ dX6_inFrames_17 rfl ?_
        refine v_if_eqB X dX6_inFrames_20 (tgt := 29) (by decide) (fun c20 => ?_) (fun c20 => ?_)
        · skip
          refine v_iinc X dX6_inFrames_29 (v := nI (k + 1)) rfl (ix_inc rfl) (Nat.le_of_ble_eq_true rfl) rfl ?_
          refine v_goto X dX6_inFrames_32 (tgt := 4) (by decide) ?_
          exact V.cast (ih4 (k + 1) (by omega) (by omega)) (by rw [thS, if_neg c20]; rfl) (rfl) (rfl)
        · skip
          refine v_iload_n X dX6_inFrames_23 (i := 2) rfl rfl ?_
          refine v_iconst X dX6_inFrames_24 (v := (1 : Int32)) (by decide) ?_
          refine v_iload_n X dX6_inFrames_25 (i := 3) rfl rfl ?_
          refine v_ishl X dX6_inFrames_26 ?_
          refine v_ior X dX6_inFrames_27 ?_
          refine v_istore_n X dX6_inFrames_28 (i := 2) rfl (Nat.le_of_ble_eq_true rfl) rfl ?_
          refine v_iinc X dX6_inFrames_29 (v := nI (k + 1)) rfl (ix_inc rfl) (Nat.le_of_ble_eq_true rfl) rfl ?_
          refine v_goto X dX6_inFrames_32 (tgt := 4) (by decide) ?_
          exact V.cast (ih4 (k + 1) (by omega) (by omega)) (by rw [thS, if_pos c20]; rfl) (rfl) (rfl)
  exact LP4 _ 0 (Nat.zero_le _) (Nat.lt_succ_self _)
set_option maxRecDepth 100000 in
set_option maxHeartbeats 4000000 in
theorem c_X6_wearOut (l : Launch) (g : Ge) (N o : Nat) (σ : Nat → Int32) (mv : Int32) : Cb l g yX6_wearOut (.code yX6_wearOut cX6_wearOut 3 none) 1 [.ref o, .int mv] N o (thL g o σ) none (thL g o (wrK σ mv 12)) := by
  intro f hB0
  have hB : BB g N o 3 := hB0
  refine ct_of (own := RX6) [some (.ref o), some (.int mv), none] (by decide +kernel) rfl rfl (Nat.le_of_ble_eq_true rfl) ?_
  intro vp ve vs vm va vb vt vc hnm X
  refine v_iconst X dX6_wearOut_0 (v := (0 : Int32)) (by decide) ?_
  refine v_istore_n X dX6_wearOut_1 (i := 2) rfl (Nat.le_of_ble_eq_true rfl) rfl ?_
  have LP2 : ∀ (n_ : Nat) (k : Nat), (k ≤ 12) → 12 - k < n_ → Vm vp l ve vs vm va vb vt vc g 1 3 N none (ovr f o (thL g o (wrK σ mv 12))) (ovr f o (thL g o (wrK σ mv k))) 2 [some (.ref o), some (.int mv), some (.int (nI k))] [] := by
    intro n_
    induction n_ with
    | zero => intro k hk hm_; exact absurd hm_ (Nat.not_lt_zero _)
    | succ n_ ih2 =>
      intro k hk hm2
      refine v_iload_n X dX6_wearOut_2 (i := 2) rfl rfl ?_
      refine v_bipush X dX6_wearOut_3 (v := (12 : Int32)) (by decide) ?_
      refine v_icmp_ge X dX6_wearOut_5 (tgt := 37) (by decide) (fun c5 => ?_) (fun c5 => ?_)
      · skip
        have hk5 : k = 12 := Nat.le_antisymm hk (le_of_nI (a := 12) (by omega) (by omega) c5)
        exact v_vret X rfl dX6_wearOut_37 (rfl) (by rw [hk5])
      · skip
        have hk5 : k < 12 := lt_of_nI (b := 12) (by omega) (by omega) c5
        refine v_iload_n X dX6_wearOut_8 (i := 1) rfl rfl ?_
        refine v_aload_n X dX6_wearOut_9 (i := 0) rfl rfl ?_
        refine v_getB X hB cf6 0 (Nat.le_of_ble_eq_true rfl) m_fl_X6_9 dX6_wearOut_10 0 (Nat.le_of_ble_eq_true rfl) rfl rfl ?_
        refine v_iload_n X dX6_wearOut_13 (i := 2) rfl rfl ?_
        refine v_iald_vw (b := 32) (s' := 2) X hB dX6_wearOut_14 1 (Nat.le_of_ble_eq_true rfl) rfl k rfl (by omega) (Nat.le_of_ble_eq_true rfl) ?_
        refine v_csN X rfl yv_X7_contains m_mn_X6_24 (c_X7_contains l g mv ((wrK σ mv k) (32 + 2 * k)) ) rfl rfl (Nat.le_of_ble_eq_true rfl) ⟨Nat.le_of_ble_eq_true rfl, Nat.le_of_ble_eq_true rfl⟩ ⟨Nat.le_of_ble_eq_true rfl, Nat.le_of_ble_eq_true rfl⟩ dX6_wearOut_15 rfl ?_
        refine v_if_eqB X dX6_wearOut_18 (tgt := 31) (by decide) (fun c18 => ?_) (fun c18 => ?_)
        · skip
          refine v_iinc X dX6_wearOut_31 (v := nI (k + 1)) rfl (ix_inc rfl) (Nat.le_of_ble_eq_true rfl) rfl ?_
          refine v_goto X dX6_wearOut_34 (tgt := 2) (by decide) ?_
          exact V.cast (ih2 (k + 1) (by omega) (by omega)) (rfl) (rfl) (by rw [wrK_miss c18])
        · skip
          refine v_aload_n X dX6_wearOut_21 (i := 0) rfl rfl ?_
          refine v_getB X hB cf6 1 (Nat.le_of_ble_eq_true rfl) m_fl_X6_15 dX6_wearOut_22 0 (Nat.le_of_ble_eq_true rfl) rfl rfl ?_
          refine v_iload_n X dX6_wearOut_25 (i := 2) rfl rfl ?_
          refine v_dup2 X dX6_wearOut_26 rfl rfl ?_
          refine v_iald_vw (b := 33) (s' := 2) X hB dX6_wearOut_27 2 (Nat.le_of_ble_eq_true rfl) rfl k rfl (by omega) (Nat.le_of_ble_eq_true rfl) ?_
          refine v_iconst X dX6_wearOut_28 (v := (1 : Int32)) (by decide) ?_
          refine v_isub X dX6_wearOut_29 ?_
          refine v_iastB (n := 12) X hB dX6_wearOut_30 2 (Nat.le_of_ble_eq_true rfl) rfl k rfl (by omega) (Nat.le_of_ble_eq_true rfl) (L' := (thL g o (upd (wrK σ mv k) (33 + 2 * k) (((wrK σ mv k) (33 + 2 * k)) - (1 : Int32))))) (w_th_2 (by omega)) ?_
          refine v_iinc X dX6_wearOut_31 (v := nI (k + 1)) rfl (ix_inc rfl) (Nat.le_of_ble_eq_true rfl) rfl ?_
          refine v_goto X dX6_wearOut_34 (tgt := 2) (by decide) ?_
          exact V.cast (ih2 (k + 1) (by omega) (by omega)) (rfl) (rfl) (by rw [wrK_hit c18])
  exact V.cast (LP2 _ 0 (Nat.zero_le _) (Nat.lt_succ_self _)) (rfl) (rfl) (by rw [wrK_0])
set_option maxRecDepth 100000 in
set_option maxHeartbeats 4000000 in
theorem c_X6_copyFrom (l : Launch) (g : Ge) (N o o2 : Nat) (σ σ2 : Nat → Int32) : Cb2 l g yX6_copyFrom (.code yX6_copyFrom cX6_copyFrom 2 none) 1 [.ref o, .ref o2] N o (thL g o σ) o2 (thL g o2 σ2) none (thL g o σ2) := by
  intro f hB0 hO0
  have hB : BB g N o 3 := hB0
  have hO : OB g N f o 3 o2 3 (thL g o2 σ2) := hO0
  refine ct_of (own := RX6) [some (.ref o), some (.ref o2)] (by decide +kernel) rfl rfl (Nat.le_of_ble_eq_true rfl) ?_
  intro vp ve vs vm va vb vt vc hnm X
  refine v_aload_n X dX6_copyFrom_0 (i := 1) rfl rfl ?_
  refine v_getO X hO rfl cf6 0 (Nat.le_of_ble_eq_true rfl) m_fl_X6_9 dX6_copyFrom_1 0 rfl rfl ?_
  refine v_iconst X dX6_copyFrom_4 (v := (0 : Int32)) (by decide) ?_
  refine v_aload_n X dX6_copyFrom_5 (i := 0) rfl rfl ?_
  refine v_getB X hB cf6 0 (Nat.le_of_ble_eq_true rfl) m_fl_X6_9 dX6_copyFrom_6 0 (Nat.le_of_ble_eq_true rfl) rfl rfl ?_
  refine v_iconst X dX6_copyFrom_9 (v := (0 : Int32)) (by decide) ?_
  refine v_bipush X dX6_copyFrom_10 (v := (12 : Int32)) (by decide) ?_
  refine v_copyW (n := 12) (b := 32) (s' := 2) X hO rfl hB m_ml_X6_18 rfl rfl rfl (Nat.le_of_ble_eq_true rfl) 1 rfl 1 (Nat.le_of_ble_eq_true rfl) rfl (L' := _) (rfl) (Nat.le_of_ble_eq_true rfl) ⟨Nat.le_of_ble_eq_true rfl, Nat.le_of_ble_eq_true rfl⟩ dX6_copyFrom_12 ?_
  refine v_aload_n X dX6_copyFrom_15 (i := 1) rfl rfl ?_
  refine v_getO X hO rfl cf6 1 (Nat.le_of_ble_eq_true rfl) m_fl_X6_15 dX6_copyFrom_16 0 rfl rfl ?_
  refine v_iconst X dX6_copyFrom_19 (v := (0 : Int32)) (by decide) ?_
  refine v_aload_n X dX6_copyFrom_20 (i := 0) rfl rfl ?_
  refine v_getB X hB cf6 1 (Nat.le_of_ble_eq_true rfl) m_fl_X6_15 dX6_copyFrom_21 0 (Nat.le_of_ble_eq_true rfl) rfl rfl ?_
  refine v_iconst X dX6_copyFrom_24 (v := (0 : Int32)) (by decide) ?_
  refine v_bipush X dX6_copyFrom_25 (v := (12 : Int32)) (by decide) ?_
  refine v_copyW (n := 12) (b := 33) (s' := 2) X hO rfl hB m_ml_X6_18 rfl rfl rfl (Nat.le_of_ble_eq_true rfl) 2 rfl 2 (Nat.le_of_ble_eq_true rfl) rfl (L' := _) (rfl) (Nat.le_of_ble_eq_true rfl) ⟨Nat.le_of_ble_eq_true rfl, Nat.le_of_ble_eq_true rfl⟩ dX6_copyFrom_27 ?_
  exact v_vret X rfl dX6_copyFrom_30 (rfl) (rfl)
set_option maxRecDepth 100000 in
set_option maxHeartbeats 4000000 in
theorem c_X1_copyFrom (l : Launch) (g : Ge) (N o o2 : Nat) (σ σ2 : Nat → Int32) : Cb2 l g yX1_copyFrom (.code yX1_copyFrom cX1_copyFrom 2 none) 1 [.ref o, .ref o2] N o (chL g o σ) o2 (chL g o2 σ2) none (chL g o σ2) := by
  intro f hB0 hO0
  have hB : BB g N o 4 := hB0
  have hO : OB g N f o 4 o2 4 (chL g o2 σ2) := hO0
  refine ct_of (own := RX1) [some (.ref o), some (.ref o2)] (by decide +kernel) rfl rfl (Nat.le_of_ble_eq_true rfl) ?_
  intro vp ve vs vm va vb vt vc hnm X
  refine v_aload_n X dX1_copyFrom_0 (i := 1) rfl rfl ?_
  refine v_getO X hO rfl cf1 0 (Nat.le_of_ble_eq_true rfl) m_fl_X1_9 dX1_copyFrom_1 0 rfl rfl ?_
  refine v_iconst X dX1_copyFrom_4 (v := (0 : Int32)) (by decide) ?_
  refine v_aload_n X dX1_copyFrom_5 (i := 0) rfl rfl ?_
  refine v_getB X hB cf1 0 (Nat.le_of_ble_eq_true rfl) m_fl_X1_9 dX1_copyFrom_6 0 (Nat.le_of_ble_eq_true rfl) rfl rfl ?_
  refine v_iconst X dX1_copyFrom_9 (v := (0 : Int32)) (by decide) ?_
  refine v_bipush X dX1_copyFrom_10 (v := (16 : Int32)) (by decide) ?_
  refine v_copyW (n := 16) (b := 56) (s' := 3) X hO rfl hB m_ml_X1_28 rfl rfl rfl (Nat.le_of_ble_eq_true rfl) 1 rfl 1 (Nat.le_of_ble_eq_true rfl) rfl (L' := _) (rfl) (Nat.le_of_ble_eq_true rfl) ⟨Nat.le_of_ble_eq_true rfl, Nat.le_of_ble_eq_true rfl⟩ dX1_copyFrom_12 ?_
  refine v_aload_n X dX1_copyFrom_15 (i := 1) rfl rfl ?_
  refine v_getO X hO rfl cf1 1 (Nat.le_of_ble_eq_true rfl) m_fl_X1_15 dX1_copyFrom_16 0 rfl rfl ?_
  refine v_iconst X dX1_copyFrom_19 (v := (0 : Int32)) (by decide) ?_
  refine v_aload_n X dX1_copyFrom_20 (i := 0) rfl rfl ?_
  refine v_getB X hB cf1 1 (Nat.le_of_ble_eq_true rfl) m_fl_X1_15 dX1_copyFrom_21 0 (Nat.le_of_ble_eq_true rfl) rfl rfl ?_
  refine v_iconst X dX1_copyFrom_24 (v := (0 : Int32)) (by decide) ?_
  refine v_bipush X dX1_copyFrom_25 (v := (16 : Int32)) (by decide) ?_
  refine v_copyW (n := 16) (b := 57) (s' := 3) X hO rfl hB m_ml_X1_28 rfl rfl rfl (Nat.le_of_ble_eq_true rfl) 2 rfl 2 (Nat.le_of_ble_eq_true rfl) rfl (L' := _) (rfl) (Nat.le_of_ble_eq_true rfl) ⟨Nat.le_of_ble_eq_true rfl, Nat.le_of_ble_eq_true rfl⟩ dX1_copyFrom_27 ?_
  refine v_aload_n X dX1_copyFrom_30 (i := 1) rfl rfl ?_
  refine v_getO X hO rfl cf1 2 (Nat.le_of_ble_eq_true rfl) m_fl_X1_18 dX1_copyFrom_31 0 rfl rfl ?_
  refine v_iconst X dX1_copyFrom_34 (v := (0 : Int32)) (by decide) ?_
  refine v_aload_n X dX1_copyFrom_35 (i := 0) rfl rfl ?_
  refine v_getB X hB cf1 2 (Nat.le_of_ble_eq_true rfl) m_fl_X1_18 dX1_copyFrom_36 0 (Nat.le_of_ble_eq_true rfl) rfl rfl ?_
  refine v_iconst X dX1_copyFrom_39 (v := (0 : Int32)) (by decide) ?_
  refine v_bipush X dX1_copyFrom_40 (v := (16 : Int32)) (by decide) ?_
  refine v_copyW (n := 16) (b := 58) (s' := 3) X hO rfl hB m_ml_X1_28 rfl rfl rfl (Nat.le_of_ble_eq_true rfl) 3 rfl 3 (Nat.le_of_ble_eq_true rfl) rfl (L' := _) (rfl) (Nat.le_of_ble_eq_true rfl) ⟨Nat.le_of_ble_eq_true rfl, Nat.le_of_ble_eq_true rfl⟩ dX1_copyFrom_42 ?_
  refine v_aload_n X dX1_copyFrom_45 (i := 0) rfl rfl ?_
  refine v_aload_n X dX1_copyFrom_46 (i := 1) rfl rfl ?_
  refine v_getO X hO rfl cf1 3 (Nat.le_of_ble_eq_true rfl) m_fl_X1_21 dX1_copyFrom_47 0 rfl rfl ?_
  refine v_putB X hB cf1 3 (Nat.le_of_ble_eq_true rfl) rfl m_fl_X1_21 dX1_copyFrom_50 0 (Nat.le_of_ble_eq_true rfl) rfl rfl rfl (Nat.le_of_ble_eq_true rfl) rfl ?_
  refine v_aload_n X dX1_copyFrom_53 (i := 0) rfl rfl ?_
  refine v_aload_n X dX1_copyFrom_54 (i := 1) rfl rfl ?_
  refine v_getO X hO rfl cf1 4 (Nat.le_of_ble_eq_true rfl) m_fl_X1_25 dX1_copyFrom_55 0 rfl rfl ?_
  refine v_putB X hB cf1 4 (Nat.le_of_ble_eq_true rfl) rfl m_fl_X1_25 dX1_copyFrom_58 0 (Nat.le_of_ble_eq_true rfl) rfl rfl rfl (Nat.le_of_ble_eq_true rfl) rfl ?_
  exact v_vret X rfl dX1_copyFrom_61 (rfl) (rfl)
set_option maxRecDepth 100000 in
set_option maxHeartbeats 4000000 in
theorem c_X1_has (l : Launch) (g : Ge) (N o : Nat) (σ : Nat → Int32) (v : Int32) : Cb l g yX1_has (.code yX1_has cX1_has 2 (some .boolean)) 0 [.ref o, .int v] N o (chL g o σ) (some (.int (bI ((0 : Int32) ≤ v ∧ v < σ 0 ∧ v < 16)))) (chL g o σ) := by
  intro f hB0
  have hB : BB g N o 4 := hB0
  refine ct_of (own := RX1) [some (.ref o), some (.int v)] (by decide +kernel) rfl rfl (Nat.le_of_ble_eq_true rfl) ?_
  intro vp ve vs vm va vb vt vc hnm X
  refine v_iload_n X dX1_has_0 (i := 1) rfl rfl ?_
  refine v_if_lt X dX1_has_1 (tgt := 22) (by decide) (fun c1 => ?_) (fun c1 => ?_)
  · skip
    refine v_iconst X dX1_has_22 (v := (0 : Int32)) (by decide) ?_
    exact v_zret X rfl dX1_has_23 (rfl) (by simp [bI, c1, Int32.not_le.mpr c1]) (rfl)
  · skip
    refine v_iload_n X dX1_has_4 (i := 1) rfl rfl ?_
    refine v_aload_n X dX1_has_5 (i := 0) rfl rfl ?_
    refine v_getB X hB cf1 3 (Nat.le_of_ble_eq_true rfl) m_fl_X1_21 dX1_has_6 0 (Nat.le_of_ble_eq_true rfl) rfl rfl ?_
    refine v_icmp_ge X dX1_has_9 (tgt := 22) (by decide) (fun c9 => ?_) (fun c9 => ?_)
    · skip
      refine v_iconst X dX1_has_22 (v := (0 : Int32)) (by decide) ?_
      exact v_zret X rfl dX1_has_23 (rfl) (by simp [bI, c1, Int32.not_lt.mpr c1, c9, Int32.not_lt.mpr c9]) (rfl)
    · skip
      refine v_iload_n X dX1_has_12 (i := 1) rfl rfl ?_
      refine v_bipush X dX1_has_13 (v := (16 : Int32)) (by decide) ?_
      refine v_icmp_ge X dX1_has_15 (tgt := 22) (by decide) (fun c15 => ?_) (fun c15 => ?_)
      · skip
        refine v_iconst X dX1_has_22 (v := (0 : Int32)) (by decide) ?_
        exact v_zret X rfl dX1_has_23 (rfl) (by simp [bI, c1, Int32.not_lt.mpr c1, c9, Int32.not_le.mpr c9, c15, Int32.not_lt.mpr c15]) (rfl)
      · skip
        refine v_iconst X dX1_has_18 (v := (1 : Int32)) (by decide) ?_
        refine v_goto X dX1_has_19 (tgt := 23) (by decide) ?_
        exact v_zret X rfl dX1_has_23 (rfl) (by simp [bI, c1, Int32.not_lt.mpr c1, c9, Int32.not_le.mpr c9, c15, Int32.not_le.mpr c15]) (rfl)
theorem has_nI {σ : Nat → Int32} {p C : Nat} (hC : σ 0 = nI C) (hp : p < C) (hC16 : C ≤ 16) : (0 : Int32) ≤ nI p ∧ nI p < σ 0 ∧ nI p < 16 := ⟨(nI_leI (a := 0) (by omega) (by omega)).mpr (by omega), by rw [hC]; exact (nI_ltI (by omega) (by omega)).mpr hp, (nI_ltI (b := 16) (by omega) (by omega)).mpr (by omega)⟩
theorem of_has {σ : Nat → Int32} {v : Int32} {C : Nat} (hC : σ 0 = nI C) (hC16 : C ≤ 16) (h : (0 : Int32) ≤ v ∧ v < σ 0 ∧ v < 16) : ∃ p, p < C ∧ v = nI p := by
  obtain ⟨p, hp, rfl⟩ := nI_cases (n := 15) (by omega) h.1 (by
    have h3 := h.2.2
    rw [Int32.lt_iff_toInt_lt] at h3
    rw [Int32.le_iff_toInt_le, nI_toInt (by omega)]
    have : (16 : Int32).toInt = 16 := by decide
    omega)
  refine ⟨p, ?_, rfl⟩
  have h2 := h.2.1
  rw [hC] at h2
  exact (nI_ltI (by omega) (by omega)).mp h2
set_option maxRecDepth 100000 in
set_option maxHeartbeats 4000000 in
theorem c_X1_framesOf (l : Launch) (g : Ge) (N o : Nat) (x_p : Int32) (p : Nat) (hx_p : x_p = nI p) (σ : Nat → Int32) (C : Nat) (hC : σ 0 = nI C) (hp : p < C) (hC16 : C ≤ 16) : Cb l g yX1_framesOf (.code yX1_framesOf cX1_framesOf 2 (some .int)) 1 [.ref o, .int x_p] N o (chL g o σ) (some (.int (σ (56 + 3 * p)))) (chL g o σ) := by
  intro f hB0
  have hB : BB g N o 4 := hB0
  subst hx_p
  refine ct_of (own := RX1) [some (.ref o), some (.int (nI p))] (by decide +kernel) rfl rfl (Nat.le_of_ble_eq_true rfl) ?_
  intro vp ve vs vm va vb vt vc hnm X
  refine v_aload_n X dX1_framesOf_0 (i := 0) rfl rfl ?_
  refine v_iload_n X dX1_framesOf_1 (i := 1) rfl rfl ?_
  refine v_cvB X rfl yv_X1_has m_ml_X1_34 0 0 (c_X1_has l g N o σ (nI p) ) hB (Nat.le_of_ble_eq_true rfl) rfl (Nat.le_of_ble_eq_true rfl) rfl (L' := (chL g o σ)) (rfl) rfl (Nat.le_of_ble_eq_true rfl) rfl rfl (Nat.le_of_ble_eq_true rfl) ⟨Nat.le_of_ble_eq_true rfl, Nat.le_of_ble_eq_true rfl⟩ ⟨Nat.le_of_ble_eq_true rfl, Nat.le_of_ble_eq_true rfl⟩ dX1_framesOf_2 rfl ?_
  refine v_if_eqB X dX1_framesOf_5 (tgt := 17) (by decide) (fun c5 => ?_) (fun c5 => ?_)
  · skip
    exact absurd (has_nI hC hp hC16) c5
  · skip
    refine v_aload_n X dX1_framesOf_8 (i := 0) rfl rfl ?_
    refine v_getB X hB cf1 0 (Nat.le_of_ble_eq_true rfl) m_fl_X1_9 dX1_framesOf_9 0 (Nat.le_of_ble_eq_true rfl) rfl rfl ?_
    refine v_iload_n X dX1_framesOf_12 (i := 1) rfl rfl ?_
    refine v_iald_vw (b := 56) (s' := 3) X hB dX1_framesOf_13 1 (Nat.le_of_ble_eq_true rfl) rfl p rfl (by omega) (Nat.le_of_ble_eq_true rfl) ?_
    refine v_goto X dX1_framesOf_14 (tgt := 18) (by decide) ?_
    exact v_iret X rfl dX1_framesOf_18 (rfl) (rfl)
set_option maxRecDepth 100000 in
set_option maxHeartbeats 4000000 in
theorem c_X1_boxOf (l : Launch) (g : Ge) (N o : Nat) (x_p : Int32) (p : Nat) (hx_p : x_p = nI p) (σ : Nat → Int32) (C : Nat) (hC : σ 0 = nI C) (hp : p < C) (hC16 : C ≤ 16) (sd : Int32) : Cb l g yX1_boxOf (.code yX1_boxOf cX1_boxOf 3 (some .int)) 1 [.ref o, .int x_p, .int sd] N o (chL g o σ) (some (.int (bxS σ p sd))) (chL g o σ) := by
  intro f hB0
  have hB : BB g N o 4 := hB0
  subst hx_p
  refine ct_of (own := RX1) [some (.ref o), some (.int (nI p)), some (.int sd)] (by decide +kernel) rfl rfl (Nat.le_of_ble_eq_true rfl) ?_
  intro vp ve vs vm va vb vt vc hnm X
  refine v_aload_n X dX1_boxOf_0 (i := 0) rfl rfl ?_
  refine v_iload_n X dX1_boxOf_1 (i := 1) rfl rfl ?_
  refine v_cvB X rfl yv_X1_has m_ml_X1_34 0 0 (c_X1_has l g N o σ (nI p) ) hB (Nat.le_of_ble_eq_true rfl) rfl (Nat.le_of_ble_eq_true rfl) rfl (L' := (chL g o σ)) (rfl) rfl (Nat.le_of_ble_eq_true rfl) rfl rfl (Nat.le_of_ble_eq_true rfl) ⟨Nat.le_of_ble_eq_true rfl, Nat.le_of_ble_eq_true rfl⟩ ⟨Nat.le_of_ble_eq_true rfl, Nat.le_of_ble_eq_true rfl⟩ dX1_boxOf_2 rfl ?_
  refine v_if_neB X dX1_boxOf_5 (tgt := 11) (by decide) (fun c5 => ?_) (fun c5 => ?_)
  · skip
    refine v_iload_n X dX1_boxOf_11 (i := 2) rfl rfl ?_
    refine v_if_ne X dX1_boxOf_12 (tgt := 24) (by decide) (fun c12 => ?_) (fun c12 => ?_)
    · skip
      refine v_aload_n X dX1_boxOf_24 (i := 0) rfl rfl ?_
      refine v_getB X hB cf1 2 (Nat.le_of_ble_eq_true rfl) m_fl_X1_18 dX1_boxOf_25 0 (Nat.le_of_ble_eq_true rfl) rfl rfl ?_
      refine v_iload_n X dX1_boxOf_28 (i := 1) rfl rfl ?_
      refine v_iald_vw (b := 58) (s' := 3) X hB dX1_boxOf_29 3 (Nat.le_of_ble_eq_true rfl) rfl p rfl (by omega) (Nat.le_of_ble_eq_true rfl) ?_
      exact v_iret X rfl dX1_boxOf_30 (by rw [bxS, if_neg c12]) (rfl)
    · skip
      refine v_aload_n X dX1_boxOf_15 (i := 0) rfl rfl ?_
      refine v_getB X hB cf1 1 (Nat.le_of_ble_eq_true rfl) m_fl_X1_15 dX1_boxOf_16 0 (Nat.le_of_ble_eq_true rfl) rfl rfl ?_
      refine v_iload_n X dX1_boxOf_19 (i := 1) rfl rfl ?_
      refine v_iald_vw (b := 57) (s' := 3) X hB dX1_boxOf_20 2 (Nat.le_of_ble_eq_true rfl) rfl p rfl (by omega) (Nat.le_of_ble_eq_true rfl) ?_
      refine v_goto X dX1_boxOf_21 (tgt := 30) (by decide) ?_
      exact v_iret X rfl dX1_boxOf_30 (by rw [bxS, if_pos c12]) (rfl)
  · skip
    exact absurd (has_nI hC hp hC16) c5
set_option maxRecDepth 100000 in
set_option maxHeartbeats 4000000 in
theorem c_X1_append (l : Launch) (g : Ge) (N o : Nat) (σ : Nat → Int32) (C : Nat) (fr a b : Int32) (hC : σ 0 = nI C) (hC16 : C < 16) : Cb l g yX1_append (.code yX1_append cX1_append 4 none) 0 [.ref o, .int fr, .int a, .int b] N o (chL g o σ) none (chL g o (apS σ C fr a b)) := by
  intro f hB0
  have hB : BB g N o 4 := hB0
  refine ct_of (own := RX1) [some (.ref o), some (.int fr), some (.int a), some (.int b)] (by decide +kernel) rfl rfl (Nat.le_of_ble_eq_true rfl) ?_
  intro vp ve vs vm va vb vt vc hnm X
  refine v_aload_n X dX1_append_0 (i := 0) rfl rfl ?_
  refine v_getB X hB cf1 3 (Nat.le_of_ble_eq_true rfl) m_fl_X1_21 dX1_append_1 0 (Nat.le_of_ble_eq_true rfl) rfl rfl ?_
  refine v_if_lt X dX1_append_4 (tgt := 56) (by decide) (fun c4 => ?_) (fun c4 => ?_)
  · skip
    exact absurd c4 (by rw [hC]; exact nI_pos (by omega))
  · skip
    refine v_aload_n X dX1_append_7 (i := 0) rfl rfl ?_
    refine v_getB X hB cf1 3 (Nat.le_of_ble_eq_true rfl) m_fl_X1_21 dX1_append_8 0 (Nat.le_of_ble_eq_true rfl) rfl rfl ?_
    refine v_bipush X dX1_append_11 (v := (16 : Int32)) (by decide) ?_
    refine v_icmp_ge X dX1_append_13 (tgt := 56) (by decide) (fun c13 => ?_) (fun c13 => ?_)
    · skip
      exact absurd (by rw [← hC]; exact c13) (nI_ge (a := C) (b := 16) (by omega) (by omega))
    · skip
      refine v_aload_n X dX1_append_16 (i := 0) rfl rfl ?_
      refine v_getB X hB cf1 0 (Nat.le_of_ble_eq_true rfl) m_fl_X1_9 dX1_append_17 0 (Nat.le_of_ble_eq_true rfl) rfl rfl ?_
      refine v_aload_n X dX1_append_20 (i := 0) rfl rfl ?_
      refine v_getB X hB cf1 3 (Nat.le_of_ble_eq_true rfl) m_fl_X1_21 dX1_append_21 0 (Nat.le_of_ble_eq_true rfl) rfl rfl ?_
      refine v_iload_n X dX1_append_24 (i := 1) rfl rfl ?_
      refine v_iastB (n := 16) X hB dX1_append_25 1 (Nat.le_of_ble_eq_true rfl) rfl C (by rw [hC]) (by omega) (Nat.le_of_ble_eq_true rfl) (L' := (chL g o (upd σ (56 + 3 * C) fr))) (w_ch_1 (by omega)) ?_
      refine v_aload_n X dX1_append_26 (i := 0) rfl rfl ?_
      refine v_getB X hB cf1 1 (Nat.le_of_ble_eq_true rfl) m_fl_X1_15 dX1_append_27 0 (Nat.le_of_ble_eq_true rfl) rfl rfl ?_
      refine v_aload_n X dX1_append_30 (i := 0) rfl rfl ?_
      refine v_getB X hB cf1 3 (Nat.le_of_ble_eq_true rfl) m_fl_X1_21 dX1_append_31 0 (Nat.le_of_ble_eq_true rfl) rfl rfl ?_
      refine v_iload_n X dX1_append_34 (i := 2) rfl rfl ?_
      refine v_iastB (n := 16) X hB dX1_append_35 2 (Nat.le_of_ble_eq_true rfl) rfl C (by rw [pk_un (by omega), hC]) (by omega) (Nat.le_of_ble_eq_true rfl) (L' := (chL g o (upd (upd σ (56 + 3 * C) fr) (57 + 3 * C) a))) (w_ch_2 (by omega)) ?_
      refine v_aload_n X dX1_append_36 (i := 0) rfl rfl ?_
      refine v_getB X hB cf1 2 (Nat.le_of_ble_eq_true rfl) m_fl_X1_18 dX1_append_37 0 (Nat.le_of_ble_eq_true rfl) rfl rfl ?_
      refine v_aload_n X dX1_append_40 (i := 0) rfl rfl ?_
      refine v_getB X hB cf1 3 (Nat.le_of_ble_eq_true rfl) m_fl_X1_21 dX1_append_41 0 (Nat.le_of_ble_eq_true rfl) rfl rfl ?_
      refine v_iload_n X dX1_append_44 (i := 3) rfl rfl ?_
      refine v_iastB (n := 16) X hB dX1_append_45 3 (Nat.le_of_ble_eq_true rfl) rfl C (by rw [pk_un (by omega), pk_un (by omega), hC]) (by omega) (Nat.le_of_ble_eq_true rfl) (L' := (chL g o (upd (upd (upd σ (56 + 3 * C) fr) (57 + 3 * C) a) (58 + 3 * C) b))) (w_ch_3 (by omega)) ?_
      refine v_aload_n X dX1_append_46 (i := 0) rfl rfl ?_
      refine v_dup X dX1_append_47 rfl ?_
      refine v_getB X hB cf1 3 (Nat.le_of_ble_eq_true rfl) m_fl_X1_21 dX1_append_48 0 (Nat.le_of_ble_eq_true rfl) rfl rfl ?_
      refine v_iconst X dX1_append_51 (v := (1 : Int32)) (by decide) ?_
      refine v_iadd X dX1_append_52 ?_
      refine v_putB X hB cf1 3 (Nat.le_of_ble_eq_true rfl) rfl m_fl_X1_21 dX1_append_53 0 (Nat.le_of_ble_eq_true rfl) rfl rfl rfl (Nat.le_of_ble_eq_true rfl) (L' := (chL g o (upd (upd (upd (upd σ (56 + 3 * C) fr) (57 + 3 * C) a) (58 + 3 * C) b) 0 (((upd (upd (upd σ (56 + 3 * C) fr) (57 + 3 * C) a) (58 + 3 * C) b) 0) + (1 : Int32))))) w_ch_0_cards ?_
      exact v_vret X rfl dX1_append_56 (rfl) (by rw [apS, pk_un (by omega), pk_un (by omega), pk_un (by omega), hC, nI_1])
set_option maxRecDepth 100000 in
set_option maxHeartbeats 4000000 in
theorem c_X1_startAgainBehindLast (l : Launch) (g : Ge) (N o : Nat) (σ : Nat → Int32) : Cb l g yX1_startAgainBehindLast (.code yX1_startAgainBehindLast cX1_startAgainBehindLast 1 none) 0 [.ref o] N o (chL g o σ) none (chL g o (if σ 0 ≤ σ 1 then upd σ 1 0 else σ)) := by
  intro f hB0
  have hB : BB g N o 4 := hB0
  refine ct_of (own := RX1) [some (.ref o)] (by decide +kernel) rfl rfl (Nat.le_of_ble_eq_true rfl) ?_
  intro vp ve vs vm va vb vt vc hnm X
  refine v_aload_n X dX1_startAgainBehindLast_0 (i := 0) rfl rfl ?_
  refine v_getB X hB cf1 4 (Nat.le_of_ble_eq_true rfl) m_fl_X1_25 dX1_startAgainBehindLast_1 0 (Nat.le_of_ble_eq_true rfl) rfl rfl ?_
  refine v_aload_n X dX1_startAgainBehindLast_4 (i := 0) rfl rfl ?_
  refine v_getB X hB cf1 3 (Nat.le_of_ble_eq_true rfl) m_fl_X1_21 dX1_startAgainBehindLast_5 0 (Nat.le_of_ble_eq_true rfl) rfl rfl ?_
  refine v_icmp_lt X dX1_startAgainBehindLast_8 (tgt := 16) (by decide) (fun c8 => ?_) (fun c8 => ?_)
  · skip
    exact v_vret X rfl dX1_startAgainBehindLast_16 (rfl) (by rw [if_neg (Int32.not_le.mpr c8)])
  · skip
    refine v_aload_n X dX1_startAgainBehindLast_11 (i := 0) rfl rfl ?_
    refine v_iconst X dX1_startAgainBehindLast_12 (v := (0 : Int32)) (by decide) ?_
    refine v_putB X hB cf1 4 (Nat.le_of_ble_eq_true rfl) rfl m_fl_X1_25 dX1_startAgainBehindLast_13 0 (Nat.le_of_ble_eq_true rfl) rfl rfl rfl (Nat.le_of_ble_eq_true rfl) (L' := (chL g o (upd σ 1 (0 : Int32)))) w_ch_0_place ?_
    exact v_vret X rfl dX1_startAgainBehindLast_16 (rfl) (by rw [if_pos c8])
def goP (P C : Nat) : Nat := if C ≤ P + 1 then 0 else P + 1
theorem goOn_eq {σ : Nat → Int32} {P C : Nat} (hC : σ 0 = nI C) (hP : σ 1 = nI P) (hPC : P < C) (hC16 : C ≤ 16) : (if (upd σ 1 (σ 1 + 1)) 0 ≤ (upd σ 1 (σ 1 + 1)) 1 then upd (upd σ 1 (σ 1 + 1)) 1 0 else upd σ 1 (σ 1 + 1)) = upd σ 1 (nI (goP P C)) := by
  rw [pk_us, pk_un (by omega), hC, hP, nI_1, goP]
  by_cases h : C ≤ P + 1
  · rw [if_pos h, if_pos ((nI_leI (by omega) (by omega)).mpr h)]
    funext i
    by_cases e : i = 1
    · subst e; rw [pk_us, pk_us]; rfl
    · rw [pk_un e, pk_un e, pk_un e]
  · rw [if_neg h, if_neg (fun q => h ((nI_leI (by omega) (by omega)).mp q))]
set_option maxRecDepth 100000 in
set_option maxHeartbeats 4000000 in
theorem c_X1_goOn (l : Launch) (g : Ge) (N o : Nat) (σ : Nat → Int32) (P C : Nat) (hC : σ 0 = nI C) (hP : σ 1 = nI P) (hPC : P < C) (hC16 : C ≤ 16) : Cb l g yX1_goOn (.code yX1_goOn cX1_goOn 1 none) 1 [.ref o] N o (chL g o σ) none (chL g o (upd σ 1 (nI (goP P C)))) := by
  intro f hB0
  have hB : BB g N o 4 := hB0
  refine ct_of (own := RX1) [some (.ref o)] (by decide +kernel) rfl rfl (Nat.le_of_ble_eq_true rfl) ?_
  intro vp ve vs vm va vb vt vc hnm X
  refine v_aload_n X dX1_goOn_0 (i := 0) rfl rfl ?_
  refine v_dup X dX1_goOn_1 rfl ?_
  refine v_getB X hB cf1 4 (Nat.le_of_ble_eq_true rfl) m_fl_X1_25 dX1_goOn_2 0 (Nat.le_of_ble_eq_true rfl) rfl rfl ?_
  refine v_iconst X dX1_goOn_5 (v := (1 : Int32)) (by decide) ?_
  refine v_iadd X dX1_goOn_6 ?_
  refine v_putB X hB cf1 4 (Nat.le_of_ble_eq_true rfl) rfl m_fl_X1_25 dX1_goOn_7 0 (Nat.le_of_ble_eq_true rfl) rfl rfl rfl (Nat.le_of_ble_eq_true rfl) (L' := (chL g o (upd σ 1 ((σ 1) + (1 : Int32))))) w_ch_0_place ?_
  refine v_aload_n X dX1_goOn_10 (i := 0) rfl rfl ?_
  refine v_cvB X rfl yv_X1_startAgainBehindLast m_ml_X1_38 0 0 (c_X1_startAgainBehindLast l g N o (upd σ 1 ((σ 1) + (1 : Int32))) ) hB (Nat.le_of_ble_eq_true rfl) rfl (Nat.le_of_ble_eq_true rfl) rfl (L' := (chL g o (if (upd σ 1 ((σ 1) + (1 : Int32))) 0 ≤ (upd σ 1 ((σ 1) + (1 : Int32))) 1 then upd (upd σ 1 ((σ 1) + (1 : Int32))) 1 0 else (upd σ 1 ((σ 1) + (1 : Int32)))))) (rfl) rfl (Nat.le_of_ble_eq_true rfl) rfl rfl (Nat.le_of_ble_eq_true rfl) ⟨Nat.le_of_ble_eq_true rfl, Nat.le_of_ble_eq_true rfl⟩ ⟨Nat.le_of_ble_eq_true rfl, Nat.le_of_ble_eq_true rfl⟩ dX1_goOn_11 rfl ?_
  exact v_vret X rfl dX1_goOn_14 (rfl) (by rw [goOn_eq hC hP hPC hC16])
theorem rmS_eqT {σ : Nat → Int32} {k P C : Nat} (hC : σ 0 = nI C) (hP : σ 1 = nI P) (hk : k < C) (hPC : P < C) (hC16 : C ≤ 16) (h : (upd (shK σ k (C - 1)) 0 (shK σ k (C - 1) 0 - 1)) 1 ≤ nI k) : (if (upd (shK σ k (C - 1)) 0 (shK σ k (C - 1) 0 - 1)) 0 ≤ (upd (shK σ k (C - 1)) 0 (shK σ k (C - 1) 0 - 1)) 1 then upd (upd (shK σ k (C - 1)) 0 (shK σ k (C - 1) 0 - 1)) 1 0 else upd (shK σ k (C - 1)) 0 (shK σ k (C - 1) 0 - 1)) = rmS σ k P C := by
  have e0 : shK σ k (C - 1) 0 - 1 = nI (C - 1) := by rw [shK_lo (by omega), hC]; exact pk_sub (b := 1) (by omega)
  have e1 : (upd (shK σ k (C - 1)) 0 (nI (C - 1))) 1 = nI P := by rw [pk_un (by omega), shK_lo (by omega), hP]
  rw [e0, e1] at h
  rw [e0, e1, pk_us, rmS]
  have hkP : ¬ k < P := by
    have := le_of_nI (by omega) (by omega) h
    omega
  have eP : rmP k P C = if C - 1 ≤ P then 0 else P := by rw [rmP, if_neg hkP]
  rw [eP]
  by_cases q : C - 1 ≤ P
  · rw [if_pos q, if_pos ((nI_leI (by omega) (by omega)).mpr q)]; rfl
  · rw [if_neg q, if_neg (fun z => q (le_of_nI (by omega) (by omega) z))]
    funext i
    by_cases e : i = 1
    · subst e; rw [pk_us, e1]
    · rw [pk_un e]
theorem rmS_eqF {σ : Nat → Int32} {k P C : Nat} (hC : σ 0 = nI C) (hP : σ 1 = nI P) (hk : k < C) (hPC : P < C) (hC16 : C ≤ 16) (h : nI k < (upd (shK σ k (C - 1)) 0 (shK σ k (C - 1) 0 - 1)) 1) : (if (upd (upd (shK σ k (C - 1)) 0 (shK σ k (C - 1) 0 - 1)) 1 ((upd (shK σ k (C - 1)) 0 (shK σ k (C - 1) 0 - 1)) 1 - 1)) 0 ≤ (upd (upd (shK σ k (C - 1)) 0 (shK σ k (C - 1) 0 - 1)) 1 ((upd (shK σ k (C - 1)) 0 (shK σ k (C - 1) 0 - 1)) 1 - 1)) 1 then upd (upd (upd (shK σ k (C - 1)) 0 (shK σ k (C - 1) 0 - 1)) 1 ((upd (shK σ k (C - 1)) 0 (shK σ k (C - 1) 0 - 1)) 1 - 1)) 1 0 else upd (upd (shK σ k (C - 1)) 0 (shK σ k (C - 1) 0 - 1)) 1 ((upd (shK σ k (C - 1)) 0 (shK σ k (C - 1) 0 - 1)) 1 - 1)) = rmS σ k P C := by
  have e0 : shK σ k (C - 1) 0 - 1 = nI (C - 1) := by rw [shK_lo (by omega), hC]; exact pk_sub (b := 1) (by omega)
  have e1 : (upd (shK σ k (C - 1)) 0 (nI (C - 1))) 1 = nI P := by rw [pk_un (by omega), shK_lo (by omega), hP]
  rw [e0, e1] at h
  have hkP : k < P := lt_of_nI (by omega) (by omega) h
  have e2 : nI P - 1 = nI (P - 1) := pk_sub (b := 1) (by omega)
  rw [e0, e1, e2, pk_us, pk_un (show 0 ≠ 1 by omega), pk_us, rmS]
  have eP : rmP k P C = if C - 1 ≤ P - 1 then 0 else P - 1 := by rw [rmP, if_pos hkP]
  rw [eP, if_neg (show ¬ C - 1 ≤ P - 1 by omega), if_neg (fun z => absurd (le_of_nI (by omega) (by omega) z) (by omega))]
set_option maxRecDepth 100000 in
set_option maxHeartbeats 4000000 in
theorem c_X1_remove (l : Launch) (g : Ge) (N o : Nat) (x_k : Int32) (k : Nat) (hx_k : x_k = nI k) (σ : Nat → Int32) (P C : Nat) (hC : σ 0 = nI C) (hP : σ 1 = nI P) (hk : k < C) (hPC : P < C) (hC16 : C ≤ 16) : Cb l g yX1_remove (.code yX1_remove cX1_remove 3 none) 1 [.ref o, .int x_k] N o (chL g o σ) none (chL g o (rmS σ k P C)) := by
  intro f hB0
  have hB : BB g N o 4 := hB0
  subst hx_k
  refine ct_of (own := RX1) [some (.ref o), some (.int (nI k)), none] (by decide +kernel) rfl rfl (Nat.le_of_ble_eq_true rfl) ?_
  intro vp ve vs vm va vb vt vc hnm X
  refine v_aload_n X dX1_remove_0 (i := 0) rfl rfl ?_
  refine v_iload_n X dX1_remove_1 (i := 1) rfl rfl ?_
  refine v_cvB X rfl yv_X1_has m_ml_X1_34 0 0 (c_X1_has l g N o σ (nI k) ) hB (Nat.le_of_ble_eq_true rfl) rfl (Nat.le_of_ble_eq_true rfl) rfl (L' := (chL g o σ)) (rfl) rfl (Nat.le_of_ble_eq_true rfl) rfl rfl (Nat.le_of_ble_eq_true rfl) ⟨Nat.le_of_ble_eq_true rfl, Nat.le_of_ble_eq_true rfl⟩ ⟨Nat.le_of_ble_eq_true rfl, Nat.le_of_ble_eq_true rfl⟩ dX1_remove_2 rfl ?_
  refine v_if_neB X dX1_remove_5 (tgt := 9) (by decide) (fun c5 => ?_) (fun c5 => ?_)
  · skip
    refine v_iload_n X dX1_remove_9 (i := 1) rfl rfl ?_
    refine v_istore_n X dX1_remove_10 (i := 2) rfl (Nat.le_of_ble_eq_true rfl) rfl ?_
    have LP11 : ∀ (n_ : Nat) (j : Nat), (k ≤ j) → (j < C) → 16 - j < n_ → Vm vp l ve vs vm va vb vt vc g 1 3 N none (ovr f o (chL g o (rmS σ k P C))) (ovr f o (chL g o (shK σ k j))) 11 [some (.ref o), some (.int (nI k)), some (.int (nI j))] [] := by
      intro n_
      induction n_ with
      | zero => intro j hkj hj hm_; exact absurd hm_ (Nat.not_lt_zero _)
      | succ n_ ih11 =>
        intro j hkj hj hm11
        refine v_iload_n X dX1_remove_11 (i := 2) rfl rfl ?_
        refine v_iconst X dX1_remove_12 (v := (1 : Int32)) (by decide) ?_
        refine v_iadd X dX1_remove_13 ?_
        refine v_aload_n X dX1_remove_14 (i := 0) rfl rfl ?_
        refine v_getB X hB cf1 3 (Nat.le_of_ble_eq_true rfl) m_fl_X1_21 dX1_remove_15 0 (Nat.le_of_ble_eq_true rfl) rfl rfl ?_
        refine v_icmp_ge X dX1_remove_18 (tgt := 77) (by decide) (fun c18 => ?_) (fun c18 => ?_)
        · skip
          have hjC : j = C - 1 := by
            rw [shK_lo (by omega), hC] at c18
            rw [nI_1] at c18
            have := le_of_nI (by omega) (by omega) c18
            omega
          refine v_aload_n X dX1_remove_77 (i := 0) rfl rfl ?_
          refine v_dup X dX1_remove_78 rfl ?_
          refine v_getB X hB cf1 3 (Nat.le_of_ble_eq_true rfl) m_fl_X1_21 dX1_remove_79 0 (Nat.le_of_ble_eq_true rfl) rfl rfl ?_
          refine v_iconst X dX1_remove_82 (v := (1 : Int32)) (by decide) ?_
          refine v_isub X dX1_remove_83 ?_
          refine v_putB X hB cf1 3 (Nat.le_of_ble_eq_true rfl) rfl m_fl_X1_21 dX1_remove_84 0 (Nat.le_of_ble_eq_true rfl) rfl rfl rfl (Nat.le_of_ble_eq_true rfl) (L' := (chL g o (upd (shK σ k j) 0 (((shK σ k j) 0) - (1 : Int32))))) w_ch_0_cards ?_
          refine v_iload_n X dX1_remove_87 (i := 1) rfl rfl ?_
          refine v_aload_n X dX1_remove_88 (i := 0) rfl rfl ?_
          refine v_getB X hB cf1 4 (Nat.le_of_ble_eq_true rfl) m_fl_X1_25 dX1_remove_89 0 (Nat.le_of_ble_eq_true rfl) rfl rfl ?_
          refine v_icmp_ge X dX1_remove_92 (tgt := 105) (by decide) (fun c92 => ?_) (fun c92 => ?_)
          · skip
            refine v_aload_n X dX1_remove_105 (i := 0) rfl rfl ?_
            refine v_cvB X rfl yv_X1_startAgainBehindLast m_ml_X1_38 0 0 (c_X1_startAgainBehindLast l g N o (upd (shK σ k j) 0 (((shK σ k j) 0) - (1 : Int32))) ) hB (Nat.le_of_ble_eq_true rfl) rfl (Nat.le_of_ble_eq_true rfl) rfl (L' := (chL g o (if (upd (shK σ k j) 0 (((shK σ k j) 0) - (1 : Int32))) 0 ≤ (upd (shK σ k j) 0 (((shK σ k j) 0) - (1 : Int32))) 1 then upd (upd (shK σ k j) 0 (((shK σ k j) 0) - (1 : Int32))) 1 0 else (upd (shK σ k j) 0 (((shK σ k j) 0) - (1 : Int32)))))) (rfl) rfl (Nat.le_of_ble_eq_true rfl) rfl rfl (Nat.le_of_ble_eq_true rfl) ⟨Nat.le_of_ble_eq_true rfl, Nat.le_of_ble_eq_true rfl⟩ ⟨Nat.le_of_ble_eq_true rfl, Nat.le_of_ble_eq_true rfl⟩ dX1_remove_106 rfl ?_
            exact v_vret X rfl dX1_remove_109 (rfl) (by subst hjC; rw [rmS_eqT hC hP hk hPC hC16 c92])
          · skip
            refine v_aload_n X dX1_remove_95 (i := 0) rfl rfl ?_
            refine v_dup X dX1_remove_96 rfl ?_
            refine v_getB X hB cf1 4 (Nat.le_of_ble_eq_true rfl) m_fl_X1_25 dX1_remove_97 0 (Nat.le_of_ble_eq_true rfl) rfl rfl ?_
            refine v_iconst X dX1_remove_100 (v := (1 : Int32)) (by decide) ?_
            refine v_isub X dX1_remove_101 ?_
            refine v_putB X hB cf1 4 (Nat.le_of_ble_eq_true rfl) rfl m_fl_X1_25 dX1_remove_102 0 (Nat.le_of_ble_eq_true rfl) rfl rfl rfl (Nat.le_of_ble_eq_true rfl) (L' := (chL g o (upd (upd (shK σ k j) 0 (((shK σ k j) 0) - (1 : Int32))) 1 (((upd (shK σ k j) 0 (((shK σ k j) 0) - (1 : Int32))) 1) - (1 : Int32))))) w_ch_0_place ?_
            refine v_aload_n X dX1_remove_105 (i := 0) rfl rfl ?_
            refine v_cvB X rfl yv_X1_startAgainBehindLast m_ml_X1_38 0 0 (c_X1_startAgainBehindLast l g N o (upd (upd (shK σ k j) 0 (((shK σ k j) 0) - (1 : Int32))) 1 (((upd (shK σ k j) 0 (((shK σ k j) 0) - (1 : Int32))) 1) - (1 : Int32))) ) hB (Nat.le_of_ble_eq_true rfl) rfl (Nat.le_of_ble_eq_true rfl) rfl (L' := (chL g o (if (upd (upd (shK σ k j) 0 (((shK σ k j) 0) - (1 : Int32))) 1 (((upd (shK σ k j) 0 (((shK σ k j) 0) - (1 : Int32))) 1) - (1 : Int32))) 0 ≤ (upd (upd (shK σ k j) 0 (((shK σ k j) 0) - (1 : Int32))) 1 (((upd (shK σ k j) 0 (((shK σ k j) 0) - (1 : Int32))) 1) - (1 : Int32))) 1 then upd (upd (upd (shK σ k j) 0 (((shK σ k j) 0) - (1 : Int32))) 1 (((upd (shK σ k j) 0 (((shK σ k j) 0) - (1 : Int32))) 1) - (1 : Int32))) 1 0 else (upd (upd (shK σ k j) 0 (((shK σ k j) 0) - (1 : Int32))) 1 (((upd (shK σ k j) 0 (((shK σ k j) 0) - (1 : Int32))) 1) - (1 : Int32)))))) (rfl) rfl (Nat.le_of_ble_eq_true rfl) rfl rfl (Nat.le_of_ble_eq_true rfl) ⟨Nat.le_of_ble_eq_true rfl, Nat.le_of_ble_eq_true rfl⟩ ⟨Nat.le_of_ble_eq_true rfl, Nat.le_of_ble_eq_true rfl⟩ dX1_remove_106 rfl ?_
            exact v_vret X rfl dX1_remove_109 (rfl) (by subst hjC; rw [rmS_eqF hC hP hk hPC hC16 c92])
        · skip
          have hjC : j + 1 < C := by
            rw [shK_lo (by omega), hC] at c18
            rw [nI_1] at c18
            exact lt_of_nI (by omega) (by omega) c18
          refine v_iload_n X dX1_remove_21 (i := 2) rfl rfl ?_
          refine v_iconst X dX1_remove_22 (v := (1 : Int32)) (by decide) ?_
          refine v_iadd X dX1_remove_23 ?_
          refine v_bipush X dX1_remove_24 (v := (16 : Int32)) (by decide) ?_
          refine v_icmp_ge X dX1_remove_26 (tgt := 77) (by decide) (fun c26 => ?_) (fun c26 => ?_)
          · skip
            rw [nI_1] at c26
            exact absurd (le_of_nI (a := 16) (by omega) (by omega) c26) (by omega)
          · skip
            refine v_aload_n X dX1_remove_29 (i := 0) rfl rfl ?_
            refine v_getB X hB cf1 0 (Nat.le_of_ble_eq_true rfl) m_fl_X1_9 dX1_remove_30 0 (Nat.le_of_ble_eq_true rfl) rfl rfl ?_
            refine v_iload_n X dX1_remove_33 (i := 2) rfl rfl ?_
            refine v_aload_n X dX1_remove_34 (i := 0) rfl rfl ?_
            refine v_getB X hB cf1 0 (Nat.le_of_ble_eq_true rfl) m_fl_X1_9 dX1_remove_35 0 (Nat.le_of_ble_eq_true rfl) rfl rfl ?_
            refine v_iload_n X dX1_remove_38 (i := 2) rfl rfl ?_
            refine v_iconst X dX1_remove_39 (v := (1 : Int32)) (by decide) ?_
            refine v_iadd X dX1_remove_40 ?_
            refine v_iald_vw (b := 56) (s' := 3) X hB dX1_remove_41 1 (Nat.le_of_ble_eq_true rfl) rfl (j + 1) (ix_add rfl rfl) (by omega) (Nat.le_of_ble_eq_true rfl) ?_
            refine v_iastB (n := 16) X hB dX1_remove_42 1 (Nat.le_of_ble_eq_true rfl) rfl j rfl (by omega) (Nat.le_of_ble_eq_true rfl) (L' := (chL g o (upd (shK σ k j) (56 + 3 * j) ((shK σ k j) (56 + 3 * (j + 1)))))) (w_ch_1 (by omega)) ?_
            refine v_aload_n X dX1_remove_43 (i := 0) rfl rfl ?_
            refine v_getB X hB cf1 1 (Nat.le_of_ble_eq_true rfl) m_fl_X1_15 dX1_remove_44 0 (Nat.le_of_ble_eq_true rfl) rfl rfl ?_
            refine v_iload_n X dX1_remove_47 (i := 2) rfl rfl ?_
            refine v_aload_n X dX1_remove_48 (i := 0) rfl rfl ?_
            refine v_getB X hB cf1 1 (Nat.le_of_ble_eq_true rfl) m_fl_X1_15 dX1_remove_49 0 (Nat.le_of_ble_eq_true rfl) rfl rfl ?_
            refine v_iload_n X dX1_remove_52 (i := 2) rfl rfl ?_
            refine v_iconst X dX1_remove_53 (v := (1 : Int32)) (by decide) ?_
            refine v_iadd X dX1_remove_54 ?_
            refine v_iald_vw (b := 57) (s' := 3) X hB dX1_remove_55 2 (Nat.le_of_ble_eq_true rfl) rfl (j + 1) (ix_add rfl rfl) (by omega) (Nat.le_of_ble_eq_true rfl) ?_
            refine v_iastB (n := 16) X hB dX1_remove_56 2 (Nat.le_of_ble_eq_true rfl) rfl j rfl (by omega) (Nat.le_of_ble_eq_true rfl) (L' := (chL g o (upd (upd (shK σ k j) (56 + 3 * j) ((shK σ k j) (56 + 3 * (j + 1)))) (57 + 3 * j) ((upd (shK σ k j) (56 + 3 * j) ((shK σ k j) (56 + 3 * (j + 1)))) (57 + 3 * (j + 1)))))) (w_ch_2 (by omega)) ?_
            refine v_aload_n X dX1_remove_57 (i := 0) rfl rfl ?_
            refine v_getB X hB cf1 2 (Nat.le_of_ble_eq_true rfl) m_fl_X1_18 dX1_remove_58 0 (Nat.le_of_ble_eq_true rfl) rfl rfl ?_
            refine v_iload_n X dX1_remove_61 (i := 2) rfl rfl ?_
            refine v_aload_n X dX1_remove_62 (i := 0) rfl rfl ?_
            refine v_getB X hB cf1 2 (Nat.le_of_ble_eq_true rfl) m_fl_X1_18 dX1_remove_63 0 (Nat.le_of_ble_eq_true rfl) rfl rfl ?_
            refine v_iload_n X dX1_remove_66 (i := 2) rfl rfl ?_
            refine v_iconst X dX1_remove_67 (v := (1 : Int32)) (by decide) ?_
            refine v_iadd X dX1_remove_68 ?_
            refine v_iald_vw (b := 58) (s' := 3) X hB dX1_remove_69 3 (Nat.le_of_ble_eq_true rfl) rfl (j + 1) (ix_add rfl rfl) (by omega) (Nat.le_of_ble_eq_true rfl) ?_
            refine v_iastB (n := 16) X hB dX1_remove_70 3 (Nat.le_of_ble_eq_true rfl) rfl j rfl (by omega) (Nat.le_of_ble_eq_true rfl) (L' := (chL g o (upd (upd (upd (shK σ k j) (56 + 3 * j) ((shK σ k j) (56 + 3 * (j + 1)))) (57 + 3 * j) ((upd (shK σ k j) (56 + 3 * j) ((shK σ k j) (56 + 3 * (j + 1)))) (57 + 3 * (j + 1)))) (58 + 3 * j) ((upd (upd (shK σ k j) (56 + 3 * j) ((shK σ k j) (56 + 3 * (j + 1)))) (57 + 3 * j) ((upd (shK σ k j) (56 + 3 * j) ((shK σ k j) (56 + 3 * (j + 1)))) (57 + 3 * (j + 1)))) (58 + 3 * (j + 1)))))) (w_ch_3 (by omega)) ?_
            refine v_iinc X dX1_remove_71 (v := nI (j + 1)) rfl (ix_inc rfl) (Nat.le_of_ble_eq_true rfl) rfl ?_
            refine v_goto X dX1_remove_74 (tgt := 11) (by decide) ?_
            exact V.cast (ih11 (j + 1) (by omega) hjC (by omega)) (rfl) (rfl) (by rw [← shK_st hkj]; rw [pk_un (by omega), pk_un (by omega), pk_un (by omega), shK_hi (by omega), shK_hi (by omega), shK_hi (by omega)])
    exact V.cast (LP11 _ k (Nat.le_refl _) hk (Nat.lt_succ_self _)) (rfl) (rfl) (by rw [shK_0])
  · skip
    exact absurd (has_nI hC hk hC16) c5
