/-! the loops over picks -/
/-- a gear's numbers are in order -/
def GV (σ : Nat → Int32) : Prop := ∃ C P : Nat, σ 0 = nI C ∧ σ 1 = nI P ∧ (P < C ∨ (C = 0 ∧ P = 0)) ∧ C ≤ 16
def LVd (σ ρ : Nat → Int32) : Prop := GV σ ∧ (∃ R : Nat, σ 7 = nI R ∧ R ≤ 20) ∧ ∃ lt : Nat, ρ 140 = nI lt ∧ lt < 20
def rsG' (σ : Nat → Int32) : Int32 := rsG σ (nt (σ 0)) (nt (σ 1))
def rsC' (σ : Nat → Int32) : Int32 := rsC σ (nt (σ 0)) (nt (σ 1))
def fly' (σ : Nat → Int32) : Int32 := flyN σ (nt (σ 1))
def mvS' (σ : Nat → Int32) : Nat → Int32 := mvS σ (nt (σ 0)) (nt (σ 1)) (nt (fly' σ))
def lmS' (σ : Nat → Int32) : Nat → Int32 := lmS σ (nt (σ 0)) (nt (σ 1)) (nt (fly' σ)) (nt (σ 7))
def lmR' (σ ρ : Nat → Int32) : Nat → Int32 := arR σ ρ ((nt (ρ 140) + 1) % 20) (nt (σ 1)) (nt (fly' σ))
def nsS' (σ : Nat → Int32) (r : Int32) : Nat → Int32 := nsS σ (nt (σ 1)) r
theorem nt_of {x : Int32} {k : Nat} (h : x = nI k) (hk : k < 2 ^ 31) : nt x = k := by rw [h]; exact nt_nI hk
theorem rsG'_eq {σ : Nat → Int32} {C P : Nat} (hC : σ 0 = nI C) (hP : σ 1 = nI P) (hC16 : C ≤ 16) (hPC : P < C ∨ (C = 0 ∧ P = 0)) : rsG' σ = rsG σ C P := by rw [rsG', nt_of hC (by omega), nt_of hP (by omega)]
theorem rsC'_eq {σ : Nat → Int32} {C P : Nat} (hC : σ 0 = nI C) (hP : σ 1 = nI P) (hC16 : C ≤ 16) (hPC : P < C ∨ (C = 0 ∧ P = 0)) : rsC' σ = rsC σ C P := by rw [rsC', nt_of hC (by omega), nt_of hP (by omega)]
/-- a pick that isn't stopped has its shuttle -/
theorem rsC_0 {σ : Nat → Int32} {C P : Nat} (h : rsC σ C P = 0) : ¬ C = 0 ∧ ∃ k, k < 5 ∧ flyN σ P = nI k := by
  unfold rsC at h
  by_cases h1 : C = 0
  · rw [if_pos h1] at h; exact absurd h (by decide)
  rw [if_neg h1] at h
  by_cases h2 : ¬ onS σ P 0 = -6 ∧ ¬ onS σ P 1 = -6
  · rw [if_pos h2] at h; exact absurd h (by decide)
  rw [if_neg h2] at h
  by_cases h3 : onS σ P 0 = -6 ∧ onS σ P 1 = -6
  · rw [if_pos h3] at h; exact absurd h (by decide)
  refine ⟨h1, ?_⟩
  unfold flyN
  by_cases h4 : onS σ P 0 = -6
  · rw [if_pos h4]
    exact onS_nI (fun q => h3 ⟨h4, q⟩)
  · rw [if_neg h4]
    exact onS_nI h4
theorem rsC_6 {σ : Nat → Int32} {C P : Nat} (h : ¬ rsC σ C P = 1) : ¬ C = 0 := fun q => h (by rw [rsC, if_pos q])
theorem rsG_0 {σ : Nat → Int32} {C P : Nat} (h : rsG σ C P = 0) : rsC σ C P = 0 := by
  unfold rsG at h
  by_cases h1 : C = 0
  · rw [if_pos h1] at h; exact absurd h (by decide)
  rw [if_neg h1] at h
  by_cases h2 : ¬ fbF σ 12 0 = -6
  · rw [if_pos h2] at h; exact absurd h (by decide)
  rw [if_neg h2] at h
  by_cases h3 : ¬ stf σ P = -6
  · rw [if_pos h3] at h; exact absurd h (by decide)
  rw [if_neg h3] at h
  exact h
theorem mvS_0 {σ : Nat → Int32} {C P k : Nat} (hk : k < 5) : mvS σ C P k 0 = σ 0 := mvS_o hk (by omega) (by omega)
theorem mvS_1 {σ : Nat → Int32} {C P k : Nat} : mvS σ C P k 1 = nI (goP P C) := pk_us
theorem goP_lt {P C : Nat} (h : P < C) : goP P C < C := by unfold goP; split <;> omega
theorem mvS'_eq {σ : Nat → Int32} {C P k : Nat} (hC : σ 0 = nI C) (hP : σ 1 = nI P) (hC16 : C ≤ 16) (hPC : P < C) (hk : k < 5) (hfl : flyN σ P = nI k) : mvS' σ = mvS σ C P k := by
  have hP' : nt (σ 1) = P := nt_of hP (by omega)
  rw [mvS', fly', hP', nt_of hC (by omega), nt_of hfl (by omega)]
theorem GV_mv {σ : Nat → Int32} {C P k : Nat} (hC : σ 0 = nI C) (hPC : P < C) (hC16 : C ≤ 16) (hk : k < 5) : GV (mvS σ C P k) := ⟨C, goP P C, (mvS_0 hk).trans hC, mvS_1, Or.inl (goP_lt hPC), hC16⟩
theorem lmS'_eq {σ : Nat → Int32} {C P k R : Nat} (hC : σ 0 = nI C) (hP : σ 1 = nI P) (hC16 : C ≤ 16) (hPC : P < C) (hk : k < 5) (hfl : flyN σ P = nI k) (hR : σ 7 = nI R) (hR20 : R ≤ 20) : lmS' σ = lmS σ C P k R := by
  have hP' : nt (σ 1) = P := nt_of hP (by omega)
  rw [lmS', fly', hP', nt_of hC (by omega), nt_of hfl (by omega), nt_of hR (by omega)]
theorem lmR'_eq {σ ρ : Nat → Int32} {C P k lt : Nat} (hP : σ 1 = nI P) (hC16 : C ≤ 16) (hPC : P < C) (hk : k < 5) (hfl : flyN σ P = nI k) (hlt : ρ 140 = nI lt) (hlt20 : lt < 20) : lmR' σ ρ = arR σ ρ ((lt + 1) % 20) P k := by
  have hP' : nt (σ 1) = P := nt_of hP (by omega)
  rw [lmR', fly', hP', nt_of hfl (by omega), nt_of hlt (by omega)]
theorem LV_lm {σ ρ : Nat → Int32} {C P k R lt : Nat} (hC : σ 0 = nI C) (hPC : P < C) (hC16 : C ≤ 16) (hk : k < 5) (hR : σ 7 = nI R) (hR20 : R ≤ 20) : LVd (lmS σ C P k R) (arR σ ρ ((lt + 1) % 20) P k) := by
  refine ⟨⟨C, goP P C, ?_, ?_, Or.inl (goP_lt hPC), hC16⟩, ?_, (lt + 1) % 20, ?_, Nat.mod_lt _ (by decide)⟩
  · rw [lmS, pk_un (by omega), pk_un (by omega), mvS_0 hk, arR2_o (by omega), hC]
  · rw [lmS, pk_un (by omega), pk_un (by omega), mvS_1]
  · by_cases h : R < 20
    · exact ⟨R + 1, by rw [lmS, pk_un (by omega), pk_un (by omega), mvS_o hk (by omega) (by omega), arR2, if_pos h, pk_us], by omega⟩
    · exact ⟨R, by rw [lmS, pk_un (by omega), pk_un (by omega), mvS_o hk (by omega) (by omega), arR2, if_neg h, hR], hR20⟩
  · have hm : (lt + 1) % 20 < 20 := Nat.mod_lt _ (by decide)
    rw [arR, pk_un (by omega), pk_un (by omega), pk_un (by omega), pk_un (by omega), pk_un (by omega), pk_un (by omega), pk_un (by omega), pk_us]
def wvS : Nat → (Nat → Int32) → Nat → Int32
  | 0, σ => σ
  | n + 1, σ => if rsG' σ = 0 then wvS n (lmS' σ) else nsS' σ (rsG' σ)
def wvR : Nat → (Nat → Int32) → (Nat → Int32) → Nat → Int32
  | 0, _, ρ => ρ
  | n + 1, σ, ρ => if rsG' σ = 0 then wvR n (lmS' σ) (lmR' σ ρ) else ρ
def wvC : Nat → Nat → (Nat → Int32) → Int32
  | 0, k, _ => nI k
  | n + 1, k, σ => if rsG' σ = 0 then wvC n (k + 1) (lmS' σ) else nI k
def plC : Nat → Nat → (Nat → Int32) → Int32
  | 0, k, _ => nI k
  | n + 1, k, φ => if rsG' φ = 0 then plC n (k + 1) (mvS' φ) else nI k
def plS : Nat → (Nat → Int32) → Nat → Int32
  | 0, φ => φ
  | n + 1, φ => if rsG' φ = 0 then plS n (mvS' φ) else φ
def feC : Nat → (Nat → Int32) → Int32
  | 0, _ => -6
  | n + 1, φ => if rsC' φ = 0 then feC n (mvS' φ) else if rsC' φ = 6 then fly' φ else -6
def feS : Nat → (Nat → Int32) → Nat → Int32
  | 0, φ => φ
  | n + 1, φ => if rsC' φ = 0 then feS n (mvS' φ) else φ
def rpC : Nat → (Nat → Int32) → (Nat → Int32) → Int32
  | 0, φ, σ => if stdB φ σ 5 = true then 1 else 0
  | n + 1, φ, σ => if rsG' φ = 0 then rpC n (mvS' φ) σ else 0
set_option maxRecDepth 100000 in
set_option maxHeartbeats 4000000 in
theorem c_X7_picksLeft (l : Launch) (g : Ge) (N o : Nat) (σ ρ : Nat → Int32) (S P : Nat → Nat → Int32) (φ κ τ π : Nat → Int32) (hv : GV σ) : Cb l g yX7_picksLeft (.code yX7_picksLeft cX7_picksLeft 2 (some .int)) 5 [.ref o] N o (xL g o σ ρ S P φ κ τ π) (some (.int (plC 200 0 σ))) (xL g o σ ρ S P (plS 200 σ) κ τ π) := by
  intro f hB0
  have hB : BB g N o 179 := hB0
  refine ct_of (own := RX7) [some (.ref o), none] (by decide +kernel) rfl rfl (Nat.le_of_ble_eq_true rfl) ?_
  intro vp ve vs vm va vb vt vc hnm X
  refine v_aload_n X dX7_picksLeft_0 (i := 0) rfl rfl ?_
  refine v_getB X hB cf7 4 (Nat.le_of_ble_eq_true rfl) m_fl_X7_30 dX7_picksLeft_1 0 (Nat.le_of_ble_eq_true rfl) rfl rfl ?_
  refine v_aload_n X dX7_picksLeft_4 (i := 0) rfl rfl ?_
  refine v_getB X hB cf7 0 (Nat.le_of_ble_eq_true rfl) m_fl_X7_12 dX7_picksLeft_5 0 (Nat.le_of_ble_eq_true rfl) rfl rfl ?_
  refine v_getB X hB cf4 0 (Nat.le_of_ble_eq_true rfl) m_fl_X7_56 dX7_picksLeft_8 1 (Nat.le_of_ble_eq_true rfl) rfl rfl ?_
  refine v_cvB2 X rfl yv_X3_copyFrom m_ml_X7_207 25 25 (c_X3_copyFrom l g N (o + 25) (o + 2) φ σ) hB (OB.of 25 2 hB rfl rfl (Nat.le_of_ble_eq_true rfl) (Or.inr (Nat.le_of_ble_eq_true rfl)) rfl rfl) (Nat.le_of_ble_eq_true rfl) rfl (Nat.le_of_ble_eq_true rfl) rfl (L' := (xL g o σ ρ S P σ κ τ π)) xL_fc rfl (Nat.le_of_ble_eq_true rfl) rfl rfl (Nat.le_of_ble_eq_true rfl) ⟨Nat.le_of_ble_eq_true rfl, Nat.le_of_ble_eq_true rfl⟩ ⟨Nat.le_of_ble_eq_true rfl, Nat.le_of_ble_eq_true rfl⟩ dX7_picksLeft_11 rfl ?_
  refine v_iconst X dX7_picksLeft_14 (v := (0 : Int32)) (by decide) ?_
  refine v_istore_n X dX7_picksLeft_15 (i := 1) rfl (Nat.le_of_ble_eq_true rfl) rfl ?_
  have LP16 : ∀ (n_ : Nat) (k : Nat) (φk : Nat → Int32), (k ≤ 200) → (GV φk) → (plC 200 0 σ = plC (200 - k) k φk) → (plS 200 σ = plS (200 - k) φk) → 200 - k < n_ → Vm vp l ve vs vm va vb vt vc g 5 2 N (some (.int (plC 200 0 σ))) (ovr f o (xL g o σ ρ S P (plS 200 σ) κ τ π)) (ovr f o (xL g o σ ρ S P φk κ τ π)) 16 [some (.ref o), some (.int (nI k))] [] := by
    intro n_
    induction n_ with
    | zero => intro k φk hk hvk hr hs hm_; exact absurd hm_ (Nat.not_lt_zero _)
    | succ n_ ih16 =>
      intro k φk hk hvk hr hs hm16
      refine v_iload_n X dX7_picksLeft_16 (i := 1) rfl rfl ?_
      refine v_sipush X dX7_picksLeft_17 (v := (200 : Int32)) (by decide) ?_
      refine v_icmp_ge X dX7_picksLeft_20 (tgt := 46) (by decide) (fun c20 => ?_) (fun c20 => ?_)
      · skip
        have hk2 : k = 200 := Nat.le_antisymm hk (le_of_nI (a := 200) (by omega) (by omega) c20)
        refine v_iload_n X dX7_picksLeft_46 (i := 1) rfl rfl ?_
        exact v_iret X rfl dX7_picksLeft_47 (by subst hk2; rw [hr]; rfl) (by subst hk2; rw [hs]; rfl)
      · skip
        have hk2 : k < 200 := lt_of_nI (b := 200) (by omega) (by omega) c20
        obtain ⟨C, P0, hC, hP, hPC, hC16⟩ := hvk
        obtain ⟨n1, h1⟩ : ∃ n1, 200 - k = n1 + 1 := ⟨200 - k - 1, by omega⟩
        refine v_aload_n X dX7_picksLeft_23 (i := 0) rfl rfl ?_
        refine v_getB X hB cf7 4 (Nat.le_of_ble_eq_true rfl) m_fl_X7_30 dX7_picksLeft_24 0 (Nat.le_of_ble_eq_true rfl) rfl rfl ?_
        refine v_cvB X rfl yv_X3_reasonToStop m_ml_X7_145 25 25 (c_X3_reasonToStop l g N (o + 25) φk C P0 hC hP hPC hC16) hB (Nat.le_of_ble_eq_true rfl) rfl (Nat.le_of_ble_eq_true rfl) rfl (L' := (xL g o σ ρ S P φk κ τ π)) (rfl) rfl (Nat.le_of_ble_eq_true rfl) rfl rfl (Nat.le_of_ble_eq_true rfl) ⟨Nat.le_of_ble_eq_true rfl, Nat.le_of_ble_eq_true rfl⟩ ⟨Nat.le_of_ble_eq_true rfl, Nat.le_of_ble_eq_true rfl⟩ dX7_picksLeft_27 rfl ?_
        refine v_if_ne X dX7_picksLeft_30 (tgt := 46) (by decide) (fun hz => ?_) (fun hz => ?_)
        · skip
          have hz2 : ¬ rsG' φk = 0 := fun z => hz ((rsG'_eq hC hP hC16 hPC).symm.trans z)
          refine v_iload_n X dX7_picksLeft_46 (i := 1) rfl rfl ?_
          exact v_iret X rfl dX7_picksLeft_47 (by rw [hr, h1, plC, if_neg hz2]) (by rw [hs, h1, plS, if_neg hz2])
        · skip
          have hz2 : rsG' φk = 0 := (rsG'_eq hC hP hC16 hPC).trans hz
          have h0 := rsG_0 hz
          obtain ⟨hC0, k9, hk9, hfl⟩ := rsC_0 h0
          have hPC1 : P0 < C := by omega
          refine v_aload_n X dX7_picksLeft_33 (i := 0) rfl rfl ?_
          refine v_getB X hB cf7 4 (Nat.le_of_ble_eq_true rfl) m_fl_X7_30 dX7_picksLeft_34 0 (Nat.le_of_ble_eq_true rfl) rfl rfl ?_
          refine v_cvB X rfl yv_X3_makePick m_ml_X7_211 25 25 (c_X3_makePick l g N (o + 25) φk C P0 hC hP hPC1 hC16 k9 hk9 hfl) hB (Nat.le_of_ble_eq_true rfl) rfl (Nat.le_of_ble_eq_true rfl) rfl (L' := (xL g o σ ρ S P (mvS φk C P0 k9) κ τ π)) (xL_fc) rfl (Nat.le_of_ble_eq_true rfl) rfl rfl (Nat.le_of_ble_eq_true rfl) ⟨Nat.le_of_ble_eq_true rfl, Nat.le_of_ble_eq_true rfl⟩ ⟨Nat.le_of_ble_eq_true rfl, Nat.le_of_ble_eq_true rfl⟩ dX7_picksLeft_37 rfl ?_
          refine v_iinc X dX7_picksLeft_40 (v := nI (k + 1)) rfl (ix_inc rfl) (Nat.le_of_ble_eq_true rfl) rfl ?_
          refine v_goto X dX7_picksLeft_43 (tgt := 16) (by decide) ?_
          exact ih16 (k + 1) (mvS φk C P0 k9) (by omega) (GV_mv hC hPC1 hC16 hk9) (by rw [hr, h1, plC, if_pos hz2, mvS'_eq hC hP hC16 hPC1 hk9 hfl]; congr 1; omega) (by rw [hs, h1, plS, if_pos hz2, mvS'_eq hC hP hC16 hPC1 hk9 hfl]; congr 1; omega) (by omega)
  exact LP16 _ 0 σ (Nat.zero_le _) hv rfl rfl (Nat.lt_succ_self _)
set_option maxRecDepth 100000 in
set_option maxHeartbeats 4000000 in
theorem c_X7_firstEmpty (l : Launch) (g : Ge) (N o : Nat) (σ ρ : Nat → Int32) (S P : Nat → Nat → Int32) (φ κ τ π : Nat → Int32) (hv : GV σ) : Cb l g yX7_firstEmpty (.code yX7_firstEmpty cX7_firstEmpty 3 (some .int)) 5 [.ref o] N o (xL g o σ ρ S P φ κ τ π) (some (.int (feC 999 σ))) (xL g o σ ρ S P (feS 999 σ) κ τ π) := by
  intro f hB0
  have hB : BB g N o 179 := hB0
  refine ct_of (own := RX7) [some (.ref o), none, none] (by decide +kernel) rfl rfl (Nat.le_of_ble_eq_true rfl) ?_
  intro vp ve vs vm va vb vt vc hnm X
  refine v_aload_n X dX7_firstEmpty_0 (i := 0) rfl rfl ?_
  refine v_getB X hB cf7 4 (Nat.le_of_ble_eq_true rfl) m_fl_X7_30 dX7_firstEmpty_1 0 (Nat.le_of_ble_eq_true rfl) rfl rfl ?_
  refine v_aload_n X dX7_firstEmpty_4 (i := 0) rfl rfl ?_
  refine v_getB X hB cf7 0 (Nat.le_of_ble_eq_true rfl) m_fl_X7_12 dX7_firstEmpty_5 0 (Nat.le_of_ble_eq_true rfl) rfl rfl ?_
  refine v_getB X hB cf4 0 (Nat.le_of_ble_eq_true rfl) m_fl_X7_56 dX7_firstEmpty_8 1 (Nat.le_of_ble_eq_true rfl) rfl rfl ?_
  refine v_cvB2 X rfl yv_X3_copyFrom m_ml_X7_207 25 25 (c_X3_copyFrom l g N (o + 25) (o + 2) φ σ) hB (OB.of 25 2 hB rfl rfl (Nat.le_of_ble_eq_true rfl) (Or.inr (Nat.le_of_ble_eq_true rfl)) rfl rfl) (Nat.le_of_ble_eq_true rfl) rfl (Nat.le_of_ble_eq_true rfl) rfl (L' := (xL g o σ ρ S P σ κ τ π)) xL_fc rfl (Nat.le_of_ble_eq_true rfl) rfl rfl (Nat.le_of_ble_eq_true rfl) ⟨Nat.le_of_ble_eq_true rfl, Nat.le_of_ble_eq_true rfl⟩ ⟨Nat.le_of_ble_eq_true rfl, Nat.le_of_ble_eq_true rfl⟩ dX7_firstEmpty_11 rfl ?_
  refine v_iconst X dX7_firstEmpty_14 (v := (0 : Int32)) (by decide) ?_
  refine v_istore_n X dX7_firstEmpty_15 (i := 1) rfl (Nat.le_of_ble_eq_true rfl) rfl ?_
  have LP16 : ∀ (n_ : Nat) (k : Nat) (φk : Nat → Int32), (k ≤ 999) → (GV φk) → (feC 999 σ = feC (999 - k) φk) → (feS 999 σ = feS (999 - k) φk) → 999 - k < n_ → Vm vp l ve vs vm va vb vt vc g 5 3 N (some (.int (feC 999 σ))) (ovr f o (xL g o σ ρ S P (feS 999 σ) κ τ π)) (ovr f o (xL g o σ ρ S P φk κ τ π)) 16 [some (.ref o), some (.int (nI k)), none] [] := by
    intro n_
    induction n_ with
    | zero => intro k φk hk hvk hr hs hm_; exact absurd hm_ (Nat.not_lt_zero _)
    | succ n_ ih16 =>
      intro k φk hk hvk hr hs hm16
      refine v_iload_n X dX7_firstEmpty_16 (i := 1) rfl rfl ?_
      refine v_sipush X dX7_firstEmpty_17 (v := (999 : Int32)) (by decide) ?_
      refine v_icmp_ge X dX7_firstEmpty_20 (tgt := 67) (by decide) (fun c20 => ?_) (fun c20 => ?_)
      · skip
        have hk2 : k = 999 := Nat.le_antisymm hk (le_of_nI (a := 999) (by omega) (by omega) c20)
        refine v_bipush X dX7_firstEmpty_67 (v := (-6 : Int32)) (by decide) ?_
        exact v_iret X rfl dX7_firstEmpty_69 (by subst hk2; rw [hr]; rfl) (by subst hk2; rw [hs]; rfl)
      · skip
        have hk2 : k < 999 := lt_of_nI (b := 999) (by omega) (by omega) c20
        obtain ⟨C, P0, hC, hP, hPC, hC16⟩ := hvk
        obtain ⟨n1, h1⟩ : ∃ n1, 999 - k = n1 + 1 := ⟨999 - k - 1, by omega⟩
        refine v_aload_n X dX7_firstEmpty_23 (i := 0) rfl rfl ?_
        refine v_getB X hB cf7 4 (Nat.le_of_ble_eq_true rfl) m_fl_X7_30 dX7_firstEmpty_24 0 (Nat.le_of_ble_eq_true rfl) rfl rfl ?_
        refine v_cvB X rfl yv_X3_reasonOfCardOrShuttle m_ml_X7_212 25 25 (c_X3_reasonOfCardOrShuttle l g N (o + 25) φk C P0 hC hP hPC hC16) hB (Nat.le_of_ble_eq_true rfl) rfl (Nat.le_of_ble_eq_true rfl) rfl (L' := (xL g o σ ρ S P φk κ τ π)) (rfl) rfl (Nat.le_of_ble_eq_true rfl) rfl rfl (Nat.le_of_ble_eq_true rfl) ⟨Nat.le_of_ble_eq_true rfl, Nat.le_of_ble_eq_true rfl⟩ ⟨Nat.le_of_ble_eq_true rfl, Nat.le_of_ble_eq_true rfl⟩ dX7_firstEmpty_27 rfl ?_
        refine v_istore_n X dX7_firstEmpty_30 (i := 2) rfl (Nat.le_of_ble_eq_true rfl) rfl ?_
        refine v_iload_n X dX7_firstEmpty_31 (i := 2) rfl rfl ?_
        refine v_if_eq X dX7_firstEmpty_32 (tgt := 54) (by decide) (fun hz => ?_) (fun hz => ?_)
        · skip
          have hz2 : rsC' φk = 0 := (rsC'_eq hC hP hC16 hPC).trans hz
          obtain ⟨hC0, k9, hk9, hfl⟩ := rsC_0 hz
          have hPC1 : P0 < C := by omega
          refine v_aload_n X dX7_firstEmpty_54 (i := 0) rfl rfl ?_
          refine v_getB X hB cf7 4 (Nat.le_of_ble_eq_true rfl) m_fl_X7_30 dX7_firstEmpty_55 0 (Nat.le_of_ble_eq_true rfl) rfl rfl ?_
          refine v_cvB X rfl yv_X3_makePick m_ml_X7_211 25 25 (c_X3_makePick l g N (o + 25) φk C P0 hC hP hPC1 hC16 k9 hk9 hfl) hB (Nat.le_of_ble_eq_true rfl) rfl (Nat.le_of_ble_eq_true rfl) rfl (L' := (xL g o σ ρ S P (mvS φk C P0 k9) κ τ π)) (xL_fc) rfl (Nat.le_of_ble_eq_true rfl) rfl rfl (Nat.le_of_ble_eq_true rfl) ⟨Nat.le_of_ble_eq_true rfl, Nat.le_of_ble_eq_true rfl⟩ ⟨Nat.le_of_ble_eq_true rfl, Nat.le_of_ble_eq_true rfl⟩ dX7_firstEmpty_58 rfl ?_
          refine v_iinc X dX7_firstEmpty_61 (v := nI (k + 1)) rfl (ix_inc rfl) (Nat.le_of_ble_eq_true rfl) rfl ?_
          refine v_goto X dX7_firstEmpty_64 (tgt := 16) (by decide) ?_
          refine v_drop 2 ?_
          exact ih16 (k + 1) (mvS φk C P0 k9) (by omega) (GV_mv hC hPC1 hC16 hk9) (by rw [hr, h1, feC, if_pos hz2, mvS'_eq hC hP hC16 hPC1 hk9 hfl]; congr 1; omega) (by rw [hs, h1, feS, if_pos hz2, mvS'_eq hC hP hC16 hPC1 hk9 hfl]; congr 1; omega) (by omega)
        · skip
          have hz2 : ¬ rsC' φk = 0 := fun z => hz ((rsC'_eq hC hP hC16 hPC).symm.trans z)
          refine v_iload_n X dX7_firstEmpty_35 (i := 2) rfl rfl ?_
          refine v_bipush X dX7_firstEmpty_36 (v := (6 : Int32)) (by decide) ?_
          refine v_icmp_ne X dX7_firstEmpty_38 (tgt := 51) (by decide) (fun c38 => ?_) (fun c38 => ?_)
          · skip
            refine v_bipush X dX7_firstEmpty_51 (v := (-6 : Int32)) (by decide) ?_
            exact v_iret X rfl dX7_firstEmpty_53 (by rw [hr, h1, feC, if_neg hz2, rsC'_eq hC hP hC16 hPC, if_neg c38]) (by rw [hs, h1, feS, if_neg hz2])
          · skip
            have hC0 := rsC_6 (C := C) (fun z => absurd (z.symm.trans c38) (by decide))
            have hPC1 : P0 < C := by omega
            refine v_aload_n X dX7_firstEmpty_41 (i := 0) rfl rfl ?_
            refine v_getB X hB cf7 4 (Nat.le_of_ble_eq_true rfl) m_fl_X7_30 dX7_firstEmpty_42 0 (Nat.le_of_ble_eq_true rfl) rfl rfl ?_
            refine v_cvB X rfl yv_X3_flyingShuttle m_ml_X7_215 25 25 (c_X3_flyingShuttle l g N (o + 25) φk C P0 hC hP hPC1 hC16) hB (Nat.le_of_ble_eq_true rfl) rfl (Nat.le_of_ble_eq_true rfl) rfl (L' := (xL g o σ ρ S P φk κ τ π)) (rfl) rfl (Nat.le_of_ble_eq_true rfl) rfl rfl (Nat.le_of_ble_eq_true rfl) ⟨Nat.le_of_ble_eq_true rfl, Nat.le_of_ble_eq_true rfl⟩ ⟨Nat.le_of_ble_eq_true rfl, Nat.le_of_ble_eq_true rfl⟩ dX7_firstEmpty_45 rfl ?_
            refine v_goto X dX7_firstEmpty_48 (tgt := 53) (by decide) ?_
            exact v_iret X rfl dX7_firstEmpty_53 (by rw [hr, h1, feC, if_neg hz2, rsC'_eq hC hP hC16 hPC, if_pos c38, fly', nt_of hP (by omega)]) (by rw [hs, h1, feS, if_neg hz2])
  exact LP16 _ 0 σ (Nat.zero_le _) hv rfl rfl (Nat.lt_succ_self _)
set_option maxRecDepth 100000 in
set_option maxHeartbeats 4000000 in
theorem c_X7_repeats (l : Launch) (g : Ge) (N o : Nat) (σ ρ : Nat → Int32) (S P : Nat → Nat → Int32) (φ κ τ π : Nat → Int32) (C0 : Nat) (hC0 : σ 0 = nI C0) (hC016 : C0 ≤ 16) : Cb l g yX7_repeats (.code yX7_repeats cX7_repeats 3 (some .int)) 5 [.ref o] N o (xL g o σ ρ S P φ κ τ π) (some (.int (if C0 = 0 then (0 : Int32) else rpC C0 (upd σ 1 0) σ))) (xL g o σ ρ S P (if C0 = 0 then φ else plS C0 (upd σ 1 0)) κ τ π) := by
  intro f hB0
  have hB : BB g N o 179 := hB0
  refine ct_of (own := RX7) [some (.ref o), none, none] (by decide +kernel) rfl rfl (Nat.le_of_ble_eq_true rfl) ?_
  intro vp ve vs vm va vb vt vc hnm X
  refine v_aload_n X dX7_repeats_0 (i := 0) rfl rfl ?_
  refine v_getB X hB cf7 0 (Nat.le_of_ble_eq_true rfl) m_fl_X7_12 dX7_repeats_1 0 (Nat.le_of_ble_eq_true rfl) rfl rfl ?_
  refine v_getB X hB cf4 0 (Nat.le_of_ble_eq_true rfl) m_fl_X7_56 dX7_repeats_4 1 (Nat.le_of_ble_eq_true rfl) rfl rfl ?_
  refine v_getB X hB cf3 2 (Nat.le_of_ble_eq_true rfl) m_fl_X7_121 dX7_repeats_7 2 (Nat.le_of_ble_eq_true rfl) rfl rfl ?_
  refine v_getB X hB cf1 3 (Nat.le_of_ble_eq_true rfl) m_fl_X7_125 dX7_repeats_10 11 (Nat.le_of_ble_eq_true rfl) rfl rfl ?_
  refine v_istore_n X dX7_repeats_13 (i := 1) rfl (Nat.le_of_ble_eq_true rfl) rfl ?_
  refine v_iload_n X dX7_repeats_14 (i := 1) rfl rfl ?_
  refine v_if_ne X dX7_repeats_15 (tgt := 20) (by decide) (fun c15 => ?_) (fun c15 => ?_)
  · skip
    have hz0 : ¬ C0 = 0 := fun z => c15 (by rw [hC0, z]; rfl)
    refine v_aload_n X dX7_repeats_20 (i := 0) rfl rfl ?_
    refine v_getB X hB cf7 4 (Nat.le_of_ble_eq_true rfl) m_fl_X7_30 dX7_repeats_21 0 (Nat.le_of_ble_eq_true rfl) rfl rfl ?_
    refine v_aload_n X dX7_repeats_24 (i := 0) rfl rfl ?_
    refine v_getB X hB cf7 0 (Nat.le_of_ble_eq_true rfl) m_fl_X7_12 dX7_repeats_25 0 (Nat.le_of_ble_eq_true rfl) rfl rfl ?_
    refine v_getB X hB cf4 0 (Nat.le_of_ble_eq_true rfl) m_fl_X7_56 dX7_repeats_28 1 (Nat.le_of_ble_eq_true rfl) rfl rfl ?_
    refine v_cvB2 X rfl yv_X3_copyFrom m_ml_X7_207 25 25 (c_X3_copyFrom l g N (o + 25) (o + 2) φ σ) hB (OB.of 25 2 hB rfl rfl (Nat.le_of_ble_eq_true rfl) (Or.inr (Nat.le_of_ble_eq_true rfl)) rfl rfl) (Nat.le_of_ble_eq_true rfl) rfl (Nat.le_of_ble_eq_true rfl) rfl (L' := (xL g o σ ρ S P σ κ τ π)) xL_fc rfl (Nat.le_of_ble_eq_true rfl) rfl rfl (Nat.le_of_ble_eq_true rfl) ⟨Nat.le_of_ble_eq_true rfl, Nat.le_of_ble_eq_true rfl⟩ ⟨Nat.le_of_ble_eq_true rfl, Nat.le_of_ble_eq_true rfl⟩ dX7_repeats_31 rfl ?_
    refine v_aload_n X dX7_repeats_34 (i := 0) rfl rfl ?_
    refine v_getB X hB cf7 4 (Nat.le_of_ble_eq_true rfl) m_fl_X7_30 dX7_repeats_35 0 (Nat.le_of_ble_eq_true rfl) rfl rfl ?_
    refine v_getB X hB cf3 2 (Nat.le_of_ble_eq_true rfl) m_fl_X7_121 dX7_repeats_38 25 (Nat.le_of_ble_eq_true rfl) rfl rfl ?_
    refine v_iconst X dX7_repeats_41 (v := (0 : Int32)) (by decide) ?_
    refine v_putB X hB cf1 4 (Nat.le_of_ble_eq_true rfl) rfl m_fl_X7_140 dX7_repeats_42 34 (Nat.le_of_ble_eq_true rfl) rfl rfl rfl (Nat.le_of_ble_eq_true rfl) (L' := (xL g o σ ρ S P (upd σ 1 (0 : Int32)) κ τ π)) w_x_34_place ?_
    refine v_iconst X dX7_repeats_45 (v := (0 : Int32)) (by decide) ?_
    refine v_istore_n X dX7_repeats_46 (i := 2) rfl (Nat.le_of_ble_eq_true rfl) rfl ?_
    have LP47 : ∀ (n_ : Nat) (k : Nat) (φk : Nat → Int32), (k ≤ C0) → (GV φk) → (rpC C0 (upd σ 1 0) σ = rpC (C0 - k) φk σ) → (plS C0 (upd σ 1 0) = plS (C0 - k) φk) → C0 - k < n_ → Vm vp l ve vs vm va vb vt vc g 5 3 N (some (.int (if C0 = 0 then (0 : Int32) else rpC C0 (upd σ 1 0) σ))) (ovr f o (xL g o σ ρ S P (if C0 = 0 then φ else plS C0 (upd σ 1 0)) κ τ π)) (ovr f o (xL g o σ ρ S P φk κ τ π)) 47 [some (.ref o), some (.int (σ 0)), some (.int (nI k))] [] := by
      intro n_
      induction n_ with
      | zero => intro k φk hk hvk hr hs hm_; exact absurd hm_ (Nat.not_lt_zero _)
      | succ n_ ih47 =>
        intro k φk hk hvk hr hs hm47
        refine v_iload_n X dX7_repeats_47 (i := 2) rfl rfl ?_
        refine v_iload_n X dX7_repeats_48 (i := 1) rfl rfl ?_
        refine v_icmp_ge X dX7_repeats_49 (tgt := 77) (by decide) (fun c49 => ?_) (fun c49 => ?_)
        · skip
          have hk2 : k = C0 := Nat.le_antisymm hk (le_of_nI (by omega) (by omega) (by rw [← hC0]; exact c49))
          subst hk2
          rw [Nat.sub_self] at hr hs
          refine v_aload_n X dX7_repeats_77 (i := 0) rfl rfl ?_
          refine v_getB X hB cf7 4 (Nat.le_of_ble_eq_true rfl) m_fl_X7_30 dX7_repeats_78 0 (Nat.le_of_ble_eq_true rfl) rfl rfl ?_
          refine v_getB X hB cf3 0 (Nat.le_of_ble_eq_true rfl) m_fl_X7_59 dX7_repeats_81 25 (Nat.le_of_ble_eq_true rfl) rfl rfl ?_
          refine v_aload_n X dX7_repeats_84 (i := 0) rfl rfl ?_
          refine v_getB X hB cf7 0 (Nat.le_of_ble_eq_true rfl) m_fl_X7_12 dX7_repeats_85 0 (Nat.le_of_ble_eq_true rfl) rfl rfl ?_
          refine v_getB X hB cf4 0 (Nat.le_of_ble_eq_true rfl) m_fl_X7_56 dX7_repeats_88 1 (Nat.le_of_ble_eq_true rfl) rfl rfl ?_
          refine v_getB X hB cf3 0 (Nat.le_of_ble_eq_true rfl) m_fl_X7_59 dX7_repeats_91 2 (Nat.le_of_ble_eq_true rfl) rfl rfl ?_
          refine v_cvB2 X rfl yv_X5_standAs m_ml_X7_218 26 26 (c_X5_standAs l g N (o + 26) (o + 3) φk σ ) hB (OB.of 26 3 hB rfl rfl (Nat.le_of_ble_eq_true rfl) (Or.inr (Nat.le_of_ble_eq_true rfl)) rfl rfl) (Nat.le_of_ble_eq_true rfl) rfl (Nat.le_of_ble_eq_true rfl) rfl (L' := (xL g o σ ρ S P φk κ τ π)) (rfl) rfl (Nat.le_of_ble_eq_true rfl) rfl rfl (Nat.le_of_ble_eq_true rfl) ⟨Nat.le_of_ble_eq_true rfl, Nat.le_of_ble_eq_true rfl⟩ ⟨Nat.le_of_ble_eq_true rfl, Nat.le_of_ble_eq_true rfl⟩ dX7_repeats_94 rfl ?_
          refine v_if_eqB X dX7_repeats_97 (tgt := 104) (by decide) (fun c97 => ?_) (fun c97 => ?_)
          · skip
            refine v_iconst X dX7_repeats_104 (v := (0 : Int32)) (by decide) ?_
            exact v_iret X rfl dX7_repeats_105 (by rw [if_neg hz0, hr, rpC, if_neg c97]) (by rw [if_neg hz0, hs]; rfl)
          · skip
            refine v_iconst X dX7_repeats_100 (v := (1 : Int32)) (by decide) ?_
            refine v_goto X dX7_repeats_101 (tgt := 105) (by decide) ?_
            exact v_iret X rfl dX7_repeats_105 (by rw [if_neg hz0, hr, rpC, if_pos c97]) (by rw [if_neg hz0, hs]; rfl)
        · skip
          have hk2 : k < C0 := lt_of_nI (by omega) (by omega) (by rw [← hC0]; exact c49)
          obtain ⟨C, P0, hC, hP, hPC, hC16⟩ := hvk
          obtain ⟨n1, h1⟩ : ∃ n1, C0 - k = n1 + 1 := ⟨C0 - k - 1, by omega⟩
          refine v_aload_n X dX7_repeats_52 (i := 0) rfl rfl ?_
          refine v_getB X hB cf7 4 (Nat.le_of_ble_eq_true rfl) m_fl_X7_30 dX7_repeats_53 0 (Nat.le_of_ble_eq_true rfl) rfl rfl ?_
          refine v_cvB X rfl yv_X3_reasonToStop m_ml_X7_145 25 25 (c_X3_reasonToStop l g N (o + 25) φk C P0 hC hP hPC hC16) hB (Nat.le_of_ble_eq_true rfl) rfl (Nat.le_of_ble_eq_true rfl) rfl (L' := (xL g o σ ρ S P φk κ τ π)) (rfl) rfl (Nat.le_of_ble_eq_true rfl) rfl rfl (Nat.le_of_ble_eq_true rfl) ⟨Nat.le_of_ble_eq_true rfl, Nat.le_of_ble_eq_true rfl⟩ ⟨Nat.le_of_ble_eq_true rfl, Nat.le_of_ble_eq_true rfl⟩ dX7_repeats_56 rfl ?_
          refine v_if_eq X dX7_repeats_59 (tgt := 64) (by decide) (fun hz => ?_) (fun hz => ?_)
          · skip
            have hz2 : rsG' φk = 0 := (rsG'_eq hC hP hC16 hPC).trans hz
            have h0 := rsG_0 hz
            obtain ⟨hC9, k9, hk9, hfl⟩ := rsC_0 h0
            have hPC1 : P0 < C := by omega
            refine v_aload_n X dX7_repeats_64 (i := 0) rfl rfl ?_
            refine v_getB X hB cf7 4 (Nat.le_of_ble_eq_true rfl) m_fl_X7_30 dX7_repeats_65 0 (Nat.le_of_ble_eq_true rfl) rfl rfl ?_
            refine v_cvB X rfl yv_X3_makePick m_ml_X7_211 25 25 (c_X3_makePick l g N (o + 25) φk C P0 hC hP hPC1 hC16 k9 hk9 hfl) hB (Nat.le_of_ble_eq_true rfl) rfl (Nat.le_of_ble_eq_true rfl) rfl (L' := (xL g o σ ρ S P (mvS φk C P0 k9) κ τ π)) (xL_fc) rfl (Nat.le_of_ble_eq_true rfl) rfl rfl (Nat.le_of_ble_eq_true rfl) ⟨Nat.le_of_ble_eq_true rfl, Nat.le_of_ble_eq_true rfl⟩ ⟨Nat.le_of_ble_eq_true rfl, Nat.le_of_ble_eq_true rfl⟩ dX7_repeats_68 rfl ?_
            refine v_iinc X dX7_repeats_71 (v := nI (k + 1)) rfl (ix_inc rfl) (Nat.le_of_ble_eq_true rfl) rfl ?_
            refine v_goto X dX7_repeats_74 (tgt := 47) (by decide) ?_
            exact ih47 (k + 1) (mvS φk C P0 k9) (by omega) (GV_mv hC hPC1 hC16 hk9) (by rw [hr, h1, rpC, if_pos hz2, mvS'_eq hC hP hC16 hPC1 hk9 hfl]; congr 1; omega) (by rw [hs, h1, plS, if_pos hz2, mvS'_eq hC hP hC16 hPC1 hk9 hfl]; congr 1; omega) (by omega)
          · skip
            have hz2 : ¬ rsG' φk = 0 := fun z => hz ((rsG'_eq hC hP hC16 hPC).symm.trans z)
            refine v_iconst X dX7_repeats_62 (v := (0 : Int32)) (by decide) ?_
            exact v_iret X rfl dX7_repeats_63 (by rw [if_neg hz0, hr, h1, rpC, if_neg hz2]) (by rw [if_neg hz0, hs, h1, plS, if_neg hz2])
    exact LP47 _ 0 (upd σ 1 0) (Nat.zero_le _) (⟨C0, 0, (pk_un (by omega)).trans hC0, pk_us, by omega, hC016⟩) rfl rfl (Nat.lt_succ_self _)
  · skip
    have hz0 : C0 = 0 := by
      rw [hC0] at c15
      rcases Nat.eq_zero_or_pos C0 with z | z
      · exact z
      · exact absurd c15 (nI_ne0 z (by omega))
    refine v_iconst X dX7_repeats_18 (v := (0 : Int32)) (by decide) ?_
    exact v_iret X rfl dX7_repeats_19 (by rw [if_pos hz0]) (by rw [if_pos hz0])
