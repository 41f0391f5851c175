/-! the model class: how many picks are left -/
theorem nI_all {x : Int32} (h : 0 ≤ x) : ∃ k : Nat, k < 2 ^ 31 ∧ x = nI k := by
  obtain ⟨k, hk, e⟩ := nI_cases (n := 2147483647) (by omega) h (by
    rw [Int32.le_iff_toInt_le, nI_toInt (by omega)]
    have := Int32.toInt_lt x
    omega)
  exact ⟨k, by omega, e⟩
theorem dec_nn {x : Int32} (h : 0 < x) : 0 ≤ x + -1 := by
  obtain ⟨k, hk, e⟩ := nI_all (Int32.le_of_lt h)
  subst e
  rcases Nat.eq_zero_or_pos k with z | z
  · subst z; exact absurd h (by decide)
  · rw [← sub1, show nI k - 1 = nI (k - 1) from pk_sub (b := 1) (by omega)]
    exact (nI_leI (a := 0) (by omega) (by omega)).mpr (Nat.zero_le _)
theorem rsC_y {μ : Nat → Int32} {C P k : Nat} (h : rsC μ C P = 0) (hk : k < 5) (hf : flyN μ P = nI k) : 0 < μ (13 + 4 * k) := by
  unfold rsC at h
  by_cases h1 : C = 0
  · rw [if_pos h1] at h; exact absurd h (by decide)
  rw [if_neg h1] at h
  by_cases h2 : ¬ onS μ P 0 = -6 ∧ ¬ onS μ P 1 = -6
  · rw [if_pos h2] at h; exact absurd h (by decide)
  rw [if_neg h2] at h
  by_cases h3 : onS μ P 0 = -6 ∧ onS μ P 1 = -6
  · rw [if_pos h3] at h; exact absurd h (by decide)
  rw [if_neg h3, hf, show (nI k).toNatClampNeg = k from nI_clamp (by omega)] at h
  by_cases h4 : 0 < μ (13 + 4 * k)
  · exact h4
  · rw [if_neg h4] at h; exact absurd h (by decide)
theorem YN_mv {μ : Nat → Int32} {C P k : Nat} (hY : YN μ) (h : rsC μ C P = 0) (hk : k < 5) (hf : flyN μ P = nI k) : YN (mvS μ C P k) := by
  intro j hj
  rw [mv_yn hk hj]
  by_cases e : j = k
  · rw [if_pos e]; exact dec_nn (rsC_y h hk hf)
  · rw [if_neg e]; exact hY j hj
theorem fly_01 {μ : Nat → Int32} {C P k : Nat} (h : rsC μ C P = 0) (hk : k < 5) (hf : flyN μ P = nI k) : μ (14 + 4 * k) = 0 ∨ μ (14 + 4 * k) = 1 := (fly_sd h hk hf).imp (fun q => q.1) (fun q => q.1)
theorem ιRR {ι : Nat → Int32} {a b c d : Int32} : ιR (ιR ι a b) c d = ιR ι c d := by
  funext i
  unfold ιR
  by_cases e : i = 3
  · subst e; rw [pk_us, pk_us]
  · rw [pk_un e, pk_un e]
    by_cases e2 : i = 2
    · subst e2; rw [pk_us, pk_us]
    · rw [pk_un e2, pk_un e2, pk_un e, pk_un e2]
def rnM' (σ : Nat → Int32) : Int32 := rnM σ (nt (σ 1)) (rsG' σ)
def ιG (ι σ : Nat → Int32) : Nat → Int32 := ιR ι (rsG' σ) (rnM' σ)
theorem ιG_eq {ι σ : Nat → Int32} {C P : Nat} (hC : σ 0 = nI C) (hP : σ 1 = nI P) (hPC : P < C ∨ (C = 0 ∧ P = 0)) (hC16 : C ≤ 16) : ιR ι (rsG σ C P) (rnM σ P (rsG σ C P)) = ιG ι σ := by
  rw [ιG, rnM', rsG'_eq hC hP hC16 hPC, nt_of hP (by omega)]
theorem ιG_2 {ι σ : Nat → Int32} : ιG ι σ 2 = rsG' σ := by rw [ιG, ιR, pk_un (by omega), pk_us]
theorem ιG_3 {ι σ : Nat → Int32} {P k : Nat} (hP : σ 1 = nI P) (hP16 : P < 16) (h : rsG' σ = 0) (hf : flyN σ P = nI k) : ιG ι σ 3 = nI k := by
  rw [ιG, ιR, pk_us, rnM', h, rnM, if_pos rfl, nt_of hP (by omega), hf]
theorem ιG_G {ι σ φ : Nat → Int32} {C P : Nat} (g : GC C P σ) : ιR (ιG ι φ) (rsG σ C P) (rnM σ P (rsG σ C P)) = ιG ι σ := by
  rw [← ιG_eq g.1 g.2.1 g.2.2.1 g.2.2.2, ιG, ιRR]
/-- what is copied away and back again comes back -/
theorem cp_back {a φ kp : Nat → Int32} (h : ∀ i, 104 ≤ i → φ i = a i) : cpA (cpA a 0 kp 0 284) 0 φ 0 284 = a := by
  funext i
  rw [cpA]
  by_cases e : 0 ≤ i ∧ i < 0 + 284
  · rw [if_pos e, cpA, if_pos (by omega)]
    congr 1; omega
  · rw [if_neg e]; exact h i (by omega)
set_option maxRecDepth 100000 in
set_option maxHeartbeats 4000000 in
theorem c_X8_left (l : Launch) (g : Ge) (N o : Nat) (μ kp hs tx ι : Nat → Int32) (hv : GV μ) (hU : UN μ) (hY : YN μ) : Cb l g yX8_left (.code yX8_left cX8_left 2 (some .int)) 3 [.ref o] N o (mdL g o μ kp hs tx ι) (some (.int (plC 200 0 μ))) (mdL g o μ (cpA μ 0 kp 0 284) hs tx (ιG ι (plS 200 μ))) := by
  intro f hB0
  have hB : BB g N o 5 := hB0
  obtain ⟨C9, P9, hC9, hP9, hPC9, hC169⟩ := id hv
  refine ct_of (own := RX8) [some (.ref o), none] (by decide +kernel) rfl rfl (Nat.le_of_ble_eq_true rfl) ?_
  intro vp ve vs vm va vb vt vc hnm X
  refine v_aload_n X dX8_left_0 (i := 0) rfl rfl ?_
  refine v_getB X hB cf8 0 (Nat.le_of_ble_eq_true rfl) m_fl_X8_7 dX8_left_1 0 (Nat.le_of_ble_eq_true rfl) rfl rfl ?_
  refine v_iconst X dX8_left_4 (v := (0 : Int32)) (by decide) ?_
  refine v_aload_n X dX8_left_5 (i := 0) rfl rfl ?_
  refine v_getB X hB cf8 1 (Nat.le_of_ble_eq_true rfl) m_fl_X8_13 dX8_left_6 0 (Nat.le_of_ble_eq_true rfl) rfl rfl ?_
  refine v_iconst X dX8_left_9 (v := (0 : Int32)) (by decide) ?_
  refine v_csB X rfl yv_X8_copies m_ml_X8_33 0 (c_X8_copies_sk l g N o μ kp hs tx ι ) hB (Nat.le_of_ble_eq_true rfl) rfl (Nat.le_of_ble_eq_true rfl) rfl (L' := (mdL g o μ (cpA μ 0 kp 0 284) hs tx ι)) (rfl) rfl rfl (Nat.le_of_ble_eq_true rfl) ⟨Nat.le_of_ble_eq_true rfl, Nat.le_of_ble_eq_true rfl⟩ ⟨Nat.le_of_ble_eq_true rfl, Nat.le_of_ble_eq_true rfl⟩ dX8_left_10 rfl ?_
  refine v_iconst X dX8_left_13 (v := (0 : Int32)) (by decide) ?_
  refine v_istore_n X dX8_left_14 (i := 1) rfl (Nat.le_of_ble_eq_true rfl) rfl ?_
  refine v_aload_n X dX8_left_15 (i := 0) rfl rfl ?_
  refine v_iconst X dX8_left_16 (v := (1 : Int32)) (by decide) ?_
  refine v_cvB X rfl yv_X8_findReason m_ml_X8_79 0 0 (c_X8_findReason_1 l g N o μ (cpA μ 0 kp 0 284) hs tx ι C9 P9 hC9 hP9 hPC9 hC169 hU hY) hB (Nat.le_of_ble_eq_true rfl) rfl (Nat.le_of_ble_eq_true rfl) rfl (L' := (mdL g o μ (cpA μ 0 kp 0 284) hs tx (ιR ι (rsG μ C9 P9) (rnM μ P9 (rsG μ C9 P9))))) (rfl) rfl (Nat.le_of_ble_eq_true rfl) rfl rfl (Nat.le_of_ble_eq_true rfl) ⟨Nat.le_of_ble_eq_true rfl, Nat.le_of_ble_eq_true rfl⟩ ⟨Nat.le_of_ble_eq_true rfl, Nat.le_of_ble_eq_true rfl⟩ dX8_left_17 rfl ?_
  refine V.cast (f' := ovr f o (mdL g o μ (cpA μ 0 kp 0 284) hs tx (ιG ι μ))) ?_ rfl rfl (congrArg (fun z => ovr f o (mdL g o μ (cpA μ 0 kp 0 284) hs tx z)) (ιG_eq hC9 hP9 hPC9 hC169))
  have LP20 : ∀ (n_ : Nat) (k : Nat) (φk : Nat → Int32) (ιk : Nat → Int32), (ιk = ιG ι φk) → (k ≤ 200) → (GV φk) → (UN φk) → (YN φk) → (∀ i, 104 ≤ i → φk i = μ i) → (plC 200 0 μ = plC (200 - k) k φk) → (plS 200 μ = plS (200 - k) φk) → 200 - k < n_ → Vm vp l ve vs vm va vb vt vc g 3 2 N (some (.int (plC 200 0 μ))) (ovr f o (mdL g o μ (cpA μ 0 kp 0 284) hs tx (ιG ι (plS 200 μ)))) (ovr f o (mdL g o φk (cpA μ 0 kp 0 284) hs tx ιk)) 20 [some (.ref o), some (.int (nI k))] [] := by
    intro n_
    induction n_ with
    | zero => intro k φk ιk hιk hk hvk hUk hYk hh hr hq hm_; exact absurd hm_ (Nat.not_lt_zero _)
    | succ n_ ih20 =>
      intro k φk ιk hιk hk hvk hUk hYk hh hr hq hm20
      refine v_iload_n X dX8_left_20 (i := 1) rfl rfl ?_
      refine v_sipush X dX8_left_21 (v := (200 : Int32)) (by decide) ?_
      refine v_icmp_ge X dX8_left_24 (tgt := 49) (by decide) (fun c24 => ?_) (fun c24 => ?_)
      · skip
        have hk2 : k = 200 := Nat.le_antisymm hk (le_of_nI (a := 200) (by omega) (by omega) c24)
        refine v_aload_n X dX8_left_49 (i := 0) rfl rfl ?_
        refine v_getB X hB cf8 1 (Nat.le_of_ble_eq_true rfl) m_fl_X8_13 dX8_left_50 0 (Nat.le_of_ble_eq_true rfl) rfl rfl ?_
        refine v_iconst X dX8_left_53 (v := (0 : Int32)) (by decide) ?_
        refine v_aload_n X dX8_left_54 (i := 0) rfl rfl ?_
        refine v_getB X hB cf8 0 (Nat.le_of_ble_eq_true rfl) m_fl_X8_7 dX8_left_55 0 (Nat.le_of_ble_eq_true rfl) rfl rfl ?_
        refine v_iconst X dX8_left_58 (v := (0 : Int32)) (by decide) ?_
        refine v_csB X rfl yv_X8_copies m_ml_X8_33 0 (c_X8_copies_ks l g N o φk (cpA μ 0 kp 0 284) hs tx ιk ) hB (Nat.le_of_ble_eq_true rfl) rfl (Nat.le_of_ble_eq_true rfl) rfl (L' := (mdL g o (cpA (cpA μ 0 kp 0 284) 0 φk 0 284) (cpA μ 0 kp 0 284) hs tx ιk)) (rfl) rfl rfl (Nat.le_of_ble_eq_true rfl) ⟨Nat.le_of_ble_eq_true rfl, Nat.le_of_ble_eq_true rfl⟩ ⟨Nat.le_of_ble_eq_true rfl, Nat.le_of_ble_eq_true rfl⟩ dX8_left_59 rfl ?_
        refine v_iload_n X dX8_left_62 (i := 1) rfl rfl ?_
        exact v_iret X rfl dX8_left_63 (by rw [hr, hk2, Nat.sub_self, plC]) (by rw [hq, hk2, Nat.sub_self, plS, cp_back hh, hιk])
      · skip
        have hk2 : k < 200 := lt_of_nI (b := 200) (by omega) (by omega) c24
        obtain ⟨C, P0, hC, hP, hPC, hC16⟩ := hvk
        obtain ⟨n1, h1⟩ : ∃ n1, 200 - k = n1 + 1 := ⟨200 - k - 1, by omega⟩
        refine v_aload_n X dX8_left_27 (i := 0) rfl rfl ?_
        refine v_getB X hB cf8 6 (Nat.le_of_ble_eq_true rfl) m_fl_X8_54 dX8_left_28 0 (Nat.le_of_ble_eq_true rfl) rfl rfl ?_
        refine v_if_ne X dX8_left_31 (tgt := 49) (by decide) (fun c31 => ?_) (fun c31 => ?_)
        · skip
          have hz2 : ¬ rsG' φk = 0 := fun z => c31 (by rw [hιk]; exact ιG_2.trans z)
          refine v_aload_n X dX8_left_49 (i := 0) rfl rfl ?_
          refine v_getB X hB cf8 1 (Nat.le_of_ble_eq_true rfl) m_fl_X8_13 dX8_left_50 0 (Nat.le_of_ble_eq_true rfl) rfl rfl ?_
          refine v_iconst X dX8_left_53 (v := (0 : Int32)) (by decide) ?_
          refine v_aload_n X dX8_left_54 (i := 0) rfl rfl ?_
          refine v_getB X hB cf8 0 (Nat.le_of_ble_eq_true rfl) m_fl_X8_7 dX8_left_55 0 (Nat.le_of_ble_eq_true rfl) rfl rfl ?_
          refine v_iconst X dX8_left_58 (v := (0 : Int32)) (by decide) ?_
          refine v_csB X rfl yv_X8_copies m_ml_X8_33 0 (c_X8_copies_ks l g N o φk (cpA μ 0 kp 0 284) hs tx ιk ) hB (Nat.le_of_ble_eq_true rfl) rfl (Nat.le_of_ble_eq_true rfl) rfl (L' := (mdL g o (cpA (cpA μ 0 kp 0 284) 0 φk 0 284) (cpA μ 0 kp 0 284) hs tx ιk)) (rfl) rfl rfl (Nat.le_of_ble_eq_true rfl) ⟨Nat.le_of_ble_eq_true rfl, Nat.le_of_ble_eq_true rfl⟩ ⟨Nat.le_of_ble_eq_true rfl, Nat.le_of_ble_eq_true rfl⟩ dX8_left_59 rfl ?_
          refine v_iload_n X dX8_left_62 (i := 1) rfl rfl ?_
          exact v_iret X rfl dX8_left_63 (by rw [hr, h1, plC, if_neg hz2]) (by rw [hq, h1, plS, if_neg hz2, cp_back hh, hιk])
        · skip
          have hz2 : rsG' φk = 0 := (ιG_2 (ι := ι)).symm.trans (by rw [← hιk]; exact c31)
          have h0 := rsG_0 ((rsG'_eq hC hP hC16 hPC).symm.trans hz2)
          obtain ⟨hC0, k9, hk9, hfl⟩ := rsC_0 h0
          have hPC1 : P0 < C := by omega
          have h3 : ιk 3 = nI k9 := by rw [hιk]; exact ιG_3 hP (by omega) hz2 hfl
          have hsd := fly_01 h0 hk9 hfl
          refine v_aload_n X dX8_left_34 (i := 0) rfl rfl ?_
          refine v_cvB X rfl yv_X8_moves m_ml_X8_86 0 0 (c_X8_moves l g N o φk (cpA μ 0 kp 0 284) hs tx ιk C P0 k9 hC hP hPC1 hC16 hk9 h3 hsd) hB (Nat.le_of_ble_eq_true rfl) rfl (Nat.le_of_ble_eq_true rfl) rfl (L' := (mdL g o (mvS φk C P0 k9) (cpA μ 0 kp 0 284) hs tx ιk)) (rfl) rfl (Nat.le_of_ble_eq_true rfl) rfl rfl (Nat.le_of_ble_eq_true rfl) ⟨Nat.le_of_ble_eq_true rfl, Nat.le_of_ble_eq_true rfl⟩ ⟨Nat.le_of_ble_eq_true rfl, Nat.le_of_ble_eq_true rfl⟩ dX8_left_35 rfl ?_
          obtain ⟨φ2, P2, e2, g8, hU8, hY8, hh8⟩ : ∃ φ2 P2, mvS φk C P0 k9 = φ2 ∧ GC C P2 φ2 ∧ UN φ2 ∧ YN φ2 ∧ (∀ i, 104 ≤ i → φ2 i = μ i) := ⟨_, _, rfl, GC_mv ⟨hC, hP, hPC, hC16⟩ hPC1 hk9, UN_mv hUk h0 hk9 hfl, YN_mv hYk h0 hk9 hfl, fun i hi => (mvS_o hk9 (by omega) (by omega)).trans (hh i hi)⟩
          have hmv : mvS' φk = φ2 := (mvS'_eq hC hP hC16 hPC1 hk9 hfl).trans e2
          refine V.cast (f' := ovr f o (mdL g o φ2 (cpA μ 0 kp 0 284) hs tx ιk)) ?_ rfl rfl (congrArg (fun z => ovr f o (mdL g o z (cpA μ 0 kp 0 284) hs tx ιk)) e2)
          refine v_iinc X dX8_left_38 (v := nI (k + 1)) rfl (ix_inc rfl) (Nat.le_of_ble_eq_true rfl) rfl ?_
          refine v_aload_n X dX8_left_41 (i := 0) rfl rfl ?_
          refine v_iconst X dX8_left_42 (v := (1 : Int32)) (by decide) ?_
          refine v_cvB X rfl yv_X8_findReason m_ml_X8_79 0 0 (c_X8_findReason_1 l g N o φ2 (cpA μ 0 kp 0 284) hs tx ιk C P2 g8.1 g8.2.1 g8.2.2.1 g8.2.2.2 hU8 hY8) hB (Nat.le_of_ble_eq_true rfl) rfl (Nat.le_of_ble_eq_true rfl) rfl (L' := (mdL g o φ2 (cpA μ 0 kp 0 284) hs tx (ιR ιk (rsG φ2 C P2) (rnM φ2 P2 (rsG φ2 C P2))))) (rfl) rfl (Nat.le_of_ble_eq_true rfl) rfl rfl (Nat.le_of_ble_eq_true rfl) ⟨Nat.le_of_ble_eq_true rfl, Nat.le_of_ble_eq_true rfl⟩ ⟨Nat.le_of_ble_eq_true rfl, Nat.le_of_ble_eq_true rfl⟩ dX8_left_43 rfl ?_
          refine V.cast (f' := ovr f o (mdL g o φ2 (cpA μ 0 kp 0 284) hs tx (ιG ι φ2))) ?_ rfl rfl (congrArg (fun z => ovr f o (mdL g o φ2 (cpA μ 0 kp 0 284) hs tx z)) (by rw [hιk]; exact ιG_G g8))
          refine v_goto X dX8_left_46 (tgt := 20) (by decide) ?_
          exact ih20 (k + 1) φ2 (ιG ι φ2) rfl (by omega) (GC_gv g8) hU8 hY8 hh8 (by rw [hr, h1, plC, if_pos hz2, hmv, show 200 - (k + 1) = n1 by omega]) (by rw [hq, h1, plS, if_pos hz2, hmv, show 200 - (k + 1) = n1 by omega]) (by omega)
  exact LP20 _ 0 μ (ιG ι μ) rfl (Nat.zero_le _) hv hU hY (fun _ _ => rfl) rfl rfl (Nat.lt_succ_self _)
set_option maxRecDepth 100000 in
set_option maxHeartbeats 4000000 in
theorem c_X8_picksLeft (l : Launch) (g : Ge) (N o : Nat) (μ kp hs tx ι : Nat → Int32) (hv : GV μ) (hU : UN μ) (hY : YN μ) : Cb l g yX8_picksLeft (.code yX8_picksLeft cX8_picksLeft 1 (some .int)) 4 [.ref o] N o (mdL g o μ kp hs tx ι) (some (.int (plC 200 0 μ))) (mdL g o μ (cpA μ 0 kp 0 284) hs tx (ιG ι (plS 200 μ))) := by
  intro f hB0
  have hB : BB g N o 5 := hB0
  refine ct_of (own := RX8) [some (.ref o)] (by decide +kernel) rfl rfl (Nat.le_of_ble_eq_true rfl) ?_
  intro vp ve vs vm va vb vt vc hnm X
  refine v_aload_n X dX8_picksLeft_0 (i := 0) rfl rfl ?_
  refine v_cvB X rfl yv_X8_left m_ml_X8_132 0 0 (c_X8_left l g N o μ kp hs tx ι hv hU hY) hB (Nat.le_of_ble_eq_true rfl) rfl (Nat.le_of_ble_eq_true rfl) rfl (L' := (mdL g o μ (cpA μ 0 kp 0 284) hs tx (ιG ι (plS 200 μ)))) (rfl) rfl (Nat.le_of_ble_eq_true rfl) rfl rfl (Nat.le_of_ble_eq_true rfl) ⟨Nat.le_of_ble_eq_true rfl, Nat.le_of_ble_eq_true rfl⟩ ⟨Nat.le_of_ble_eq_true rfl, Nat.le_of_ble_eq_true rfl⟩ dX8_picksLeft_1 rfl ?_
  exact v_iret X rfl dX8_picksLeft_4 (rfl) (rfl)
