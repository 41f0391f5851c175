/-! the model class: the shuttle that is empty first, repeats -/
def rnC' (σ : Nat → Int32) : Int32 := rnM σ (nt (σ 1)) (rsC' σ)
def ιC (ι σ : Nat → Int32) : Nat → Int32 := ιR ι (rsC' σ) (rnC' σ)
theorem ιC_eq {ι σ : Nat → Int32} {C P : Nat} (g : GC C P σ) : ιR ι (rsC σ C P) (rnM σ P (rsC σ C P)) = ιC ι σ := by
  rw [ιC, rnC', rsC'_c g, nt_of g.2.1 (by have := g.2.2; omega)]
theorem ιC_C {ι σ φ : Nat → Int32} {C P : Nat} (g : GC C P σ) : ιR (ιC ι φ) (rsC σ C P) (rnM σ P (rsC σ C P)) = ιC ι σ := by
  rw [← ιC_eq g, ιC, ιRR]
theorem ιC_2 {ι σ : Nat → Int32} : ιC ι σ 2 = rsC' σ := by rw [ιC, ιR, pk_un (by omega), pk_us]
theorem ιC_3 {ι σ : Nat → Int32} {P k : Nat} (hP : σ 1 = nI P) (hP16 : P < 16) (h : rsC' σ = 0) (hf : flyN σ P = nI k) : ιC ι σ 3 = nI k := by
  rw [ιC, ιR, pk_us, rnC', h, rnM, if_pos rfl, nt_of hP (by omega), hf]
theorem ιC_6 {ι σ : Nat → Int32} (h : rsC' σ = 6) : ιC ι σ 3 = fly' σ := by
  rw [ιC, ιR, pk_us, rnC', h, rnM, if_neg (by decide), nTold, if_neg (by decide), if_neg (by decide), if_neg (by decide), if_pos rfl, fly']
theorem feC_0 {φ : Nat → Int32} : feC 0 φ = -6 := by rw [feC]
theorem feS_0 {φ : Nat → Int32} : feS 0 φ = φ := by rw [feS]
theorem cpA_at {a b : Nat → Int32} {i : Nat} (h : i < 284) : cpA a 0 b 0 284 i = a i := by
  rw [cpA, if_pos ⟨Nat.zero_le _, by omega⟩, Nat.zero_add, Nat.sub_zero]
set_option maxRecDepth 100000 in
set_option maxHeartbeats 4000000 in
theorem c_X8_emptyOne (l : Launch) (g : Ge) (N o : Nat) (μ kp hs tx ι : Nat → Int32) (hv : GV μ) (hU : UN μ) (hY : YN μ) : Cb l g yX8_emptyOne (.code yX8_emptyOne cX8_emptyOne 2 (some .int)) 3 [.ref o] N o (mdL g o μ kp hs tx ι) (some (.int (feC 999 μ))) (mdL g o μ (cpA μ 0 kp 0 284) hs tx (ιC ι (feS 999 μ))) := by
  intro f hB0
  have hB : BB g N o 5 := hB0
  obtain ⟨C9, P9, g9⟩ := (show ∃ C P, GC C P μ from hv)
  refine ct_of (own := RX8) [some (.ref o), none] (by decide +kernel) rfl rfl (Nat.le_of_ble_eq_true rfl) ?_
  intro vp ve vs vm va vb vt vc hnm X
  refine v_aload_n X dX8_emptyOne_0 (i := 0) rfl rfl ?_
  refine v_getB X hB cf8 0 (Nat.le_of_ble_eq_true rfl) m_fl_X8_7 dX8_emptyOne_1 0 (Nat.le_of_ble_eq_true rfl) rfl rfl ?_
  refine v_iconst X dX8_emptyOne_4 (v := (0 : Int32)) (by decide) ?_
  refine v_aload_n X dX8_emptyOne_5 (i := 0) rfl rfl ?_
  refine v_getB X hB cf8 1 (Nat.le_of_ble_eq_true rfl) m_fl_X8_13 dX8_emptyOne_6 0 (Nat.le_of_ble_eq_true rfl) rfl rfl ?_
  refine v_iconst X dX8_emptyOne_9 (v := (0 : Int32)) (by decide) ?_
  refine v_csB X rfl yv_X8_copies m_ml_X8_33 0 (c_X8_copies_sk l g N o μ kp hs tx ι ) hB (Nat.le_of_ble_eq_true rfl) rfl (Nat.le_of_ble_eq_true rfl) rfl (L' := (mdL g o μ (cpA μ 0 kp 0 284) hs tx ι)) (rfl) rfl rfl (Nat.le_of_ble_eq_true rfl) ⟨Nat.le_of_ble_eq_true rfl, Nat.le_of_ble_eq_true rfl⟩ ⟨Nat.le_of_ble_eq_true rfl, Nat.le_of_ble_eq_true rfl⟩ dX8_emptyOne_10 rfl ?_
  refine v_iconst X dX8_emptyOne_13 (v := (0 : Int32)) (by decide) ?_
  refine v_istore_n X dX8_emptyOne_14 (i := 1) rfl (Nat.le_of_ble_eq_true rfl) rfl ?_
  refine v_aload_n X dX8_emptyOne_15 (i := 0) rfl rfl ?_
  refine v_iconst X dX8_emptyOne_16 (v := (0 : Int32)) (by decide) ?_
  refine v_cvB X rfl yv_X8_findReason m_ml_X8_79 0 0 (c_X8_findReason_0 l g N o μ (cpA μ 0 kp 0 284) hs tx ι C9 P9 g9.1 g9.2.1 g9.2.2.1 g9.2.2.2 hU hY) hB (Nat.le_of_ble_eq_true rfl) rfl (Nat.le_of_ble_eq_true rfl) rfl (L' := (mdL g o μ (cpA μ 0 kp 0 284) hs tx (ιR ι (rsC μ C9 P9) (rnM μ P9 (rsC μ C9 P9))))) (rfl) rfl (Nat.le_of_ble_eq_true rfl) rfl rfl (Nat.le_of_ble_eq_true rfl) ⟨Nat.le_of_ble_eq_true rfl, Nat.le_of_ble_eq_true rfl⟩ ⟨Nat.le_of_ble_eq_true rfl, Nat.le_of_ble_eq_true rfl⟩ dX8_emptyOne_17 rfl ?_
  refine V.cast (f' := ovr f o (mdL g o μ (cpA μ 0 kp 0 284) hs tx (ιC ι μ))) ?_ rfl rfl (congrArg (fun z => ovr f o (mdL g o μ (cpA μ 0 kp 0 284) hs tx z)) (ιC_eq g9))
  have LP20 : ∀ (n_ : Nat) (k : Nat) (φk : Nat → Int32) (ιk : Nat → Int32), (ιk = ιC ι φk) → (k ≤ 999) → (GV φk) → (UN φk) → (YN φk) → (∀ i, 104 ≤ i → φk i = μ i) → (feC 999 μ = feC (999 - k) φk) → (feS 999 μ = feS (999 - k) φk) → 999 - k < n_ → Vm vp l ve vs vm va vb vt vc g 3 2 N (some (.int (feC 999 μ))) (ovr f o (mdL g o μ (cpA μ 0 kp 0 284) hs tx (ιC ι (feS 999 μ)))) (ovr f o (mdL g o φk (cpA μ 0 kp 0 284) hs tx ιk)) 20 [some (.ref o), some (.int (nI k))] [] := by
    intro n_
    induction n_ with
    | zero => intro k φk ιk hιk hk hvk hUk hYk hh hr hq hm_; exact absurd hm_ (Nat.not_lt_zero _)
    | succ n_ ih20 =>
      intro k φk ιk hιk hk hvk hUk hYk hh hr hq hm20
      refine v_iload_n X dX8_emptyOne_20 (i := 1) rfl rfl ?_
      refine v_sipush X dX8_emptyOne_21 (v := (999 : Int32)) (by decide) ?_
      refine v_icmp_ge X dX8_emptyOne_24 (tgt := 49) (by decide) (fun c24 => ?_) (fun c24 => ?_)
      · skip
        have hk2 : k = 999 := Nat.le_antisymm hk (le_of_nI (a := 999) (by omega) (by omega) c24)
        refine v_aload_n X dX8_emptyOne_49 (i := 0) rfl rfl ?_
        refine v_getB X hB cf8 1 (Nat.le_of_ble_eq_true rfl) m_fl_X8_13 dX8_emptyOne_50 0 (Nat.le_of_ble_eq_true rfl) rfl rfl ?_
        refine v_iconst X dX8_emptyOne_53 (v := (0 : Int32)) (by decide) ?_
        refine v_aload_n X dX8_emptyOne_54 (i := 0) rfl rfl ?_
        refine v_getB X hB cf8 0 (Nat.le_of_ble_eq_true rfl) m_fl_X8_7 dX8_emptyOne_55 0 (Nat.le_of_ble_eq_true rfl) rfl rfl ?_
        refine v_iconst X dX8_emptyOne_58 (v := (0 : Int32)) (by decide) ?_
        refine v_csB X rfl yv_X8_copies m_ml_X8_33 0 (c_X8_copies_ks l g N o φk (cpA μ 0 kp 0 284) hs tx ιk ) hB (Nat.le_of_ble_eq_true rfl) rfl (Nat.le_of_ble_eq_true rfl) rfl (L' := (mdL g o (cpA (cpA μ 0 kp 0 284) 0 φk 0 284) (cpA μ 0 kp 0 284) hs tx ιk)) (rfl) rfl rfl (Nat.le_of_ble_eq_true rfl) ⟨Nat.le_of_ble_eq_true rfl, Nat.le_of_ble_eq_true rfl⟩ ⟨Nat.le_of_ble_eq_true rfl, Nat.le_of_ble_eq_true rfl⟩ dX8_emptyOne_59 rfl ?_
        refine v_iload_n X dX8_emptyOne_62 (i := 1) rfl rfl ?_
        refine v_sipush X dX8_emptyOne_63 (v := (999 : Int32)) (by decide) ?_
        refine v_icmp_ge X dX8_emptyOne_66 (tgt := 85) (by decide) (fun c66 => ?_) (fun c66 => ?_)
        · skip
          refine v_bipush X dX8_emptyOne_85 (v := (-6 : Int32)) (by decide) ?_
          exact v_iret X rfl dX8_emptyOne_87 (by rw [hr, hk2, Nat.sub_self, feC_0]) (by rw [hq, hk2, Nat.sub_self, feS_0, cp_back hh, hιk])
        · skip
          exact absurd (Int32.not_le.mpr c66) (not_not_intro c24)
      · skip
        have hk2 : k < 999 := lt_of_nI (b := 999) (by omega) (by omega) c24
        obtain ⟨C, P0, hC, hP, hPC, hC16⟩ := hvk
        obtain ⟨n1, h1⟩ : ∃ n1, 999 - k = n1 + 1 := ⟨999 - k - 1, by omega⟩
        refine v_aload_n X dX8_emptyOne_27 (i := 0) rfl rfl ?_
        refine v_getB X hB cf8 6 (Nat.le_of_ble_eq_true rfl) m_fl_X8_54 dX8_emptyOne_28 0 (Nat.le_of_ble_eq_true rfl) rfl rfl ?_
        refine v_if_ne X dX8_emptyOne_31 (tgt := 49) (by decide) (fun c31 => ?_) (fun c31 => ?_)
        · skip
          have hz2 : ¬ rsC' φk = 0 := fun z => c31 (by rw [hιk]; exact ιC_2.trans z)
          refine v_aload_n X dX8_emptyOne_49 (i := 0) rfl rfl ?_
          refine v_getB X hB cf8 1 (Nat.le_of_ble_eq_true rfl) m_fl_X8_13 dX8_emptyOne_50 0 (Nat.le_of_ble_eq_true rfl) rfl rfl ?_
          refine v_iconst X dX8_emptyOne_53 (v := (0 : Int32)) (by decide) ?_
          refine v_aload_n X dX8_emptyOne_54 (i := 0) rfl rfl ?_
          refine v_getB X hB cf8 0 (Nat.le_of_ble_eq_true rfl) m_fl_X8_7 dX8_emptyOne_55 0 (Nat.le_of_ble_eq_true rfl) rfl rfl ?_
          refine v_iconst X dX8_emptyOne_58 (v := (0 : Int32)) (by decide) ?_
          refine v_csB X rfl yv_X8_copies m_ml_X8_33 0 (c_X8_copies_ks l g N o φk (cpA μ 0 kp 0 284) hs tx ιk ) hB (Nat.le_of_ble_eq_true rfl) rfl (Nat.le_of_ble_eq_true rfl) rfl (L' := (mdL g o (cpA (cpA μ 0 kp 0 284) 0 φk 0 284) (cpA μ 0 kp 0 284) hs tx ιk)) (rfl) rfl rfl (Nat.le_of_ble_eq_true rfl) ⟨Nat.le_of_ble_eq_true rfl, Nat.le_of_ble_eq_true rfl⟩ ⟨Nat.le_of_ble_eq_true rfl, Nat.le_of_ble_eq_true rfl⟩ dX8_emptyOne_59 rfl ?_
          refine v_iload_n X dX8_emptyOne_62 (i := 1) rfl rfl ?_
          refine v_sipush X dX8_emptyOne_63 (v := (999 : Int32)) (by decide) ?_
          refine v_icmp_ge X dX8_emptyOne_66 (tgt := 85) (by decide) (fun c66 => ?_) (fun c66 => ?_)
          · skip
            exact absurd c24 (Int32.not_lt.mpr c66)
          · skip
            refine v_aload_n X dX8_emptyOne_69 (i := 0) rfl rfl ?_
            refine v_getB X hB cf8 6 (Nat.le_of_ble_eq_true rfl) m_fl_X8_54 dX8_emptyOne_70 0 (Nat.le_of_ble_eq_true rfl) rfl rfl ?_
            refine v_bipush X dX8_emptyOne_73 (v := (6 : Int32)) (by decide) ?_
            refine v_icmp_ne X dX8_emptyOne_75 (tgt := 85) (by decide) (fun c75 => ?_) (fun c75 => ?_)
            · skip
              refine v_bipush X dX8_emptyOne_85 (v := (-6 : Int32)) (by decide) ?_
              exact v_iret X rfl dX8_emptyOne_87 (by rw [hr, h1, feC, if_neg hz2, if_neg (fun z => c75 (by rw [hιk]; exact ιC_2.trans z))]) (by rw [hq, h1, feS, if_neg hz2, cp_back hh, hιk])
            · skip
              refine v_aload_n X dX8_emptyOne_78 (i := 0) rfl rfl ?_
              refine v_getB X hB cf8 7 (Nat.le_of_ble_eq_true rfl) m_fl_X8_57 dX8_emptyOne_79 0 (Nat.le_of_ble_eq_true rfl) rfl rfl ?_
              refine v_goto X dX8_emptyOne_82 (tgt := 87) (by decide) ?_
              exact v_iret X rfl dX8_emptyOne_87 (by rw [hr, h1, feC, if_neg hz2, if_pos (show rsC' φk = 6 from (ιC_2 (ι := ι)).symm.trans (by rw [← hιk]; exact c75)), hιk, ιC_6 ((ιC_2 (ι := ι)).symm.trans (by rw [← hιk]; exact c75))]) (by rw [hq, h1, feS, if_neg hz2, cp_back hh, hιk])
        · skip
          have hz2 : rsC' φk = 0 := (ιC_2 (ι := ι)).symm.trans (by rw [← hιk]; exact c31)
          have hz : rsC φk C P0 = 0 := (rsC'_eq hC hP hC16 hPC).symm.trans hz2
          obtain ⟨hC0, k9, hk9, hfl⟩ := rsC_0 hz
          have hPC1 : P0 < C := by omega
          have h3 : ιk 3 = nI k9 := by rw [hιk]; exact ιC_3 hP (by omega) hz2 hfl
          have hsd := fly_01 hz hk9 hfl
          refine v_aload_n X dX8_emptyOne_34 (i := 0) rfl rfl ?_
          refine v_cvB X rfl yv_X8_moves m_ml_X8_86 0 0 (c_X8_moves l g N o φk (cpA μ 0 kp 0 284) hs tx ιk C P0 k9 hC hP hPC1 hC16 hk9 h3 hsd) hB (Nat.le_of_ble_eq_true rfl) rfl (Nat.le_of_ble_eq_true rfl) rfl (L' := (mdL g o (mvS φk C P0 k9) (cpA μ 0 kp 0 284) hs tx ιk)) (rfl) rfl (Nat.le_of_ble_eq_true rfl) rfl rfl (Nat.le_of_ble_eq_true rfl) ⟨Nat.le_of_ble_eq_true rfl, Nat.le_of_ble_eq_true rfl⟩ ⟨Nat.le_of_ble_eq_true rfl, Nat.le_of_ble_eq_true rfl⟩ dX8_emptyOne_35 rfl ?_
          obtain ⟨φ2, P2, e2, g8, hU8, hY8, hh8⟩ : ∃ φ2 P2, mvS φk C P0 k9 = φ2 ∧ GC C P2 φ2 ∧ UN φ2 ∧ YN φ2 ∧ (∀ i, 104 ≤ i → φ2 i = μ i) := ⟨_, _, rfl, GC_mv ⟨hC, hP, hPC, hC16⟩ hPC1 hk9, UN_mv hUk hz hk9 hfl, YN_mv hYk hz hk9 hfl, fun i hi => (mvS_o hk9 (by omega) (by omega)).trans (hh i hi)⟩
          have hmv : mvS' φk = φ2 := (mvS'_eq hC hP hC16 hPC1 hk9 hfl).trans e2
          refine V.cast (f' := ovr f o (mdL g o φ2 (cpA μ 0 kp 0 284) hs tx ιk)) ?_ rfl rfl (congrArg (fun z => ovr f o (mdL g o z (cpA μ 0 kp 0 284) hs tx ιk)) e2)
          refine v_iinc X dX8_emptyOne_38 (v := nI (k + 1)) rfl (ix_inc rfl) (Nat.le_of_ble_eq_true rfl) rfl ?_
          refine v_aload_n X dX8_emptyOne_41 (i := 0) rfl rfl ?_
          refine v_iconst X dX8_emptyOne_42 (v := (0 : Int32)) (by decide) ?_
          refine v_cvB X rfl yv_X8_findReason m_ml_X8_79 0 0 (c_X8_findReason_0 l g N o φ2 (cpA μ 0 kp 0 284) hs tx ιk C P2 g8.1 g8.2.1 g8.2.2.1 g8.2.2.2 hU8 hY8) hB (Nat.le_of_ble_eq_true rfl) rfl (Nat.le_of_ble_eq_true rfl) rfl (L' := (mdL g o φ2 (cpA μ 0 kp 0 284) hs tx (ιR ιk (rsC φ2 C P2) (rnM φ2 P2 (rsC φ2 C P2))))) (rfl) rfl (Nat.le_of_ble_eq_true rfl) rfl rfl (Nat.le_of_ble_eq_true rfl) ⟨Nat.le_of_ble_eq_true rfl, Nat.le_of_ble_eq_true rfl⟩ ⟨Nat.le_of_ble_eq_true rfl, Nat.le_of_ble_eq_true rfl⟩ dX8_emptyOne_43 rfl ?_
          refine V.cast (f' := ovr f o (mdL g o φ2 (cpA μ 0 kp 0 284) hs tx (ιC ι φ2))) ?_ rfl rfl (congrArg (fun z => ovr f o (mdL g o φ2 (cpA μ 0 kp 0 284) hs tx z)) (by rw [hιk]; exact ιC_C g8))
          refine v_goto X dX8_emptyOne_46 (tgt := 20) (by decide) ?_
          exact ih20 (k + 1) φ2 (ιC ι φ2) rfl (by omega) (GC_gv g8) hU8 hY8 hh8 (by rw [hr, h1, feC, if_pos hz2, hmv, show 999 - (k + 1) = n1 by omega]) (by rw [hq, h1, feS, if_pos hz2, hmv, show 999 - (k + 1) = n1 by omega]) (by omega)
  exact LP20 _ 0 μ (ιC ι μ) rfl (Nat.zero_le _) hv hU hY (fun _ _ => rfl) (by rw [Nat.sub_zero]) (by rw [Nat.sub_zero]) (Nat.lt_succ_self _)
set_option maxRecDepth 100000 in
set_option maxHeartbeats 4000000 in
theorem c_X8_firstEmpty (l : Launch) (g : Ge) (N o : Nat) (μ kp hs tx ι : Nat → Int32) (hv : GV μ) (hU : UN μ) (hY : YN μ) : Cb l g yX8_firstEmpty (.code yX8_firstEmpty cX8_firstEmpty 1 (some .int)) 4 [.ref o] N o (mdL g o μ kp hs tx ι) (some (.int (feC 999 μ))) (mdL g o μ (cpA μ 0 kp 0 284) hs tx (ιC ι (feS 999 μ))) := by
  intro f hB0
  have hB : BB g N o 5 := hB0
  refine ct_of (own := RX8) [some (.ref o)] (by decide +kernel) rfl rfl (Nat.le_of_ble_eq_true rfl) ?_
  intro vp ve vs vm va vb vt vc hnm X
  refine v_aload_n X dX8_firstEmpty_0 (i := 0) rfl rfl ?_
  refine v_cvB X rfl yv_X8_emptyOne m_ml_X8_135 0 0 (c_X8_emptyOne l g N o μ kp hs tx ι hv hU hY) hB (Nat.le_of_ble_eq_true rfl) rfl (Nat.le_of_ble_eq_true rfl) rfl (L' := (mdL g o μ (cpA μ 0 kp 0 284) hs tx (ιC ι (feS 999 μ)))) (rfl) rfl (Nat.le_of_ble_eq_true rfl) rfl rfl (Nat.le_of_ble_eq_true rfl) ⟨Nat.le_of_ble_eq_true rfl, Nat.le_of_ble_eq_true rfl⟩ ⟨Nat.le_of_ble_eq_true rfl, Nat.le_of_ble_eq_true rfl⟩ dX8_firstEmpty_1 rfl ?_
  exact v_iret X rfl dX8_firstEmpty_4 (rfl) (rfl)
def rpS : Nat → (Nat → Int32) → Nat → Int32
  | 0, φ => φ
  | n + 1, φ => if rsG' φ = 0 then rpS n (mvS' φ) else φ
def rpI : Nat → (Nat → Int32) → (Nat → Int32) → Nat → Int32
  | 0, _, ι => ι
  | n + 1, φ, ι => if rsG' φ = 0 then rpI n (mvS' φ) (ιG ι φ) else ιG ι φ
def bB (z : Bool) : Int32 := if z = true then 1 else 0
theorem bB_t : bB true = 1 := rfl
theorem bB_f : bB false = 0 := rfl
theorem bB_ne {z : Bool} (h : ¬ bB z = 0) : z = true := by
  cases z
  · exact absurd rfl h
  · rfl
theorem bB_eq {z : Bool} (h : bB z = 0) : z = false := by
  cases z
  · rfl
  · exact absurd h (by decide)
theorem rpC_0 {φ σ : Nat → Int32} : rpC 0 φ σ = bB (stdB φ σ 5) := by rw [rpC, bB]
/-- the answer of repeats() as the model finds it -/
def rpA (μ : Nat → Int32) (C : Nat) : Int32 := if C = 0 then 0 else rpC C (upd μ 1 0) μ
def rpX (μ : Nat → Int32) (C : Nat) (ι : Nat → Int32) : Nat → Int32 := if C = 0 then ι else rpI C (upd μ 1 0) ι
theorem UN_o {a b : Nat → Int32} (h : ∀ i, 12 ≤ i → i < 32 → a i = b i) (hU : UN a) : UN b := by
  intro i j hi hj h1 h2 h3
  rw [← h (14 + 4 * i) (by omega) (by omega)] at h1 h3
  rw [← h (14 + 4 * j) (by omega) (by omega)] at h1
  rw [← h (15 + 4 * i) (by omega) (by omega), ← h (15 + 4 * j) (by omega) (by omega)] at h2
  exact hU i j hi hj h1 h2 h3
theorem YN_o {a b : Nat → Int32} (h : ∀ i, 12 ≤ i → i < 32 → a i = b i) (hY : YN a) : YN b := by
  intro j hj
  rw [← h (13 + 4 * j) (by omega) (by omega)]
  exact hY j hj
theorem bst_t {z : Bool} {a b : Nat → Int32} {s : Nat} (q : (z && stdB a b s) = true) (h1 : a (14 + 4 * s) = b (14 + 4 * s)) (h2 : a (15 + 4 * s) = b (15 + 4 * s)) : (z && stdB a b (s + 1)) = true := by
  rw [Bool.and_eq_true] at q ⊢
  refine ⟨q.1, ?_⟩
  rw [stdB, q.2, Bool.true_and, Bool.and_eq_true, decide_eq_true_eq, decide_eq_true_eq]
  exact ⟨h1, h2⟩
theorem bst_f {z : Bool} {a b : Nat → Int32} {s : Nat} (q : (z && stdB a b s) = false) : (z && stdB a b (s + 1)) = false := by
  rw [stdB, ← Bool.and_assoc, q, Bool.false_and]
theorem bst_1 {z : Bool} {a b : Nat → Int32} {s : Nat} (h1 : ¬ a (14 + 4 * s) = b (14 + 4 * s)) : (z && stdB a b (s + 1)) = false := by
  rw [stdB, decide_eq_false h1, Bool.false_and, Bool.and_false, Bool.and_false]
theorem bst_2 {z : Bool} {a b : Nat → Int32} {s : Nat} (h1 : ¬ a (15 + 4 * s) = b (15 + 4 * s)) : (z && stdB a b (s + 1)) = false := by
  rw [stdB, decide_eq_false h1, Bool.and_false, Bool.and_false, Bool.and_false]
theorem kp_at {a b : Nat → Int32} {i j : Nat} (h : i < 284) (e : i = j) : cpA a 0 b 0 284 i = a j := by rw [cpA_at h, e]
set_option maxRecDepth 100000 in
set_option maxHeartbeats 4000000 in
theorem c_X8_isRepeating (l : Launch) (g : Ge) (N o : Nat) (μ kp hs tx ι : Nat → Int32) (C : Nat) (hG : ∃ P, GC C P μ) (hU : UN μ) (hY : YN μ) : Cb l g yX8_isRepeating (.code yX8_isRepeating cX8_isRepeating 3 (some .int)) 3 [.ref o] N o (mdL g o μ kp hs tx ι) (some (.int (rpA μ C))) (mdL g o μ (cpA μ 0 kp 0 284) hs tx (rpX μ C ι)) := by
  intro f hB0
  have hB : BB g N o 5 := hB0
  obtain ⟨P9, g9⟩ := id hG
  have hC7 : (upd μ 1 0) 0 = nI C := (pk_un (by omega)).trans g9.1
  have hg7 : GC C 0 (upd μ 1 0) := ⟨hC7, pk_us, by omega, g9.2.2.2⟩
  have hCi : C ≤ 16 := g9.2.2.2
  refine ct_of (own := RX8) [some (.ref o), none, none] (by decide +kernel) rfl rfl (Nat.le_of_ble_eq_true rfl) ?_
  intro vp ve vs vm va vb vt vc hnm X
  refine v_aload_n X dX8_isRepeating_0 (i := 0) rfl rfl ?_
  refine v_getB X hB cf8 0 (Nat.le_of_ble_eq_true rfl) m_fl_X8_7 dX8_isRepeating_1 0 (Nat.le_of_ble_eq_true rfl) rfl rfl ?_
  refine v_iconst X dX8_isRepeating_4 (v := (0 : Int32)) (by decide) ?_
  refine v_aload_n X dX8_isRepeating_5 (i := 0) rfl rfl ?_
  refine v_getB X hB cf8 1 (Nat.le_of_ble_eq_true rfl) m_fl_X8_13 dX8_isRepeating_6 0 (Nat.le_of_ble_eq_true rfl) rfl rfl ?_
  refine v_iconst X dX8_isRepeating_9 (v := (0 : Int32)) (by decide) ?_
  refine v_csB X rfl yv_X8_copies m_ml_X8_33 0 (c_X8_copies_sk l g N o μ kp hs tx ι ) hB (Nat.le_of_ble_eq_true rfl) rfl (Nat.le_of_ble_eq_true rfl) rfl (L' := (mdL g o μ (cpA μ 0 kp 0 284) hs tx ι)) (rfl) rfl rfl (Nat.le_of_ble_eq_true rfl) ⟨Nat.le_of_ble_eq_true rfl, Nat.le_of_ble_eq_true rfl⟩ ⟨Nat.le_of_ble_eq_true rfl, Nat.le_of_ble_eq_true rfl⟩ dX8_isRepeating_10 rfl ?_
  refine v_aload_n X dX8_isRepeating_13 (i := 0) rfl rfl ?_
  refine v_getB X hB cf8 0 (Nat.le_of_ble_eq_true rfl) m_fl_X8_7 dX8_isRepeating_14 0 (Nat.le_of_ble_eq_true rfl) rfl rfl ?_
  refine v_iconst X dX8_isRepeating_17 (v := (1 : Int32)) (by decide) ?_
  refine v_iconst X dX8_isRepeating_18 (v := (0 : Int32)) (by decide) ?_
  refine v_iastB X hB dX8_isRepeating_19 1 (Nat.le_of_ble_eq_true rfl) rfl 1 rfl (by omega) (Nat.le_of_ble_eq_true rfl) (L' := (mdL g o (upd μ 1 (0 : Int32)) (cpA μ 0 kp 0 284) hs tx ι)) rfl ?_
  refine v_aload_n X dX8_isRepeating_20 (i := 0) rfl rfl ?_
  refine v_getB X hB cf8 0 (Nat.le_of_ble_eq_true rfl) m_fl_X8_7 dX8_isRepeating_21 0 (Nat.le_of_ble_eq_true rfl) rfl rfl ?_
  refine v_iconst X dX8_isRepeating_24 (v := (0 : Int32)) (by decide) ?_
  refine v_ialdB X hB dX8_isRepeating_25 1 (Nat.le_of_ble_eq_true rfl) rfl 0 rfl (by omega) (Nat.le_of_ble_eq_true rfl) ?_
  refine v_if_le X dX8_isRepeating_26 (tgt := 33) (by decide) (fun c26 => ?_) (fun c26 => ?_)
  · skip
    have hC0 : C = 0 := by
      rcases Nat.eq_zero_or_pos C with z | z
      · exact z
      · rw [hC7] at c26
        exact absurd c26 (nI_nle z (by omega))
    refine v_iconst X dX8_isRepeating_33 (v := (0 : Int32)) (by decide) ?_
    refine v_istore_n X dX8_isRepeating_34 (i := 1) rfl (Nat.le_of_ble_eq_true rfl) rfl ?_
    refine v_iconst X dX8_isRepeating_35 (v := (0 : Int32)) (by decide) ?_
    refine v_istore_n X dX8_isRepeating_36 (i := 2) rfl (Nat.le_of_ble_eq_true rfl) rfl ?_
    have LP37 : ∀ (n_ : Nat) (k : Nat) (φk : Nat → Int32) (z : Bool) (ιk : Nat → Int32), (k ≤ C) → (φk 0 = nI C) → (∀ i, 104 ≤ i → φk i = μ i) → ((z = true ∧ (∃ P, GC C P φk) ∧ UN φk ∧ YN φk ∧ rpA μ C = rpC (C - k) φk μ ∧ rpX μ C ι = rpI (C - k) φk ιk) ∨ (z = false ∧ rpA μ C = 0 ∧ rpX μ C ι = ιk)) → C - k < n_ → Vm vp l ve vs vm va vb vt vc g 3 3 N (some (.int (rpA μ C))) (ovr f o (mdL g o μ (cpA μ 0 kp 0 284) hs tx (rpX μ C ι))) (ovr f o (mdL g o φk (cpA μ 0 kp 0 284) hs tx ιk)) 37 [some (.ref o), some (.int (bB z)), some (.int (nI k))] [] := by
      intro n_
      induction n_ with
      | zero => intro k φk z ιk hk hCk hh hI hm_; exact absurd hm_ (Nat.not_lt_zero _)
      | succ n_ ih37 =>
        intro k φk z ιk hk hCk hh hI hm37
        refine v_iload_n X dX8_isRepeating_37 (i := 2) rfl rfl ?_
        refine v_aload_n X dX8_isRepeating_38 (i := 0) rfl rfl ?_
        refine v_getB X hB cf8 0 (Nat.le_of_ble_eq_true rfl) m_fl_X8_7 dX8_isRepeating_39 0 (Nat.le_of_ble_eq_true rfl) rfl rfl ?_
        refine v_iconst X dX8_isRepeating_42 (v := (0 : Int32)) (by decide) ?_
        refine v_ialdB X hB dX8_isRepeating_43 1 (Nat.le_of_ble_eq_true rfl) rfl 0 rfl (by omega) (Nat.le_of_ble_eq_true rfl) ?_
        refine v_icmp_ge X dX8_isRepeating_44 (tgt := 83) (by decide) (fun c44 => ?_) (fun c44 => ?_)
        · skip
          have hk2 : k = C := Nat.le_antisymm hk (le_of_nI (by omega) (by omega) (by rw [← hCk]; exact c44))
          have hans : rpA μ C = bB (z && stdB φk μ 5) ∧ rpX μ C ι = ιk := by
            rcases hI with ⟨hz, -, -, -, hr, hq⟩ | ⟨hz, hr, hq⟩
            · exact ⟨by rw [hr, hk2, Nat.sub_self, rpC_0, hz, Bool.true_and], by rw [hq, hk2, Nat.sub_self, rpI]⟩
            · exact ⟨by rw [hr, hz, Bool.false_and]; rfl, hq⟩
          refine v_iconst X dX8_isRepeating_83 (v := (0 : Int32)) (by decide) ?_
          refine v_istore_n X dX8_isRepeating_84 (i := 2) rfl (Nat.le_of_ble_eq_true rfl) rfl ?_
          have LP85 : ∀ (n_ : Nat) (s : Nat), (s ≤ 5) → 5 - s < n_ → Vm vp l ve vs vm va vb vt vc g 3 3 N (some (.int (rpA μ C))) (ovr f o (mdL g o μ (cpA μ 0 kp 0 284) hs tx (rpX μ C ι))) (ovr f o (mdL g o φk (cpA μ 0 kp 0 284) hs tx ιk)) 85 [some (.ref o), some (.int (bB (z && stdB φk μ s))), some (.int (nI s))] [] := by
            intro n_
            induction n_ with
            | zero => intro s hs5 hm_; exact absurd hm_ (Nat.not_lt_zero _)
            | succ n_ ih85 =>
              intro s hs5 hm85
              refine v_iload_n X dX8_isRepeating_85 (i := 2) rfl rfl ?_
              refine v_iconst X dX8_isRepeating_86 (v := (5 : Int32)) (by decide) ?_
              refine v_icmp_ge X dX8_isRepeating_87 (tgt := 150) (by decide) (fun c87 => ?_) (fun c87 => ?_)
              · skip
                have hs6 : s = 5 := Nat.le_antisymm hs5 (le_of_nI (a := 5) (by omega) (by omega) c87)
                subst hs6
                refine v_aload_n X dX8_isRepeating_150 (i := 0) rfl rfl ?_
                refine v_getB X hB cf8 1 (Nat.le_of_ble_eq_true rfl) m_fl_X8_13 dX8_isRepeating_151 0 (Nat.le_of_ble_eq_true rfl) rfl rfl ?_
                refine v_iconst X dX8_isRepeating_154 (v := (0 : Int32)) (by decide) ?_
                refine v_aload_n X dX8_isRepeating_155 (i := 0) rfl rfl ?_
                refine v_getB X hB cf8 0 (Nat.le_of_ble_eq_true rfl) m_fl_X8_7 dX8_isRepeating_156 0 (Nat.le_of_ble_eq_true rfl) rfl rfl ?_
                refine v_iconst X dX8_isRepeating_159 (v := (0 : Int32)) (by decide) ?_
                refine v_csB X rfl yv_X8_copies m_ml_X8_33 0 (c_X8_copies_ks l g N o φk (cpA μ 0 kp 0 284) hs tx ιk ) hB (Nat.le_of_ble_eq_true rfl) rfl (Nat.le_of_ble_eq_true rfl) rfl (L' := (mdL g o (cpA (cpA μ 0 kp 0 284) 0 φk 0 284) (cpA μ 0 kp 0 284) hs tx ιk)) (rfl) rfl rfl (Nat.le_of_ble_eq_true rfl) ⟨Nat.le_of_ble_eq_true rfl, Nat.le_of_ble_eq_true rfl⟩ ⟨Nat.le_of_ble_eq_true rfl, Nat.le_of_ble_eq_true rfl⟩ dX8_isRepeating_160 rfl ?_
                refine v_iload_n X dX8_isRepeating_163 (i := 1) rfl rfl ?_
                refine v_if_eq X dX8_isRepeating_164 (tgt := 171) (by decide) (fun c164 => ?_) (fun c164 => ?_)
                · skip
                  refine v_iconst X dX8_isRepeating_171 (v := (0 : Int32)) (by decide) ?_
                  exact v_iret X rfl dX8_isRepeating_172 (by rw [hans.1, c164]) (by rw [cp_back hh, hans.2])
                · skip
                  refine v_iconst X dX8_isRepeating_167 (v := (1 : Int32)) (by decide) ?_
                  refine v_goto X dX8_isRepeating_168 (tgt := 172) (by decide) ?_
                  exact v_iret X rfl dX8_isRepeating_172 (by rw [hans.1, bB_ne c164]; rfl) (by rw [cp_back hh, hans.2])
              · skip
                have hs6 : s < 5 := lt_of_nI (b := 5) (by omega) (by omega) c87
                refine v_iload_n X dX8_isRepeating_90 (i := 1) rfl rfl ?_
                refine v_if_eq X dX8_isRepeating_91 (tgt := 142) (by decide) (fun c91 => ?_) (fun c91 => ?_)
                · skip
                  refine v_iconst X dX8_isRepeating_142 (v := (0 : Int32)) (by decide) ?_
                  refine v_istore_n X dX8_isRepeating_143 (i := 1) rfl (Nat.le_of_ble_eq_true rfl) rfl ?_
                  refine v_iinc X dX8_isRepeating_144 (v := nI (s + 1)) rfl (ix_inc rfl) (Nat.le_of_ble_eq_true rfl) rfl ?_
                  refine v_goto X dX8_isRepeating_147 (tgt := 85) (by decide) ?_
                  exact V.cast (ih85 (s + 1) (by omega) (by omega)) (by rw [bst_f (bB_eq c91)]; rfl) (rfl) (rfl)
                · skip
                  refine v_aload_n X dX8_isRepeating_94 (i := 0) rfl rfl ?_
                  refine v_iload_n X dX8_isRepeating_95 (i := 2) rfl rfl ?_
                  refine v_iconst X dX8_isRepeating_96 (v := (2 : Int32)) (by decide) ?_
                  refine v_cvB X rfl yv_X8_shuttlePart m_ml_X8_44 0 0 (c_X8_shuttlePart l g N o (nI s) s rfl (2 : Int32) 2 rfl φk (cpA μ 0 kp 0 284) hs tx ιk (by omega) (by omega)) hB (Nat.le_of_ble_eq_true rfl) rfl (Nat.le_of_ble_eq_true rfl) rfl (L' := (mdL g o φk (cpA μ 0 kp 0 284) hs tx ιk)) (rfl) rfl (Nat.le_of_ble_eq_true rfl) rfl rfl (Nat.le_of_ble_eq_true rfl) ⟨Nat.le_of_ble_eq_true rfl, Nat.le_of_ble_eq_true rfl⟩ ⟨Nat.le_of_ble_eq_true rfl, Nat.le_of_ble_eq_true rfl⟩ dX8_isRepeating_97 rfl ?_
                  refine v_aload_n X dX8_isRepeating_100 (i := 0) rfl rfl ?_
                  refine v_getB X hB cf8 1 (Nat.le_of_ble_eq_true rfl) m_fl_X8_13 dX8_isRepeating_101 0 (Nat.le_of_ble_eq_true rfl) rfl rfl ?_
                  refine v_bipush X dX8_isRepeating_104 (v := (12 : Int32)) (by decide) ?_
                  refine v_iconst X dX8_isRepeating_106 (v := (4 : Int32)) (by decide) ?_
                  refine v_iload_n X dX8_isRepeating_107 (i := 2) rfl rfl ?_
                  refine v_imul X dX8_isRepeating_108 ?_
                  refine v_iadd X dX8_isRepeating_109 ?_
                  refine v_iconst X dX8_isRepeating_110 (v := (2 : Int32)) (by decide) ?_
                  refine v_iadd X dX8_isRepeating_111 ?_
                  refine v_ialdB X hB dX8_isRepeating_112 2 (Nat.le_of_ble_eq_true rfl) rfl (12 + (4 * s) + 2) (ix_add (ix_add rfl (ix_mul rfl rfl)) rfl) (by omega) (Nat.le_of_ble_eq_true rfl) ?_
                  refine v_icmp_ne X dX8_isRepeating_113 (tgt := 142) (by decide) (fun c113 => ?_) (fun c113 => ?_)
                  · skip
                    have e2 : ¬ φk (14 + 4 * s) = μ (14 + 4 * s) := fun q => c113 (q.trans (kp_at (by omega) (by omega)).symm)
                    refine v_iconst X dX8_isRepeating_142 (v := (0 : Int32)) (by decide) ?_
                    refine v_istore_n X dX8_isRepeating_143 (i := 1) rfl (Nat.le_of_ble_eq_true rfl) rfl ?_
                    refine v_iinc X dX8_isRepeating_144 (v := nI (s + 1)) rfl (ix_inc rfl) (Nat.le_of_ble_eq_true rfl) rfl ?_
                    refine v_goto X dX8_isRepeating_147 (tgt := 85) (by decide) ?_
                    exact V.cast (ih85 (s + 1) (by omega) (by omega)) (by rw [bst_1 e2]; rfl) (rfl) (rfl)
                  · skip
                    have e2 : φk (14 + 4 * s) = μ (14 + 4 * s) := c113.trans (kp_at (by omega) (by omega))
                    refine v_aload_n X dX8_isRepeating_116 (i := 0) rfl rfl ?_
                    refine v_iload_n X dX8_isRepeating_117 (i := 2) rfl rfl ?_
                    refine v_iconst X dX8_isRepeating_118 (v := (3 : Int32)) (by decide) ?_
                    refine v_cvB X rfl yv_X8_shuttlePart m_ml_X8_44 0 0 (c_X8_shuttlePart l g N o (nI s) s rfl (3 : Int32) 3 rfl φk (cpA μ 0 kp 0 284) hs tx ιk (by omega) (by omega)) hB (Nat.le_of_ble_eq_true rfl) rfl (Nat.le_of_ble_eq_true rfl) rfl (L' := (mdL g o φk (cpA μ 0 kp 0 284) hs tx ιk)) (rfl) rfl (Nat.le_of_ble_eq_true rfl) rfl rfl (Nat.le_of_ble_eq_true rfl) ⟨Nat.le_of_ble_eq_true rfl, Nat.le_of_ble_eq_true rfl⟩ ⟨Nat.le_of_ble_eq_true rfl, Nat.le_of_ble_eq_true rfl⟩ dX8_isRepeating_119 rfl ?_
                    refine v_aload_n X dX8_isRepeating_122 (i := 0) rfl rfl ?_
                    refine v_getB X hB cf8 1 (Nat.le_of_ble_eq_true rfl) m_fl_X8_13 dX8_isRepeating_123 0 (Nat.le_of_ble_eq_true rfl) rfl rfl ?_
                    refine v_bipush X dX8_isRepeating_126 (v := (12 : Int32)) (by decide) ?_
                    refine v_iconst X dX8_isRepeating_128 (v := (4 : Int32)) (by decide) ?_
                    refine v_iload_n X dX8_isRepeating_129 (i := 2) rfl rfl ?_
                    refine v_imul X dX8_isRepeating_130 ?_
                    refine v_iadd X dX8_isRepeating_131 ?_
                    refine v_iconst X dX8_isRepeating_132 (v := (3 : Int32)) (by decide) ?_
                    refine v_iadd X dX8_isRepeating_133 ?_
                    refine v_ialdB X hB dX8_isRepeating_134 2 (Nat.le_of_ble_eq_true rfl) rfl (12 + (4 * s) + 3) (ix_add (ix_add rfl (ix_mul rfl rfl)) rfl) (by omega) (Nat.le_of_ble_eq_true rfl) ?_
                    refine v_icmp_ne X dX8_isRepeating_135 (tgt := 142) (by decide) (fun c135 => ?_) (fun c135 => ?_)
                    · skip
                      have e3 : ¬ φk (15 + 4 * s) = μ (15 + 4 * s) := fun q => c135 (q.trans (kp_at (by omega) (by omega)).symm)
                      refine v_iconst X dX8_isRepeating_142 (v := (0 : Int32)) (by decide) ?_
                      refine v_istore_n X dX8_isRepeating_143 (i := 1) rfl (Nat.le_of_ble_eq_true rfl) rfl ?_
                      refine v_iinc X dX8_isRepeating_144 (v := nI (s + 1)) rfl (ix_inc rfl) (Nat.le_of_ble_eq_true rfl) rfl ?_
                      refine v_goto X dX8_isRepeating_147 (tgt := 85) (by decide) ?_
                      exact V.cast (ih85 (s + 1) (by omega) (by omega)) (by rw [bst_2 e3]; rfl) (rfl) (rfl)
                    · skip
                      have e3 : φk (15 + 4 * s) = μ (15 + 4 * s) := c135.trans (kp_at (by omega) (by omega))
                      refine v_iconst X dX8_isRepeating_138 (v := (1 : Int32)) (by decide) ?_
                      refine v_goto X dX8_isRepeating_139 (tgt := 143) (by decide) ?_
                      refine v_istore_n X dX8_isRepeating_143 (i := 1) rfl (Nat.le_of_ble_eq_true rfl) rfl ?_
                      refine v_iinc X dX8_isRepeating_144 (v := nI (s + 1)) rfl (ix_inc rfl) (Nat.le_of_ble_eq_true rfl) rfl ?_
                      refine v_goto X dX8_isRepeating_147 (tgt := 85) (by decide) ?_
                      exact V.cast (ih85 (s + 1) (by omega) (by omega)) (by rw [bst_t (bB_ne c91) e2 e3]; rfl) (rfl) (rfl)
          exact V.cast (LP85 _ 0 (Nat.zero_le _) (Nat.lt_succ_self _)) (by rw [stdB, Bool.and_true]; rfl) (rfl) (rfl)
        · skip
          have hk2 : k < C := lt_of_nI (by omega) (by omega) (by rw [← hCk]; exact c44)
          obtain ⟨n1, h1⟩ : ∃ n1, C - k = n1 + 1 := ⟨C - k - 1, by omega⟩
          refine v_iload_n X dX8_isRepeating_47 (i := 1) rfl rfl ?_
          refine v_if_eq X dX8_isRepeating_48 (tgt := 83) (by decide) (fun c48 => ?_) (fun c48 => ?_)
          · skip
            have hans : rpA μ C = bB (z && stdB φk μ 5) ∧ rpX μ C ι = ιk := by
              rcases hI with ⟨hz, -, -, -, hr, hq⟩ | ⟨hz, hr, hq⟩
              · exact absurd (by rw [hz] at c48; exact c48) (by decide : ¬ bB true = 0)
              · exact ⟨by rw [hr, hz, Bool.false_and]; rfl, hq⟩
            refine v_iconst X dX8_isRepeating_83 (v := (0 : Int32)) (by decide) ?_
            refine v_istore_n X dX8_isRepeating_84 (i := 2) rfl (Nat.le_of_ble_eq_true rfl) rfl ?_
            have LP85 : ∀ (n_ : Nat) (s : Nat), (s ≤ 5) → 5 - s < n_ → Vm vp l ve vs vm va vb vt vc g 3 3 N (some (.int (rpA μ C))) (ovr f o (mdL g o μ (cpA μ 0 kp 0 284) hs tx (rpX μ C ι))) (ovr f o (mdL g o φk (cpA μ 0 kp 0 284) hs tx ιk)) 85 [some (.ref o), some (.int (bB (z && stdB φk μ s))), some (.int (nI s))] [] := by
              intro n_
              induction n_ with
              | zero => intro s hs5 hm_; exact absurd hm_ (Nat.not_lt_zero _)
              | succ n_ ih85 =>
                intro s hs5 hm85
                refine v_iload_n X dX8_isRepeating_85 (i := 2) rfl rfl ?_
                refine v_iconst X dX8_isRepeating_86 (v := (5 : Int32)) (by decide) ?_
                refine v_icmp_ge X dX8_isRepeating_87 (tgt := 150) (by decide) (fun c87 => ?_) (fun c87 => ?_)
                · skip
                  have hs6 : s = 5 := Nat.le_antisymm hs5 (le_of_nI (a := 5) (by omega) (by omega) c87)
                  subst hs6
                  refine v_aload_n X dX8_isRepeating_150 (i := 0) rfl rfl ?_
                  refine v_getB X hB cf8 1 (Nat.le_of_ble_eq_true rfl) m_fl_X8_13 dX8_isRepeating_151 0 (Nat.le_of_ble_eq_true rfl) rfl rfl ?_
                  refine v_iconst X dX8_isRepeating_154 (v := (0 : Int32)) (by decide) ?_
                  refine v_aload_n X dX8_isRepeating_155 (i := 0) rfl rfl ?_
                  refine v_getB X hB cf8 0 (Nat.le_of_ble_eq_true rfl) m_fl_X8_7 dX8_isRepeating_156 0 (Nat.le_of_ble_eq_true rfl) rfl rfl ?_
                  refine v_iconst X dX8_isRepeating_159 (v := (0 : Int32)) (by decide) ?_
                  refine v_csB X rfl yv_X8_copies m_ml_X8_33 0 (c_X8_copies_ks l g N o φk (cpA μ 0 kp 0 284) hs tx ιk ) hB (Nat.le_of_ble_eq_true rfl) rfl (Nat.le_of_ble_eq_true rfl) rfl (L' := (mdL g o (cpA (cpA μ 0 kp 0 284) 0 φk 0 284) (cpA μ 0 kp 0 284) hs tx ιk)) (rfl) rfl rfl (Nat.le_of_ble_eq_true rfl) ⟨Nat.le_of_ble_eq_true rfl, Nat.le_of_ble_eq_true rfl⟩ ⟨Nat.le_of_ble_eq_true rfl, Nat.le_of_ble_eq_true rfl⟩ dX8_isRepeating_160 rfl ?_
                  refine v_iload_n X dX8_isRepeating_163 (i := 1) rfl rfl ?_
                  refine v_if_eq X dX8_isRepeating_164 (tgt := 171) (by decide) (fun c164 => ?_) (fun c164 => ?_)
                  · skip
                    refine v_iconst X dX8_isRepeating_171 (v := (0 : Int32)) (by decide) ?_
                    exact v_iret X rfl dX8_isRepeating_172 (by rw [hans.1, c164]) (by rw [cp_back hh, hans.2])
                  · skip
                    refine v_iconst X dX8_isRepeating_167 (v := (1 : Int32)) (by decide) ?_
                    refine v_goto X dX8_isRepeating_168 (tgt := 172) (by decide) ?_
                    exact v_iret X rfl dX8_isRepeating_172 (by rw [hans.1, bB_ne c164]; rfl) (by rw [cp_back hh, hans.2])
                · skip
                  have hs6 : s < 5 := lt_of_nI (b := 5) (by omega) (by omega) c87
                  refine v_iload_n X dX8_isRepeating_90 (i := 1) rfl rfl ?_
                  refine v_if_eq X dX8_isRepeating_91 (tgt := 142) (by decide) (fun c91 => ?_) (fun c91 => ?_)
                  · skip
                    refine v_iconst X dX8_isRepeating_142 (v := (0 : Int32)) (by decide) ?_
                    refine v_istore_n X dX8_isRepeating_143 (i := 1) rfl (Nat.le_of_ble_eq_true rfl) rfl ?_
                    refine v_iinc X dX8_isRepeating_144 (v := nI (s + 1)) rfl (ix_inc rfl) (Nat.le_of_ble_eq_true rfl) rfl ?_
                    refine v_goto X dX8_isRepeating_147 (tgt := 85) (by decide) ?_
                    exact V.cast (ih85 (s + 1) (by omega) (by omega)) (by rw [bst_f (bB_eq c91)]; rfl) (rfl) (rfl)
                  · skip
                    refine v_aload_n X dX8_isRepeating_94 (i := 0) rfl rfl ?_
                    refine v_iload_n X dX8_isRepeating_95 (i := 2) rfl rfl ?_
                    refine v_iconst X dX8_isRepeating_96 (v := (2 : Int32)) (by decide) ?_
                    refine v_cvB X rfl yv_X8_shuttlePart m_ml_X8_44 0 0 (c_X8_shuttlePart l g N o (nI s) s rfl (2 : Int32) 2 rfl φk (cpA μ 0 kp 0 284) hs tx ιk (by omega) (by omega)) hB (Nat.le_of_ble_eq_true rfl) rfl (Nat.le_of_ble_eq_true rfl) rfl (L' := (mdL g o φk (cpA μ 0 kp 0 284) hs tx ιk)) (rfl) rfl (Nat.le_of_ble_eq_true rfl) rfl rfl (Nat.le_of_ble_eq_true rfl) ⟨Nat.le_of_ble_eq_true rfl, Nat.le_of_ble_eq_true rfl⟩ ⟨Nat.le_of_ble_eq_true rfl, Nat.le_of_ble_eq_true rfl⟩ dX8_isRepeating_97 rfl ?_
                    refine v_aload_n X dX8_isRepeating_100 (i := 0) rfl rfl ?_
                    refine v_getB X hB cf8 1 (Nat.le_of_ble_eq_true rfl) m_fl_X8_13 dX8_isRepeating_101 0 (Nat.le_of_ble_eq_true rfl) rfl rfl ?_
                    refine v_bipush X dX8_isRepeating_104 (v := (12 : Int32)) (by decide) ?_
                    refine v_iconst X dX8_isRepeating_106 (v := (4 : Int32)) (by decide) ?_
                    refine v_iload_n X dX8_isRepeating_107 (i := 2) rfl rfl ?_
                    refine v_imul X dX8_isRepeating_108 ?_
                    refine v_iadd X dX8_isRepeating_109 ?_
                    refine v_iconst X dX8_isRepeating_110 (v := (2 : Int32)) (by decide) ?_
                    refine v_iadd X dX8_isRepeating_111 ?_
                    refine v_ialdB X hB dX8_isRepeating_112 2 (Nat.le_of_ble_eq_true rfl) rfl (12 + (4 * s) + 2) (ix_add (ix_add rfl (ix_mul rfl rfl)) rfl) (by omega) (Nat.le_of_ble_eq_true rfl) ?_
                    refine v_icmp_ne X dX8_isRepeating_113 (tgt := 142) (by decide) (fun c113 => ?_) (fun c113 => ?_)
                    · skip
                      have e2 : ¬ φk (14 + 4 * s) = μ (14 + 4 * s) := fun q => c113 (q.trans (kp_at (by omega) (by omega)).symm)
                      refine v_iconst X dX8_isRepeating_142 (v := (0 : Int32)) (by decide) ?_
                      refine v_istore_n X dX8_isRepeating_143 (i := 1) rfl (Nat.le_of_ble_eq_true rfl) rfl ?_
                      refine v_iinc X dX8_isRepeating_144 (v := nI (s + 1)) rfl (ix_inc rfl) (Nat.le_of_ble_eq_true rfl) rfl ?_
                      refine v_goto X dX8_isRepeating_147 (tgt := 85) (by decide) ?_
                      exact V.cast (ih85 (s + 1) (by omega) (by omega)) (by rw [bst_1 e2]; rfl) (rfl) (rfl)
                    · skip
                      have e2 : φk (14 + 4 * s) = μ (14 + 4 * s) := c113.trans (kp_at (by omega) (by omega))
                      refine v_aload_n X dX8_isRepeating_116 (i := 0) rfl rfl ?_
                      refine v_iload_n X dX8_isRepeating_117 (i := 2) rfl rfl ?_
                      refine v_iconst X dX8_isRepeating_118 (v := (3 : Int32)) (by decide) ?_
                      refine v_cvB X rfl yv_X8_shuttlePart m_ml_X8_44 0 0 (c_X8_shuttlePart l g N o (nI s) s rfl (3 : Int32) 3 rfl φk (cpA μ 0 kp 0 284) hs tx ιk (by omega) (by omega)) hB (Nat.le_of_ble_eq_true rfl) rfl (Nat.le_of_ble_eq_true rfl) rfl (L' := (mdL g o φk (cpA μ 0 kp 0 284) hs tx ιk)) (rfl) rfl (Nat.le_of_ble_eq_true rfl) rfl rfl (Nat.le_of_ble_eq_true rfl) ⟨Nat.le_of_ble_eq_true rfl, Nat.le_of_ble_eq_true rfl⟩ ⟨Nat.le_of_ble_eq_true rfl, Nat.le_of_ble_eq_true rfl⟩ dX8_isRepeating_119 rfl ?_
                      refine v_aload_n X dX8_isRepeating_122 (i := 0) rfl rfl ?_
                      refine v_getB X hB cf8 1 (Nat.le_of_ble_eq_true rfl) m_fl_X8_13 dX8_isRepeating_123 0 (Nat.le_of_ble_eq_true rfl) rfl rfl ?_
                      refine v_bipush X dX8_isRepeating_126 (v := (12 : Int32)) (by decide) ?_
                      refine v_iconst X dX8_isRepeating_128 (v := (4 : Int32)) (by decide) ?_
                      refine v_iload_n X dX8_isRepeating_129 (i := 2) rfl rfl ?_
                      refine v_imul X dX8_isRepeating_130 ?_
                      refine v_iadd X dX8_isRepeating_131 ?_
                      refine v_iconst X dX8_isRepeating_132 (v := (3 : Int32)) (by decide) ?_
                      refine v_iadd X dX8_isRepeating_133 ?_
                      refine v_ialdB X hB dX8_isRepeating_134 2 (Nat.le_of_ble_eq_true rfl) rfl (12 + (4 * s) + 3) (ix_add (ix_add rfl (ix_mul rfl rfl)) rfl) (by omega) (Nat.le_of_ble_eq_true rfl) ?_
                      refine v_icmp_ne X dX8_isRepeating_135 (tgt := 142) (by decide) (fun c135 => ?_) (fun c135 => ?_)
                      · skip
                        have e3 : ¬ φk (15 + 4 * s) = μ (15 + 4 * s) := fun q => c135 (q.trans (kp_at (by omega) (by omega)).symm)
                        refine v_iconst X dX8_isRepeating_142 (v := (0 : Int32)) (by decide) ?_
                        refine v_istore_n X dX8_isRepeating_143 (i := 1) rfl (Nat.le_of_ble_eq_true rfl) rfl ?_
                        refine v_iinc X dX8_isRepeating_144 (v := nI (s + 1)) rfl (ix_inc rfl) (Nat.le_of_ble_eq_true rfl) rfl ?_
                        refine v_goto X dX8_isRepeating_147 (tgt := 85) (by decide) ?_
                        exact V.cast (ih85 (s + 1) (by omega) (by omega)) (by rw [bst_2 e3]; rfl) (rfl) (rfl)
                      · skip
                        have e3 : φk (15 + 4 * s) = μ (15 + 4 * s) := c135.trans (kp_at (by omega) (by omega))
                        refine v_iconst X dX8_isRepeating_138 (v := (1 : Int32)) (by decide) ?_
                        refine v_goto X dX8_isRepeating_139 (tgt := 143) (by decide) ?_
                        refine v_istore_n X dX8_isRepeating_143 (i := 1) rfl (Nat.le_of_ble_eq_true rfl) rfl ?_
                        refine v_iinc X dX8_isRepeating_144 (v := nI (s + 1)) rfl (ix_inc rfl) (Nat.le_of_ble_eq_true rfl) rfl ?_
                        refine v_goto X dX8_isRepeating_147 (tgt := 85) (by decide) ?_
                        exact V.cast (ih85 (s + 1) (by omega) (by omega)) (by rw [bst_t (bB_ne c91) e2 e3]; rfl) (rfl) (rfl)
            exact V.cast (LP85 _ 0 (Nat.zero_le _) (Nat.lt_succ_self _)) (by rw [stdB, Bool.and_true]; rfl) (rfl) (rfl)
          · skip
            obtain ⟨hz, ⟨P0, hC, hP, hPC, hC16⟩, hUk, hYk, hr, hq⟩ := hI.resolve_right (fun q => absurd (by rw [q.1]; rfl) c48)
            refine v_aload_n X dX8_isRepeating_51 (i := 0) rfl rfl ?_
            refine v_iconst X dX8_isRepeating_52 (v := (1 : Int32)) (by decide) ?_
            refine v_cvB X rfl yv_X8_findReason m_ml_X8_79 0 0 (c_X8_findReason_1 l g N o φk (cpA μ 0 kp 0 284) hs tx ιk C P0 hC hP hPC hC16 hUk hYk) hB (Nat.le_of_ble_eq_true rfl) rfl (Nat.le_of_ble_eq_true rfl) rfl (L' := (mdL g o φk (cpA μ 0 kp 0 284) hs tx (ιR ιk (rsG φk C P0) (rnM φk P0 (rsG φk C P0))))) (rfl) rfl (Nat.le_of_ble_eq_true rfl) rfl rfl (Nat.le_of_ble_eq_true rfl) ⟨Nat.le_of_ble_eq_true rfl, Nat.le_of_ble_eq_true rfl⟩ ⟨Nat.le_of_ble_eq_true rfl, Nat.le_of_ble_eq_true rfl⟩ dX8_isRepeating_53 rfl ?_
            refine V.cast (f' := ovr f o (mdL g o φk (cpA μ 0 kp 0 284) hs tx (ιG ιk φk))) ?_ rfl rfl (congrArg (fun z => ovr f o (mdL g o φk (cpA μ 0 kp 0 284) hs tx z)) (ιG_eq hC hP hPC hC16))
            refine v_aload_n X dX8_isRepeating_56 (i := 0) rfl rfl ?_
            refine v_getB X hB cf8 6 (Nat.le_of_ble_eq_true rfl) m_fl_X8_54 dX8_isRepeating_57 0 (Nat.le_of_ble_eq_true rfl) rfl rfl ?_
            refine v_if_ne X dX8_isRepeating_60 (tgt := 67) (by decide) (fun c60 => ?_) (fun c60 => ?_)
            · skip
              have hz2 : ¬ rsG' φk = 0 := fun z => c60 (ιG_2.trans z)
              refine v_iconst X dX8_isRepeating_67 (v := (0 : Int32)) (by decide) ?_
              refine v_istore_n X dX8_isRepeating_68 (i := 1) rfl (Nat.le_of_ble_eq_true rfl) rfl ?_
              refine v_iload_n X dX8_isRepeating_69 (i := 1) rfl rfl ?_
              refine v_if_eq X dX8_isRepeating_70 (tgt := 77) (by decide) (fun c70 => ?_) (fun c70 => ?_)
              · skip
                refine v_iinc X dX8_isRepeating_77 (v := nI (k + 1)) rfl (ix_inc rfl) (Nat.le_of_ble_eq_true rfl) rfl ?_
                refine v_goto X dX8_isRepeating_80 (tgt := 37) (by decide) ?_
                exact V.cast (ih37 (k + 1) φk false (ιG ιk φk) (by omega) hCk hh (Or.inr ⟨rfl, by rw [hr, h1, rpC, if_neg hz2], by rw [hq, h1, rpI, if_neg hz2]⟩) (by omega)) (by rfl) (rfl) (rfl)
              · skip
                exact absurd c70 (by decide)
            · skip
              have hz2 : rsG' φk = 0 := ιG_2.symm.trans c60
              have h0 := rsG_0 ((rsG'_eq hC hP hC16 hPC).symm.trans hz2)
              obtain ⟨hC0, k9, hk9, hfl⟩ := rsC_0 h0
              have hPC1 : P0 < C := by omega
              have h3 : ιG ιk φk 3 = nI k9 := ιG_3 hP (by omega) hz2 hfl
              have hsd := fly_01 h0 hk9 hfl
              refine v_iconst X dX8_isRepeating_63 (v := (1 : Int32)) (by decide) ?_
              refine v_goto X dX8_isRepeating_64 (tgt := 68) (by decide) ?_
              refine v_istore_n X dX8_isRepeating_68 (i := 1) rfl (Nat.le_of_ble_eq_true rfl) rfl ?_
              refine v_iload_n X dX8_isRepeating_69 (i := 1) rfl rfl ?_
              refine v_if_eq X dX8_isRepeating_70 (tgt := 77) (by decide) (fun c70 => ?_) (fun c70 => ?_)
              · skip
                exact absurd c70 (by decide)
              · skip
                refine v_aload_n X dX8_isRepeating_73 (i := 0) rfl rfl ?_
                refine v_cvB X rfl yv_X8_moves m_ml_X8_86 0 0 (c_X8_moves l g N o φk (cpA μ 0 kp 0 284) hs tx (ιG ιk φk) C P0 k9 hC hP hPC1 hC16 hk9 h3 hsd) hB (Nat.le_of_ble_eq_true rfl) rfl (Nat.le_of_ble_eq_true rfl) rfl (L' := (mdL g o (mvS φk C P0 k9) (cpA μ 0 kp 0 284) hs tx (ιG ιk φk))) (rfl) rfl (Nat.le_of_ble_eq_true rfl) rfl rfl (Nat.le_of_ble_eq_true rfl) ⟨Nat.le_of_ble_eq_true rfl, Nat.le_of_ble_eq_true rfl⟩ ⟨Nat.le_of_ble_eq_true rfl, Nat.le_of_ble_eq_true rfl⟩ dX8_isRepeating_74 rfl ?_
                obtain ⟨φ2, P2, e2, g8, hU8, hY8, hh8⟩ : ∃ φ2 P2, mvS φk C P0 k9 = φ2 ∧ GC C P2 φ2 ∧ UN φ2 ∧ YN φ2 ∧ (∀ i, 104 ≤ i → φ2 i = μ i) := ⟨_, _, rfl, GC_mv ⟨hC, hP, hPC, hC16⟩ hPC1 hk9, UN_mv hUk h0 hk9 hfl, YN_mv hYk h0 hk9 hfl, fun i hi => (mvS_o hk9 (by omega) (by omega)).trans (hh i hi)⟩
                have hmv : mvS' φk = φ2 := (mvS'_eq hC hP hC16 hPC1 hk9 hfl).trans e2
                refine V.cast (f' := ovr f o (mdL g o φ2 (cpA μ 0 kp 0 284) hs tx (ιG ιk φk))) ?_ rfl rfl (congrArg (fun z => ovr f o (mdL g o z (cpA μ 0 kp 0 284) hs tx (ιG ιk φk))) e2)
                refine v_iinc X dX8_isRepeating_77 (v := nI (k + 1)) rfl (ix_inc rfl) (Nat.le_of_ble_eq_true rfl) rfl ?_
                refine v_goto X dX8_isRepeating_80 (tgt := 37) (by decide) ?_
                exact V.cast (ih37 (k + 1) φ2 true (ιG ιk φk) (by omega) g8.1 hh8 (Or.inl ⟨rfl, ⟨P2, g8⟩, hU8, hY8, by rw [hr, h1, rpC, if_pos hz2, hmv, show C - (k + 1) = n1 by omega], by rw [hq, h1, rpI, if_pos hz2, hmv, show C - (k + 1) = n1 by omega]⟩) (by omega)) (by rfl) (rfl) (rfl)
    exact V.cast (LP37 _ 0 (upd μ 1 0) false ι (Nat.zero_le _) hC7 (fun i hi => pk_un (by omega)) (Or.inr ⟨rfl, by rw [rpA, if_pos hC0], by rw [rpX, if_pos hC0]⟩) (Nat.lt_succ_self _)) (by rfl) (rfl) (rfl)
  · skip
    have hC0 : ¬ C = 0 := by
      intro z
      rw [hC7, z] at c26
      exact absurd c26 (by decide)
    refine v_iconst X dX8_isRepeating_29 (v := (1 : Int32)) (by decide) ?_
    refine v_goto X dX8_isRepeating_30 (tgt := 34) (by decide) ?_
    refine v_istore_n X dX8_isRepeating_34 (i := 1) rfl (Nat.le_of_ble_eq_true rfl) rfl ?_
    refine v_iconst X dX8_isRepeating_35 (v := (0 : Int32)) (by decide) ?_
    refine v_istore_n X dX8_isRepeating_36 (i := 2) rfl (Nat.le_of_ble_eq_true rfl) rfl ?_
    have LP37 : ∀ (n_ : Nat) (k : Nat) (φk : Nat → Int32) (z : Bool) (ιk : Nat → Int32), (k ≤ C) → (φk 0 = nI C) → (∀ i, 104 ≤ i → φk i = μ i) → ((z = true ∧ (∃ P, GC C P φk) ∧ UN φk ∧ YN φk ∧ rpA μ C = rpC (C - k) φk μ ∧ rpX μ C ι = rpI (C - k) φk ιk) ∨ (z = false ∧ rpA μ C = 0 ∧ rpX μ C ι = ιk)) → C - k < n_ → Vm vp l ve vs vm va vb vt vc g 3 3 N (some (.int (rpA μ C))) (ovr f o (mdL g o μ (cpA μ 0 kp 0 284) hs tx (rpX μ C ι))) (ovr f o (mdL g o φk (cpA μ 0 kp 0 284) hs tx ιk)) 37 [some (.ref o), some (.int (bB z)), some (.int (nI k))] [] := by
      intro n_
      induction n_ with
      | zero => intro k φk z ιk hk hCk hh hI hm_; exact absurd hm_ (Nat.not_lt_zero _)
      | succ n_ ih37 =>
        intro k φk z ιk hk hCk hh hI hm37
        refine v_iload_n X dX8_isRepeating_37 (i := 2) rfl rfl ?_
        refine v_aload_n X dX8_isRepeating_38 (i := 0) rfl rfl ?_
        refine v_getB X hB cf8 0 (Nat.le_of_ble_eq_true rfl) m_fl_X8_7 dX8_isRepeating_39 0 (Nat.le_of_ble_eq_true rfl) rfl rfl ?_
        refine v_iconst X dX8_isRepeating_42 (v := (0 : Int32)) (by decide) ?_
        refine v_ialdB X hB dX8_isRepeating_43 1 (Nat.le_of_ble_eq_true rfl) rfl 0 rfl (by omega) (Nat.le_of_ble_eq_true rfl) ?_
        refine v_icmp_ge X dX8_isRepeating_44 (tgt := 83) (by decide) (fun c44 => ?_) (fun c44 => ?_)
        · skip
          have hk2 : k = C := Nat.le_antisymm hk (le_of_nI (by omega) (by omega) (by rw [← hCk]; exact c44))
          have hans : rpA μ C = bB (z && stdB φk μ 5) ∧ rpX μ C ι = ιk := by
            rcases hI with ⟨hz, -, -, -, hr, hq⟩ | ⟨hz, hr, hq⟩
            · exact ⟨by rw [hr, hk2, Nat.sub_self, rpC_0, hz, Bool.true_and], by rw [hq, hk2, Nat.sub_self, rpI]⟩
            · exact ⟨by rw [hr, hz, Bool.false_and]; rfl, hq⟩
          refine v_iconst X dX8_isRepeating_83 (v := (0 : Int32)) (by decide) ?_
          refine v_istore_n X dX8_isRepeating_84 (i := 2) rfl (Nat.le_of_ble_eq_true rfl) rfl ?_
          have LP85 : ∀ (n_ : Nat) (s : Nat), (s ≤ 5) → 5 - s < n_ → Vm vp l ve vs vm va vb vt vc g 3 3 N (some (.int (rpA μ C))) (ovr f o (mdL g o μ (cpA μ 0 kp 0 284) hs tx (rpX μ C ι))) (ovr f o (mdL g o φk (cpA μ 0 kp 0 284) hs tx ιk)) 85 [some (.ref o), some (.int (bB (z && stdB φk μ s))), some (.int (nI s))] [] := by
            intro n_
            induction n_ with
            | zero => intro s hs5 hm_; exact absurd hm_ (Nat.not_lt_zero _)
            | succ n_ ih85 =>
              intro s hs5 hm85
              refine v_iload_n X dX8_isRepeating_85 (i := 2) rfl rfl ?_
              refine v_iconst X dX8_isRepeating_86 (v := (5 : Int32)) (by decide) ?_
              refine v_icmp_ge X dX8_isRepeating_87 (tgt := 150) (by decide) (fun c87 => ?_) (fun c87 => ?_)
              · skip
                have hs6 : s = 5 := Nat.le_antisymm hs5 (le_of_nI (a := 5) (by omega) (by omega) c87)
                subst hs6
                refine v_aload_n X dX8_isRepeating_150 (i := 0) rfl rfl ?_
                refine v_getB X hB cf8 1 (Nat.le_of_ble_eq_true rfl) m_fl_X8_13 dX8_isRepeating_151 0 (Nat.le_of_ble_eq_true rfl) rfl rfl ?_
                refine v_iconst X dX8_isRepeating_154 (v := (0 : Int32)) (by decide) ?_
                refine v_aload_n X dX8_isRepeating_155 (i := 0) rfl rfl ?_
                refine v_getB X hB cf8 0 (Nat.le_of_ble_eq_true rfl) m_fl_X8_7 dX8_isRepeating_156 0 (Nat.le_of_ble_eq_true rfl) rfl rfl ?_
                refine v_iconst X dX8_isRepeating_159 (v := (0 : Int32)) (by decide) ?_
                refine v_csB X rfl yv_X8_copies m_ml_X8_33 0 (c_X8_copies_ks l g N o φk (cpA μ 0 kp 0 284) hs tx ιk ) hB (Nat.le_of_ble_eq_true rfl) rfl (Nat.le_of_ble_eq_true rfl) rfl (L' := (mdL g o (cpA (cpA μ 0 kp 0 284) 0 φk 0 284) (cpA μ 0 kp 0 284) hs tx ιk)) (rfl) rfl rfl (Nat.le_of_ble_eq_true rfl) ⟨Nat.le_of_ble_eq_true rfl, Nat.le_of_ble_eq_true rfl⟩ ⟨Nat.le_of_ble_eq_true rfl, Nat.le_of_ble_eq_true rfl⟩ dX8_isRepeating_160 rfl ?_
                refine v_iload_n X dX8_isRepeating_163 (i := 1) rfl rfl ?_
                refine v_if_eq X dX8_isRepeating_164 (tgt := 171) (by decide) (fun c164 => ?_) (fun c164 => ?_)
                · skip
                  refine v_iconst X dX8_isRepeating_171 (v := (0 : Int32)) (by decide) ?_
                  exact v_iret X rfl dX8_isRepeating_172 (by rw [hans.1, c164]) (by rw [cp_back hh, hans.2])
                · skip
                  refine v_iconst X dX8_isRepeating_167 (v := (1 : Int32)) (by decide) ?_
                  refine v_goto X dX8_isRepeating_168 (tgt := 172) (by decide) ?_
                  exact v_iret X rfl dX8_isRepeating_172 (by rw [hans.1, bB_ne c164]; rfl) (by rw [cp_back hh, hans.2])
              · skip
                have hs6 : s < 5 := lt_of_nI (b := 5) (by omega) (by omega) c87
                refine v_iload_n X dX8_isRepeating_90 (i := 1) rfl rfl ?_
                refine v_if_eq X dX8_isRepeating_91 (tgt := 142) (by decide) (fun c91 => ?_) (fun c91 => ?_)
                · skip
                  refine v_iconst X dX8_isRepeating_142 (v := (0 : Int32)) (by decide) ?_
                  refine v_istore_n X dX8_isRepeating_143 (i := 1) rfl (Nat.le_of_ble_eq_true rfl) rfl ?_
                  refine v_iinc X dX8_isRepeating_144 (v := nI (s + 1)) rfl (ix_inc rfl) (Nat.le_of_ble_eq_true rfl) rfl ?_
                  refine v_goto X dX8_isRepeating_147 (tgt := 85) (by decide) ?_
                  exact V.cast (ih85 (s + 1) (by omega) (by omega)) (by rw [bst_f (bB_eq c91)]; rfl) (rfl) (rfl)
                · skip
                  refine v_aload_n X dX8_isRepeating_94 (i := 0) rfl rfl ?_
                  refine v_iload_n X dX8_isRepeating_95 (i := 2) rfl rfl ?_
                  refine v_iconst X dX8_isRepeating_96 (v := (2 : Int32)) (by decide) ?_
                  refine v_cvB X rfl yv_X8_shuttlePart m_ml_X8_44 0 0 (c_X8_shuttlePart l g N o (nI s) s rfl (2 : Int32) 2 rfl φk (cpA μ 0 kp 0 284) hs tx ιk (by omega) (by omega)) hB (Nat.le_of_ble_eq_true rfl) rfl (Nat.le_of_ble_eq_true rfl) rfl (L' := (mdL g o φk (cpA μ 0 kp 0 284) hs tx ιk)) (rfl) rfl (Nat.le_of_ble_eq_true rfl) rfl rfl (Nat.le_of_ble_eq_true rfl) ⟨Nat.le_of_ble_eq_true rfl, Nat.le_of_ble_eq_true rfl⟩ ⟨Nat.le_of_ble_eq_true rfl, Nat.le_of_ble_eq_true rfl⟩ dX8_isRepeating_97 rfl ?_
                  refine v_aload_n X dX8_isRepeating_100 (i := 0) rfl rfl ?_
                  refine v_getB X hB cf8 1 (Nat.le_of_ble_eq_true rfl) m_fl_X8_13 dX8_isRepeating_101 0 (Nat.le_of_ble_eq_true rfl) rfl rfl ?_
                  refine v_bipush X dX8_isRepeating_104 (v := (12 : Int32)) (by decide) ?_
                  refine v_iconst X dX8_isRepeating_106 (v := (4 : Int32)) (by decide) ?_
                  refine v_iload_n X dX8_isRepeating_107 (i := 2) rfl rfl ?_
                  refine v_imul X dX8_isRepeating_108 ?_
                  refine v_iadd X dX8_isRepeating_109 ?_
                  refine v_iconst X dX8_isRepeating_110 (v := (2 : Int32)) (by decide) ?_
                  refine v_iadd X dX8_isRepeating_111 ?_
                  refine v_ialdB X hB dX8_isRepeating_112 2 (Nat.le_of_ble_eq_true rfl) rfl (12 + (4 * s) + 2) (ix_add (ix_add rfl (ix_mul rfl rfl)) rfl) (by omega) (Nat.le_of_ble_eq_true rfl) ?_
                  refine v_icmp_ne X dX8_isRepeating_113 (tgt := 142) (by decide) (fun c113 => ?_) (fun c113 => ?_)
                  · skip
                    have e2 : ¬ φk (14 + 4 * s) = μ (14 + 4 * s) := fun q => c113 (q.trans (kp_at (by omega) (by omega)).symm)
                    refine v_iconst X dX8_isRepeating_142 (v := (0 : Int32)) (by decide) ?_
                    refine v_istore_n X dX8_isRepeating_143 (i := 1) rfl (Nat.le_of_ble_eq_true rfl) rfl ?_
                    refine v_iinc X dX8_isRepeating_144 (v := nI (s + 1)) rfl (ix_inc rfl) (Nat.le_of_ble_eq_true rfl) rfl ?_
                    refine v_goto X dX8_isRepeating_147 (tgt := 85) (by decide) ?_
                    exact V.cast (ih85 (s + 1) (by omega) (by omega)) (by rw [bst_1 e2]; rfl) (rfl) (rfl)
                  · skip
                    have e2 : φk (14 + 4 * s) = μ (14 + 4 * s) := c113.trans (kp_at (by omega) (by omega))
                    refine v_aload_n X dX8_isRepeating_116 (i := 0) rfl rfl ?_
                    refine v_iload_n X dX8_isRepeating_117 (i := 2) rfl rfl ?_
                    refine v_iconst X dX8_isRepeating_118 (v := (3 : Int32)) (by decide) ?_
                    refine v_cvB X rfl yv_X8_shuttlePart m_ml_X8_44 0 0 (c_X8_shuttlePart l g N o (nI s) s rfl (3 : Int32) 3 rfl φk (cpA μ 0 kp 0 284) hs tx ιk (by omega) (by omega)) hB (Nat.le_of_ble_eq_true rfl) rfl (Nat.le_of_ble_eq_true rfl) rfl (L' := (mdL g o φk (cpA μ 0 kp 0 284) hs tx ιk)) (rfl) rfl (Nat.le_of_ble_eq_true rfl) rfl rfl (Nat.le_of_ble_eq_true rfl) ⟨Nat.le_of_ble_eq_true rfl, Nat.le_of_ble_eq_true rfl⟩ ⟨Nat.le_of_ble_eq_true rfl, Nat.le_of_ble_eq_true rfl⟩ dX8_isRepeating_119 rfl ?_
                    refine v_aload_n X dX8_isRepeating_122 (i := 0) rfl rfl ?_
                    refine v_getB X hB cf8 1 (Nat.le_of_ble_eq_true rfl) m_fl_X8_13 dX8_isRepeating_123 0 (Nat.le_of_ble_eq_true rfl) rfl rfl ?_
                    refine v_bipush X dX8_isRepeating_126 (v := (12 : Int32)) (by decide) ?_
                    refine v_iconst X dX8_isRepeating_128 (v := (4 : Int32)) (by decide) ?_
                    refine v_iload_n X dX8_isRepeating_129 (i := 2) rfl rfl ?_
                    refine v_imul X dX8_isRepeating_130 ?_
                    refine v_iadd X dX8_isRepeating_131 ?_
                    refine v_iconst X dX8_isRepeating_132 (v := (3 : Int32)) (by decide) ?_
                    refine v_iadd X dX8_isRepeating_133 ?_
                    refine v_ialdB X hB dX8_isRepeating_134 2 (Nat.le_of_ble_eq_true rfl) rfl (12 + (4 * s) + 3) (ix_add (ix_add rfl (ix_mul rfl rfl)) rfl) (by omega) (Nat.le_of_ble_eq_true rfl) ?_
                    refine v_icmp_ne X dX8_isRepeating_135 (tgt := 142) (by decide) (fun c135 => ?_) (fun c135 => ?_)
                    · skip
                      have e3 : ¬ φk (15 + 4 * s) = μ (15 + 4 * s) := fun q => c135 (q.trans (kp_at (by omega) (by omega)).symm)
                      refine v_iconst X dX8_isRepeating_142 (v := (0 : Int32)) (by decide) ?_
                      refine v_istore_n X dX8_isRepeating_143 (i := 1) rfl (Nat.le_of_ble_eq_true rfl) rfl ?_
                      refine v_iinc X dX8_isRepeating_144 (v := nI (s + 1)) rfl (ix_inc rfl) (Nat.le_of_ble_eq_true rfl) rfl ?_
                      refine v_goto X dX8_isRepeating_147 (tgt := 85) (by decide) ?_
                      exact V.cast (ih85 (s + 1) (by omega) (by omega)) (by rw [bst_2 e3]; rfl) (rfl) (rfl)
                    · skip
                      have e3 : φk (15 + 4 * s) = μ (15 + 4 * s) := c135.trans (kp_at (by omega) (by omega))
                      refine v_iconst X dX8_isRepeating_138 (v := (1 : Int32)) (by decide) ?_
                      refine v_goto X dX8_isRepeating_139 (tgt := 143) (by decide) ?_
                      refine v_istore_n X dX8_isRepeating_143 (i := 1) rfl (Nat.le_of_ble_eq_true rfl) rfl ?_
                      refine v_iinc X dX8_isRepeating_144 (v := nI (s + 1)) rfl (ix_inc rfl) (Nat.le_of_ble_eq_true rfl) rfl ?_
                      refine v_goto X dX8_isRepeating_147 (tgt := 85) (by decide) ?_
                      exact V.cast (ih85 (s + 1) (by omega) (by omega)) (by rw [bst_t (bB_ne c91) e2 e3]; rfl) (rfl) (rfl)
          exact V.cast (LP85 _ 0 (Nat.zero_le _) (Nat.lt_succ_self _)) (by rw [stdB, Bool.and_true]; rfl) (rfl) (rfl)
        · skip
          have hk2 : k < C := lt_of_nI (by omega) (by omega) (by rw [← hCk]; exact c44)
          obtain ⟨n1, h1⟩ : ∃ n1, C - k = n1 + 1 := ⟨C - k - 1, by omega⟩
          refine v_iload_n X dX8_isRepeating_47 (i := 1) rfl rfl ?_
          refine v_if_eq X dX8_isRepeating_48 (tgt := 83) (by decide) (fun c48 => ?_) (fun c48 => ?_)
          · skip
            have hans : rpA μ C = bB (z && stdB φk μ 5) ∧ rpX μ C ι = ιk := by
              rcases hI with ⟨hz, -, -, -, hr, hq⟩ | ⟨hz, hr, hq⟩
              · exact absurd (by rw [hz] at c48; exact c48) (by decide : ¬ bB true = 0)
              · exact ⟨by rw [hr, hz, Bool.false_and]; rfl, hq⟩
            refine v_iconst X dX8_isRepeating_83 (v := (0 : Int32)) (by decide) ?_
            refine v_istore_n X dX8_isRepeating_84 (i := 2) rfl (Nat.le_of_ble_eq_true rfl) rfl ?_
            have LP85 : ∀ (n_ : Nat) (s : Nat), (s ≤ 5) → 5 - s < n_ → Vm vp l ve vs vm va vb vt vc g 3 3 N (some (.int (rpA μ C))) (ovr f o (mdL g o μ (cpA μ 0 kp 0 284) hs tx (rpX μ C ι))) (ovr f o (mdL g o φk (cpA μ 0 kp 0 284) hs tx ιk)) 85 [some (.ref o), some (.int (bB (z && stdB φk μ s))), some (.int (nI s))] [] := by
              intro n_
              induction n_ with
              | zero => intro s hs5 hm_; exact absurd hm_ (Nat.not_lt_zero _)
              | succ n_ ih85 =>
                intro s hs5 hm85
                refine v_iload_n X dX8_isRepeating_85 (i := 2) rfl rfl ?_
                refine v_iconst X dX8_isRepeating_86 (v := (5 : Int32)) (by decide) ?_
                refine v_icmp_ge X dX8_isRepeating_87 (tgt := 150) (by decide) (fun c87 => ?_) (fun c87 => ?_)
                · skip
                  have hs6 : s = 5 := Nat.le_antisymm hs5 (le_of_nI (a := 5) (by omega) (by omega) c87)
                  subst hs6
                  refine v_aload_n X dX8_isRepeating_150 (i := 0) rfl rfl ?_
                  refine v_getB X hB cf8 1 (Nat.le_of_ble_eq_true rfl) m_fl_X8_13 dX8_isRepeating_151 0 (Nat.le_of_ble_eq_true rfl) rfl rfl ?_
                  refine v_iconst X dX8_isRepeating_154 (v := (0 : Int32)) (by decide) ?_
                  refine v_aload_n X dX8_isRepeating_155 (i := 0) rfl rfl ?_
                  refine v_getB X hB cf8 0 (Nat.le_of_ble_eq_true rfl) m_fl_X8_7 dX8_isRepeating_156 0 (Nat.le_of_ble_eq_true rfl) rfl rfl ?_
                  refine v_iconst X dX8_isRepeating_159 (v := (0 : Int32)) (by decide) ?_
                  refine v_csB X rfl yv_X8_copies m_ml_X8_33 0 (c_X8_copies_ks l g N o φk (cpA μ 0 kp 0 284) hs tx ιk ) hB (Nat.le_of_ble_eq_true rfl) rfl (Nat.le_of_ble_eq_true rfl) rfl (L' := (mdL g o (cpA (cpA μ 0 kp 0 284) 0 φk 0 284) (cpA μ 0 kp 0 284) hs tx ιk)) (rfl) rfl rfl (Nat.le_of_ble_eq_true rfl) ⟨Nat.le_of_ble_eq_true rfl, Nat.le_of_ble_eq_true rfl⟩ ⟨Nat.le_of_ble_eq_true rfl, Nat.le_of_ble_eq_true rfl⟩ dX8_isRepeating_160 rfl ?_
                  refine v_iload_n X dX8_isRepeating_163 (i := 1) rfl rfl ?_
                  refine v_if_eq X dX8_isRepeating_164 (tgt := 171) (by decide) (fun c164 => ?_) (fun c164 => ?_)
                  · skip
                    refine v_iconst X dX8_isRepeating_171 (v := (0 : Int32)) (by decide) ?_
                    exact v_iret X rfl dX8_isRepeating_172 (by rw [hans.1, c164]) (by rw [cp_back hh, hans.2])
                  · skip
                    refine v_iconst X dX8_isRepeating_167 (v := (1 : Int32)) (by decide) ?_
                    refine v_goto X dX8_isRepeating_168 (tgt := 172) (by decide) ?_
                    exact v_iret X rfl dX8_isRepeating_172 (by rw [hans.1, bB_ne c164]; rfl) (by rw [cp_back hh, hans.2])
                · skip
                  have hs6 : s < 5 := lt_of_nI (b := 5) (by omega) (by omega) c87
                  refine v_iload_n X dX8_isRepeating_90 (i := 1) rfl rfl ?_
                  refine v_if_eq X dX8_isRepeating_91 (tgt := 142) (by decide) (fun c91 => ?_) (fun c91 => ?_)
                  · skip
                    refine v_iconst X dX8_isRepeating_142 (v := (0 : Int32)) (by decide) ?_
                    refine v_istore_n X dX8_isRepeating_143 (i := 1) rfl (Nat.le_of_ble_eq_true rfl) rfl ?_
                    refine v_iinc X dX8_isRepeating_144 (v := nI (s + 1)) rfl (ix_inc rfl) (Nat.le_of_ble_eq_true rfl) rfl ?_
                    refine v_goto X dX8_isRepeating_147 (tgt := 85) (by decide) ?_
                    exact V.cast (ih85 (s + 1) (by omega) (by omega)) (by rw [bst_f (bB_eq c91)]; rfl) (rfl) (rfl)
                  · skip
                    refine v_aload_n X dX8_isRepeating_94 (i := 0) rfl rfl ?_
                    refine v_iload_n X dX8_isRepeating_95 (i := 2) rfl rfl ?_
                    refine v_iconst X dX8_isRepeating_96 (v := (2 : Int32)) (by decide) ?_
                    refine v_cvB X rfl yv_X8_shuttlePart m_ml_X8_44 0 0 (c_X8_shuttlePart l g N o (nI s) s rfl (2 : Int32) 2 rfl φk (cpA μ 0 kp 0 284) hs tx ιk (by omega) (by omega)) hB (Nat.le_of_ble_eq_true rfl) rfl (Nat.le_of_ble_eq_true rfl) rfl (L' := (mdL g o φk (cpA μ 0 kp 0 284) hs tx ιk)) (rfl) rfl (Nat.le_of_ble_eq_true rfl) rfl rfl (Nat.le_of_ble_eq_true rfl) ⟨Nat.le_of_ble_eq_true rfl, Nat.le_of_ble_eq_true rfl⟩ ⟨Nat.le_of_ble_eq_true rfl, Nat.le_of_ble_eq_true rfl⟩ dX8_isRepeating_97 rfl ?_
                    refine v_aload_n X dX8_isRepeating_100 (i := 0) rfl rfl ?_
                    refine v_getB X hB cf8 1 (Nat.le_of_ble_eq_true rfl) m_fl_X8_13 dX8_isRepeating_101 0 (Nat.le_of_ble_eq_true rfl) rfl rfl ?_
                    refine v_bipush X dX8_isRepeating_104 (v := (12 : Int32)) (by decide) ?_
                    refine v_iconst X dX8_isRepeating_106 (v := (4 : Int32)) (by decide) ?_
                    refine v_iload_n X dX8_isRepeating_107 (i := 2) rfl rfl ?_
                    refine v_imul X dX8_isRepeating_108 ?_
                    refine v_iadd X dX8_isRepeating_109 ?_
                    refine v_iconst X dX8_isRepeating_110 (v := (2 : Int32)) (by decide) ?_
                    refine v_iadd X dX8_isRepeating_111 ?_
                    refine v_ialdB X hB dX8_isRepeating_112 2 (Nat.le_of_ble_eq_true rfl) rfl (12 + (4 * s) + 2) (ix_add (ix_add rfl (ix_mul rfl rfl)) rfl) (by omega) (Nat.le_of_ble_eq_true rfl) ?_
                    refine v_icmp_ne X dX8_isRepeating_113 (tgt := 142) (by decide) (fun c113 => ?_) (fun c113 => ?_)
                    · skip
                      have e2 : ¬ φk (14 + 4 * s) = μ (14 + 4 * s) := fun q => c113 (q.trans (kp_at (by omega) (by omega)).symm)
                      refine v_iconst X dX8_isRepeating_142 (v := (0 : Int32)) (by decide) ?_
                      refine v_istore_n X dX8_isRepeating_143 (i := 1) rfl (Nat.le_of_ble_eq_true rfl) rfl ?_
                      refine v_iinc X dX8_isRepeating_144 (v := nI (s + 1)) rfl (ix_inc rfl) (Nat.le_of_ble_eq_true rfl) rfl ?_
                      refine v_goto X dX8_isRepeating_147 (tgt := 85) (by decide) ?_
                      exact V.cast (ih85 (s + 1) (by omega) (by omega)) (by rw [bst_1 e2]; rfl) (rfl) (rfl)
                    · skip
                      have e2 : φk (14 + 4 * s) = μ (14 + 4 * s) := c113.trans (kp_at (by omega) (by omega))
                      refine v_aload_n X dX8_isRepeating_116 (i := 0) rfl rfl ?_
                      refine v_iload_n X dX8_isRepeating_117 (i := 2) rfl rfl ?_
                      refine v_iconst X dX8_isRepeating_118 (v := (3 : Int32)) (by decide) ?_
                      refine v_cvB X rfl yv_X8_shuttlePart m_ml_X8_44 0 0 (c_X8_shuttlePart l g N o (nI s) s rfl (3 : Int32) 3 rfl φk (cpA μ 0 kp 0 284) hs tx ιk (by omega) (by omega)) hB (Nat.le_of_ble_eq_true rfl) rfl (Nat.le_of_ble_eq_true rfl) rfl (L' := (mdL g o φk (cpA μ 0 kp 0 284) hs tx ιk)) (rfl) rfl (Nat.le_of_ble_eq_true rfl) rfl rfl (Nat.le_of_ble_eq_true rfl) ⟨Nat.le_of_ble_eq_true rfl, Nat.le_of_ble_eq_true rfl⟩ ⟨Nat.le_of_ble_eq_true rfl, Nat.le_of_ble_eq_true rfl⟩ dX8_isRepeating_119 rfl ?_
                      refine v_aload_n X dX8_isRepeating_122 (i := 0) rfl rfl ?_
                      refine v_getB X hB cf8 1 (Nat.le_of_ble_eq_true rfl) m_fl_X8_13 dX8_isRepeating_123 0 (Nat.le_of_ble_eq_true rfl) rfl rfl ?_
                      refine v_bipush X dX8_isRepeating_126 (v := (12 : Int32)) (by decide) ?_
                      refine v_iconst X dX8_isRepeating_128 (v := (4 : Int32)) (by decide) ?_
                      refine v_iload_n X dX8_isRepeating_129 (i := 2) rfl rfl ?_
                      refine v_imul X dX8_isRepeating_130 ?_
                      refine v_iadd X dX8_isRepeating_131 ?_
                      refine v_iconst X dX8_isRepeating_132 (v := (3 : Int32)) (by decide) ?_
                      refine v_iadd X dX8_isRepeating_133 ?_
                      refine v_ialdB X hB dX8_isRepeating_134 2 (Nat.le_of_ble_eq_true rfl) rfl (12 + (4 * s) + 3) (ix_add (ix_add rfl (ix_mul rfl rfl)) rfl) (by omega) (Nat.le_of_ble_eq_true rfl) ?_
                      refine v_icmp_ne X dX8_isRepeating_135 (tgt := 142) (by decide) (fun c135 => ?_) (fun c135 => ?_)
                      · skip
                        have e3 : ¬ φk (15 + 4 * s) = μ (15 + 4 * s) := fun q => c135 (q.trans (kp_at (by omega) (by omega)).symm)
                        refine v_iconst X dX8_isRepeating_142 (v := (0 : Int32)) (by decide) ?_
                        refine v_istore_n X dX8_isRepeating_143 (i := 1) rfl (Nat.le_of_ble_eq_true rfl) rfl ?_
                        refine v_iinc X dX8_isRepeating_144 (v := nI (s + 1)) rfl (ix_inc rfl) (Nat.le_of_ble_eq_true rfl) rfl ?_
                        refine v_goto X dX8_isRepeating_147 (tgt := 85) (by decide) ?_
                        exact V.cast (ih85 (s + 1) (by omega) (by omega)) (by rw [bst_2 e3]; rfl) (rfl) (rfl)
                      · skip
                        have e3 : φk (15 + 4 * s) = μ (15 + 4 * s) := c135.trans (kp_at (by omega) (by omega))
                        refine v_iconst X dX8_isRepeating_138 (v := (1 : Int32)) (by decide) ?_
                        refine v_goto X dX8_isRepeating_139 (tgt := 143) (by decide) ?_
                        refine v_istore_n X dX8_isRepeating_143 (i := 1) rfl (Nat.le_of_ble_eq_true rfl) rfl ?_
                        refine v_iinc X dX8_isRepeating_144 (v := nI (s + 1)) rfl (ix_inc rfl) (Nat.le_of_ble_eq_true rfl) rfl ?_
                        refine v_goto X dX8_isRepeating_147 (tgt := 85) (by decide) ?_
                        exact V.cast (ih85 (s + 1) (by omega) (by omega)) (by rw [bst_t (bB_ne c91) e2 e3]; rfl) (rfl) (rfl)
            exact V.cast (LP85 _ 0 (Nat.zero_le _) (Nat.lt_succ_self _)) (by rw [stdB, Bool.and_true]; rfl) (rfl) (rfl)
          · skip
            obtain ⟨hz, ⟨P0, hC, hP, hPC, hC16⟩, hUk, hYk, hr, hq⟩ := hI.resolve_right (fun q => absurd (by rw [q.1]; rfl) c48)
            refine v_aload_n X dX8_isRepeating_51 (i := 0) rfl rfl ?_
            refine v_iconst X dX8_isRepeating_52 (v := (1 : Int32)) (by decide) ?_
            refine v_cvB X rfl yv_X8_findReason m_ml_X8_79 0 0 (c_X8_findReason_1 l g N o φk (cpA μ 0 kp 0 284) hs tx ιk C P0 hC hP hPC hC16 hUk hYk) hB (Nat.le_of_ble_eq_true rfl) rfl (Nat.le_of_ble_eq_true rfl) rfl (L' := (mdL g o φk (cpA μ 0 kp 0 284) hs tx (ιR ιk (rsG φk C P0) (rnM φk P0 (rsG φk C P0))))) (rfl) rfl (Nat.le_of_ble_eq_true rfl) rfl rfl (Nat.le_of_ble_eq_true rfl) ⟨Nat.le_of_ble_eq_true rfl, Nat.le_of_ble_eq_true rfl⟩ ⟨Nat.le_of_ble_eq_true rfl, Nat.le_of_ble_eq_true rfl⟩ dX8_isRepeating_53 rfl ?_
            refine V.cast (f' := ovr f o (mdL g o φk (cpA μ 0 kp 0 284) hs tx (ιG ιk φk))) ?_ rfl rfl (congrArg (fun z => ovr f o (mdL g o φk (cpA μ 0 kp 0 284) hs tx z)) (ιG_eq hC hP hPC hC16))
            refine v_aload_n X dX8_isRepeating_56 (i := 0) rfl rfl ?_
            refine v_getB X hB cf8 6 (Nat.le_of_ble_eq_true rfl) m_fl_X8_54 dX8_isRepeating_57 0 (Nat.le_of_ble_eq_true rfl) rfl rfl ?_
            refine v_if_ne X dX8_isRepeating_60 (tgt := 67) (by decide) (fun c60 => ?_) (fun c60 => ?_)
            · skip
              have hz2 : ¬ rsG' φk = 0 := fun z => c60 (ιG_2.trans z)
              refine v_iconst X dX8_isRepeating_67 (v := (0 : Int32)) (by decide) ?_
              refine v_istore_n X dX8_isRepeating_68 (i := 1) rfl (Nat.le_of_ble_eq_true rfl) rfl ?_
              refine v_iload_n X dX8_isRepeating_69 (i := 1) rfl rfl ?_
              refine v_if_eq X dX8_isRepeating_70 (tgt := 77) (by decide) (fun c70 => ?_) (fun c70 => ?_)
              · skip
                refine v_iinc X dX8_isRepeating_77 (v := nI (k + 1)) rfl (ix_inc rfl) (Nat.le_of_ble_eq_true rfl) rfl ?_
                refine v_goto X dX8_isRepeating_80 (tgt := 37) (by decide) ?_
                exact V.cast (ih37 (k + 1) φk false (ιG ιk φk) (by omega) hCk hh (Or.inr ⟨rfl, by rw [hr, h1, rpC, if_neg hz2], by rw [hq, h1, rpI, if_neg hz2]⟩) (by omega)) (by rfl) (rfl) (rfl)
              · skip
                exact absurd c70 (by decide)
            · skip
              have hz2 : rsG' φk = 0 := ιG_2.symm.trans c60
              have h0 := rsG_0 ((rsG'_eq hC hP hC16 hPC).symm.trans hz2)
              obtain ⟨hC0, k9, hk9, hfl⟩ := rsC_0 h0
              have hPC1 : P0 < C := by omega
              have h3 : ιG ιk φk 3 = nI k9 := ιG_3 hP (by omega) hz2 hfl
              have hsd := fly_01 h0 hk9 hfl
              refine v_iconst X dX8_isRepeating_63 (v := (1 : Int32)) (by decide) ?_
              refine v_goto X dX8_isRepeating_64 (tgt := 68) (by decide) ?_
              refine v_istore_n X dX8_isRepeating_68 (i := 1) rfl (Nat.le_of_ble_eq_true rfl) rfl ?_
              refine v_iload_n X dX8_isRepeating_69 (i := 1) rfl rfl ?_
              refine v_if_eq X dX8_isRepeating_70 (tgt := 77) (by decide) (fun c70 => ?_) (fun c70 => ?_)
              · skip
                exact absurd c70 (by decide)
              · skip
                refine v_aload_n X dX8_isRepeating_73 (i := 0) rfl rfl ?_
                refine v_cvB X rfl yv_X8_moves m_ml_X8_86 0 0 (c_X8_moves l g N o φk (cpA μ 0 kp 0 284) hs tx (ιG ιk φk) C P0 k9 hC hP hPC1 hC16 hk9 h3 hsd) hB (Nat.le_of_ble_eq_true rfl) rfl (Nat.le_of_ble_eq_true rfl) rfl (L' := (mdL g o (mvS φk C P0 k9) (cpA μ 0 kp 0 284) hs tx (ιG ιk φk))) (rfl) rfl (Nat.le_of_ble_eq_true rfl) rfl rfl (Nat.le_of_ble_eq_true rfl) ⟨Nat.le_of_ble_eq_true rfl, Nat.le_of_ble_eq_true rfl⟩ ⟨Nat.le_of_ble_eq_true rfl, Nat.le_of_ble_eq_true rfl⟩ dX8_isRepeating_74 rfl ?_
                obtain ⟨φ2, P2, e2, g8, hU8, hY8, hh8⟩ : ∃ φ2 P2, mvS φk C P0 k9 = φ2 ∧ GC C P2 φ2 ∧ UN φ2 ∧ YN φ2 ∧ (∀ i, 104 ≤ i → φ2 i = μ i) := ⟨_, _, rfl, GC_mv ⟨hC, hP, hPC, hC16⟩ hPC1 hk9, UN_mv hUk h0 hk9 hfl, YN_mv hYk h0 hk9 hfl, fun i hi => (mvS_o hk9 (by omega) (by omega)).trans (hh i hi)⟩
                have hmv : mvS' φk = φ2 := (mvS'_eq hC hP hC16 hPC1 hk9 hfl).trans e2
                refine V.cast (f' := ovr f o (mdL g o φ2 (cpA μ 0 kp 0 284) hs tx (ιG ιk φk))) ?_ rfl rfl (congrArg (fun z => ovr f o (mdL g o z (cpA μ 0 kp 0 284) hs tx (ιG ιk φk))) e2)
                refine v_iinc X dX8_isRepeating_77 (v := nI (k + 1)) rfl (ix_inc rfl) (Nat.le_of_ble_eq_true rfl) rfl ?_
                refine v_goto X dX8_isRepeating_80 (tgt := 37) (by decide) ?_
                exact V.cast (ih37 (k + 1) φ2 true (ιG ιk φk) (by omega) g8.1 hh8 (Or.inl ⟨rfl, ⟨P2, g8⟩, hU8, hY8, by rw [hr, h1, rpC, if_pos hz2, hmv, show C - (k + 1) = n1 by omega], by rw [hq, h1, rpI, if_pos hz2, hmv, show C - (k + 1) = n1 by omega]⟩) (by omega)) (by rfl) (rfl) (rfl)
    exact V.cast (LP37 _ 0 (upd μ 1 0) true ι (Nat.zero_le _) hC7 (fun i hi => pk_un (by omega)) (Or.inl ⟨rfl, ⟨0, hg7⟩, UN_o (fun i h1 h2 => (pk_un (by omega)).symm) hU, YN_o (fun i h1 h2 => (pk_un (by omega)).symm) hY, by rw [rpA, if_neg hC0, Nat.sub_zero], by rw [rpX, if_neg hC0, Nat.sub_zero]⟩) (Nat.lt_succ_self _)) (by rfl) (rfl) (rfl)
set_option maxRecDepth 100000 in
set_option maxHeartbeats 4000000 in
theorem c_X8_repeats (l : Launch) (g : Ge) (N o : Nat) (μ kp hs tx ι : Nat → Int32) (C : Nat) (hG : ∃ P, GC C P μ) (hU : UN μ) (hY : YN μ) : Cb l g yX8_repeats (.code yX8_repeats cX8_repeats 1 (some .int)) 4 [.ref o] N o (mdL g o μ kp hs tx ι) (some (.int (rpA μ C))) (mdL g o μ (cpA μ 0 kp 0 284) hs tx (rpX μ C ι)) := by
  intro f hB0
  have hB : BB g N o 5 := hB0
  refine ct_of (own := RX8) [some (.ref o)] (by decide +kernel) rfl rfl (Nat.le_of_ble_eq_true rfl) ?_
  intro vp ve vs vm va vb vt vc hnm X
  refine v_aload_n X dX8_repeats_0 (i := 0) rfl rfl ?_
  refine v_cvB X rfl yv_X8_isRepeating m_ml_X8_138 0 0 (c_X8_isRepeating l g N o μ kp hs tx ι C hG hU hY) hB (Nat.le_of_ble_eq_true rfl) rfl (Nat.le_of_ble_eq_true rfl) rfl (L' := (mdL g o μ (cpA μ 0 kp 0 284) hs tx (rpX μ C ι))) (rfl) rfl (Nat.le_of_ble_eq_true rfl) rfl rfl (Nat.le_of_ble_eq_true rfl) ⟨Nat.le_of_ble_eq_true rfl, Nat.le_of_ble_eq_true rfl⟩ ⟨Nat.le_of_ble_eq_true rfl, Nat.le_of_ble_eq_true rfl⟩ dX8_repeats_1 rfl ?_
  exact v_iret X rfl dX8_repeats_4 (rfl) (rfl)
