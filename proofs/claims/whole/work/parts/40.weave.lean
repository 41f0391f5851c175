/-! the model class: weaving, taking back, a card less -/
/-- the model's state after a pick -/
def pkM (μ : Nat → Int32) : Nat → Int32 := mvS (adM μ (nt (μ 1)) (nt (fly' μ))) (nt (μ 0)) (nt (μ 1)) (nt (fly' μ))
def stM (μ : Nat → Int32) (r n : Int32) : Nat → Int32 := upd (upd (upd μ 9 r) 10 n) 11 (upd (upd μ 9 r) 10 n 11 + 1)
def wmQ : Nat → (Nat → Int32) → Nat → Int32
  | 0, μ => μ
  | n + 1, μ => if rsG' μ = 0 then wmQ n (pkM μ) else μ
def wmS : Nat → (Nat → Int32) → Nat → Int32
  | 0, μ => μ
  | n + 1, μ => if rsG' μ = 0 then wmS n (pkM μ) else stM μ (rsG' μ) (rnM' μ)
def wmC : Nat → Nat → (Nat → Int32) → Int32
  | 0, k, _ => nI k
  | n + 1, k, μ => if rsG' μ = 0 then wmC n (k + 1) (pkM μ) else nI k
theorem pkM_eq {μ : Nat → Int32} {C P k : Nat} (g : GC C P μ) (hk : k < 5) (hf : flyN μ P = nI k) : pkM μ = mvS (adM μ P k) C P k := by
  have hP' : nt (μ 1) = P := nt_of g.2.1 (by have := g.2.2; omega)
  rw [pkM, fly', hP', nt_of g.1 (by have := g.2.2; omega), nt_of hf (by omega)]
theorem ιG_3' {ι σ : Nat → Int32} : ιG ι σ 3 = rnM' σ := by rw [ιG, ιR, pk_us]
set_option maxRecDepth 100000 in
set_option maxHeartbeats 4000000 in
theorem c_X8_weave (l : Launch) (g : Ge) (N o : Nat) (μ kp hs tx ι : Nat → Int32) (n : Nat) (v : Int32) (hn : ι 0 = nI n) (hn6 : n ≤ 6) (hv : GV μ) (hU : UN μ) (hY : YN μ) : Cb l g yX8_weave (.code yX8_weave cX8_weave 3 (some .int)) 3 [.ref o, .int v] N o (mdL g o μ kp hs tx ι) (some (.int (if wvE v = 0 then wmC (nt v) 0 μ else wvE v))) (mdL g o (if wvE v = 0 then wmS (nt v) μ else μ) kp (if wvE v = 0 then rcH hs n μ else hs) tx (if wvE v = 0 then ιG (rcI ι n) (wmQ (nt v) μ) else ι)) := by
  intro f hB0
  have hB : BB g N o 5 := hB0
  obtain ⟨C9, P9, g9⟩ := (show ∃ C P, GC C P μ from hv)
  refine ct_of (own := RX8) [some (.ref o), some (.int v), none] (by decide +kernel) rfl rfl (Nat.le_of_ble_eq_true rfl) ?_
  intro vp ve vs vm va vb vt vc hnm X
  refine v_iload_n X dX8_weave_0 (i := 1) rfl rfl ?_
  refine v_iconst X dX8_weave_1 (v := (1 : Int32)) (by decide) ?_
  refine v_bipush X dX8_weave_2 (v := (99 : Int32)) (by decide) ?_
  refine v_cs X rfl yv_X8_within m_ml_X8_40 (c_X8_within l g v (1 : Int32) (99 : Int32) ) rfl rfl (Nat.le_of_ble_eq_true rfl) ⟨Nat.le_of_ble_eq_true rfl, Nat.le_of_ble_eq_true rfl⟩ ⟨Nat.le_of_ble_eq_true rfl, Nat.le_of_ble_eq_true rfl⟩ dX8_weave_4 rfl ?_
  refine v_if_neB X dX8_weave_7 (tgt := 13) (by decide) (fun c7 => ?_) (fun c7 => ?_)
  · skip
    obtain ⟨w, hw, rfl⟩ := nI_cases (n := 99) (by omega) (Int32.le_trans (by decide) c7.1) c7.2
    have hkk : nt (nI w) = w := nt_nI (by omega)
    have hE : wvE (nI w) = (0 : Int32) := by rw [wvE, if_neg (not_not_intro c7)]
    refine v_aload_n X dX8_weave_13 (i := 0) rfl rfl ?_
    refine v_cvB X rfl yv_X8_record m_ml_X8_37 0 0 (c_X8_record l g N o μ kp hs tx ι n hn hn6) hB (Nat.le_of_ble_eq_true rfl) rfl (Nat.le_of_ble_eq_true rfl) rfl (L' := (mdL g o μ kp (rcH hs n μ) tx (rcI ι n))) (rfl) rfl (Nat.le_of_ble_eq_true rfl) rfl rfl (Nat.le_of_ble_eq_true rfl) ⟨Nat.le_of_ble_eq_true rfl, Nat.le_of_ble_eq_true rfl⟩ ⟨Nat.le_of_ble_eq_true rfl, Nat.le_of_ble_eq_true rfl⟩ dX8_weave_14 rfl ?_
    refine v_iconst X dX8_weave_17 (v := (0 : Int32)) (by decide) ?_
    refine v_istore_n X dX8_weave_18 (i := 2) rfl (Nat.le_of_ble_eq_true rfl) rfl ?_
    refine v_aload_n X dX8_weave_19 (i := 0) rfl rfl ?_
    refine v_iconst X dX8_weave_20 (v := (1 : Int32)) (by decide) ?_
    refine v_cvB X rfl yv_X8_findReason m_ml_X8_79 0 0 (c_X8_findReason_1 l g N o μ kp (rcH hs n μ) tx (rcI ι n) C9 P9 g9.1 g9.2.1 g9.2.2.1 g9.2.2.2 hU hY) hB (Nat.le_of_ble_eq_true rfl) rfl (Nat.le_of_ble_eq_true rfl) rfl (L' := (mdL g o μ kp (rcH hs n μ) tx (ιR (rcI ι n) (rsG μ C9 P9) (rnM μ P9 (rsG μ C9 P9))))) (rfl) rfl (Nat.le_of_ble_eq_true rfl) rfl rfl (Nat.le_of_ble_eq_true rfl) ⟨Nat.le_of_ble_eq_true rfl, Nat.le_of_ble_eq_true rfl⟩ ⟨Nat.le_of_ble_eq_true rfl, Nat.le_of_ble_eq_true rfl⟩ dX8_weave_21 rfl ?_
    refine V.cast (f' := ovr f o (mdL g o μ kp (rcH hs n μ) tx (ιG (rcI ι n) μ))) ?_ rfl rfl (congrArg (fun z => ovr f o (mdL g o μ kp (rcH hs n μ) tx z)) (ιG_eq g9.1 g9.2.1 g9.2.2.1 g9.2.2.2))
    have LP24 : ∀ (n_ : Nat) (k : Nat) (μk : Nat → Int32) (ιk : Nat → Int32), (ιk = ιG (rcI ι n) μk) → (k ≤ w) → (GV μk) → (UN μk) → (YN μk) → (wmC w 0 μ = wmC (w - k) k μk) → (wmS w μ = wmS (w - k) μk) → (wmQ w μ = wmQ (w - k) μk) → w - k < n_ → Vm vp l ve vs vm va vb vt vc g 3 3 N (some (.int (if wvE (nI w) = 0 then wmC (nt (nI w)) 0 μ else wvE (nI w)))) (ovr f o (mdL g o (if wvE (nI w) = 0 then wmS (nt (nI w)) μ else μ) kp (if wvE (nI w) = 0 then rcH hs n μ else hs) tx (if wvE (nI w) = 0 then ιG (rcI ι n) (wmQ (nt (nI w)) μ) else ι))) (ovr f o (mdL g o μk kp (rcH hs n μ) tx ιk)) 24 [some (.ref o), some (.int (nI w)), some (.int (nI k))] [] := by
      intro n_
      induction n_ with
      | zero => intro k μk ιk hιk hk hvk hUk hYk hr hs2 hq hm_; exact absurd hm_ (Nat.not_lt_zero _)
      | succ n_ ih24 =>
        intro k μk ιk hιk hk hvk hUk hYk hr hs2 hq hm24
        refine v_iload_n X dX8_weave_24 (i := 2) rfl rfl ?_
        refine v_iload_n X dX8_weave_25 (i := 1) rfl rfl ?_
        refine v_icmp_ge X dX8_weave_26 (tgt := 55) (by decide) (fun c26 => ?_) (fun c26 => ?_)
        · skip
          have hk2 : k = w := Nat.le_antisymm hk (le_of_nI (by omega) (by omega) c26)
          subst hk2
          rw [Nat.sub_self] at hr hs2 hq
          rw [wmC] at hr
          rw [wmS] at hs2
          rw [wmQ] at hq
          refine v_iload_n X dX8_weave_55 (i := 2) rfl rfl ?_
          refine v_iload_n X dX8_weave_56 (i := 1) rfl rfl ?_
          refine v_icmp_ge X dX8_weave_57 (tgt := 93) (by decide) (fun c57 => ?_) (fun c57 => ?_)
          · skip
            refine v_iload_n X dX8_weave_93 (i := 2) rfl rfl ?_
            exact v_iret X rfl dX8_weave_94 (by rw [hE, hkk, hr]; rfl) (by rw [hE, hkk, hs2, hq, hιk]; rfl)
          · skip
            exact absurd c57 (Int32.not_lt.mpr Int32.le_rfl)
        · skip
          have hk2 : k < w := lt_of_nI (by omega) (by omega) c26
          obtain ⟨C, P0, hC, hP, hPC, hC16⟩ := hvk
          obtain ⟨n1, h1⟩ : ∃ n1, w - k = n1 + 1 := ⟨w - k - 1, by omega⟩
          refine v_aload_n X dX8_weave_29 (i := 0) rfl rfl ?_
          refine v_getB X hB cf8 6 (Nat.le_of_ble_eq_true rfl) m_fl_X8_54 dX8_weave_30 0 (Nat.le_of_ble_eq_true rfl) rfl rfl ?_
          refine v_if_ne X dX8_weave_33 (tgt := 55) (by decide) (fun c33 => ?_) (fun c33 => ?_)
          · skip
            have hz2 : ¬ rsG' μk = 0 := fun z => c33 (by rw [hιk]; exact ιG_2.trans z)
            rw [h1, wmC, if_neg hz2] at hr
            rw [h1, wmS, if_neg hz2] at hs2
            rw [h1, wmQ, if_neg hz2] at hq
            refine v_iload_n X dX8_weave_55 (i := 2) rfl rfl ?_
            refine v_iload_n X dX8_weave_56 (i := 1) rfl rfl ?_
            refine v_icmp_ge X dX8_weave_57 (tgt := 93) (by decide) (fun c57 => ?_) (fun c57 => ?_)
            · skip
              exact absurd (le_of_nI (by omega) (by omega) c57) (Nat.not_le.mpr hk2)
            · skip
              refine v_aload_n X dX8_weave_60 (i := 0) rfl rfl ?_
              refine v_getB X hB cf8 0 (Nat.le_of_ble_eq_true rfl) m_fl_X8_7 dX8_weave_61 0 (Nat.le_of_ble_eq_true rfl) rfl rfl ?_
              refine v_bipush X dX8_weave_64 (v := (9 : Int32)) (by decide) ?_
              refine v_aload_n X dX8_weave_66 (i := 0) rfl rfl ?_
              refine v_getB X hB cf8 6 (Nat.le_of_ble_eq_true rfl) m_fl_X8_54 dX8_weave_67 0 (Nat.le_of_ble_eq_true rfl) rfl rfl ?_
              refine v_iastB X hB dX8_weave_70 1 (Nat.le_of_ble_eq_true rfl) rfl 9 rfl (by omega) (Nat.le_of_ble_eq_true rfl) (L' := (mdL g o (upd μk 9 (ιk 2)) kp (rcH hs n μ) tx ιk)) rfl ?_
              refine v_aload_n X dX8_weave_71 (i := 0) rfl rfl ?_
              refine v_getB X hB cf8 0 (Nat.le_of_ble_eq_true rfl) m_fl_X8_7 dX8_weave_72 0 (Nat.le_of_ble_eq_true rfl) rfl rfl ?_
              refine v_bipush X dX8_weave_75 (v := (10 : Int32)) (by decide) ?_
              refine v_aload_n X dX8_weave_77 (i := 0) rfl rfl ?_
              refine v_getB X hB cf8 7 (Nat.le_of_ble_eq_true rfl) m_fl_X8_57 dX8_weave_78 0 (Nat.le_of_ble_eq_true rfl) rfl rfl ?_
              refine v_iastB X hB dX8_weave_81 1 (Nat.le_of_ble_eq_true rfl) rfl 10 rfl (by omega) (Nat.le_of_ble_eq_true rfl) (L' := (mdL g o (upd (upd μk 9 (ιk 2)) 10 (ιk 3)) kp (rcH hs n μ) tx ιk)) rfl ?_
              refine v_aload_n X dX8_weave_82 (i := 0) rfl rfl ?_
              refine v_getB X hB cf8 0 (Nat.le_of_ble_eq_true rfl) m_fl_X8_7 dX8_weave_83 0 (Nat.le_of_ble_eq_true rfl) rfl rfl ?_
              refine v_bipush X dX8_weave_86 (v := (11 : Int32)) (by decide) ?_
              refine v_dup2 X dX8_weave_88 rfl rfl ?_
              refine v_ialdB X hB dX8_weave_89 1 (Nat.le_of_ble_eq_true rfl) rfl 11 rfl (by omega) (Nat.le_of_ble_eq_true rfl) ?_
              refine v_iconst X dX8_weave_90 (v := (1 : Int32)) (by decide) ?_
              refine v_iadd X dX8_weave_91 ?_
              refine v_iastB X hB dX8_weave_92 1 (Nat.le_of_ble_eq_true rfl) rfl 11 rfl (by omega) (Nat.le_of_ble_eq_true rfl) (L' := (mdL g o (upd (upd (upd μk 9 (ιk 2)) 10 (ιk 3)) 11 (((upd (upd μk 9 (ιk 2)) 10 (ιk 3)) 11) + (1 : Int32))) kp (rcH hs n μ) tx ιk)) rfl ?_
              refine v_iload_n X dX8_weave_93 (i := 2) rfl rfl ?_
              exact v_iret X rfl dX8_weave_94 (by rw [hE, hkk, hr]; rfl) (by rw [hE, hkk, hs2, hq, hιk, ιG_2, ιG_3']; rfl)
          · skip
            have hz2 : rsG' μk = 0 := (ιG_2 (ι := rcI ι n)).symm.trans (by rw [← hιk]; exact c33)
            have h0 := rsG_0 ((rsG'_eq hC hP hC16 hPC).symm.trans hz2)
            obtain ⟨hC0, k9, hk9, hfl⟩ := rsC_0 h0
            have hPC1 : P0 < C := by omega
            have h3 : ιk 3 = nI k9 := by rw [hιk]; exact ιG_3 hP (by omega) hz2 hfl
            refine v_aload_n X dX8_weave_36 (i := 0) rfl rfl ?_
            refine v_cvB X rfl yv_X8_addsRow m_ml_X8_83 0 0 (c_X8_addsRow l g N o μk kp (rcH hs n μ) tx ιk C P0 k9 hC hP hPC1 hC16 hk9 h3) hB (Nat.le_of_ble_eq_true rfl) rfl (Nat.le_of_ble_eq_true rfl) rfl (L' := (mdL g o (adM μk P0 k9) kp (rcH hs n μ) tx ιk)) (rfl) rfl (Nat.le_of_ble_eq_true rfl) rfl rfl (Nat.le_of_ble_eq_true rfl) ⟨Nat.le_of_ble_eq_true rfl, Nat.le_of_ble_eq_true rfl⟩ ⟨Nat.le_of_ble_eq_true rfl, Nat.le_of_ble_eq_true rfl⟩ dX8_weave_37 rfl ?_
            obtain ⟨μ2, e2, hga, ga⟩ : ∃ μ2, adM μk P0 k9 = μ2 ∧ EqG C μk μ2 ∧ GC C P0 μ2 := ⟨_, rfl, eg_symm (adM_g hC16), GC_g (eg_symm (adM_g hC16)) ⟨hC, hP, hPC, hC16⟩⟩
            have h0a : rsC μ2 C P0 = 0 := (rsC_g hga hPC).symm.trans h0
            have hfa : flyN μ2 P0 = nI k9 := (flyN_g hga hPC1).symm.trans hfl
            have hsd := fly_01 h0a hk9 hfa
            refine V.cast (f' := ovr f o (mdL g o μ2 kp (rcH hs n μ) tx ιk)) ?_ rfl rfl (congrArg (fun z => ovr f o (mdL g o z kp (rcH hs n μ) tx ιk)) e2)
            refine v_aload_n X dX8_weave_40 (i := 0) rfl rfl ?_
            refine v_cvB X rfl yv_X8_moves m_ml_X8_86 0 0 (c_X8_moves l g N o μ2 kp (rcH hs n μ) tx ιk C P0 k9 ga.1 ga.2.1 hPC1 hC16 hk9 h3 hsd) hB (Nat.le_of_ble_eq_true rfl) rfl (Nat.le_of_ble_eq_true rfl) rfl (L' := (mdL g o (mvS μ2 C P0 k9) kp (rcH hs n μ) tx ιk)) (rfl) rfl (Nat.le_of_ble_eq_true rfl) rfl rfl (Nat.le_of_ble_eq_true rfl) ⟨Nat.le_of_ble_eq_true rfl, Nat.le_of_ble_eq_true rfl⟩ ⟨Nat.le_of_ble_eq_true rfl, Nat.le_of_ble_eq_true rfl⟩ dX8_weave_41 rfl ?_
            obtain ⟨μ3, P2, e3, g8, hU8, hY8⟩ : ∃ μ3 P2, mvS μ2 C P0 k9 = μ3 ∧ GC C P2 μ3 ∧ UN μ3 ∧ YN μ3 := ⟨_, _, rfl, GC_mv ga hPC1 hk9, UN_mv (UN_g hga hUk) h0a hk9 hfa, YN_mv (YN_g hga hYk) h0a hk9 hfa⟩
            have hmv : pkM μk = μ3 := by rw [pkM_eq ⟨hC, hP, hPC, hC16⟩ hk9 hfl, e2, e3]
            refine V.cast (f' := ovr f o (mdL g o μ3 kp (rcH hs n μ) tx ιk)) ?_ rfl rfl (congrArg (fun z => ovr f o (mdL g o z kp (rcH hs n μ) tx ιk)) e3)
            refine v_iinc X dX8_weave_44 (v := nI (k + 1)) rfl (ix_inc rfl) (Nat.le_of_ble_eq_true rfl) rfl ?_
            refine v_aload_n X dX8_weave_47 (i := 0) rfl rfl ?_
            refine v_iconst X dX8_weave_48 (v := (1 : Int32)) (by decide) ?_
            refine v_cvB X rfl yv_X8_findReason m_ml_X8_79 0 0 (c_X8_findReason_1 l g N o μ3 kp (rcH hs n μ) tx ιk C P2 g8.1 g8.2.1 g8.2.2.1 g8.2.2.2 hU8 hY8) hB (Nat.le_of_ble_eq_true rfl) rfl (Nat.le_of_ble_eq_true rfl) rfl (L' := (mdL g o μ3 kp (rcH hs n μ) tx (ιR ιk (rsG μ3 C P2) (rnM μ3 P2 (rsG μ3 C P2))))) (rfl) rfl (Nat.le_of_ble_eq_true rfl) rfl rfl (Nat.le_of_ble_eq_true rfl) ⟨Nat.le_of_ble_eq_true rfl, Nat.le_of_ble_eq_true rfl⟩ ⟨Nat.le_of_ble_eq_true rfl, Nat.le_of_ble_eq_true rfl⟩ dX8_weave_49 rfl ?_
            refine V.cast (f' := ovr f o (mdL g o μ3 kp (rcH hs n μ) tx (ιG (rcI ι n) μ3))) ?_ rfl rfl (congrArg (fun z => ovr f o (mdL g o μ3 kp (rcH hs n μ) tx z)) (by rw [hιk]; exact ιG_G g8))
            refine v_goto X dX8_weave_52 (tgt := 24) (by decide) ?_
            exact ih24 (k + 1) μ3 (ιG (rcI ι n) μ3) rfl (by omega) (GC_gv g8) hU8 hY8 (by rw [hr, h1, wmC, if_pos hz2, hmv, show w - (k + 1) = n1 by omega]) (by rw [hs2, h1, wmS, if_pos hz2, hmv, show w - (k + 1) = n1 by omega]) (by rw [hq, h1, wmQ, if_pos hz2, hmv, show w - (k + 1) = n1 by omega]) (by omega)
    exact LP24 _ 0 μ (ιG (rcI ι n) μ) rfl (Nat.zero_le _) hv hU hY (by rw [Nat.sub_zero]) (by rw [Nat.sub_zero]) (by rw [Nat.sub_zero]) (Nat.lt_succ_self _)
  · skip
    refine v_bipush X dX8_weave_10 (v := (-2 : Int32)) (by decide) ?_
    have hE : wvE v = (-2 : Int32) := by rw [wvE, if_pos c7]
    exact v_iret X rfl dX8_weave_12 (by rw [hE]; rfl) (by rw [hE]; rfl)
