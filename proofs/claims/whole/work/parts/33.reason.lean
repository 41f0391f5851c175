/-! the model class: the reason -/
set_option maxRecDepth 100000 in
set_option maxHeartbeats 4000000 in
theorem c_X8_findReason_1 (l : Launch) (g : Ge) (N o : Nat) (μ kp hs tx ι : Nat → Int32) (C P : Nat) (hC : μ 0 = nI C) (hP : μ 1 = nI P) (hPC : P < C ∨ (C = 0 ∧ P = 0)) (hC16 : C ≤ 16) (hU : UN μ) (hY : YN μ) : Cb l g yX8_findReason (.code yX8_findReason cX8_findReason 6 none) 2 [.ref o, .int (1 : Int32)] N o (mdL g o μ kp hs tx ι) none (mdL g o μ kp hs tx (ιR ι (rsG μ C P) (rnM μ P (rsG μ C P)))) := by
  intro f hB0
  have hB : BB g N o 5 := hB0
  refine ct_of (own := RX8) [some (.ref o), some (.int (1 : Int32)), none, none, none, none] (by decide +kernel) rfl rfl (Nat.le_of_ble_eq_true rfl) ?_
  intro vp ve vs vm va vb vt vc hnm X
  refine v_aload_n X dX8_findReason_0 (i := 0) rfl rfl ?_
  refine v_getB X hB cf8 0 (Nat.le_of_ble_eq_true rfl) m_fl_X8_7 dX8_findReason_1 0 (Nat.le_of_ble_eq_true rfl) rfl rfl ?_
  refine v_iconst X dX8_findReason_4 (v := (1 : Int32)) (by decide) ?_
  refine v_ialdB X hB dX8_findReason_5 1 (Nat.le_of_ble_eq_true rfl) rfl 1 rfl (by omega) (Nat.le_of_ble_eq_true rfl) ?_
  refine v_istore_n X dX8_findReason_6 (i := 2) rfl (Nat.le_of_ble_eq_true rfl) rfl ?_
  refine v_aload_n X dX8_findReason_7 (i := 0) rfl rfl ?_
  refine v_getB X hB cf8 0 (Nat.le_of_ble_eq_true rfl) m_fl_X8_7 dX8_findReason_8 0 (Nat.le_of_ble_eq_true rfl) rfl rfl ?_
  refine v_iconst X dX8_findReason_11 (v := (0 : Int32)) (by decide) ?_
  refine v_ialdB X hB dX8_findReason_12 1 (Nat.le_of_ble_eq_true rfl) rfl 0 rfl (by omega) (Nat.le_of_ble_eq_true rfl) ?_
  refine v_if_ne X dX8_findReason_13 (tgt := 21) (by decide) (fun c13 => ?_) (fun c13 => ?_)
  · skip
    have hC0 : ¬ C = 0 := fun z => c13 (by rw [hC, z]; rfl)
    have hPC1 : P < C := by omega
    refine v_aload_n X dX8_findReason_21 (i := 0) rfl rfl ?_
    refine v_iconst X dX8_findReason_22 (v := (0 : Int32)) (by decide) ?_
    refine v_aload_n X dX8_findReason_23 (i := 0) rfl rfl ?_
    refine v_iload_n X dX8_findReason_24 (i := 2) rfl rfl ?_
    refine v_iconst X dX8_findReason_25 (v := (1 : Int32)) (by decide) ?_
    refine v_cvB X rfl yv_X8_cardPart m_ml_X8_51 0 0 (c_X8_cardPart l g N o (μ 1) P hP (1 : Int32) 1 rfl μ kp hs tx ι (by omega) (by omega)) hB (Nat.le_of_ble_eq_true rfl) rfl (Nat.le_of_ble_eq_true rfl) rfl (L' := (mdL g o μ kp hs tx ι)) (rfl) rfl (Nat.le_of_ble_eq_true rfl) rfl rfl (Nat.le_of_ble_eq_true rfl) ⟨Nat.le_of_ble_eq_true rfl, Nat.le_of_ble_eq_true rfl⟩ ⟨Nat.le_of_ble_eq_true rfl, Nat.le_of_ble_eq_true rfl⟩ dX8_findReason_26 rfl ?_
    refine v_cvB X rfl yv_X8_shuttleIn m_ml_X8_60 0 0 (c_X8_shuttleIn l g N o μ kp hs tx ι (0 : Int32) (μ (57 + 3 * P)) (lst_fnd hU (by decide))) hB (Nat.le_of_ble_eq_true rfl) rfl (Nat.le_of_ble_eq_true rfl) rfl (L' := (mdL g o μ kp hs tx ι)) (rfl) rfl (Nat.le_of_ble_eq_true rfl) rfl rfl (Nat.le_of_ble_eq_true rfl) ⟨Nat.le_of_ble_eq_true rfl, Nat.le_of_ble_eq_true rfl⟩ ⟨Nat.le_of_ble_eq_true rfl, Nat.le_of_ble_eq_true rfl⟩ dX8_findReason_29 rfl ?_
    refine v_istore_n X dX8_findReason_32 (i := 3) rfl (Nat.le_of_ble_eq_true rfl) rfl ?_
    refine v_aload_n X dX8_findReason_33 (i := 0) rfl rfl ?_
    refine v_getB X hB cf8 0 (Nat.le_of_ble_eq_true rfl) m_fl_X8_7 dX8_findReason_34 0 (Nat.le_of_ble_eq_true rfl) rfl rfl ?_
    refine v_iconst X dX8_findReason_37 (v := (0 : Int32)) (by decide) ?_
    refine v_ialdB X hB dX8_findReason_38 1 (Nat.le_of_ble_eq_true rfl) rfl 0 rfl (by omega) (Nat.le_of_ble_eq_true rfl) ?_
    refine v_if_ne X dX8_findReason_39 (tgt := 47) (by decide) (fun c39 => ?_) (fun c39 => ?_)
    · skip
      refine v_aload_n X dX8_findReason_47 (i := 0) rfl rfl ?_
      refine v_iconst X dX8_findReason_48 (v := (1 : Int32)) (by decide) ?_
      refine v_aload_n X dX8_findReason_49 (i := 0) rfl rfl ?_
      refine v_iload_n X dX8_findReason_50 (i := 2) rfl rfl ?_
      refine v_iconst X dX8_findReason_51 (v := (2 : Int32)) (by decide) ?_
      refine v_cvB X rfl yv_X8_cardPart m_ml_X8_51 0 0 (c_X8_cardPart l g N o (μ 1) P hP (2 : Int32) 2 rfl μ kp hs tx ι (by omega) (by omega)) hB (Nat.le_of_ble_eq_true rfl) rfl (Nat.le_of_ble_eq_true rfl) rfl (L' := (mdL g o μ kp hs tx ι)) (rfl) rfl (Nat.le_of_ble_eq_true rfl) rfl rfl (Nat.le_of_ble_eq_true rfl) ⟨Nat.le_of_ble_eq_true rfl, Nat.le_of_ble_eq_true rfl⟩ ⟨Nat.le_of_ble_eq_true rfl, Nat.le_of_ble_eq_true rfl⟩ dX8_findReason_52 rfl ?_
      refine v_cvB X rfl yv_X8_shuttleIn m_ml_X8_60 0 0 (c_X8_shuttleIn l g N o μ kp hs tx ι (1 : Int32) (μ (58 + 3 * P)) (lst_fnd hU (by decide))) hB (Nat.le_of_ble_eq_true rfl) rfl (Nat.le_of_ble_eq_true rfl) rfl (L' := (mdL g o μ kp hs tx ι)) (rfl) rfl (Nat.le_of_ble_eq_true rfl) rfl rfl (Nat.le_of_ble_eq_true rfl) ⟨Nat.le_of_ble_eq_true rfl, Nat.le_of_ble_eq_true rfl⟩ ⟨Nat.le_of_ble_eq_true rfl, Nat.le_of_ble_eq_true rfl⟩ dX8_findReason_55 rfl ?_
      refine v_istore X dX8_findReason_58 (Nat.le_of_ble_eq_true rfl) rfl ?_
      refine v_iload_n X dX8_findReason_60 (i := 3) rfl rfl ?_
      refine v_bipush X dX8_findReason_61 (v := (-6 : Int32)) (by decide) ?_
      refine v_icmp_ne X dX8_findReason_63 (tgt := 71) (by decide) (fun c63 => ?_) (fun c63 => ?_)
      · skip
        have k0 : ¬ onS μ P 0 = -6 := fun z => c63 (onS_0.symm.trans z)
        refine v_iload_n X dX8_findReason_71 (i := 3) rfl rfl ?_
        refine v_istore X dX8_findReason_72 (Nat.le_of_ble_eq_true rfl) rfl ?_
        refine v_aload_n X dX8_findReason_74 (i := 0) rfl rfl ?_
        refine v_getB X hB cf8 0 (Nat.le_of_ble_eq_true rfl) m_fl_X8_7 dX8_findReason_75 0 (Nat.le_of_ble_eq_true rfl) rfl rfl ?_
        refine v_iconst X dX8_findReason_78 (v := (0 : Int32)) (by decide) ?_
        refine v_ialdB X hB dX8_findReason_79 1 (Nat.le_of_ble_eq_true rfl) rfl 0 rfl (by omega) (Nat.le_of_ble_eq_true rfl) ?_
        refine v_if_ne X dX8_findReason_80 (tgt := 93) (by decide) (fun c80 => ?_) (fun c80 => ?_)
        · skip
          refine v_iload_n X dX8_findReason_93 (i := 1) rfl rfl ?_
          have LP94 : ∀ (n_ : Nat) , 0 < n_ → Vm vp l ve vs vm va vb vt vc g 2 6 N none (ovr f o (mdL g o μ kp hs tx (ιR ι (rsG μ C P) (rnM μ P (rsG μ C P))))) (ovr f o (mdL g o μ kp hs tx ι)) 94 [some (.ref o), some (.int (1 : Int32)), some (.int (μ 1)), some (.int (fnd μ (0 : Int32) (μ (57 + 3 * P)))), some (.int (fnd μ (1 : Int32) (μ (58 + 3 * P)))), some (.int (fnd μ (0 : Int32) (μ (57 + 3 * P))))] [.int (1 : Int32)] := by
            intro n_
            induction n_ with
            | zero => intro hm_; exact absurd hm_ (Nat.not_lt_zero _)
            | succ n_ ih94 =>
              intro hm94
              refine v_if_eq X dX8_findReason_94 (tgt := 118) (by decide) (fun c94 => ?_) (fun c94 => ?_)
              · skip
                exact absurd c94 (by decide)
              · skip
                refine v_aload_n X dX8_findReason_97 (i := 0) rfl rfl ?_
                refine v_cvB X rfl yv_X8_firstBroken m_ml_X8_67 0 0 (c_X8_firstBroken l g N o μ kp hs tx ι ) hB (Nat.le_of_ble_eq_true rfl) rfl (Nat.le_of_ble_eq_true rfl) rfl (L' := (mdL g o μ kp hs tx ι)) (rfl) rfl (Nat.le_of_ble_eq_true rfl) rfl rfl (Nat.le_of_ble_eq_true rfl) ⟨Nat.le_of_ble_eq_true rfl, Nat.le_of_ble_eq_true rfl⟩ ⟨Nat.le_of_ble_eq_true rfl, Nat.le_of_ble_eq_true rfl⟩ dX8_findReason_98 rfl ?_
                refine v_bipush X dX8_findReason_101 (v := (-6 : Int32)) (by decide) ?_
                refine v_icmp_eq X dX8_findReason_103 (tgt := 118) (by decide) (fun c103 => ?_) (fun c103 => ?_)
                · skip
                  refine v_iload_n X dX8_findReason_118 (i := 1) rfl rfl ?_
                  refine v_if_eq X dX8_findReason_119 (tgt := 139) (by decide) (fun c119 => ?_) (fun c119 => ?_)
                  · skip
                    exact absurd c119 (by decide)
                  · skip
                    refine v_aload_n X dX8_findReason_122 (i := 0) rfl rfl ?_
                    refine v_iconst X dX8_findReason_123 (v := (0 : Int32)) (by decide) ?_
                    refine v_cvB X rfl yv_X8_isTooFar m_ml_X8_71 0 0 (c_X8_isTooFar l g N o (0 : Int32) 0 rfl μ kp hs tx ι C P hC hP hPC1 hC16 (by omega)) hB (Nat.le_of_ble_eq_true rfl) rfl (Nat.le_of_ble_eq_true rfl) rfl (L' := (mdL g o μ kp hs tx ι)) (rfl) rfl (Nat.le_of_ble_eq_true rfl) rfl rfl (Nat.le_of_ble_eq_true rfl) ⟨Nat.le_of_ble_eq_true rfl, Nat.le_of_ble_eq_true rfl⟩ ⟨Nat.le_of_ble_eq_true rfl, Nat.le_of_ble_eq_true rfl⟩ dX8_findReason_124 rfl ?_
                    refine v_if_eqB X dX8_findReason_127 (tgt := 139) (by decide) (fun c127 => ?_) (fun c127 => ?_)
                    · skip
                      refine v_iload_n X dX8_findReason_139 (i := 1) rfl rfl ?_
                      refine v_if_eq X dX8_findReason_140 (tgt := 160) (by decide) (fun c140 => ?_) (fun c140 => ?_)
                      · skip
                        exact absurd c140 (by decide)
                      · skip
                        refine v_aload_n X dX8_findReason_143 (i := 0) rfl rfl ?_
                        refine v_iconst X dX8_findReason_144 (v := (1 : Int32)) (by decide) ?_
                        refine v_cvB X rfl yv_X8_isTooFar m_ml_X8_71 0 0 (c_X8_isTooFar l g N o (1 : Int32) 1 rfl μ kp hs tx ι C P hC hP hPC1 hC16 (by omega)) hB (Nat.le_of_ble_eq_true rfl) rfl (Nat.le_of_ble_eq_true rfl) rfl (L' := (mdL g o μ kp hs tx ι)) (rfl) rfl (Nat.le_of_ble_eq_true rfl) rfl rfl (Nat.le_of_ble_eq_true rfl) ⟨Nat.le_of_ble_eq_true rfl, Nat.le_of_ble_eq_true rfl⟩ ⟨Nat.le_of_ble_eq_true rfl, Nat.le_of_ble_eq_true rfl⟩ dX8_findReason_145 rfl ?_
                        refine v_if_eqB X dX8_findReason_148 (tgt := 160) (by decide) (fun c148 => ?_) (fun c148 => ?_)
                        · skip
                          have LP160 : ∀ (n_ : Nat) , 0 < n_ → Vm vp l ve vs vm va vb vt vc g 2 6 N none (ovr f o (mdL g o μ kp hs tx (ιR ι (rsG μ C P) (rnM μ P (rsG μ C P))))) (ovr f o (mdL g o μ kp hs tx ι)) 160 [some (.ref o), some (.int (1 : Int32)), some (.int (μ 1)), some (.int (fnd μ (0 : Int32) (μ (57 + 3 * P)))), some (.int (fnd μ (1 : Int32) (μ (58 + 3 * P)))), some (.int (fnd μ (0 : Int32) (μ (57 + 3 * P))))] [] := by
                            intro n_
                            induction n_ with
                            | zero => intro hm_; exact absurd hm_ (Nat.not_lt_zero _)
                            | succ n_ ih160 =>
                              intro hm160
                              refine v_iload_n X dX8_findReason_160 (i := 3) rfl rfl ?_
                              refine v_bipush X dX8_findReason_161 (v := (-6 : Int32)) (by decide) ?_
                              refine v_icmp_eq X dX8_findReason_163 (tgt := 182) (by decide) (fun c163 => ?_) (fun c163 => ?_)
                              · skip
                                exact absurd c163 c63
                              · skip
                                refine v_iload X dX8_findReason_166 rfl ?_
                                refine v_bipush X dX8_findReason_168 (v := (-6 : Int32)) (by decide) ?_
                                refine v_icmp_eq X dX8_findReason_170 (tgt := 182) (by decide) (fun c170 => ?_) (fun c170 => ?_)
                                · skip
                                  have k1 : onS μ P 1 = -6 := onS_1.trans c170
                                  refine v_iload X dX8_findReason_182 rfl ?_
                                  refine v_bipush X dX8_findReason_184 (v := (-6 : Int32)) (by decide) ?_
                                  refine v_icmp_ne X dX8_findReason_186 (tgt := 199) (by decide) (fun c186 => ?_) (fun c186 => ?_)
                                  · skip
                                    obtain ⟨k9, h9, e9⟩ := fnd_nI c63
                                    have hfl : flyN μ P = nI k9 := by rw [flyN, if_neg k0, onS_0, e9]
                                    have hcl : (flyN μ P).toNatClampNeg = k9 := by rw [hfl]; exact nI_clamp (by omega)
                                    have LP199 : ∀ (n_ : Nat) , 0 < n_ → Vm vp l ve vs vm va vb vt vc g 2 6 N none (ovr f o (mdL g o μ kp hs tx (ιR ι (rsG μ C P) (rnM μ P (rsG μ C P))))) (ovr f o (mdL g o μ kp hs tx ι)) 199 [some (.ref o), some (.int (1 : Int32)), some (.int (μ 1)), some (.int (fnd μ (0 : Int32) (μ (57 + 3 * P)))), some (.int (fnd μ (1 : Int32) (μ (58 + 3 * P)))), some (.int (fnd μ (0 : Int32) (μ (57 + 3 * P))))] [] := by
                                      intro n_
                                      induction n_ with
                                      | zero => intro hm_; exact absurd hm_ (Nat.not_lt_zero _)
                                      | succ n_ ih199 =>
                                        intro hm199
                                        refine v_aload_n X dX8_findReason_199 (i := 0) rfl rfl ?_
                                        refine v_iload X dX8_findReason_200 rfl ?_
                                        refine v_iconst X dX8_findReason_202 (v := (1 : Int32)) (by decide) ?_
                                        refine v_cvB X rfl yv_X8_shuttlePart m_ml_X8_44 0 0 (c_X8_shuttlePart l g N o (fnd μ (0 : Int32) (μ (57 + 3 * P))) k9 e9 (1 : Int32) 1 rfl μ kp hs tx ι h9 (by omega)) hB (Nat.le_of_ble_eq_true rfl) rfl (Nat.le_of_ble_eq_true rfl) rfl (L' := (mdL g o μ kp hs tx ι)) (rfl) rfl (Nat.le_of_ble_eq_true rfl) rfl rfl (Nat.le_of_ble_eq_true rfl) ⟨Nat.le_of_ble_eq_true rfl, Nat.le_of_ble_eq_true rfl⟩ ⟨Nat.le_of_ble_eq_true rfl, Nat.le_of_ble_eq_true rfl⟩ dX8_findReason_203 rfl ?_
                                        refine v_if_ne X dX8_findReason_206 (tgt := 220) (by decide) (fun c206 => ?_) (fun c206 => ?_)
                                        · skip
                                          refine v_aload_n X dX8_findReason_220 (i := 0) rfl rfl ?_
                                          refine v_iconst X dX8_findReason_221 (v := (0 : Int32)) (by decide) ?_
                                          refine v_iload X dX8_findReason_222 rfl ?_
                                          refine v_cvB X rfl yv_X8_says m_ml_X8_63 0 0 (c_X8_says l g N o μ kp hs tx ι (0 : Int32) (fnd μ (0 : Int32) (μ (57 + 3 * P))) ) hB (Nat.le_of_ble_eq_true rfl) rfl (Nat.le_of_ble_eq_true rfl) rfl (L' := (mdL g o μ kp hs tx (ιR ι (0 : Int32) (fnd μ (0 : Int32) (μ (57 + 3 * P)))))) (rfl) rfl (Nat.le_of_ble_eq_true rfl) rfl rfl (Nat.le_of_ble_eq_true rfl) ⟨Nat.le_of_ble_eq_true rfl, Nat.le_of_ble_eq_true rfl⟩ ⟨Nat.le_of_ble_eq_true rfl, Nat.le_of_ble_eq_true rfl⟩ dX8_findReason_224 rfl ?_
                                          have hsf : stf μ P = -6 := by rw [stf, if_neg (show ¬ 4 - μ 2 < farV μ P 0 0 from c127), if_neg (show ¬ 4 - μ 2 < farV μ P 1 1 from c148)]
                                          have hrc : rsC μ C P = 0 := by rw [rsC, if_neg hC0, if_neg (fun q => q.2 k1), if_neg (fun q => k0 q.1), hcl, if_pos (pos_ne (hY k9 h9) c206)]
                                          have hr : rsG μ C P = 0 := by rw [rsG, if_neg hC0, if_neg (not_not_intro c103), if_neg (not_not_intro hsf), hrc]
                                          have hn : rnM μ P 0 = flyN μ P := by rw [rnM, if_pos rfl]
                                          exact v_vret X rfl dX8_findReason_227 (rfl) (by rw [hr, hn, hfl, e9])
                                        · skip
                                          refine v_aload_n X dX8_findReason_209 (i := 0) rfl rfl ?_
                                          refine v_bipush X dX8_findReason_210 (v := (6 : Int32)) (by decide) ?_
                                          refine v_iload X dX8_findReason_212 rfl ?_
                                          refine v_cvB X rfl yv_X8_says m_ml_X8_63 0 0 (c_X8_says l g N o μ kp hs tx ι (6 : Int32) (fnd μ (0 : Int32) (μ (57 + 3 * P))) ) hB (Nat.le_of_ble_eq_true rfl) rfl (Nat.le_of_ble_eq_true rfl) rfl (L' := (mdL g o μ kp hs tx (ιR ι (6 : Int32) (fnd μ (0 : Int32) (μ (57 + 3 * P)))))) (rfl) rfl (Nat.le_of_ble_eq_true rfl) rfl rfl (Nat.le_of_ble_eq_true rfl) ⟨Nat.le_of_ble_eq_true rfl, Nat.le_of_ble_eq_true rfl⟩ ⟨Nat.le_of_ble_eq_true rfl, Nat.le_of_ble_eq_true rfl⟩ dX8_findReason_214 rfl ?_
                                          refine v_goto X dX8_findReason_217 (tgt := 227) (by decide) ?_
                                          have hsf : stf μ P = -6 := by rw [stf, if_neg (show ¬ 4 - μ 2 < farV μ P 0 0 from c127), if_neg (show ¬ 4 - μ 2 < farV μ P 1 1 from c148)]
                                          have hrc : rsC μ C P = 6 := by rw [rsC, if_neg hC0, if_neg (fun q => q.2 k1), if_neg (fun q => k0 q.1), hcl, if_neg (by rw [show μ (13 + 4 * k9) = 0 from c206]; decide)]
                                          have hr : rsG μ C P = 6 := by rw [rsG, if_neg hC0, if_neg (not_not_intro c103), if_neg (not_not_intro hsf), hrc]
                                          have hn : rnM μ P 6 = flyN μ P := by rw [rnM, if_neg (by decide), nTold, if_neg (by decide), if_neg (by decide), if_neg (by decide), if_pos rfl]
                                          exact v_vret X rfl dX8_findReason_227 (rfl) (by rw [hr, hn, hfl, e9])
                                    exact LP199 _   (Nat.lt_succ_self _)
                                  · skip
                                    exact absurd c186 c63
                                · skip
                                  have k1 : ¬ onS μ P 1 = -6 := fun z => c170 (onS_1.symm.trans z)
                                  refine v_aload_n X dX8_findReason_173 (i := 0) rfl rfl ?_
                                  refine v_iconst X dX8_findReason_174 (v := (4 : Int32)) (by decide) ?_
                                  refine v_iload_n X dX8_findReason_175 (i := 3) rfl rfl ?_
                                  refine v_cvB X rfl yv_X8_says m_ml_X8_63 0 0 (c_X8_says l g N o μ kp hs tx ι (4 : Int32) (fnd μ (0 : Int32) (μ (57 + 3 * P))) ) hB (Nat.le_of_ble_eq_true rfl) rfl (Nat.le_of_ble_eq_true rfl) rfl (L' := (mdL g o μ kp hs tx (ιR ι (4 : Int32) (fnd μ (0 : Int32) (μ (57 + 3 * P)))))) (rfl) rfl (Nat.le_of_ble_eq_true rfl) rfl rfl (Nat.le_of_ble_eq_true rfl) ⟨Nat.le_of_ble_eq_true rfl, Nat.le_of_ble_eq_true rfl⟩ ⟨Nat.le_of_ble_eq_true rfl, Nat.le_of_ble_eq_true rfl⟩ dX8_findReason_176 rfl ?_
                                  refine v_goto X dX8_findReason_179 (tgt := 227) (by decide) ?_
                                  have hsf : stf μ P = -6 := by rw [stf, if_neg (show ¬ 4 - μ 2 < farV μ P 0 0 from c127), if_neg (show ¬ 4 - μ 2 < farV μ P 1 1 from c148)]
                                  have hrc : rsC μ C P = 4 := by rw [rsC, if_neg hC0, if_pos ⟨k0, k1⟩]
                                  have hr : rsG μ C P = 4 := by rw [rsG, if_neg hC0, if_neg (not_not_intro c103), if_neg (not_not_intro hsf), hrc]
                                  have hn : rnM μ P 4 = fnd μ 0 (μ (57 + 3 * P)) := by rw [rnM, if_neg (by decide), nTold, if_neg (by decide), if_neg (by decide), if_pos rfl, onS_0]
                                  exact v_vret X rfl dX8_findReason_227 (rfl) (by rw [hr, hn])
                          exact LP160 _   (Nat.lt_succ_self _)
                        · skip
                          refine v_aload_n X dX8_findReason_151 (i := 0) rfl rfl ?_
                          refine v_iconst X dX8_findReason_152 (v := (3 : Int32)) (by decide) ?_
                          refine v_iconst X dX8_findReason_153 (v := (1 : Int32)) (by decide) ?_
                          refine v_cvB X rfl yv_X8_says m_ml_X8_63 0 0 (c_X8_says l g N o μ kp hs tx ι (3 : Int32) (1 : Int32) ) hB (Nat.le_of_ble_eq_true rfl) rfl (Nat.le_of_ble_eq_true rfl) rfl (L' := (mdL g o μ kp hs tx (ιR ι (3 : Int32) (1 : Int32)))) (rfl) rfl (Nat.le_of_ble_eq_true rfl) rfl rfl (Nat.le_of_ble_eq_true rfl) ⟨Nat.le_of_ble_eq_true rfl, Nat.le_of_ble_eq_true rfl⟩ ⟨Nat.le_of_ble_eq_true rfl, Nat.le_of_ble_eq_true rfl⟩ dX8_findReason_154 rfl ?_
                          refine v_goto X dX8_findReason_157 (tgt := 227) (by decide) ?_
                          have hsf : stf μ P = 1 := by rw [stf, if_neg (show ¬ 4 - μ 2 < farV μ P 0 0 from c127), if_pos (show 4 - μ 2 < farV μ P 1 1 from c148)]
                          have hr : rsG μ C P = 3 := by rw [rsG, if_neg hC0, if_neg (not_not_intro c103), hsf, if_pos (by decide)]
                          have hn : rnM μ P 3 = 1 := by rw [rnM, if_neg (by decide), nTold, if_neg (by decide), if_pos rfl, hsf]
                          exact v_vret X rfl dX8_findReason_227 (rfl) (by rw [hr, hn])
                    · skip
                      refine v_aload_n X dX8_findReason_130 (i := 0) rfl rfl ?_
                      refine v_iconst X dX8_findReason_131 (v := (3 : Int32)) (by decide) ?_
                      refine v_iconst X dX8_findReason_132 (v := (0 : Int32)) (by decide) ?_
                      refine v_cvB X rfl yv_X8_says m_ml_X8_63 0 0 (c_X8_says l g N o μ kp hs tx ι (3 : Int32) (0 : Int32) ) hB (Nat.le_of_ble_eq_true rfl) rfl (Nat.le_of_ble_eq_true rfl) rfl (L' := (mdL g o μ kp hs tx (ιR ι (3 : Int32) (0 : Int32)))) (rfl) rfl (Nat.le_of_ble_eq_true rfl) rfl rfl (Nat.le_of_ble_eq_true rfl) ⟨Nat.le_of_ble_eq_true rfl, Nat.le_of_ble_eq_true rfl⟩ ⟨Nat.le_of_ble_eq_true rfl, Nat.le_of_ble_eq_true rfl⟩ dX8_findReason_133 rfl ?_
                      refine v_goto X dX8_findReason_136 (tgt := 227) (by decide) ?_
                      have hsf : stf μ P = 0 := by rw [stf, if_pos (show 4 - μ 2 < farV μ P 0 0 from c127)]
                      have hr : rsG μ C P = 3 := by rw [rsG, if_neg hC0, if_neg (not_not_intro c103), hsf, if_pos (by decide)]
                      have hn : rnM μ P 3 = 0 := by rw [rnM, if_neg (by decide), nTold, if_neg (by decide), if_pos rfl, hsf]
                      exact v_vret X rfl dX8_findReason_227 (rfl) (by rw [hr, hn])
                · skip
                  refine v_aload_n X dX8_findReason_106 (i := 0) rfl rfl ?_
                  refine v_iconst X dX8_findReason_107 (v := (2 : Int32)) (by decide) ?_
                  refine v_aload_n X dX8_findReason_108 (i := 0) rfl rfl ?_
                  refine v_cvB X rfl yv_X8_firstBroken m_ml_X8_67 0 0 (c_X8_firstBroken l g N o μ kp hs tx ι ) hB (Nat.le_of_ble_eq_true rfl) rfl (Nat.le_of_ble_eq_true rfl) rfl (L' := (mdL g o μ kp hs tx ι)) (rfl) rfl (Nat.le_of_ble_eq_true rfl) rfl rfl (Nat.le_of_ble_eq_true rfl) ⟨Nat.le_of_ble_eq_true rfl, Nat.le_of_ble_eq_true rfl⟩ ⟨Nat.le_of_ble_eq_true rfl, Nat.le_of_ble_eq_true rfl⟩ dX8_findReason_109 rfl ?_
                  refine v_cvB X rfl yv_X8_says m_ml_X8_63 0 0 (c_X8_says l g N o μ kp hs tx ι (2 : Int32) (fbF μ 12 0) ) hB (Nat.le_of_ble_eq_true rfl) rfl (Nat.le_of_ble_eq_true rfl) rfl (L' := (mdL g o μ kp hs tx (ιR ι (2 : Int32) (fbF μ 12 0)))) (rfl) rfl (Nat.le_of_ble_eq_true rfl) rfl rfl (Nat.le_of_ble_eq_true rfl) ⟨Nat.le_of_ble_eq_true rfl, Nat.le_of_ble_eq_true rfl⟩ ⟨Nat.le_of_ble_eq_true rfl, Nat.le_of_ble_eq_true rfl⟩ dX8_findReason_112 rfl ?_
                  refine v_goto X dX8_findReason_115 (tgt := 227) (by decide) ?_
                  have hr : rsG μ C P = 2 := by rw [rsG, if_neg hC0, if_pos c103]
                  have hn : rnM μ P 2 = fbF μ 12 0 := by rw [rnM, if_neg (by decide), nTold, if_pos rfl]
                  exact v_vret X rfl dX8_findReason_227 (rfl) (by rw [hr, hn])
          exact LP94 _   (Nat.lt_succ_self _)
        · skip
          exact absurd c80 c13
      · skip
        have k0 : onS μ P 0 = -6 := onS_0.trans c63
        refine v_iload X dX8_findReason_66 rfl ?_
        refine v_goto X dX8_findReason_68 (tgt := 72) (by decide) ?_
        refine v_istore X dX8_findReason_72 (Nat.le_of_ble_eq_true rfl) rfl ?_
        refine v_aload_n X dX8_findReason_74 (i := 0) rfl rfl ?_
        refine v_getB X hB cf8 0 (Nat.le_of_ble_eq_true rfl) m_fl_X8_7 dX8_findReason_75 0 (Nat.le_of_ble_eq_true rfl) rfl rfl ?_
        refine v_iconst X dX8_findReason_78 (v := (0 : Int32)) (by decide) ?_
        refine v_ialdB X hB dX8_findReason_79 1 (Nat.le_of_ble_eq_true rfl) rfl 0 rfl (by omega) (Nat.le_of_ble_eq_true rfl) ?_
        refine v_if_ne X dX8_findReason_80 (tgt := 93) (by decide) (fun c80 => ?_) (fun c80 => ?_)
        · skip
          refine v_iload_n X dX8_findReason_93 (i := 1) rfl rfl ?_
          have LP94 : ∀ (n_ : Nat) , 0 < n_ → Vm vp l ve vs vm va vb vt vc g 2 6 N none (ovr f o (mdL g o μ kp hs tx (ιR ι (rsG μ C P) (rnM μ P (rsG μ C P))))) (ovr f o (mdL g o μ kp hs tx ι)) 94 [some (.ref o), some (.int (1 : Int32)), some (.int (μ 1)), some (.int (fnd μ (0 : Int32) (μ (57 + 3 * P)))), some (.int (fnd μ (1 : Int32) (μ (58 + 3 * P)))), some (.int (fnd μ (1 : Int32) (μ (58 + 3 * P))))] [.int (1 : Int32)] := by
            intro n_
            induction n_ with
            | zero => intro hm_; exact absurd hm_ (Nat.not_lt_zero _)
            | succ n_ ih94 =>
              intro hm94
              refine v_if_eq X dX8_findReason_94 (tgt := 118) (by decide) (fun c94 => ?_) (fun c94 => ?_)
              · skip
                exact absurd c94 (by decide)
              · skip
                refine v_aload_n X dX8_findReason_97 (i := 0) rfl rfl ?_
                refine v_cvB X rfl yv_X8_firstBroken m_ml_X8_67 0 0 (c_X8_firstBroken l g N o μ kp hs tx ι ) hB (Nat.le_of_ble_eq_true rfl) rfl (Nat.le_of_ble_eq_true rfl) rfl (L' := (mdL g o μ kp hs tx ι)) (rfl) rfl (Nat.le_of_ble_eq_true rfl) rfl rfl (Nat.le_of_ble_eq_true rfl) ⟨Nat.le_of_ble_eq_true rfl, Nat.le_of_ble_eq_true rfl⟩ ⟨Nat.le_of_ble_eq_true rfl, Nat.le_of_ble_eq_true rfl⟩ dX8_findReason_98 rfl ?_
                refine v_bipush X dX8_findReason_101 (v := (-6 : Int32)) (by decide) ?_
                refine v_icmp_eq X dX8_findReason_103 (tgt := 118) (by decide) (fun c103 => ?_) (fun c103 => ?_)
                · skip
                  refine v_iload_n X dX8_findReason_118 (i := 1) rfl rfl ?_
                  refine v_if_eq X dX8_findReason_119 (tgt := 139) (by decide) (fun c119 => ?_) (fun c119 => ?_)
                  · skip
                    exact absurd c119 (by decide)
                  · skip
                    refine v_aload_n X dX8_findReason_122 (i := 0) rfl rfl ?_
                    refine v_iconst X dX8_findReason_123 (v := (0 : Int32)) (by decide) ?_
                    refine v_cvB X rfl yv_X8_isTooFar m_ml_X8_71 0 0 (c_X8_isTooFar l g N o (0 : Int32) 0 rfl μ kp hs tx ι C P hC hP hPC1 hC16 (by omega)) hB (Nat.le_of_ble_eq_true rfl) rfl (Nat.le_of_ble_eq_true rfl) rfl (L' := (mdL g o μ kp hs tx ι)) (rfl) rfl (Nat.le_of_ble_eq_true rfl) rfl rfl (Nat.le_of_ble_eq_true rfl) ⟨Nat.le_of_ble_eq_true rfl, Nat.le_of_ble_eq_true rfl⟩ ⟨Nat.le_of_ble_eq_true rfl, Nat.le_of_ble_eq_true rfl⟩ dX8_findReason_124 rfl ?_
                    refine v_if_eqB X dX8_findReason_127 (tgt := 139) (by decide) (fun c127 => ?_) (fun c127 => ?_)
                    · skip
                      refine v_iload_n X dX8_findReason_139 (i := 1) rfl rfl ?_
                      refine v_if_eq X dX8_findReason_140 (tgt := 160) (by decide) (fun c140 => ?_) (fun c140 => ?_)
                      · skip
                        exact absurd c140 (by decide)
                      · skip
                        refine v_aload_n X dX8_findReason_143 (i := 0) rfl rfl ?_
                        refine v_iconst X dX8_findReason_144 (v := (1 : Int32)) (by decide) ?_
                        refine v_cvB X rfl yv_X8_isTooFar m_ml_X8_71 0 0 (c_X8_isTooFar l g N o (1 : Int32) 1 rfl μ kp hs tx ι C P hC hP hPC1 hC16 (by omega)) hB (Nat.le_of_ble_eq_true rfl) rfl (Nat.le_of_ble_eq_true rfl) rfl (L' := (mdL g o μ kp hs tx ι)) (rfl) rfl (Nat.le_of_ble_eq_true rfl) rfl rfl (Nat.le_of_ble_eq_true rfl) ⟨Nat.le_of_ble_eq_true rfl, Nat.le_of_ble_eq_true rfl⟩ ⟨Nat.le_of_ble_eq_true rfl, Nat.le_of_ble_eq_true rfl⟩ dX8_findReason_145 rfl ?_
                        refine v_if_eqB X dX8_findReason_148 (tgt := 160) (by decide) (fun c148 => ?_) (fun c148 => ?_)
                        · skip
                          have LP160 : ∀ (n_ : Nat) , 0 < n_ → Vm vp l ve vs vm va vb vt vc g 2 6 N none (ovr f o (mdL g o μ kp hs tx (ιR ι (rsG μ C P) (rnM μ P (rsG μ C P))))) (ovr f o (mdL g o μ kp hs tx ι)) 160 [some (.ref o), some (.int (1 : Int32)), some (.int (μ 1)), some (.int (fnd μ (0 : Int32) (μ (57 + 3 * P)))), some (.int (fnd μ (1 : Int32) (μ (58 + 3 * P)))), some (.int (fnd μ (1 : Int32) (μ (58 + 3 * P))))] [] := by
                            intro n_
                            induction n_ with
                            | zero => intro hm_; exact absurd hm_ (Nat.not_lt_zero _)
                            | succ n_ ih160 =>
                              intro hm160
                              refine v_iload_n X dX8_findReason_160 (i := 3) rfl rfl ?_
                              refine v_bipush X dX8_findReason_161 (v := (-6 : Int32)) (by decide) ?_
                              refine v_icmp_eq X dX8_findReason_163 (tgt := 182) (by decide) (fun c163 => ?_) (fun c163 => ?_)
                              · skip
                                refine v_iload X dX8_findReason_182 rfl ?_
                                refine v_bipush X dX8_findReason_184 (v := (-6 : Int32)) (by decide) ?_
                                refine v_icmp_ne X dX8_findReason_186 (tgt := 199) (by decide) (fun c186 => ?_) (fun c186 => ?_)
                                · skip
                                  have k1 : ¬ onS μ P 1 = -6 := fun z => c186 (onS_1.symm.trans z)
                                  obtain ⟨k9, h9, e9⟩ := fnd_nI c186
                                  have hfl : flyN μ P = nI k9 := by rw [flyN, if_pos k0, onS_1, e9]
                                  have hcl : (flyN μ P).toNatClampNeg = k9 := by rw [hfl]; exact nI_clamp (by omega)
                                  have LP199 : ∀ (n_ : Nat) , 0 < n_ → Vm vp l ve vs vm va vb vt vc g 2 6 N none (ovr f o (mdL g o μ kp hs tx (ιR ι (rsG μ C P) (rnM μ P (rsG μ C P))))) (ovr f o (mdL g o μ kp hs tx ι)) 199 [some (.ref o), some (.int (1 : Int32)), some (.int (μ 1)), some (.int (fnd μ (0 : Int32) (μ (57 + 3 * P)))), some (.int (fnd μ (1 : Int32) (μ (58 + 3 * P)))), some (.int (fnd μ (1 : Int32) (μ (58 + 3 * P))))] [] := by
                                    intro n_
                                    induction n_ with
                                    | zero => intro hm_; exact absurd hm_ (Nat.not_lt_zero _)
                                    | succ n_ ih199 =>
                                      intro hm199
                                      refine v_aload_n X dX8_findReason_199 (i := 0) rfl rfl ?_
                                      refine v_iload X dX8_findReason_200 rfl ?_
                                      refine v_iconst X dX8_findReason_202 (v := (1 : Int32)) (by decide) ?_
                                      refine v_cvB X rfl yv_X8_shuttlePart m_ml_X8_44 0 0 (c_X8_shuttlePart l g N o (fnd μ (1 : Int32) (μ (58 + 3 * P))) k9 e9 (1 : Int32) 1 rfl μ kp hs tx ι h9 (by omega)) hB (Nat.le_of_ble_eq_true rfl) rfl (Nat.le_of_ble_eq_true rfl) rfl (L' := (mdL g o μ kp hs tx ι)) (rfl) rfl (Nat.le_of_ble_eq_true rfl) rfl rfl (Nat.le_of_ble_eq_true rfl) ⟨Nat.le_of_ble_eq_true rfl, Nat.le_of_ble_eq_true rfl⟩ ⟨Nat.le_of_ble_eq_true rfl, Nat.le_of_ble_eq_true rfl⟩ dX8_findReason_203 rfl ?_
                                      refine v_if_ne X dX8_findReason_206 (tgt := 220) (by decide) (fun c206 => ?_) (fun c206 => ?_)
                                      · skip
                                        refine v_aload_n X dX8_findReason_220 (i := 0) rfl rfl ?_
                                        refine v_iconst X dX8_findReason_221 (v := (0 : Int32)) (by decide) ?_
                                        refine v_iload X dX8_findReason_222 rfl ?_
                                        refine v_cvB X rfl yv_X8_says m_ml_X8_63 0 0 (c_X8_says l g N o μ kp hs tx ι (0 : Int32) (fnd μ (1 : Int32) (μ (58 + 3 * P))) ) hB (Nat.le_of_ble_eq_true rfl) rfl (Nat.le_of_ble_eq_true rfl) rfl (L' := (mdL g o μ kp hs tx (ιR ι (0 : Int32) (fnd μ (1 : Int32) (μ (58 + 3 * P)))))) (rfl) rfl (Nat.le_of_ble_eq_true rfl) rfl rfl (Nat.le_of_ble_eq_true rfl) ⟨Nat.le_of_ble_eq_true rfl, Nat.le_of_ble_eq_true rfl⟩ ⟨Nat.le_of_ble_eq_true rfl, Nat.le_of_ble_eq_true rfl⟩ dX8_findReason_224 rfl ?_
                                        have hsf : stf μ P = -6 := by rw [stf, if_neg (show ¬ 4 - μ 2 < farV μ P 0 0 from c127), if_neg (show ¬ 4 - μ 2 < farV μ P 1 1 from c148)]
                                        have hrc : rsC μ C P = 0 := by rw [rsC, if_neg hC0, if_neg (fun q => q.1 k0), if_neg (fun q => k1 q.2), hcl, if_pos (pos_ne (hY k9 h9) c206)]
                                        have hr : rsG μ C P = 0 := by rw [rsG, if_neg hC0, if_neg (not_not_intro c103), if_neg (not_not_intro hsf), hrc]
                                        have hn : rnM μ P 0 = flyN μ P := by rw [rnM, if_pos rfl]
                                        exact v_vret X rfl dX8_findReason_227 (rfl) (by rw [hr, hn, hfl, e9])
                                      · skip
                                        refine v_aload_n X dX8_findReason_209 (i := 0) rfl rfl ?_
                                        refine v_bipush X dX8_findReason_210 (v := (6 : Int32)) (by decide) ?_
                                        refine v_iload X dX8_findReason_212 rfl ?_
                                        refine v_cvB X rfl yv_X8_says m_ml_X8_63 0 0 (c_X8_says l g N o μ kp hs tx ι (6 : Int32) (fnd μ (1 : Int32) (μ (58 + 3 * P))) ) hB (Nat.le_of_ble_eq_true rfl) rfl (Nat.le_of_ble_eq_true rfl) rfl (L' := (mdL g o μ kp hs tx (ιR ι (6 : Int32) (fnd μ (1 : Int32) (μ (58 + 3 * P)))))) (rfl) rfl (Nat.le_of_ble_eq_true rfl) rfl rfl (Nat.le_of_ble_eq_true rfl) ⟨Nat.le_of_ble_eq_true rfl, Nat.le_of_ble_eq_true rfl⟩ ⟨Nat.le_of_ble_eq_true rfl, Nat.le_of_ble_eq_true rfl⟩ dX8_findReason_214 rfl ?_
                                        refine v_goto X dX8_findReason_217 (tgt := 227) (by decide) ?_
                                        have hsf : stf μ P = -6 := by rw [stf, if_neg (show ¬ 4 - μ 2 < farV μ P 0 0 from c127), if_neg (show ¬ 4 - μ 2 < farV μ P 1 1 from c148)]
                                        have hrc : rsC μ C P = 6 := by rw [rsC, if_neg hC0, if_neg (fun q => q.1 k0), if_neg (fun q => k1 q.2), hcl, if_neg (by rw [show μ (13 + 4 * k9) = 0 from c206]; decide)]
                                        have hr : rsG μ C P = 6 := by rw [rsG, if_neg hC0, if_neg (not_not_intro c103), if_neg (not_not_intro hsf), hrc]
                                        have hn : rnM μ P 6 = flyN μ P := by rw [rnM, if_neg (by decide), nTold, if_neg (by decide), if_neg (by decide), if_neg (by decide), if_pos rfl]
                                        exact v_vret X rfl dX8_findReason_227 (rfl) (by rw [hr, hn, hfl, e9])
                                  exact LP199 _   (Nat.lt_succ_self _)
                                · skip
                                  have k1 : onS μ P 1 = -6 := onS_1.trans c186
                                  refine v_aload_n X dX8_findReason_189 (i := 0) rfl rfl ?_
                                  refine v_iconst X dX8_findReason_190 (v := (5 : Int32)) (by decide) ?_
                                  refine v_bipush X dX8_findReason_191 (v := (-6 : Int32)) (by decide) ?_
                                  refine v_cvB X rfl yv_X8_says m_ml_X8_63 0 0 (c_X8_says l g N o μ kp hs tx ι (5 : Int32) (-6 : Int32) ) hB (Nat.le_of_ble_eq_true rfl) rfl (Nat.le_of_ble_eq_true rfl) rfl (L' := (mdL g o μ kp hs tx (ιR ι (5 : Int32) (-6 : Int32)))) (rfl) rfl (Nat.le_of_ble_eq_true rfl) rfl rfl (Nat.le_of_ble_eq_true rfl) ⟨Nat.le_of_ble_eq_true rfl, Nat.le_of_ble_eq_true rfl⟩ ⟨Nat.le_of_ble_eq_true rfl, Nat.le_of_ble_eq_true rfl⟩ dX8_findReason_193 rfl ?_
                                  refine v_goto X dX8_findReason_196 (tgt := 227) (by decide) ?_
                                  have hsf : stf μ P = -6 := by rw [stf, if_neg (show ¬ 4 - μ 2 < farV μ P 0 0 from c127), if_neg (show ¬ 4 - μ 2 < farV μ P 1 1 from c148)]
                                  have hrc : rsC μ C P = 5 := by rw [rsC, if_neg hC0, if_neg (fun q => q.1 k0), if_pos ⟨k0, k1⟩]
                                  have hr : rsG μ C P = 5 := by rw [rsG, if_neg hC0, if_neg (not_not_intro c103), if_neg (not_not_intro hsf), hrc]
                                  have hn : rnM μ P 5 = -6 := by rw [rnM, if_neg (by decide), nTold, if_neg (by decide), if_neg (by decide), if_neg (by decide), if_neg (by decide)]
                                  exact v_vret X rfl dX8_findReason_227 (rfl) (by rw [hr, hn])
                              · skip
                                exact absurd c63 c163
                          exact LP160 _   (Nat.lt_succ_self _)
                        · skip
                          refine v_aload_n X dX8_findReason_151 (i := 0) rfl rfl ?_
                          refine v_iconst X dX8_findReason_152 (v := (3 : Int32)) (by decide) ?_
                          refine v_iconst X dX8_findReason_153 (v := (1 : Int32)) (by decide) ?_
                          refine v_cvB X rfl yv_X8_says m_ml_X8_63 0 0 (c_X8_says l g N o μ kp hs tx ι (3 : Int32) (1 : Int32) ) hB (Nat.le_of_ble_eq_true rfl) rfl (Nat.le_of_ble_eq_true rfl) rfl (L' := (mdL g o μ kp hs tx (ιR ι (3 : Int32) (1 : Int32)))) (rfl) rfl (Nat.le_of_ble_eq_true rfl) rfl rfl (Nat.le_of_ble_eq_true rfl) ⟨Nat.le_of_ble_eq_true rfl, Nat.le_of_ble_eq_true rfl⟩ ⟨Nat.le_of_ble_eq_true rfl, Nat.le_of_ble_eq_true rfl⟩ dX8_findReason_154 rfl ?_
                          refine v_goto X dX8_findReason_157 (tgt := 227) (by decide) ?_
                          have hsf : stf μ P = 1 := by rw [stf, if_neg (show ¬ 4 - μ 2 < farV μ P 0 0 from c127), if_pos (show 4 - μ 2 < farV μ P 1 1 from c148)]
                          have hr : rsG μ C P = 3 := by rw [rsG, if_neg hC0, if_neg (not_not_intro c103), hsf, if_pos (by decide)]
                          have hn : rnM μ P 3 = 1 := by rw [rnM, if_neg (by decide), nTold, if_neg (by decide), if_pos rfl, hsf]
                          exact v_vret X rfl dX8_findReason_227 (rfl) (by rw [hr, hn])
                    · skip
                      refine v_aload_n X dX8_findReason_130 (i := 0) rfl rfl ?_
                      refine v_iconst X dX8_findReason_131 (v := (3 : Int32)) (by decide) ?_
                      refine v_iconst X dX8_findReason_132 (v := (0 : Int32)) (by decide) ?_
                      refine v_cvB X rfl yv_X8_says m_ml_X8_63 0 0 (c_X8_says l g N o μ kp hs tx ι (3 : Int32) (0 : Int32) ) hB (Nat.le_of_ble_eq_true rfl) rfl (Nat.le_of_ble_eq_true rfl) rfl (L' := (mdL g o μ kp hs tx (ιR ι (3 : Int32) (0 : Int32)))) (rfl) rfl (Nat.le_of_ble_eq_true rfl) rfl rfl (Nat.le_of_ble_eq_true rfl) ⟨Nat.le_of_ble_eq_true rfl, Nat.le_of_ble_eq_true rfl⟩ ⟨Nat.le_of_ble_eq_true rfl, Nat.le_of_ble_eq_true rfl⟩ dX8_findReason_133 rfl ?_
                      refine v_goto X dX8_findReason_136 (tgt := 227) (by decide) ?_
                      have hsf : stf μ P = 0 := by rw [stf, if_pos (show 4 - μ 2 < farV μ P 0 0 from c127)]
                      have hr : rsG μ C P = 3 := by rw [rsG, if_neg hC0, if_neg (not_not_intro c103), hsf, if_pos (by decide)]
                      have hn : rnM μ P 3 = 0 := by rw [rnM, if_neg (by decide), nTold, if_neg (by decide), if_pos rfl, hsf]
                      exact v_vret X rfl dX8_findReason_227 (rfl) (by rw [hr, hn])
                · skip
                  refine v_aload_n X dX8_findReason_106 (i := 0) rfl rfl ?_
                  refine v_iconst X dX8_findReason_107 (v := (2 : Int32)) (by decide) ?_
                  refine v_aload_n X dX8_findReason_108 (i := 0) rfl rfl ?_
                  refine v_cvB X rfl yv_X8_firstBroken m_ml_X8_67 0 0 (c_X8_firstBroken l g N o μ kp hs tx ι ) hB (Nat.le_of_ble_eq_true rfl) rfl (Nat.le_of_ble_eq_true rfl) rfl (L' := (mdL g o μ kp hs tx ι)) (rfl) rfl (Nat.le_of_ble_eq_true rfl) rfl rfl (Nat.le_of_ble_eq_true rfl) ⟨Nat.le_of_ble_eq_true rfl, Nat.le_of_ble_eq_true rfl⟩ ⟨Nat.le_of_ble_eq_true rfl, Nat.le_of_ble_eq_true rfl⟩ dX8_findReason_109 rfl ?_
                  refine v_cvB X rfl yv_X8_says m_ml_X8_63 0 0 (c_X8_says l g N o μ kp hs tx ι (2 : Int32) (fbF μ 12 0) ) hB (Nat.le_of_ble_eq_true rfl) rfl (Nat.le_of_ble_eq_true rfl) rfl (L' := (mdL g o μ kp hs tx (ιR ι (2 : Int32) (fbF μ 12 0)))) (rfl) rfl (Nat.le_of_ble_eq_true rfl) rfl rfl (Nat.le_of_ble_eq_true rfl) ⟨Nat.le_of_ble_eq_true rfl, Nat.le_of_ble_eq_true rfl⟩ ⟨Nat.le_of_ble_eq_true rfl, Nat.le_of_ble_eq_true rfl⟩ dX8_findReason_112 rfl ?_
                  refine v_goto X dX8_findReason_115 (tgt := 227) (by decide) ?_
                  have hr : rsG μ C P = 2 := by rw [rsG, if_neg hC0, if_pos c103]
                  have hn : rnM μ P 2 = fbF μ 12 0 := by rw [rnM, if_neg (by decide), nTold, if_pos rfl]
                  exact v_vret X rfl dX8_findReason_227 (rfl) (by rw [hr, hn])
          exact LP94 _   (Nat.lt_succ_self _)
        · skip
          exact absurd c80 c13
    · skip
      exact absurd c39 c13
  · skip
    have hC0 : C = 0 := by
      rcases Nat.eq_zero_or_pos C with z | z
      · exact z
      · rw [hC] at c13; exact absurd c13 (nI_ne0 z (by omega))
    refine v_bipush X dX8_findReason_16 (v := (-6 : Int32)) (by decide) ?_
    refine v_goto X dX8_findReason_18 (tgt := 32) (by decide) ?_
    refine v_istore_n X dX8_findReason_32 (i := 3) rfl (Nat.le_of_ble_eq_true rfl) rfl ?_
    refine v_aload_n X dX8_findReason_33 (i := 0) rfl rfl ?_
    refine v_getB X hB cf8 0 (Nat.le_of_ble_eq_true rfl) m_fl_X8_7 dX8_findReason_34 0 (Nat.le_of_ble_eq_true rfl) rfl rfl ?_
    refine v_iconst X dX8_findReason_37 (v := (0 : Int32)) (by decide) ?_
    refine v_ialdB X hB dX8_findReason_38 1 (Nat.le_of_ble_eq_true rfl) rfl 0 rfl (by omega) (Nat.le_of_ble_eq_true rfl) ?_
    refine v_if_ne X dX8_findReason_39 (tgt := 47) (by decide) (fun c39 => ?_) (fun c39 => ?_)
    · skip
      exact absurd c13 c39
    · skip
      refine v_bipush X dX8_findReason_42 (v := (-6 : Int32)) (by decide) ?_
      refine v_goto X dX8_findReason_44 (tgt := 58) (by decide) ?_
      refine v_istore X dX8_findReason_58 (Nat.le_of_ble_eq_true rfl) rfl ?_
      refine v_iload_n X dX8_findReason_60 (i := 3) rfl rfl ?_
      refine v_bipush X dX8_findReason_61 (v := (-6 : Int32)) (by decide) ?_
      refine v_icmp_ne X dX8_findReason_63 (tgt := 71) (by decide) (fun c63 => ?_) (fun c63 => ?_)
      · skip
        exact absurd rfl c63
      · skip
        refine v_iload X dX8_findReason_66 rfl ?_
        refine v_goto X dX8_findReason_68 (tgt := 72) (by decide) ?_
        refine v_istore X dX8_findReason_72 (Nat.le_of_ble_eq_true rfl) rfl ?_
        refine v_aload_n X dX8_findReason_74 (i := 0) rfl rfl ?_
        refine v_getB X hB cf8 0 (Nat.le_of_ble_eq_true rfl) m_fl_X8_7 dX8_findReason_75 0 (Nat.le_of_ble_eq_true rfl) rfl rfl ?_
        refine v_iconst X dX8_findReason_78 (v := (0 : Int32)) (by decide) ?_
        refine v_ialdB X hB dX8_findReason_79 1 (Nat.le_of_ble_eq_true rfl) rfl 0 rfl (by omega) (Nat.le_of_ble_eq_true rfl) ?_
        refine v_if_ne X dX8_findReason_80 (tgt := 93) (by decide) (fun c80 => ?_) (fun c80 => ?_)
        · skip
          exact absurd c13 c80
        · skip
          refine v_aload_n X dX8_findReason_83 (i := 0) rfl rfl ?_
          refine v_iconst X dX8_findReason_84 (v := (1 : Int32)) (by decide) ?_
          refine v_bipush X dX8_findReason_85 (v := (-6 : Int32)) (by decide) ?_
          refine v_cvB X rfl yv_X8_says m_ml_X8_63 0 0 (c_X8_says l g N o μ kp hs tx ι (1 : Int32) (-6 : Int32) ) hB (Nat.le_of_ble_eq_true rfl) rfl (Nat.le_of_ble_eq_true rfl) rfl (L' := (mdL g o μ kp hs tx (ιR ι (1 : Int32) (-6 : Int32)))) (rfl) rfl (Nat.le_of_ble_eq_true rfl) rfl rfl (Nat.le_of_ble_eq_true rfl) ⟨Nat.le_of_ble_eq_true rfl, Nat.le_of_ble_eq_true rfl⟩ ⟨Nat.le_of_ble_eq_true rfl, Nat.le_of_ble_eq_true rfl⟩ dX8_findReason_87 rfl ?_
          refine v_goto X dX8_findReason_90 (tgt := 227) (by decide) ?_
          have hr : rsG μ C P = 1 := by rw [rsG, if_pos hC0]
          have hn : rnM μ P 1 = -6 := by rw [rnM, if_neg (by decide), nTold, if_neg (by decide), if_neg (by decide), if_neg (by decide), if_neg (by decide)]
          exact v_vret X rfl dX8_findReason_227 (rfl) (by rw [hr, hn])
set_option maxRecDepth 100000 in
set_option maxHeartbeats 4000000 in
theorem c_X8_findReason_0 (l : Launch) (g : Ge) (N o : Nat) (μ kp hs tx ι : Nat → Int32) (C P : Nat) (hC : μ 0 = nI C) (hP : μ 1 = nI P) (hPC : P < C ∨ (C = 0 ∧ P = 0)) (hC16 : C ≤ 16) (hU : UN μ) (hY : YN μ) : Cb l g yX8_findReason (.code yX8_findReason cX8_findReason 6 none) 2 [.ref o, .int (0 : Int32)] N o (mdL g o μ kp hs tx ι) none (mdL g o μ kp hs tx (ιR ι (rsC μ C P) (rnM μ P (rsC μ C P)))) := by
  intro f hB0
  have hB : BB g N o 5 := hB0
  refine ct_of (own := RX8) [some (.ref o), some (.int (0 : Int32)), none, none, none, none] (by decide +kernel) rfl rfl (Nat.le_of_ble_eq_true rfl) ?_
  intro vp ve vs vm va vb vt vc hnm X
  refine v_aload_n X dX8_findReason_0 (i := 0) rfl rfl ?_
  refine v_getB X hB cf8 0 (Nat.le_of_ble_eq_true rfl) m_fl_X8_7 dX8_findReason_1 0 (Nat.le_of_ble_eq_true rfl) rfl rfl ?_
  refine v_iconst X dX8_findReason_4 (v := (1 : Int32)) (by decide) ?_
  refine v_ialdB X hB dX8_findReason_5 1 (Nat.le_of_ble_eq_true rfl) rfl 1 rfl (by omega) (Nat.le_of_ble_eq_true rfl) ?_
  refine v_istore_n X dX8_findReason_6 (i := 2) rfl (Nat.le_of_ble_eq_true rfl) rfl ?_
  refine v_aload_n X dX8_findReason_7 (i := 0) rfl rfl ?_
  refine v_getB X hB cf8 0 (Nat.le_of_ble_eq_true rfl) m_fl_X8_7 dX8_findReason_8 0 (Nat.le_of_ble_eq_true rfl) rfl rfl ?_
  refine v_iconst X dX8_findReason_11 (v := (0 : Int32)) (by decide) ?_
  refine v_ialdB X hB dX8_findReason_12 1 (Nat.le_of_ble_eq_true rfl) rfl 0 rfl (by omega) (Nat.le_of_ble_eq_true rfl) ?_
  refine v_if_ne X dX8_findReason_13 (tgt := 21) (by decide) (fun c13 => ?_) (fun c13 => ?_)
  · skip
    have hC0 : ¬ C = 0 := fun z => c13 (by rw [hC, z]; rfl)
    have hPC1 : P < C := by omega
    refine v_aload_n X dX8_findReason_21 (i := 0) rfl rfl ?_
    refine v_iconst X dX8_findReason_22 (v := (0 : Int32)) (by decide) ?_
    refine v_aload_n X dX8_findReason_23 (i := 0) rfl rfl ?_
    refine v_iload_n X dX8_findReason_24 (i := 2) rfl rfl ?_
    refine v_iconst X dX8_findReason_25 (v := (1 : Int32)) (by decide) ?_
    refine v_cvB X rfl yv_X8_cardPart m_ml_X8_51 0 0 (c_X8_cardPart l g N o (μ 1) P hP (1 : Int32) 1 rfl μ kp hs tx ι (by omega) (by omega)) hB (Nat.le_of_ble_eq_true rfl) rfl (Nat.le_of_ble_eq_true rfl) rfl (L' := (mdL g o μ kp hs tx ι)) (rfl) rfl (Nat.le_of_ble_eq_true rfl) rfl rfl (Nat.le_of_ble_eq_true rfl) ⟨Nat.le_of_ble_eq_true rfl, Nat.le_of_ble_eq_true rfl⟩ ⟨Nat.le_of_ble_eq_true rfl, Nat.le_of_ble_eq_true rfl⟩ dX8_findReason_26 rfl ?_
    refine v_cvB X rfl yv_X8_shuttleIn m_ml_X8_60 0 0 (c_X8_shuttleIn l g N o μ kp hs tx ι (0 : Int32) (μ (57 + 3 * P)) (lst_fnd hU (by decide))) hB (Nat.le_of_ble_eq_true rfl) rfl (Nat.le_of_ble_eq_true rfl) rfl (L' := (mdL g o μ kp hs tx ι)) (rfl) rfl (Nat.le_of_ble_eq_true rfl) rfl rfl (Nat.le_of_ble_eq_true rfl) ⟨Nat.le_of_ble_eq_true rfl, Nat.le_of_ble_eq_true rfl⟩ ⟨Nat.le_of_ble_eq_true rfl, Nat.le_of_ble_eq_true rfl⟩ dX8_findReason_29 rfl ?_
    refine v_istore_n X dX8_findReason_32 (i := 3) rfl (Nat.le_of_ble_eq_true rfl) rfl ?_
    refine v_aload_n X dX8_findReason_33 (i := 0) rfl rfl ?_
    refine v_getB X hB cf8 0 (Nat.le_of_ble_eq_true rfl) m_fl_X8_7 dX8_findReason_34 0 (Nat.le_of_ble_eq_true rfl) rfl rfl ?_
    refine v_iconst X dX8_findReason_37 (v := (0 : Int32)) (by decide) ?_
    refine v_ialdB X hB dX8_findReason_38 1 (Nat.le_of_ble_eq_true rfl) rfl 0 rfl (by omega) (Nat.le_of_ble_eq_true rfl) ?_
    refine v_if_ne X dX8_findReason_39 (tgt := 47) (by decide) (fun c39 => ?_) (fun c39 => ?_)
    · skip
      refine v_aload_n X dX8_findReason_47 (i := 0) rfl rfl ?_
      refine v_iconst X dX8_findReason_48 (v := (1 : Int32)) (by decide) ?_
      refine v_aload_n X dX8_findReason_49 (i := 0) rfl rfl ?_
      refine v_iload_n X dX8_findReason_50 (i := 2) rfl rfl ?_
      refine v_iconst X dX8_findReason_51 (v := (2 : Int32)) (by decide) ?_
      refine v_cvB X rfl yv_X8_cardPart m_ml_X8_51 0 0 (c_X8_cardPart l g N o (μ 1) P hP (2 : Int32) 2 rfl μ kp hs tx ι (by omega) (by omega)) hB (Nat.le_of_ble_eq_true rfl) rfl (Nat.le_of_ble_eq_true rfl) rfl (L' := (mdL g o μ kp hs tx ι)) (rfl) rfl (Nat.le_of_ble_eq_true rfl) rfl rfl (Nat.le_of_ble_eq_true rfl) ⟨Nat.le_of_ble_eq_true rfl, Nat.le_of_ble_eq_true rfl⟩ ⟨Nat.le_of_ble_eq_true rfl, Nat.le_of_ble_eq_true rfl⟩ dX8_findReason_52 rfl ?_
      refine v_cvB X rfl yv_X8_shuttleIn m_ml_X8_60 0 0 (c_X8_shuttleIn l g N o μ kp hs tx ι (1 : Int32) (μ (58 + 3 * P)) (lst_fnd hU (by decide))) hB (Nat.le_of_ble_eq_true rfl) rfl (Nat.le_of_ble_eq_true rfl) rfl (L' := (mdL g o μ kp hs tx ι)) (rfl) rfl (Nat.le_of_ble_eq_true rfl) rfl rfl (Nat.le_of_ble_eq_true rfl) ⟨Nat.le_of_ble_eq_true rfl, Nat.le_of_ble_eq_true rfl⟩ ⟨Nat.le_of_ble_eq_true rfl, Nat.le_of_ble_eq_true rfl⟩ dX8_findReason_55 rfl ?_
      refine v_istore X dX8_findReason_58 (Nat.le_of_ble_eq_true rfl) rfl ?_
      refine v_iload_n X dX8_findReason_60 (i := 3) rfl rfl ?_
      refine v_bipush X dX8_findReason_61 (v := (-6 : Int32)) (by decide) ?_
      refine v_icmp_ne X dX8_findReason_63 (tgt := 71) (by decide) (fun c63 => ?_) (fun c63 => ?_)
      · skip
        have k0 : ¬ onS μ P 0 = -6 := fun z => c63 (onS_0.symm.trans z)
        refine v_iload_n X dX8_findReason_71 (i := 3) rfl rfl ?_
        refine v_istore X dX8_findReason_72 (Nat.le_of_ble_eq_true rfl) rfl ?_
        refine v_aload_n X dX8_findReason_74 (i := 0) rfl rfl ?_
        refine v_getB X hB cf8 0 (Nat.le_of_ble_eq_true rfl) m_fl_X8_7 dX8_findReason_75 0 (Nat.le_of_ble_eq_true rfl) rfl rfl ?_
        refine v_iconst X dX8_findReason_78 (v := (0 : Int32)) (by decide) ?_
        refine v_ialdB X hB dX8_findReason_79 1 (Nat.le_of_ble_eq_true rfl) rfl 0 rfl (by omega) (Nat.le_of_ble_eq_true rfl) ?_
        refine v_if_ne X dX8_findReason_80 (tgt := 93) (by decide) (fun c80 => ?_) (fun c80 => ?_)
        · skip
          refine v_iload_n X dX8_findReason_93 (i := 1) rfl rfl ?_
          have LP94 : ∀ (n_ : Nat) , 0 < n_ → Vm vp l ve vs vm va vb vt vc g 2 6 N none (ovr f o (mdL g o μ kp hs tx (ιR ι (rsC μ C P) (rnM μ P (rsC μ C P))))) (ovr f o (mdL g o μ kp hs tx ι)) 94 [some (.ref o), some (.int (0 : Int32)), some (.int (μ 1)), some (.int (fnd μ (0 : Int32) (μ (57 + 3 * P)))), some (.int (fnd μ (1 : Int32) (μ (58 + 3 * P)))), some (.int (fnd μ (0 : Int32) (μ (57 + 3 * P))))] [.int (0 : Int32)] := by
            intro n_
            induction n_ with
            | zero => intro hm_; exact absurd hm_ (Nat.not_lt_zero _)
            | succ n_ ih94 =>
              intro hm94
              refine v_if_eq X dX8_findReason_94 (tgt := 118) (by decide) (fun c94 => ?_) (fun c94 => ?_)
              · skip
                refine v_iload_n X dX8_findReason_118 (i := 1) rfl rfl ?_
                refine v_if_eq X dX8_findReason_119 (tgt := 139) (by decide) (fun c119 => ?_) (fun c119 => ?_)
                · skip
                  refine v_iload_n X dX8_findReason_139 (i := 1) rfl rfl ?_
                  refine v_if_eq X dX8_findReason_140 (tgt := 160) (by decide) (fun c140 => ?_) (fun c140 => ?_)
                  · skip
                    refine v_iload_n X dX8_findReason_160 (i := 3) rfl rfl ?_
                    refine v_bipush X dX8_findReason_161 (v := (-6 : Int32)) (by decide) ?_
                    refine v_icmp_eq X dX8_findReason_163 (tgt := 182) (by decide) (fun c163 => ?_) (fun c163 => ?_)
                    · skip
                      exact absurd c163 c63
                    · skip
                      refine v_iload X dX8_findReason_166 rfl ?_
                      refine v_bipush X dX8_findReason_168 (v := (-6 : Int32)) (by decide) ?_
                      refine v_icmp_eq X dX8_findReason_170 (tgt := 182) (by decide) (fun c170 => ?_) (fun c170 => ?_)
                      · skip
                        have k1 : onS μ P 1 = -6 := onS_1.trans c170
                        refine v_iload X dX8_findReason_182 rfl ?_
                        refine v_bipush X dX8_findReason_184 (v := (-6 : Int32)) (by decide) ?_
                        refine v_icmp_ne X dX8_findReason_186 (tgt := 199) (by decide) (fun c186 => ?_) (fun c186 => ?_)
                        · skip
                          obtain ⟨k9, h9, e9⟩ := fnd_nI c63
                          have hfl : flyN μ P = nI k9 := by rw [flyN, if_neg k0, onS_0, e9]
                          have hcl : (flyN μ P).toNatClampNeg = k9 := by rw [hfl]; exact nI_clamp (by omega)
                          refine v_aload_n X dX8_findReason_199 (i := 0) rfl rfl ?_
                          refine v_iload X dX8_findReason_200 rfl ?_
                          refine v_iconst X dX8_findReason_202 (v := (1 : Int32)) (by decide) ?_
                          refine v_cvB X rfl yv_X8_shuttlePart m_ml_X8_44 0 0 (c_X8_shuttlePart l g N o (fnd μ (0 : Int32) (μ (57 + 3 * P))) k9 e9 (1 : Int32) 1 rfl μ kp hs tx ι h9 (by omega)) hB (Nat.le_of_ble_eq_true rfl) rfl (Nat.le_of_ble_eq_true rfl) rfl (L' := (mdL g o μ kp hs tx ι)) (rfl) rfl (Nat.le_of_ble_eq_true rfl) rfl rfl (Nat.le_of_ble_eq_true rfl) ⟨Nat.le_of_ble_eq_true rfl, Nat.le_of_ble_eq_true rfl⟩ ⟨Nat.le_of_ble_eq_true rfl, Nat.le_of_ble_eq_true rfl⟩ dX8_findReason_203 rfl ?_
                          refine v_if_ne X dX8_findReason_206 (tgt := 220) (by decide) (fun c206 => ?_) (fun c206 => ?_)
                          · skip
                            refine v_aload_n X dX8_findReason_220 (i := 0) rfl rfl ?_
                            refine v_iconst X dX8_findReason_221 (v := (0 : Int32)) (by decide) ?_
                            refine v_iload X dX8_findReason_222 rfl ?_
                            refine v_cvB X rfl yv_X8_says m_ml_X8_63 0 0 (c_X8_says l g N o μ kp hs tx ι (0 : Int32) (fnd μ (0 : Int32) (μ (57 + 3 * P))) ) hB (Nat.le_of_ble_eq_true rfl) rfl (Nat.le_of_ble_eq_true rfl) rfl (L' := (mdL g o μ kp hs tx (ιR ι (0 : Int32) (fnd μ (0 : Int32) (μ (57 + 3 * P)))))) (rfl) rfl (Nat.le_of_ble_eq_true rfl) rfl rfl (Nat.le_of_ble_eq_true rfl) ⟨Nat.le_of_ble_eq_true rfl, Nat.le_of_ble_eq_true rfl⟩ ⟨Nat.le_of_ble_eq_true rfl, Nat.le_of_ble_eq_true rfl⟩ dX8_findReason_224 rfl ?_
                            have hrc : rsC μ C P = 0 := by rw [rsC, if_neg hC0, if_neg (fun q => q.2 k1), if_neg (fun q => k0 q.1), hcl, if_pos (pos_ne (hY k9 h9) c206)]
                            have hr : rsC μ C P = 0 := hrc
                            have hn : rnM μ P 0 = flyN μ P := by rw [rnM, if_pos rfl]
                            exact v_vret X rfl dX8_findReason_227 (rfl) (by rw [hr, hn, hfl, e9])
                          · skip
                            refine v_aload_n X dX8_findReason_209 (i := 0) rfl rfl ?_
                            refine v_bipush X dX8_findReason_210 (v := (6 : Int32)) (by decide) ?_
                            refine v_iload X dX8_findReason_212 rfl ?_
                            refine v_cvB X rfl yv_X8_says m_ml_X8_63 0 0 (c_X8_says l g N o μ kp hs tx ι (6 : Int32) (fnd μ (0 : Int32) (μ (57 + 3 * P))) ) hB (Nat.le_of_ble_eq_true rfl) rfl (Nat.le_of_ble_eq_true rfl) rfl (L' := (mdL g o μ kp hs tx (ιR ι (6 : Int32) (fnd μ (0 : Int32) (μ (57 + 3 * P)))))) (rfl) rfl (Nat.le_of_ble_eq_true rfl) rfl rfl (Nat.le_of_ble_eq_true rfl) ⟨Nat.le_of_ble_eq_true rfl, Nat.le_of_ble_eq_true rfl⟩ ⟨Nat.le_of_ble_eq_true rfl, Nat.le_of_ble_eq_true rfl⟩ dX8_findReason_214 rfl ?_
                            refine v_goto X dX8_findReason_217 (tgt := 227) (by decide) ?_
                            have hrc : rsC μ C P = 6 := by rw [rsC, if_neg hC0, if_neg (fun q => q.2 k1), if_neg (fun q => k0 q.1), hcl, if_neg (by rw [show μ (13 + 4 * k9) = 0 from c206]; decide)]
                            have hr : rsC μ C P = 6 := hrc
                            have hn : rnM μ P 6 = flyN μ P := by rw [rnM, if_neg (by decide), nTold, if_neg (by decide), if_neg (by decide), if_neg (by decide), if_pos rfl]
                            exact v_vret X rfl dX8_findReason_227 (rfl) (by rw [hr, hn, hfl, e9])
                        · skip
                          exact absurd c186 c63
                      · skip
                        have k1 : ¬ onS μ P 1 = -6 := fun z => c170 (onS_1.symm.trans z)
                        refine v_aload_n X dX8_findReason_173 (i := 0) rfl rfl ?_
                        refine v_iconst X dX8_findReason_174 (v := (4 : Int32)) (by decide) ?_
                        refine v_iload_n X dX8_findReason_175 (i := 3) rfl rfl ?_
                        refine v_cvB X rfl yv_X8_says m_ml_X8_63 0 0 (c_X8_says l g N o μ kp hs tx ι (4 : Int32) (fnd μ (0 : Int32) (μ (57 + 3 * P))) ) hB (Nat.le_of_ble_eq_true rfl) rfl (Nat.le_of_ble_eq_true rfl) rfl (L' := (mdL g o μ kp hs tx (ιR ι (4 : Int32) (fnd μ (0 : Int32) (μ (57 + 3 * P)))))) (rfl) rfl (Nat.le_of_ble_eq_true rfl) rfl rfl (Nat.le_of_ble_eq_true rfl) ⟨Nat.le_of_ble_eq_true rfl, Nat.le_of_ble_eq_true rfl⟩ ⟨Nat.le_of_ble_eq_true rfl, Nat.le_of_ble_eq_true rfl⟩ dX8_findReason_176 rfl ?_
                        refine v_goto X dX8_findReason_179 (tgt := 227) (by decide) ?_
                        have hrc : rsC μ C P = 4 := by rw [rsC, if_neg hC0, if_pos ⟨k0, k1⟩]
                        have hr : rsC μ C P = 4 := hrc
                        have hn : rnM μ P 4 = fnd μ 0 (μ (57 + 3 * P)) := by rw [rnM, if_neg (by decide), nTold, if_neg (by decide), if_neg (by decide), if_pos rfl, onS_0]
                        exact v_vret X rfl dX8_findReason_227 (rfl) (by rw [hr, hn])
                  · skip
                    exact absurd c140 (by decide)
                · skip
                  exact absurd c119 (by decide)
              · skip
                exact absurd c94 (by decide)
          exact LP94 _   (Nat.lt_succ_self _)
        · skip
          exact absurd c80 c13
      · skip
        have k0 : onS μ P 0 = -6 := onS_0.trans c63
        refine v_iload X dX8_findReason_66 rfl ?_
        refine v_goto X dX8_findReason_68 (tgt := 72) (by decide) ?_
        refine v_istore X dX8_findReason_72 (Nat.le_of_ble_eq_true rfl) rfl ?_
        refine v_aload_n X dX8_findReason_74 (i := 0) rfl rfl ?_
        refine v_getB X hB cf8 0 (Nat.le_of_ble_eq_true rfl) m_fl_X8_7 dX8_findReason_75 0 (Nat.le_of_ble_eq_true rfl) rfl rfl ?_
        refine v_iconst X dX8_findReason_78 (v := (0 : Int32)) (by decide) ?_
        refine v_ialdB X hB dX8_findReason_79 1 (Nat.le_of_ble_eq_true rfl) rfl 0 rfl (by omega) (Nat.le_of_ble_eq_true rfl) ?_
        refine v_if_ne X dX8_findReason_80 (tgt := 93) (by decide) (fun c80 => ?_) (fun c80 => ?_)
        · skip
          refine v_iload_n X dX8_findReason_93 (i := 1) rfl rfl ?_
          have LP94 : ∀ (n_ : Nat) , 0 < n_ → Vm vp l ve vs vm va vb vt vc g 2 6 N none (ovr f o (mdL g o μ kp hs tx (ιR ι (rsC μ C P) (rnM μ P (rsC μ C P))))) (ovr f o (mdL g o μ kp hs tx ι)) 94 [some (.ref o), some (.int (0 : Int32)), some (.int (μ 1)), some (.int (fnd μ (0 : Int32) (μ (57 + 3 * P)))), some (.int (fnd μ (1 : Int32) (μ (58 + 3 * P)))), some (.int (fnd μ (1 : Int32) (μ (58 + 3 * P))))] [.int (0 : Int32)] := by
            intro n_
            induction n_ with
            | zero => intro hm_; exact absurd hm_ (Nat.not_lt_zero _)
            | succ n_ ih94 =>
              intro hm94
              refine v_if_eq X dX8_findReason_94 (tgt := 118) (by decide) (fun c94 => ?_) (fun c94 => ?_)
              · skip
                refine v_iload_n X dX8_findReason_118 (i := 1) rfl rfl ?_
                refine v_if_eq X dX8_findReason_119 (tgt := 139) (by decide) (fun c119 => ?_) (fun c119 => ?_)
                · skip
                  refine v_iload_n X dX8_findReason_139 (i := 1) rfl rfl ?_
                  refine v_if_eq X dX8_findReason_140 (tgt := 160) (by decide) (fun c140 => ?_) (fun c140 => ?_)
                  · skip
                    refine v_iload_n X dX8_findReason_160 (i := 3) rfl rfl ?_
                    refine v_bipush X dX8_findReason_161 (v := (-6 : Int32)) (by decide) ?_
                    refine v_icmp_eq X dX8_findReason_163 (tgt := 182) (by decide) (fun c163 => ?_) (fun c163 => ?_)
                    · skip
                      refine v_iload X dX8_findReason_182 rfl ?_
                      refine v_bipush X dX8_findReason_184 (v := (-6 : Int32)) (by decide) ?_
                      refine v_icmp_ne X dX8_findReason_186 (tgt := 199) (by decide) (fun c186 => ?_) (fun c186 => ?_)
                      · skip
                        have k1 : ¬ onS μ P 1 = -6 := fun z => c186 (onS_1.symm.trans z)
                        obtain ⟨k9, h9, e9⟩ := fnd_nI c186
                        have hfl : flyN μ P = nI k9 := by rw [flyN, if_pos k0, onS_1, e9]
                        have hcl : (flyN μ P).toNatClampNeg = k9 := by rw [hfl]; exact nI_clamp (by omega)
                        refine v_aload_n X dX8_findReason_199 (i := 0) rfl rfl ?_
                        refine v_iload X dX8_findReason_200 rfl ?_
                        refine v_iconst X dX8_findReason_202 (v := (1 : Int32)) (by decide) ?_
                        refine v_cvB X rfl yv_X8_shuttlePart m_ml_X8_44 0 0 (c_X8_shuttlePart l g N o (fnd μ (1 : Int32) (μ (58 + 3 * P))) k9 e9 (1 : Int32) 1 rfl μ kp hs tx ι h9 (by omega)) hB (Nat.le_of_ble_eq_true rfl) rfl (Nat.le_of_ble_eq_true rfl) rfl (L' := (mdL g o μ kp hs tx ι)) (rfl) rfl (Nat.le_of_ble_eq_true rfl) rfl rfl (Nat.le_of_ble_eq_true rfl) ⟨Nat.le_of_ble_eq_true rfl, Nat.le_of_ble_eq_true rfl⟩ ⟨Nat.le_of_ble_eq_true rfl, Nat.le_of_ble_eq_true rfl⟩ dX8_findReason_203 rfl ?_
                        refine v_if_ne X dX8_findReason_206 (tgt := 220) (by decide) (fun c206 => ?_) (fun c206 => ?_)
                        · skip
                          refine v_aload_n X dX8_findReason_220 (i := 0) rfl rfl ?_
                          refine v_iconst X dX8_findReason_221 (v := (0 : Int32)) (by decide) ?_
                          refine v_iload X dX8_findReason_222 rfl ?_
                          refine v_cvB X rfl yv_X8_says m_ml_X8_63 0 0 (c_X8_says l g N o μ kp hs tx ι (0 : Int32) (fnd μ (1 : Int32) (μ (58 + 3 * P))) ) hB (Nat.le_of_ble_eq_true rfl) rfl (Nat.le_of_ble_eq_true rfl) rfl (L' := (mdL g o μ kp hs tx (ιR ι (0 : Int32) (fnd μ (1 : Int32) (μ (58 + 3 * P)))))) (rfl) rfl (Nat.le_of_ble_eq_true rfl) rfl rfl (Nat.le_of_ble_eq_true rfl) ⟨Nat.le_of_ble_eq_true rfl, Nat.le_of_ble_eq_true rfl⟩ ⟨Nat.le_of_ble_eq_true rfl, Nat.le_of_ble_eq_true rfl⟩ dX8_findReason_224 rfl ?_
                          have hrc : rsC μ C P = 0 := by rw [rsC, if_neg hC0, if_neg (fun q => q.1 k0), if_neg (fun q => k1 q.2), hcl, if_pos (pos_ne (hY k9 h9) c206)]
                          have hr : rsC μ C P = 0 := hrc
                          have hn : rnM μ P 0 = flyN μ P := by rw [rnM, if_pos rfl]
                          exact v_vret X rfl dX8_findReason_227 (rfl) (by rw [hr, hn, hfl, e9])
                        · skip
                          refine v_aload_n X dX8_findReason_209 (i := 0) rfl rfl ?_
                          refine v_bipush X dX8_findReason_210 (v := (6 : Int32)) (by decide) ?_
                          refine v_iload X dX8_findReason_212 rfl ?_
                          refine v_cvB X rfl yv_X8_says m_ml_X8_63 0 0 (c_X8_says l g N o μ kp hs tx ι (6 : Int32) (fnd μ (1 : Int32) (μ (58 + 3 * P))) ) hB (Nat.le_of_ble_eq_true rfl) rfl (Nat.le_of_ble_eq_true rfl) rfl (L' := (mdL g o μ kp hs tx (ιR ι (6 : Int32) (fnd μ (1 : Int32) (μ (58 + 3 * P)))))) (rfl) rfl (Nat.le_of_ble_eq_true rfl) rfl rfl (Nat.le_of_ble_eq_true rfl) ⟨Nat.le_of_ble_eq_true rfl, Nat.le_of_ble_eq_true rfl⟩ ⟨Nat.le_of_ble_eq_true rfl, Nat.le_of_ble_eq_true rfl⟩ dX8_findReason_214 rfl ?_
                          refine v_goto X dX8_findReason_217 (tgt := 227) (by decide) ?_
                          have hrc : rsC μ C P = 6 := by rw [rsC, if_neg hC0, if_neg (fun q => q.1 k0), if_neg (fun q => k1 q.2), hcl, if_neg (by rw [show μ (13 + 4 * k9) = 0 from c206]; decide)]
                          have hr : rsC μ C P = 6 := hrc
                          have hn : rnM μ P 6 = flyN μ P := by rw [rnM, if_neg (by decide), nTold, if_neg (by decide), if_neg (by decide), if_neg (by decide), if_pos rfl]
                          exact v_vret X rfl dX8_findReason_227 (rfl) (by rw [hr, hn, hfl, e9])
                      · skip
                        have k1 : onS μ P 1 = -6 := onS_1.trans c186
                        refine v_aload_n X dX8_findReason_189 (i := 0) rfl rfl ?_
                        refine v_iconst X dX8_findReason_190 (v := (5 : Int32)) (by decide) ?_
                        refine v_bipush X dX8_findReason_191 (v := (-6 : Int32)) (by decide) ?_
                        refine v_cvB X rfl yv_X8_says m_ml_X8_63 0 0 (c_X8_says l g N o μ kp hs tx ι (5 : Int32) (-6 : Int32) ) hB (Nat.le_of_ble_eq_true rfl) rfl (Nat.le_of_ble_eq_true rfl) rfl (L' := (mdL g o μ kp hs tx (ιR ι (5 : Int32) (-6 : Int32)))) (rfl) rfl (Nat.le_of_ble_eq_true rfl) rfl rfl (Nat.le_of_ble_eq_true rfl) ⟨Nat.le_of_ble_eq_true rfl, Nat.le_of_ble_eq_true rfl⟩ ⟨Nat.le_of_ble_eq_true rfl, Nat.le_of_ble_eq_true rfl⟩ dX8_findReason_193 rfl ?_
                        refine v_goto X dX8_findReason_196 (tgt := 227) (by decide) ?_
                        have hrc : rsC μ C P = 5 := by rw [rsC, if_neg hC0, if_neg (fun q => q.1 k0), if_pos ⟨k0, k1⟩]
                        have hr : rsC μ C P = 5 := hrc
                        have hn : rnM μ P 5 = -6 := by rw [rnM, if_neg (by decide), nTold, if_neg (by decide), if_neg (by decide), if_neg (by decide), if_neg (by decide)]
                        exact v_vret X rfl dX8_findReason_227 (rfl) (by rw [hr, hn])
                    · skip
                      exact absurd c63 c163
                  · skip
                    exact absurd c140 (by decide)
                · skip
                  exact absurd c119 (by decide)
              · skip
                exact absurd c94 (by decide)
          exact LP94 _   (Nat.lt_succ_self _)
        · skip
          exact absurd c80 c13
    · skip
      exact absurd c39 c13
  · skip
    have hC0 : C = 0 := by
      rcases Nat.eq_zero_or_pos C with z | z
      · exact z
      · rw [hC] at c13; exact absurd c13 (nI_ne0 z (by omega))
    refine v_bipush X dX8_findReason_16 (v := (-6 : Int32)) (by decide) ?_
    refine v_goto X dX8_findReason_18 (tgt := 32) (by decide) ?_
    refine v_istore_n X dX8_findReason_32 (i := 3) rfl (Nat.le_of_ble_eq_true rfl) rfl ?_
    refine v_aload_n X dX8_findReason_33 (i := 0) rfl rfl ?_
    refine v_getB X hB cf8 0 (Nat.le_of_ble_eq_true rfl) m_fl_X8_7 dX8_findReason_34 0 (Nat.le_of_ble_eq_true rfl) rfl rfl ?_
    refine v_iconst X dX8_findReason_37 (v := (0 : Int32)) (by decide) ?_
    refine v_ialdB X hB dX8_findReason_38 1 (Nat.le_of_ble_eq_true rfl) rfl 0 rfl (by omega) (Nat.le_of_ble_eq_true rfl) ?_
    refine v_if_ne X dX8_findReason_39 (tgt := 47) (by decide) (fun c39 => ?_) (fun c39 => ?_)
    · skip
      exact absurd c13 c39
    · skip
      refine v_bipush X dX8_findReason_42 (v := (-6 : Int32)) (by decide) ?_
      refine v_goto X dX8_findReason_44 (tgt := 58) (by decide) ?_
      refine v_istore X dX8_findReason_58 (Nat.le_of_ble_eq_true rfl) rfl ?_
      refine v_iload_n X dX8_findReason_60 (i := 3) rfl rfl ?_
      refine v_bipush X dX8_findReason_61 (v := (-6 : Int32)) (by decide) ?_
      refine v_icmp_ne X dX8_findReason_63 (tgt := 71) (by decide) (fun c63 => ?_) (fun c63 => ?_)
      · skip
        exact absurd rfl c63
      · skip
        refine v_iload X dX8_findReason_66 rfl ?_
        refine v_goto X dX8_findReason_68 (tgt := 72) (by decide) ?_
        refine v_istore X dX8_findReason_72 (Nat.le_of_ble_eq_true rfl) rfl ?_
        refine v_aload_n X dX8_findReason_74 (i := 0) rfl rfl ?_
        refine v_getB X hB cf8 0 (Nat.le_of_ble_eq_true rfl) m_fl_X8_7 dX8_findReason_75 0 (Nat.le_of_ble_eq_true rfl) rfl rfl ?_
        refine v_iconst X dX8_findReason_78 (v := (0 : Int32)) (by decide) ?_
        refine v_ialdB X hB dX8_findReason_79 1 (Nat.le_of_ble_eq_true rfl) rfl 0 rfl (by omega) (Nat.le_of_ble_eq_true rfl) ?_
        refine v_if_ne X dX8_findReason_80 (tgt := 93) (by decide) (fun c80 => ?_) (fun c80 => ?_)
        · skip
          exact absurd c13 c80
        · skip
          refine v_aload_n X dX8_findReason_83 (i := 0) rfl rfl ?_
          refine v_iconst X dX8_findReason_84 (v := (1 : Int32)) (by decide) ?_
          refine v_bipush X dX8_findReason_85 (v := (-6 : Int32)) (by decide) ?_
          refine v_cvB X rfl yv_X8_says m_ml_X8_63 0 0 (c_X8_says l g N o μ kp hs tx ι (1 : Int32) (-6 : Int32) ) hB (Nat.le_of_ble_eq_true rfl) rfl (Nat.le_of_ble_eq_true rfl) rfl (L' := (mdL g o μ kp hs tx (ιR ι (1 : Int32) (-6 : Int32)))) (rfl) rfl (Nat.le_of_ble_eq_true rfl) rfl rfl (Nat.le_of_ble_eq_true rfl) ⟨Nat.le_of_ble_eq_true rfl, Nat.le_of_ble_eq_true rfl⟩ ⟨Nat.le_of_ble_eq_true rfl, Nat.le_of_ble_eq_true rfl⟩ dX8_findReason_87 rfl ?_
          refine v_goto X dX8_findReason_90 (tgt := 227) (by decide) ?_
          have hr : rsC μ C P = 1 := by rw [rsC, if_pos hC0]
          have hn : rnM μ P 1 = -6 := by rw [rnM, if_neg (by decide), nTold, if_neg (by decide), if_neg (by decide), if_neg (by decide), if_neg (by decide)]
          exact v_vret X rfl dX8_findReason_227 (rfl) (by rw [hr, hn])
