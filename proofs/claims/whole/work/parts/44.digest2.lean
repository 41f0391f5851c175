/-! the model class: the digest -/
def hqS (μ : Nat → Int32) (h : Int64) : Nat → Int64
  | 0 => h
  | s + 1 => hsA (hqS μ h s) (fun w => μ (12 + w + 4 * s)) 4
def hqT (μ : Nat → Int32) (R : Nat) (h : Int64) : Nat → Int64
  | 0 => h
  | t + 1 => 31 * hsA (hqT μ R h t) (fun w => ofT μ t w) 3 + (mfM μ (nI t) R).toInt64
def hqC (μ : Nat → Int32) (h : Int64) : Nat → Int64
  | 0 => h
  | c + 1 => hsA (hqC μ h c) (fun w => ofC μ c w) 4
def hqL (μ : Nat → Int32) (h : Int64) : Nat → Int64
  | 0 => h
  | r + 1 => hsA (hqL μ h r) (fun t => shM μ r (nI t)) 12
def dgM (μ : Nat → Int32) (R C P : Nat) : Int64 := 31 * (31 * (31 * (31 * hqL μ (hqC μ (hqT μ R (hqS μ (hsA 334 (fun w => μ w) 12) 5) 12) C) R + (rsG μ C P).toInt64) + (plC 200 0 μ).toInt64) + (feC 999 μ).toInt64) + (rpA μ C).toInt64
def dgK (μ kp : Nat → Int32) : Nat → Int32 := cpA μ 0 (cpA μ 0 (cpA μ 0 kp 0 284) 0 284) 0 284
def dgI (μ ι : Nat → Int32) (C P : Nat) : Nat → Int32 := rpX μ C (ιC (ιG (ιR ι (rsG μ C P) (rnM μ P (rsG μ C P))) (plS 200 μ)) (feS 999 μ))
set_option maxRecDepth 100000 in
set_option maxHeartbeats 4000000 in
theorem c_X8_digest (l : Launch) (g : Ge) (N o : Nat) (μ kp hs tx ι : Nat → Int32) (C P : Nat) (hC : μ 0 = nI C) (hP : μ 1 = nI P) (hPC : P < C ∨ (C = 0 ∧ P = 0)) (hC16 : C ≤ 16) (R : Nat) (hR : μ 7 = nI R) (hR20 : R ≤ 20) (hU : UN μ) (hY : YN μ) : Cb l g yX8_digest (.code yX8_digest cX8_digest 5 (some .long)) 4 [.ref o] N o (mdL g o μ kp hs tx ι) (some (.long (dgM μ R C P))) (mdL g o μ (dgK μ kp) hs tx (dgI μ ι C P)) := by
  intro f hB0
  have hB : BB g N o 5 := hB0
  refine ct_of (own := RX8) [some (.ref o), none, none, none, none] (by decide +kernel) rfl rfl (Nat.le_of_ble_eq_true rfl) ?_
  intro vp ve vs vm va vb vt vc hnm X
  refine v_ldc2 X dX8_digest_0 m_kl_X8_169 ?_
  refine v_lstore_n X dX8_digest_3 (i := 1) rfl (Nat.le_of_ble_eq_true rfl) rfl ?_
  refine v_iconst X dX8_digest_4 (v := (0 : Int32)) (by decide) ?_
  refine v_istore_n X dX8_digest_5 (i := 3) rfl (Nat.le_of_ble_eq_true rfl) rfl ?_
  have LP6 : ∀ (n_ : Nat) (w : Nat), (w ≤ 12) → 12 - w < n_ → Vm vp l ve vs vm va vb vt vc g 4 5 N (some (.long (dgM μ R C P))) (ovr f o (mdL g o μ (dgK μ kp) hs tx (dgI μ ι C P))) (ovr f o (mdL g o μ kp hs tx ι)) 6 [some (.ref o), some (.long (hsA 334 (fun w => μ w) w)), none, some (.int (nI w)), none] [] := by
    intro n_
    induction n_ with
    | zero => intro w hw hm_; exact absurd hm_ (Nat.not_lt_zero _)
    | succ n_ ih6 =>
      intro w hw hm6
      refine v_iload_n X dX8_digest_6 (i := 3) rfl rfl ?_
      refine v_bipush X dX8_digest_7 (v := (11 : Int32)) (by decide) ?_
      refine v_icmp_gt X dX8_digest_9 (tgt := 32) (by decide) (fun c9 => ?_) (fun c9 => ?_)
      · skip
        have hw2 : w = 12 := by
          have := lt_of_nI (a := 11) (by omega) (by omega) c9
          omega
        subst hw2
        refine v_iconst X dX8_digest_32 (v := (0 : Int32)) (by decide) ?_
        refine v_istore_n X dX8_digest_33 (i := 3) rfl (Nat.le_of_ble_eq_true rfl) rfl ?_
        have LP34 : ∀ (n_ : Nat) (s : Nat), (s ≤ 5) → 5 - s < n_ → Vm vp l ve vs vm va vb vt vc g 4 5 N (some (.long (dgM μ R C P))) (ovr f o (mdL g o μ (dgK μ kp) hs tx (dgI μ ι C P))) (ovr f o (mdL g o μ kp hs tx ι)) 34 [some (.ref o), some (.long (hqS μ (hsA 334 (fun w => μ w) 12) s)), none, some (.int (nI s)), none] [] := by
          intro n_
          induction n_ with
          | zero => intro s hs9 hm_; exact absurd hm_ (Nat.not_lt_zero _)
          | succ n_ ih34 =>
            intro s hs9 hm34
            refine v_iload_n X dX8_digest_34 (i := 3) rfl rfl ?_
            refine v_iconst X dX8_digest_35 (v := (5 : Int32)) (by decide) ?_
            refine v_icmp_ge X dX8_digest_36 (tgt := 75) (by decide) (fun c36 => ?_) (fun c36 => ?_)
            · skip
              have hs2 : s = 5 := Nat.le_antisymm hs9 (le_of_nI (a := 5) (by omega) (by omega) c36)
              subst hs2
              refine v_iconst X dX8_digest_75 (v := (0 : Int32)) (by decide) ?_
              refine v_istore_n X dX8_digest_76 (i := 3) rfl (Nat.le_of_ble_eq_true rfl) rfl ?_
              have LP77 : ∀ (n_ : Nat) (s : Nat), (s ≤ 12) → 12 - s < n_ → Vm vp l ve vs vm va vb vt vc g 4 5 N (some (.long (dgM μ R C P))) (ovr f o (mdL g o μ (dgK μ kp) hs tx (dgI μ ι C P))) (ovr f o (mdL g o μ kp hs tx ι)) 77 [some (.ref o), some (.long (hqT μ R (hqS μ (hsA 334 (fun w => μ w) 12) 5) s)), none, some (.int (nI s)), none] [] := by
                intro n_
                induction n_ with
                | zero => intro s hs9 hm_; exact absurd hm_ (Nat.not_lt_zero _)
                | succ n_ ih77 =>
                  intro s hs9 hm77
                  refine v_iload_n X dX8_digest_77 (i := 3) rfl rfl ?_
                  refine v_bipush X dX8_digest_78 (v := (12 : Int32)) (by decide) ?_
                  refine v_icmp_ge X dX8_digest_80 (tgt := 132) (by decide) (fun c80 => ?_) (fun c80 => ?_)
                  · skip
                    have hs2 : s = 12 := Nat.le_antisymm hs9 (le_of_nI (a := 12) (by omega) (by omega) c80)
                    subst hs2
                    refine v_iconst X dX8_digest_132 (v := (0 : Int32)) (by decide) ?_
                    refine v_istore_n X dX8_digest_133 (i := 3) rfl (Nat.le_of_ble_eq_true rfl) rfl ?_
                    have LP134 : ∀ (n_ : Nat) (s : Nat), (s ≤ C) → C - s < n_ → Vm vp l ve vs vm va vb vt vc g 4 5 N (some (.long (dgM μ R C P))) (ovr f o (mdL g o μ (dgK μ kp) hs tx (dgI μ ι C P))) (ovr f o (mdL g o μ kp hs tx ι)) 134 [some (.ref o), some (.long (hqC μ (hqT μ R (hqS μ (hsA 334 (fun w => μ w) 12) 5) 12) s)), none, some (.int (nI s)), none] [] := by
                      intro n_
                      induction n_ with
                      | zero => intro s hs9 hm_; exact absurd hm_ (Nat.not_lt_zero _)
                      | succ n_ ih134 =>
                        intro s hs9 hm134
                        refine v_iload_n X dX8_digest_134 (i := 3) rfl rfl ?_
                        refine v_aload_n X dX8_digest_135 (i := 0) rfl rfl ?_
                        refine v_getB X hB cf8 0 (Nat.le_of_ble_eq_true rfl) m_fl_X8_7 dX8_digest_136 0 (Nat.le_of_ble_eq_true rfl) rfl rfl ?_
                        refine v_iconst X dX8_digest_139 (v := (0 : Int32)) (by decide) ?_
                        refine v_ialdB X hB dX8_digest_140 1 (Nat.le_of_ble_eq_true rfl) rfl 0 rfl (by omega) (Nat.le_of_ble_eq_true rfl) ?_
                        refine v_icmp_ge X dX8_digest_141 (tgt := 180) (by decide) (fun c141 => ?_) (fun c141 => ?_)
                        · skip
                          have hs2 : s = C := Nat.le_antisymm hs9 (le_of_nI (by omega) (by omega) (by rw [← hC]; exact c141))
                          rw [hs2]
                          refine v_iconst X dX8_digest_180 (v := (0 : Int32)) (by decide) ?_
                          refine v_istore_n X dX8_digest_181 (i := 3) rfl (Nat.le_of_ble_eq_true rfl) rfl ?_
                          have LP182 : ∀ (n_ : Nat) (s : Nat), (s ≤ R) → R - s < n_ → Vm vp l ve vs vm va vb vt vc g 4 5 N (some (.long (dgM μ R C P))) (ovr f o (mdL g o μ (dgK μ kp) hs tx (dgI μ ι C P))) (ovr f o (mdL g o μ kp hs tx ι)) 182 [some (.ref o), some (.long (hqL μ (hqC μ (hqT μ R (hqS μ (hsA 334 (fun w => μ w) 12) 5) 12) C) s)), none, some (.int (nI s)), none] [] := by
                            intro n_
                            induction n_ with
                            | zero => intro s hs9 hm_; exact absurd hm_ (Nat.not_lt_zero _)
                            | succ n_ ih182 =>
                              intro s hs9 hm182
                              refine v_iload_n X dX8_digest_182 (i := 3) rfl rfl ?_
                              refine v_aload_n X dX8_digest_183 (i := 0) rfl rfl ?_
                              refine v_getB X hB cf8 0 (Nat.le_of_ble_eq_true rfl) m_fl_X8_7 dX8_digest_184 0 (Nat.le_of_ble_eq_true rfl) rfl rfl ?_
                              refine v_bipush X dX8_digest_187 (v := (7 : Int32)) (by decide) ?_
                              refine v_ialdB X hB dX8_digest_189 1 (Nat.le_of_ble_eq_true rfl) rfl 7 rfl (by omega) (Nat.le_of_ble_eq_true rfl) ?_
                              refine v_icmp_ge X dX8_digest_190 (tgt := 230) (by decide) (fun c190 => ?_) (fun c190 => ?_)
                              · skip
                                have hs2 : s = R := Nat.le_antisymm hs9 (le_of_nI (by omega) (by omega) (by rw [← hR]; exact c190))
                                rw [hs2]
                                refine v_ldc2 X dX8_digest_230 m_kl_X8_171 ?_
                                refine v_lload_n X dX8_digest_233 (i := 1) rfl rfl ?_
                                refine v_lmul X dX8_digest_234 ?_
                                refine v_aload_n X dX8_digest_235 (i := 0) rfl rfl ?_
                                refine v_cvB X rfl yv_X8_nextReason m_ml_X8_129 0 0 (c_X8_nextReason l g N o μ kp hs tx ι C P hC hP hPC hC16 hU hY) hB (Nat.le_of_ble_eq_true rfl) rfl (Nat.le_of_ble_eq_true rfl) rfl (L' := (mdL g o μ kp hs tx (ιR ι (rsG μ C P) (rnM μ P (rsG μ C P))))) (rfl) rfl (Nat.le_of_ble_eq_true rfl) rfl rfl (Nat.le_of_ble_eq_true rfl) ⟨Nat.le_of_ble_eq_true rfl, Nat.le_of_ble_eq_true rfl⟩ ⟨Nat.le_of_ble_eq_true rfl, Nat.le_of_ble_eq_true rfl⟩ dX8_digest_236 rfl ?_
                                obtain ⟨ι2, e2⟩ : ∃ x, (ιR ι (rsG μ C P) (rnM μ P (rsG μ C P))) = x := ⟨_, rfl⟩
                                refine V.cast (f' := ovr f o (mdL g o μ kp hs tx ι2)) ?_ rfl rfl (by rw [← e2])
                                refine v_i2l X dX8_digest_239 ?_
                                refine v_ladd X dX8_digest_240 ?_
                                refine v_lstore_n X dX8_digest_241 (i := 1) rfl (Nat.le_of_ble_eq_true rfl) rfl ?_
                                refine v_ldc2 X dX8_digest_242 m_kl_X8_171 ?_
                                refine v_lload_n X dX8_digest_245 (i := 1) rfl rfl ?_
                                refine v_lmul X dX8_digest_246 ?_
                                refine v_aload_n X dX8_digest_247 (i := 0) rfl rfl ?_
                                refine v_cvB X rfl yv_X8_left m_ml_X8_132 0 0 (c_X8_left l g N o μ kp hs tx ι2 (⟨C, P, hC, hP, hPC, hC16⟩) hU hY) hB (Nat.le_of_ble_eq_true rfl) rfl (Nat.le_of_ble_eq_true rfl) rfl (L' := (mdL g o μ (cpA μ 0 kp 0 284) hs tx (ιG ι2 (plS 200 μ)))) (rfl) rfl (Nat.le_of_ble_eq_true rfl) rfl rfl (Nat.le_of_ble_eq_true rfl) ⟨Nat.le_of_ble_eq_true rfl, Nat.le_of_ble_eq_true rfl⟩ ⟨Nat.le_of_ble_eq_true rfl, Nat.le_of_ble_eq_true rfl⟩ dX8_digest_248 rfl ?_
                                obtain ⟨ι3, e3⟩ : ∃ x, (ιG ι2 (plS 200 μ)) = x := ⟨_, rfl⟩
                                obtain ⟨kp3, f3⟩ : ∃ x, (cpA μ 0 kp 0 284) = x := ⟨_, rfl⟩
                                refine V.cast (f' := ovr f o (mdL g o μ kp3 hs tx ι3)) ?_ rfl rfl (by rw [← e3, ← f3])
                                refine v_i2l X dX8_digest_251 ?_
                                refine v_ladd X dX8_digest_252 ?_
                                refine v_lstore_n X dX8_digest_253 (i := 1) rfl (Nat.le_of_ble_eq_true rfl) rfl ?_
                                refine v_ldc2 X dX8_digest_254 m_kl_X8_171 ?_
                                refine v_lload_n X dX8_digest_257 (i := 1) rfl rfl ?_
                                refine v_lmul X dX8_digest_258 ?_
                                refine v_aload_n X dX8_digest_259 (i := 0) rfl rfl ?_
                                refine v_cvB X rfl yv_X8_emptyOne m_ml_X8_135 0 0 (c_X8_emptyOne l g N o μ kp3 hs tx ι3 (⟨C, P, hC, hP, hPC, hC16⟩) hU hY) hB (Nat.le_of_ble_eq_true rfl) rfl (Nat.le_of_ble_eq_true rfl) rfl (L' := (mdL g o μ (cpA μ 0 kp3 0 284) hs tx (ιC ι3 (feS 999 μ)))) (rfl) rfl (Nat.le_of_ble_eq_true rfl) rfl rfl (Nat.le_of_ble_eq_true rfl) ⟨Nat.le_of_ble_eq_true rfl, Nat.le_of_ble_eq_true rfl⟩ ⟨Nat.le_of_ble_eq_true rfl, Nat.le_of_ble_eq_true rfl⟩ dX8_digest_260 rfl ?_
                                obtain ⟨ι4, e4⟩ : ∃ x, (ιC ι3 (feS 999 μ)) = x := ⟨_, rfl⟩
                                obtain ⟨kp4, f4⟩ : ∃ x, (cpA μ 0 kp3 0 284) = x := ⟨_, rfl⟩
                                refine V.cast (f' := ovr f o (mdL g o μ kp4 hs tx ι4)) ?_ rfl rfl (by rw [← e4, ← f4])
                                refine v_i2l X dX8_digest_263 ?_
                                refine v_ladd X dX8_digest_264 ?_
                                refine v_lstore_n X dX8_digest_265 (i := 1) rfl (Nat.le_of_ble_eq_true rfl) rfl ?_
                                refine v_ldc2 X dX8_digest_266 m_kl_X8_171 ?_
                                refine v_lload_n X dX8_digest_269 (i := 1) rfl rfl ?_
                                refine v_lmul X dX8_digest_270 ?_
                                refine v_aload_n X dX8_digest_271 (i := 0) rfl rfl ?_
                                refine v_cvB X rfl yv_X8_isRepeating m_ml_X8_138 0 0 (c_X8_isRepeating l g N o μ kp4 hs tx ι4 C (⟨P, hC, hP, hPC, hC16⟩) hU hY) hB (Nat.le_of_ble_eq_true rfl) rfl (Nat.le_of_ble_eq_true rfl) rfl (L' := (mdL g o μ (cpA μ 0 kp4 0 284) hs tx (rpX μ C ι4))) (rfl) rfl (Nat.le_of_ble_eq_true rfl) rfl rfl (Nat.le_of_ble_eq_true rfl) ⟨Nat.le_of_ble_eq_true rfl, Nat.le_of_ble_eq_true rfl⟩ ⟨Nat.le_of_ble_eq_true rfl, Nat.le_of_ble_eq_true rfl⟩ dX8_digest_272 rfl ?_
                                refine v_i2l X dX8_digest_275 ?_
                                refine v_ladd X dX8_digest_276 ?_
                                exact v_lret X rfl dX8_digest_277 (by rw [dgM]) (by rw [← e4, ← f4, ← e3, ← f3, ← e2, dgK, dgI])
                              · skip
                                have hs3 : s < R := lt_of_nI (by omega) (by omega) (by rw [← hR]; exact c190)
                                refine v_iconst X dX8_digest_193 (v := (0 : Int32)) (by decide) ?_
                                refine v_istore X dX8_digest_194 (Nat.le_of_ble_eq_true rfl) rfl ?_
                                have LP196 : ∀ (n_ : Nat) (w : Nat), (w ≤ 12) → 12 - w < n_ → Vm vp l ve vs vm va vb vt vc g 4 5 N (some (.long (dgM μ R C P))) (ovr f o (mdL g o μ (dgK μ kp) hs tx (dgI μ ι C P))) (ovr f o (mdL g o μ kp hs tx ι)) 196 [some (.ref o), some (.long (hsA (hqL μ (hqC μ (hqT μ R (hqS μ (hsA 334 (fun w => μ w) 12) 5) 12) C) s) (fun w => shM μ s (nI w)) w)), none, some (.int (nI s)), some (.int (nI w))] [] := by
                                  intro n_
                                  induction n_ with
                                  | zero => intro w hw hm_; exact absurd hm_ (Nat.not_lt_zero _)
                                  | succ n_ ih196 =>
                                    intro w hw hm196
                                    refine v_iload X dX8_digest_196 rfl ?_
                                    refine v_bipush X dX8_digest_198 (v := (12 : Int32)) (by decide) ?_
                                    refine v_icmp_ge X dX8_digest_200 (tgt := 224) (by decide) (fun c200 => ?_) (fun c200 => ?_)
                                    · skip
                                      have hw2 : w = 12 := Nat.le_antisymm hw (le_of_nI (a := 12) (by omega) (by omega) c200)
                                      refine v_iinc X dX8_digest_224 (v := nI (s + 1)) rfl (ix_inc rfl) (Nat.le_of_ble_eq_true rfl) rfl ?_
                                      refine v_goto X dX8_digest_227 (tgt := 182) (by decide) ?_
                                      refine v_drop 4 ?_
                                      exact V.cast (ih182 (s + 1) (by omega) (by omega)) (by subst hw2; rfl) (rfl) (rfl)
                                    · skip
                                      have hw3 : w < 12 := lt_of_nI (b := 12) (by omega) (by omega) c200
                                      refine v_ldc2 X dX8_digest_203 m_kl_X8_171 ?_
                                      refine v_lload_n X dX8_digest_206 (i := 1) rfl rfl ?_
                                      refine v_lmul X dX8_digest_207 ?_
                                      refine v_aload_n X dX8_digest_208 (i := 0) rfl rfl ?_
                                      refine v_iload_n X dX8_digest_209 (i := 3) rfl rfl ?_
                                      refine v_iload X dX8_digest_210 rfl ?_
                                      refine v_cvB X rfl yv_X8_shown m_ml_X8_123 0 0 (c_X8_shown l g N o (nI s) s rfl μ kp hs tx ι (nI w) (by omega)) hB (Nat.le_of_ble_eq_true rfl) rfl (Nat.le_of_ble_eq_true rfl) rfl (L' := (mdL g o μ kp hs tx ι)) (rfl) rfl (Nat.le_of_ble_eq_true rfl) rfl rfl (Nat.le_of_ble_eq_true rfl) ⟨Nat.le_of_ble_eq_true rfl, Nat.le_of_ble_eq_true rfl⟩ ⟨Nat.le_of_ble_eq_true rfl, Nat.le_of_ble_eq_true rfl⟩ dX8_digest_212 rfl ?_
                                      refine v_i2l X dX8_digest_215 ?_
                                      refine v_ladd X dX8_digest_216 ?_
                                      refine v_lstore_n X dX8_digest_217 (i := 1) rfl (Nat.le_of_ble_eq_true rfl) rfl ?_
                                      refine v_iinc X dX8_digest_218 (v := nI (w + 1)) rfl (ix_inc rfl) (Nat.le_of_ble_eq_true rfl) rfl ?_
                                      refine v_goto X dX8_digest_221 (tgt := 196) (by decide) ?_
                                      exact V.cast (ih196 (w + 1) (by omega) (by omega)) (by rfl) (rfl) (rfl)
                                exact LP196 _ 0 (Nat.zero_le _) (Nat.lt_succ_self _)
                          exact LP182 _ 0 (Nat.zero_le _) (Nat.lt_succ_self _)
                        · skip
                          have hs3 : s < C := lt_of_nI (by omega) (by omega) (by rw [← hC]; exact c141)
                          refine v_iconst X dX8_digest_144 (v := (0 : Int32)) (by decide) ?_
                          refine v_istore X dX8_digest_145 (Nat.le_of_ble_eq_true rfl) rfl ?_
                          have LP147 : ∀ (n_ : Nat) (w : Nat), (w ≤ 4) → 4 - w < n_ → Vm vp l ve vs vm va vb vt vc g 4 5 N (some (.long (dgM μ R C P))) (ovr f o (mdL g o μ (dgK μ kp) hs tx (dgI μ ι C P))) (ovr f o (mdL g o μ kp hs tx ι)) 147 [some (.ref o), some (.long (hsA (hqC μ (hqT μ R (hqS μ (hsA 334 (fun w => μ w) 12) 5) 12) s) (fun w => ofC μ s w) w)), none, some (.int (nI s)), some (.int (nI w))] [] := by
                            intro n_
                            induction n_ with
                            | zero => intro w hw hm_; exact absurd hm_ (Nat.not_lt_zero _)
                            | succ n_ ih147 =>
                              intro w hw hm147
                              refine v_iload X dX8_digest_147 rfl ?_
                              refine v_iconst X dX8_digest_149 (v := (3 : Int32)) (by decide) ?_
                              refine v_icmp_gt X dX8_digest_150 (tgt := 174) (by decide) (fun c150 => ?_) (fun c150 => ?_)
                              · skip
                                have hw2 : w = 4 := by
                                  have := lt_of_nI (a := 3) (by omega) (by omega) c150
                                  omega
                                refine v_iinc X dX8_digest_174 (v := nI (s + 1)) rfl (ix_inc rfl) (Nat.le_of_ble_eq_true rfl) rfl ?_
                                refine v_goto X dX8_digest_177 (tgt := 134) (by decide) ?_
                                refine v_drop 4 ?_
                                exact V.cast (ih134 (s + 1) (by omega) (by omega)) (by subst hw2; rfl) (rfl) (rfl)
                              · skip
                                have hw3 : w < 4 := by
                                  have := le_of_nI (b := 3) (by omega) (by omega) c150
                                  omega
                                refine v_ldc2 X dX8_digest_153 m_kl_X8_171 ?_
                                refine v_lload_n X dX8_digest_156 (i := 1) rfl rfl ?_
                                refine v_lmul X dX8_digest_157 ?_
                                refine v_aload_n X dX8_digest_158 (i := 0) rfl rfl ?_
                                refine v_iload_n X dX8_digest_159 (i := 3) rfl rfl ?_
                                refine v_iload X dX8_digest_160 rfl ?_
                                refine v_cvB X rfl yv_X8_ofCard m_ml_X8_120 0 0 (c_X8_ofCard l g N o (nI s) s rfl (nI w) w rfl μ kp hs tx ι (by omega) (by omega)) hB (Nat.le_of_ble_eq_true rfl) rfl (Nat.le_of_ble_eq_true rfl) rfl (L' := (mdL g o μ kp hs tx ι)) (rfl) rfl (Nat.le_of_ble_eq_true rfl) rfl rfl (Nat.le_of_ble_eq_true rfl) ⟨Nat.le_of_ble_eq_true rfl, Nat.le_of_ble_eq_true rfl⟩ ⟨Nat.le_of_ble_eq_true rfl, Nat.le_of_ble_eq_true rfl⟩ dX8_digest_162 rfl ?_
                                refine v_i2l X dX8_digest_165 ?_
                                refine v_ladd X dX8_digest_166 ?_
                                refine v_lstore_n X dX8_digest_167 (i := 1) rfl (Nat.le_of_ble_eq_true rfl) rfl ?_
                                refine v_iinc X dX8_digest_168 (v := nI (w + 1)) rfl (ix_inc rfl) (Nat.le_of_ble_eq_true rfl) rfl ?_
                                refine v_goto X dX8_digest_171 (tgt := 147) (by decide) ?_
                                exact V.cast (ih147 (w + 1) (by omega) (by omega)) (by rfl) (rfl) (rfl)
                          exact LP147 _ 0 (Nat.zero_le _) (Nat.lt_succ_self _)
                    exact LP134 _ 0 (Nat.zero_le _) (Nat.lt_succ_self _)
                  · skip
                    have hs3 : s < 12 := lt_of_nI (b := 12) (by omega) (by omega) c80
                    refine v_iconst X dX8_digest_83 (v := (0 : Int32)) (by decide) ?_
                    refine v_istore X dX8_digest_84 (Nat.le_of_ble_eq_true rfl) rfl ?_
                    have LP86 : ∀ (n_ : Nat) (w : Nat), (w ≤ 3) → 3 - w < n_ → Vm vp l ve vs vm va vb vt vc g 4 5 N (some (.long (dgM μ R C P))) (ovr f o (mdL g o μ (dgK μ kp) hs tx (dgI μ ι C P))) (ovr f o (mdL g o μ kp hs tx ι)) 86 [some (.ref o), some (.long (hsA (hqT μ R (hqS μ (hsA 334 (fun w => μ w) 12) 5) s) (fun w => ofT μ s w) w)), none, some (.int (nI s)), some (.int (nI w))] [] := by
                      intro n_
                      induction n_ with
                      | zero => intro w hw hm_; exact absurd hm_ (Nat.not_lt_zero _)
                      | succ n_ ih86 =>
                        intro w hw hm86
                        refine v_iload X dX8_digest_86 rfl ?_
                        refine v_iconst X dX8_digest_88 (v := (2 : Int32)) (by decide) ?_
                        refine v_icmp_gt X dX8_digest_89 (tgt := 113) (by decide) (fun c89 => ?_) (fun c89 => ?_)
                        · skip
                          have hw2 : w = 3 := by
                            have := lt_of_nI (a := 2) (by omega) (by omega) c89
                            omega
                          refine v_ldc2 X dX8_digest_113 m_kl_X8_171 ?_
                          refine v_lload_n X dX8_digest_116 (i := 1) rfl rfl ?_
                          refine v_lmul X dX8_digest_117 ?_
                          refine v_aload_n X dX8_digest_118 (i := 0) rfl rfl ?_
                          refine v_iload_n X dX8_digest_119 (i := 3) rfl rfl ?_
                          refine v_cvB X rfl yv_X8_floatOf m_ml_X8_126 0 0 (c_X8_floatOf l g N o μ kp hs tx ι (nI s) R hR hR20) hB (Nat.le_of_ble_eq_true rfl) rfl (Nat.le_of_ble_eq_true rfl) rfl (L' := (mdL g o μ kp hs tx ι)) (rfl) rfl (Nat.le_of_ble_eq_true rfl) rfl rfl (Nat.le_of_ble_eq_true rfl) ⟨Nat.le_of_ble_eq_true rfl, Nat.le_of_ble_eq_true rfl⟩ ⟨Nat.le_of_ble_eq_true rfl, Nat.le_of_ble_eq_true rfl⟩ dX8_digest_120 rfl ?_
                          refine v_i2l X dX8_digest_123 ?_
                          refine v_ladd X dX8_digest_124 ?_
                          refine v_lstore_n X dX8_digest_125 (i := 1) rfl (Nat.le_of_ble_eq_true rfl) rfl ?_
                          refine v_iinc X dX8_digest_126 (v := nI (s + 1)) rfl (ix_inc rfl) (Nat.le_of_ble_eq_true rfl) rfl ?_
                          refine v_goto X dX8_digest_129 (tgt := 77) (by decide) ?_
                          refine v_drop 4 ?_
                          exact V.cast (ih77 (s + 1) (by omega) (by omega)) (by subst hw2; rfl) (rfl) (rfl)
                        · skip
                          have hw3 : w < 3 := by
                            have := le_of_nI (b := 2) (by omega) (by omega) c89
                            omega
                          refine v_ldc2 X dX8_digest_92 m_kl_X8_171 ?_
                          refine v_lload_n X dX8_digest_95 (i := 1) rfl rfl ?_
                          refine v_lmul X dX8_digest_96 ?_
                          refine v_aload_n X dX8_digest_97 (i := 0) rfl rfl ?_
                          refine v_iload_n X dX8_digest_98 (i := 3) rfl rfl ?_
                          refine v_iload X dX8_digest_99 rfl ?_
                          refine v_cvB X rfl yv_X8_ofThread m_ml_X8_117 0 0 (c_X8_ofThread l g N o (nI s) s rfl (nI w) w rfl μ kp hs tx ι (by omega) (by omega)) hB (Nat.le_of_ble_eq_true rfl) rfl (Nat.le_of_ble_eq_true rfl) rfl (L' := (mdL g o μ kp hs tx ι)) (rfl) rfl (Nat.le_of_ble_eq_true rfl) rfl rfl (Nat.le_of_ble_eq_true rfl) ⟨Nat.le_of_ble_eq_true rfl, Nat.le_of_ble_eq_true rfl⟩ ⟨Nat.le_of_ble_eq_true rfl, Nat.le_of_ble_eq_true rfl⟩ dX8_digest_101 rfl ?_
                          refine v_i2l X dX8_digest_104 ?_
                          refine v_ladd X dX8_digest_105 ?_
                          refine v_lstore_n X dX8_digest_106 (i := 1) rfl (Nat.le_of_ble_eq_true rfl) rfl ?_
                          refine v_iinc X dX8_digest_107 (v := nI (w + 1)) rfl (ix_inc rfl) (Nat.le_of_ble_eq_true rfl) rfl ?_
                          refine v_goto X dX8_digest_110 (tgt := 86) (by decide) ?_
                          exact V.cast (ih86 (w + 1) (by omega) (by omega)) (by rfl) (rfl) (rfl)
                    exact LP86 _ 0 (Nat.zero_le _) (Nat.lt_succ_self _)
              exact LP77 _ 0 (Nat.zero_le _) (Nat.lt_succ_self _)
            · skip
              have hs3 : s < 5 := lt_of_nI (b := 5) (by omega) (by omega) c36
              refine v_iconst X dX8_digest_39 (v := (0 : Int32)) (by decide) ?_
              refine v_istore X dX8_digest_40 (Nat.le_of_ble_eq_true rfl) rfl ?_
              have LP42 : ∀ (n_ : Nat) (w : Nat), (w ≤ 4) → 4 - w < n_ → Vm vp l ve vs vm va vb vt vc g 4 5 N (some (.long (dgM μ R C P))) (ovr f o (mdL g o μ (dgK μ kp) hs tx (dgI μ ι C P))) (ovr f o (mdL g o μ kp hs tx ι)) 42 [some (.ref o), some (.long (hsA (hqS μ (hsA 334 (fun w => μ w) 12) s) (fun w => μ (12 + w + 4 * s)) w)), none, some (.int (nI s)), some (.int (nI w))] [] := by
                intro n_
                induction n_ with
                | zero => intro w hw hm_; exact absurd hm_ (Nat.not_lt_zero _)
                | succ n_ ih42 =>
                  intro w hw hm42
                  refine v_iload X dX8_digest_42 rfl ?_
                  refine v_iconst X dX8_digest_44 (v := (3 : Int32)) (by decide) ?_
                  refine v_icmp_gt X dX8_digest_45 (tgt := 69) (by decide) (fun c45 => ?_) (fun c45 => ?_)
                  · skip
                    have hw2 : w = 4 := by
                      have := lt_of_nI (a := 3) (by omega) (by omega) c45
                      omega
                    refine v_iinc X dX8_digest_69 (v := nI (s + 1)) rfl (ix_inc rfl) (Nat.le_of_ble_eq_true rfl) rfl ?_
                    refine v_goto X dX8_digest_72 (tgt := 34) (by decide) ?_
                    refine v_drop 4 ?_
                    exact V.cast (ih34 (s + 1) (by omega) (by omega)) (by subst hw2; rfl) (rfl) (rfl)
                  · skip
                    have hw3 : w < 4 := by
                      have := le_of_nI (b := 3) (by omega) (by omega) c45
                      omega
                    refine v_ldc2 X dX8_digest_48 m_kl_X8_171 ?_
                    refine v_lload_n X dX8_digest_51 (i := 1) rfl rfl ?_
                    refine v_lmul X dX8_digest_52 ?_
                    refine v_aload_n X dX8_digest_53 (i := 0) rfl rfl ?_
                    refine v_iload_n X dX8_digest_54 (i := 3) rfl rfl ?_
                    refine v_iload X dX8_digest_55 rfl ?_
                    refine v_cvB X rfl yv_X8_shuttlePart m_ml_X8_44 0 0 (c_X8_shuttlePart l g N o (nI s) s rfl (nI w) w rfl μ kp hs tx ι (by omega) (by omega)) hB (Nat.le_of_ble_eq_true rfl) rfl (Nat.le_of_ble_eq_true rfl) rfl (L' := (mdL g o μ kp hs tx ι)) (rfl) rfl (Nat.le_of_ble_eq_true rfl) rfl rfl (Nat.le_of_ble_eq_true rfl) ⟨Nat.le_of_ble_eq_true rfl, Nat.le_of_ble_eq_true rfl⟩ ⟨Nat.le_of_ble_eq_true rfl, Nat.le_of_ble_eq_true rfl⟩ dX8_digest_57 rfl ?_
                    refine v_i2l X dX8_digest_60 ?_
                    refine v_ladd X dX8_digest_61 ?_
                    refine v_lstore_n X dX8_digest_62 (i := 1) rfl (Nat.le_of_ble_eq_true rfl) rfl ?_
                    refine v_iinc X dX8_digest_63 (v := nI (w + 1)) rfl (ix_inc rfl) (Nat.le_of_ble_eq_true rfl) rfl ?_
                    refine v_goto X dX8_digest_66 (tgt := 42) (by decide) ?_
                    exact V.cast (ih42 (w + 1) (by omega) (by omega)) (by rfl) (rfl) (rfl)
              exact LP42 _ 0 (Nat.zero_le _) (Nat.lt_succ_self _)
        exact LP34 _ 0 (Nat.zero_le _) (Nat.lt_succ_self _)
      · skip
        have hw3 : w < 12 := by
          have := le_of_nI (b := 11) (by omega) (by omega) c9
          omega
        refine v_ldc2 X dX8_digest_12 m_kl_X8_171 ?_
        refine v_lload_n X dX8_digest_15 (i := 1) rfl rfl ?_
        refine v_lmul X dX8_digest_16 ?_
        refine v_aload_n X dX8_digest_17 (i := 0) rfl rfl ?_
        refine v_getB X hB cf8 0 (Nat.le_of_ble_eq_true rfl) m_fl_X8_7 dX8_digest_18 0 (Nat.le_of_ble_eq_true rfl) rfl rfl ?_
        refine v_iload_n X dX8_digest_21 (i := 3) rfl rfl ?_
        refine v_ialdB X hB dX8_digest_22 1 (Nat.le_of_ble_eq_true rfl) rfl w rfl (by omega) (Nat.le_of_ble_eq_true rfl) ?_
        refine v_i2l X dX8_digest_23 ?_
        refine v_ladd X dX8_digest_24 ?_
        refine v_lstore_n X dX8_digest_25 (i := 1) rfl (Nat.le_of_ble_eq_true rfl) rfl ?_
        refine v_iinc X dX8_digest_26 (v := nI (w + 1)) rfl (ix_inc rfl) (Nat.le_of_ble_eq_true rfl) rfl ?_
        refine v_goto X dX8_digest_29 (tgt := 6) (by decide) ?_
        exact V.cast (ih6 (w + 1) (by omega) (by omega)) (by rfl) (rfl) (rfl)
  exact LP6 _ 0 (Nat.zero_le _) (Nat.lt_succ_self _)
