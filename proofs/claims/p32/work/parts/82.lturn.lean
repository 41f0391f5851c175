/-! the law's main method: a turn -/
section L82
variable {p : Program} {l : Launch} {e : Env} {R : Room} {s : State} {m : MethodId} {args : Array Value} {below : List Frame} {meth : Method} {c : Code} {Q : State → Prop}
variable {g : Ge} {cc : ByteArray} {nL : Nat} {own : String} {rt : Option FieldType} {N0 cs ss N : Nat} {f : Pic} {pc : Nat} {lv : List (Option Value)} {st : List Value}
theorem v_callX0 (X : Cx p args s m meth c g cc nL own rt N0) {y : MethodName} {bytes : ByteArray} {maxL idx d b Ls : Nat} {xs : Nat → Int32} {ret : Option FieldType} {As : List Value} {r : Option Value} {st0 st' : List Value} (hXs : va_X b Ls xs s s.heap) (hbl : b < s.heap.size) (hbA : ¬ gA g b) (hz : N = N0 + cs) {n : Nat} (hy : YS y bytes maxL ret n) (hml : Cond.methodLink own idx y ∈ gT) (hC : CtX l g y (.code y bytes maxL ret) d As N f r N f 0 0 b Ls xs) (hst0 : st0 = As.reverse ++ st) (hlen : As.length = n) (hcat : (st.map fun v => v.category).sum ≤ 8) (hR : d + 1 ≤ R.frames ∧ 8 + (maxL + 11) + 35 * d ≤ R.locals) (hf : cs + 0 ≤ R.cells ∧ ss + 0 ≤ R.slots) (dd : decode cc pc = .ok (.invokestatic idx, 3)) (hst : r.toList ++ st = st') (kk : V p l e R s m args below meth c Q g nL cs ss N f (pc + 3) lv st') : V p l e R s m args below meth c Q g nL cs ss N f pc lv st0 :=
  v_callX X hXs hbl hbA hz hy hml hC hst0 hlen hcat hR hf dd hst kk
end L82
set_option maxRecDepth 100000 in
set_option maxHeartbeats 4000000 in
theorem lh_1 {p : Program} {l : Launch} {e : Env} {s : State} {m : MethodId} {below : List Frame} {meth : Method} {c0 : Code} {Q : State → Prop} {g : Ge} {a0 o : Nat} (X : Cx p #[Value.ref a0] s m meth c0 g cL_law 28 RL ret 0) (ho : g.2.2 = o) {f : Pic} {cs ss tn : Nat} {σ ρ : Nat → Int32} {S P : Nat → Nat → Int32} {φ κ τ π q h t c w b b2 : Nat → Int32} (h186 : 186 ≤ cs) (hcM : cs + 69 ≤ 599000) (hsM : ss + 483 ≤ 7300000) {Ls : Nat} {xs : Nat → Int32} (hXs : va_X a0 Ls xs s s.heap) (hbl : a0 < s.heap.size) (hbA : ¬ gA g a0) (hLs : Ls ≤ 260) (hb0 : a0 < g.2.2) (htn : tn < 44)
    (kk : ∀ (x y : Int32) (kd : Nat), kd < 18 → V p l e room_1 s m #[Value.ref a0] below meth c0 Q g 28 cs ss cs (ovr f o (yaL g o σ ρ S P φ κ τ π q h t c w b b2)) 201 [some (.ref a0), some (.ref o), some (.ref (o + 179)), some (.ref (o + 180)), some (.ref (o + 181)), some (.ref (o + 182)), some (.ref (o + 183)), some (.ref (o + 184)), some (.ref (o + 185)), some (.int (nI tn)), some (.int x), some (.int y), some (.int (nI kd)), none, none, none, none, none, none, none, none, none, none, none, none, none, none, none] []) :
    V p l e room_1 s m #[Value.ref a0] below meth c0 Q g 28 cs ss cs (ovr f o (yaL g o σ ρ S P φ κ τ π q h t c w b b2)) 149 [some (.ref a0), some (.ref o), some (.ref (o + 179)), some (.ref (o + 180)), some (.ref (o + 181)), some (.ref (o + 182)), some (.ref (o + 183)), some (.ref (o + 184)), some (.ref (o + 185)), some (.int (nI tn)), none, none, none, none, none, none, none, none, none, none, none, none, none, none, none, none, none, none] [] := by
  have rc9 : 599000 ≤ room_1.cells := Nat.le_of_ble_eq_true rfl
  have rs9 : 7300000 ≤ room_1.slots := Nat.le_of_ble_eq_true rfl
  have hcs : cs + 0 ≤ room_1.cells ∧ ss + 0 ≤ room_1.slots := ⟨by omega, by omega⟩
  refine v_aload_n X dL_law_149 (i := 0) rfl rfl ?_
  refine v_iconst X dL_law_150 (v := (2 : Int32)) (by decide) ?_
  refine v_iload X dL_law_151 rfl ?_
  refine v_imul X dL_law_153 ?_
  rw [show ((2 : Int32) * (nI tn)) = nI ((2 * tn)) from (ix_mul rfl rfl)]
  refine v_callX0 X hXs hbl hbA (Nat.zero_add _).symm yv_L_cell m_ml_L_79 (c_L_cell l g cs (ovr f o (yaL g o σ ρ S P φ κ τ π q h t c w b b2)) a0 Ls xs ((2 * tn)) hb0 (by omega) hLs) rfl rfl (Nat.le_of_ble_eq_true rfl) ⟨Nat.le_of_ble_eq_true rfl, Nat.le_of_ble_eq_true rfl⟩ hcs dL_law_154 rfl ?_
  obtain ⟨x, ex⟩ : ∃ z, scX Ls xs ((2 * tn)) = z := ⟨_, rfl⟩
  rw [ex]
  refine v_istore X dL_law_157 (Nat.le_of_ble_eq_true rfl) rfl ?_
  refine v_aload_n X dL_law_159 (i := 0) rfl rfl ?_
  refine v_iconst X dL_law_160 (v := (2 : Int32)) (by decide) ?_
  refine v_iload X dL_law_161 rfl ?_
  refine v_imul X dL_law_163 ?_
  refine v_iconst X dL_law_164 (v := (1 : Int32)) (by decide) ?_
  refine v_iadd X dL_law_165 ?_
  rw [show (((2 : Int32) * (nI tn)) + (1 : Int32)) = nI ((2 * tn) + 1) from (ix_add (ix_mul rfl rfl) rfl)]
  refine v_callX0 X hXs hbl hbA (Nat.zero_add _).symm yv_L_cell m_ml_L_79 (c_L_cell l g cs (ovr f o (yaL g o σ ρ S P φ κ τ π q h t c w b b2)) a0 Ls xs ((2 * tn) + 1) hb0 (by omega) hLs) rfl rfl (Nat.le_of_ble_eq_true rfl) ⟨Nat.le_of_ble_eq_true rfl, Nat.le_of_ble_eq_true rfl⟩ hcs dL_law_166 rfl ?_
  obtain ⟨y, ey⟩ : ∃ z, scX Ls xs ((2 * tn) + 1) = z := ⟨_, rfl⟩
  rw [ey]
  refine v_istore X dL_law_169 (Nat.le_of_ble_eq_true rfl) rfl ?_
  refine v_iload X dL_law_171 rfl ?_
  refine v_iconst X dL_law_173 (v := (2 : Int32)) (by decide) ?_
  refine v_icmp_ge X dL_law_174 (tgt := 181) (by decide) (fun c174 => ?_) (fun c174 => ?_)
  · skip
    have ht2 : 2 ≤ tn := le_of_nI (a := 2) (by omega) (by omega) c174
    refine v_iload X dL_law_181 rfl ?_
    refine v_iconst X dL_law_183 (v := (5 : Int32)) (by decide) ?_
    refine v_icmp_ge X dL_law_184 (tgt := 192) (by decide) (fun c184 => ?_) (fun c184 => ?_)
    · skip
      refine v_iload X dL_law_192 rfl ?_
      refine v_bipush X dL_law_194 (v := (18 : Int32)) (by decide) ?_
      refine v_cs X (Nat.zero_add _).symm yv_L_low m_ml_L_62 (c_L_low l g (18 : Int32) 18 rfl x (by decide) (by decide)) rfl rfl (Nat.le_of_ble_eq_true rfl) ⟨Nat.le_of_ble_eq_true rfl, Nat.le_of_ble_eq_true rfl⟩ hcs dL_law_196 rfl ?_
      obtain ⟨kn, hkn, ekn⟩ : ∃ k, k < 18 ∧ (lwF x 18) = nI k := lwF_lt (by decide) (by decide)
      rw [ekn]
      refine v_istore X dL_law_199 (Nat.le_of_ble_eq_true rfl) rfl ?_
      exact kk x y kn (by omega)
    · skip
      refine v_bipush X dL_law_187 (v := (8 : Int32)) (by decide) ?_
      refine v_goto X dL_law_189 (tgt := 199) (by decide) ?_
      refine v_istore X dL_law_199 (Nat.le_of_ble_eq_true rfl) rfl ?_
      exact kk x y 8 (by omega)
  · skip
    have ht2 : tn < 2 := lt_of_nI (b := 2) (by omega) (by omega) c174
    refine v_iconst X dL_law_177 (v := (0 : Int32)) (by decide) ?_
    refine v_goto X dL_law_178 (tgt := 199) (by decide) ?_
    refine v_istore X dL_law_199 (Nat.le_of_ble_eq_true rfl) rfl ?_
    exact kk x y 0 (by omega)
set_option maxRecDepth 100000 in
set_option maxHeartbeats 4000000 in
theorem lh_2 {p : Program} {l : Launch} {e : Env} {s : State} {m : MethodId} {below : List Frame} {meth : Method} {c0 : Code} {Q : State → Prop} {g : Ge} {a0 o : Nat} (X : Cx p #[Value.ref a0] s m meth c0 g cL_law 28 RL ret 0) (ho : g.2.2 = o) {f : Pic} {cs ss tn : Nat} {σ ρ : Nat → Int32} {S P : Nat → Nat → Int32} {φ κ τ π q h t c w b b2 : Nat → Int32} (h186 : 186 ≤ cs) (hcM : cs + 69 ≤ 599000) (hsM : ss + 483 ≤ 7300000) {x y : Int32} {kd : Nat} (htn : tn < 44)
    (kk : ∀ (k : Nat), k < 5 → V p l e room_1 s m #[Value.ref a0] below meth c0 Q g 28 cs ss cs (ovr f o (yaL g o σ ρ S P φ κ τ π q h t c w b b2)) 220 [some (.ref a0), some (.ref o), some (.ref (o + 179)), some (.ref (o + 180)), some (.ref (o + 181)), some (.ref (o + 182)), some (.ref (o + 183)), some (.ref (o + 184)), some (.ref (o + 185)), some (.int (nI tn)), some (.int x), some (.int y), some (.int (nI kd)), some (.int (nI k)), none, none, none, none, none, none, none, none, none, none, none, none, none, none] []) :
    V p l e room_1 s m #[Value.ref a0] below meth c0 Q g 28 cs ss cs (ovr f o (yaL g o σ ρ S P φ κ τ π q h t c w b b2)) 201 [some (.ref a0), some (.ref o), some (.ref (o + 179)), some (.ref (o + 180)), some (.ref (o + 181)), some (.ref (o + 182)), some (.ref (o + 183)), some (.ref (o + 184)), some (.ref (o + 185)), some (.int (nI tn)), some (.int x), some (.int y), some (.int (nI kd)), none, none, none, none, none, none, none, none, none, none, none, none, none, none, none] [] := by
  have rc9 : 599000 ≤ room_1.cells := Nat.le_of_ble_eq_true rfl
  have rs9 : 7300000 ≤ room_1.slots := Nat.le_of_ble_eq_true rfl
  have hcs : cs + 0 ≤ room_1.cells ∧ ss + 0 ≤ room_1.slots := ⟨by omega, by omega⟩
  refine v_iload X dL_law_201 rfl ?_
  refine v_iconst X dL_law_203 (v := (2 : Int32)) (by decide) ?_
  refine v_icmp_ge X dL_law_204 (tgt := 212) (by decide) (fun c204 => ?_) (fun c204 => ?_)
  · skip
    refine v_iload X dL_law_212 rfl ?_
    refine v_iconst X dL_law_214 (v := (5 : Int32)) (by decide) ?_
    refine v_cs X (Nat.zero_add _).symm yv_L_low m_ml_L_62 (c_L_low l g (5 : Int32) 5 rfl y (by decide) (by decide)) rfl rfl (Nat.le_of_ble_eq_true rfl) ⟨Nat.le_of_ble_eq_true rfl, Nat.le_of_ble_eq_true rfl⟩ hcs dL_law_215 rfl ?_
    obtain ⟨kn, hkn, ekn⟩ : ∃ k, k < 5 ∧ (lwF y 5) = nI k := lwF_lt (by decide) (by decide)
    rw [ekn]
    refine v_istore X dL_law_218 (Nat.le_of_ble_eq_true rfl) rfl ?_
    exact kk kn (by omega)
  · skip
    have ht2 : tn < 2 := lt_of_nI (b := 2) (by omega) (by omega) c204
    refine v_iload X dL_law_207 rfl ?_
    refine v_goto X dL_law_209 (tgt := 218) (by decide) ?_
    refine v_istore X dL_law_218 (Nat.le_of_ble_eq_true rfl) rfl ?_
    exact kk tn (by omega)
set_option maxRecDepth 100000 in
set_option maxHeartbeats 4000000 in
theorem lh_3 {p : Program} {l : Launch} {e : Env} {s : State} {m : MethodId} {below : List Frame} {meth : Method} {c0 : Code} {Q : State → Prop} {g : Ge} {a0 o : Nat} (X : Cx p #[Value.ref a0] s m meth c0 g cL_law 28 RL ret 0) (ho : g.2.2 = o) {f : Pic} {cs ss tn : Nat} {σ ρ : Nat → Int32} {S P : Nat → Nat → Int32} {φ κ τ π q h t c w b b2 : Nat → Int32} (h186 : 186 ≤ cs) (hcM : cs + 69 ≤ 599000) (hsM : ss + 483 ≤ 7300000) {x y : Int32} {kd k : Nat} (htn : tn < 44)
    (kk : ∀ (sN z th vn : Nat), ((sN = 0 ∧ z < 4) ∨ (sN = 1 ∧ z < 2)) → th < 12 → vn < 25 → V p l e room_1 s m #[Value.ref a0] below meth c0 Q g 28 cs ss cs (ovr f o (yaL g o σ ρ S P φ κ τ π q h t c w b b2)) 276 [some (.ref a0), some (.ref o), some (.ref (o + 179)), some (.ref (o + 180)), some (.ref (o + 181)), some (.ref (o + 182)), some (.ref (o + 183)), some (.ref (o + 184)), some (.ref (o + 185)), some (.int (nI tn)), some (.int x), some (.int y), some (.int (nI kd)), some (.int (nI k)), some (.int (nI sN)), some (.int (nI z)), some (.int (nI th)), some (.int (nI vn)), some (.int (1 : Int32)), none, none, none, none, none, none, none, none, none] []) :
    V p l e room_1 s m #[Value.ref a0] below meth c0 Q g 28 cs ss cs (ovr f o (yaL g o σ ρ S P φ κ τ π q h t c w b b2)) 220 [some (.ref a0), some (.ref o), some (.ref (o + 179)), some (.ref (o + 180)), some (.ref (o + 181)), some (.ref (o + 182)), some (.ref (o + 183)), some (.ref (o + 184)), some (.ref (o + 185)), some (.int (nI tn)), some (.int x), some (.int y), some (.int (nI kd)), some (.int (nI k)), none, none, none, none, none, none, none, none, none, none, none, none, none, none] [] := by
  have rc9 : 599000 ≤ room_1.cells := Nat.le_of_ble_eq_true rfl
  have rs9 : 7300000 ≤ room_1.slots := Nat.le_of_ble_eq_true rfl
  have hcs : cs + 0 ≤ room_1.cells ∧ ss + 0 ≤ room_1.slots := ⟨by omega, by omega⟩
  refine v_iload X dL_law_220 rfl ?_
  refine v_iconst X dL_law_222 (v := (3 : Int32)) (by decide) ?_
  refine v_ishr X dL_law_223 ?_
  refine v_iconst X dL_law_224 (v := (2 : Int32)) (by decide) ?_
  refine v_cs X (Nat.zero_add _).symm yv_L_low m_ml_L_62 (c_L_low l g (2 : Int32) 2 rfl (y >>> ((3 : Int32) &&& 31)) (by decide) (by decide)) rfl rfl (Nat.le_of_ble_eq_true rfl) ⟨Nat.le_of_ble_eq_true rfl, Nat.le_of_ble_eq_true rfl⟩ hcs dL_law_225 rfl ?_
  obtain ⟨sN, hsN, esN⟩ : ∃ k, k < 2 ∧ (lwF (y >>> ((3 : Int32) &&& 31)) 2) = nI k := lwF_lt (by decide) (by decide)
  rw [esN]
  refine v_istore X dL_law_228 (Nat.le_of_ble_eq_true rfl) rfl ?_
  refine v_iload X dL_law_230 rfl ?_
  refine v_iconst X dL_law_232 (v := (4 : Int32)) (by decide) ?_
  refine v_ishr X dL_law_233 ?_
  refine v_iload X dL_law_234 rfl ?_
  refine v_if_ne X dL_law_236 (tgt := 243) (by decide) (fun c236 => ?_) (fun c236 => ?_)
  · skip
    have hs1 : ¬ sN = 0 := fun z => c236 (by rw [z]; rfl)
    refine v_iconst X dL_law_243 (v := (2 : Int32)) (by decide) ?_
    refine v_cs X (Nat.zero_add _).symm yv_L_low m_ml_L_62 (c_L_low l g (2 : Int32) 2 rfl (y >>> ((4 : Int32) &&& 31)) (by decide) (by decide)) rfl rfl (Nat.le_of_ble_eq_true rfl) ⟨Nat.le_of_ble_eq_true rfl, Nat.le_of_ble_eq_true rfl⟩ hcs dL_law_244 rfl ?_
    obtain ⟨z, hz, ez⟩ : ∃ k, k < 2 ∧ (lwF (y >>> ((4 : Int32) &&& 31)) 2) = nI k := lwF_lt (by decide) (by decide)
    rw [ez]
    refine v_istore X dL_law_247 (Nat.le_of_ble_eq_true rfl) rfl ?_
    refine v_iload X dL_law_249 rfl ?_
    refine v_bipush X dL_law_251 (v := (6 : Int32)) (by decide) ?_
    refine v_ishr X dL_law_253 ?_
    refine v_bipush X dL_law_254 (v := (12 : Int32)) (by decide) ?_
    refine v_cs X (Nat.zero_add _).symm yv_L_low m_ml_L_62 (c_L_low l g (12 : Int32) 12 rfl (y >>> ((6 : Int32) &&& 31)) (by decide) (by decide)) rfl rfl (Nat.le_of_ble_eq_true rfl) ⟨Nat.le_of_ble_eq_true rfl, Nat.le_of_ble_eq_true rfl⟩ hcs dL_law_256 rfl ?_
    obtain ⟨th, hth, eth⟩ : ∃ k, k < 12 ∧ (lwF (y >>> ((6 : Int32) &&& 31)) 12) = nI k := lwF_lt (by decide) (by decide)
    rw [eth]
    refine v_istore X dL_law_259 (Nat.le_of_ble_eq_true rfl) rfl ?_
    refine v_iload X dL_law_261 rfl ?_
    refine v_bipush X dL_law_263 (v := (9 : Int32)) (by decide) ?_
    refine v_ishr X dL_law_265 ?_
    refine v_bipush X dL_law_266 (v := (25 : Int32)) (by decide) ?_
    refine v_cs X (Nat.zero_add _).symm yv_L_low m_ml_L_62 (c_L_low l g (25 : Int32) 25 rfl (y >>> ((9 : Int32) &&& 31)) (by decide) (by decide)) rfl rfl (Nat.le_of_ble_eq_true rfl) ⟨Nat.le_of_ble_eq_true rfl, Nat.le_of_ble_eq_true rfl⟩ hcs dL_law_268 rfl ?_
    obtain ⟨vn, hvn, evn⟩ : ∃ k, k < 25 ∧ (lwF (y >>> ((9 : Int32) &&& 31)) 25) = nI k := lwF_lt (by decide) (by decide)
    rw [evn]
    refine v_istore X dL_law_271 (Nat.le_of_ble_eq_true rfl) rfl ?_
    refine v_iconst X dL_law_273 (v := (1 : Int32)) (by decide) ?_
    refine v_istore X dL_law_274 (Nat.le_of_ble_eq_true rfl) rfl ?_
    exact kk sN z th vn (Or.inr ⟨by omega, by omega⟩) hth hvn
  · skip
    have hs1 : sN = 0 := (nI_eq (b := 0) (by omega) (by omega)).mp c236
    refine v_iconst X dL_law_239 (v := (4 : Int32)) (by decide) ?_
    refine v_goto X dL_law_240 (tgt := 244) (by decide) ?_
    refine v_cs X (Nat.zero_add _).symm yv_L_low m_ml_L_62 (c_L_low l g (4 : Int32) 4 rfl (y >>> ((4 : Int32) &&& 31)) (by decide) (by decide)) rfl rfl (Nat.le_of_ble_eq_true rfl) ⟨Nat.le_of_ble_eq_true rfl, Nat.le_of_ble_eq_true rfl⟩ hcs dL_law_244 rfl ?_
    obtain ⟨z, hz, ez⟩ : ∃ k, k < 4 ∧ (lwF (y >>> ((4 : Int32) &&& 31)) 4) = nI k := lwF_lt (by decide) (by decide)
    rw [ez]
    refine v_istore X dL_law_247 (Nat.le_of_ble_eq_true rfl) rfl ?_
    refine v_iload X dL_law_249 rfl ?_
    refine v_bipush X dL_law_251 (v := (6 : Int32)) (by decide) ?_
    refine v_ishr X dL_law_253 ?_
    refine v_bipush X dL_law_254 (v := (12 : Int32)) (by decide) ?_
    refine v_cs X (Nat.zero_add _).symm yv_L_low m_ml_L_62 (c_L_low l g (12 : Int32) 12 rfl (y >>> ((6 : Int32) &&& 31)) (by decide) (by decide)) rfl rfl (Nat.le_of_ble_eq_true rfl) ⟨Nat.le_of_ble_eq_true rfl, Nat.le_of_ble_eq_true rfl⟩ hcs dL_law_256 rfl ?_
    obtain ⟨th, hth, eth⟩ : ∃ k, k < 12 ∧ (lwF (y >>> ((6 : Int32) &&& 31)) 12) = nI k := lwF_lt (by decide) (by decide)
    rw [eth]
    refine v_istore X dL_law_259 (Nat.le_of_ble_eq_true rfl) rfl ?_
    refine v_iload X dL_law_261 rfl ?_
    refine v_bipush X dL_law_263 (v := (9 : Int32)) (by decide) ?_
    refine v_ishr X dL_law_265 ?_
    refine v_bipush X dL_law_266 (v := (25 : Int32)) (by decide) ?_
    refine v_cs X (Nat.zero_add _).symm yv_L_low m_ml_L_62 (c_L_low l g (25 : Int32) 25 rfl (y >>> ((9 : Int32) &&& 31)) (by decide) (by decide)) rfl rfl (Nat.le_of_ble_eq_true rfl) ⟨Nat.le_of_ble_eq_true rfl, Nat.le_of_ble_eq_true rfl⟩ hcs dL_law_268 rfl ?_
    obtain ⟨vn, hvn, evn⟩ : ∃ k, k < 25 ∧ (lwF (y >>> ((9 : Int32) &&& 31)) 25) = nI k := lwF_lt (by decide) (by decide)
    rw [evn]
    refine v_istore X dL_law_271 (Nat.le_of_ble_eq_true rfl) rfl ?_
    refine v_iconst X dL_law_273 (v := (1 : Int32)) (by decide) ?_
    refine v_istore X dL_law_274 (Nat.le_of_ble_eq_true rfl) rfl ?_
    exact kk sN z th vn (Or.inl ⟨by omega, by omega⟩) hth hvn
set_option maxRecDepth 100000 in
set_option maxHeartbeats 4000000 in
theorem lg_0 {p : Program} {l : Launch} {e : Env} {s : State} {m : MethodId} {below : List Frame} {meth : Method} {c0 : Code} {Q : State → Prop} {g : Ge} {a0 o : Nat} (X : Cx p #[Value.ref a0] s m meth c0 g cL_law 28 RL ret 0) (ho : g.2.2 = o) {f : Pic} {cs ss tn : Nat} {σ ρ : Nat → Int32} {S P : Nat → Nat → Int32} {φ κ τ π q h t c w b b2 : Nat → Int32} (h186 : 186 ≤ cs) (hcM : cs + 69 ≤ 599000) (hsM : ss + 483 ≤ 7300000) {x y : Int32} {k sN z th vn : Nat} (hk : k < 5) (hs : (sN = 0 ∧ z < 4) ∨ (sN = 1 ∧ z < 2)) (hth : th < 12) (hvn : vn < 25) {C P0 R lt B : Nat} (H : RQ C P0 R lt B σ ρ q h t c w b b2) (hPI : PI π) (htn : tn < 44)
    (kq : ∀ (x y kd ki sd bx tq vv : Int32), (∀ (f : Pic) (cs' ss' : Nat) (σ' ρ' : Nat → Int32) (S' P' : Nat → Nat → Int32) (φ' π' q' h' t' c' w' b' b2' : Nat → Int32) (C' P0' R' lt' B' : Nat) (ot : Int32), 186 ≤ cs' → cs' ≤ cs + 60 → ss' ≤ ss + 330 → RQ C' P0' R' lt' B' σ' ρ' (upd q' 8 (if ot = 0 then q' 8 else 0)) h' t' c' w' b' b2' → PI π' → V p l e room_1 s m #[Value.ref a0] below meth c0 Q g 28 cs' ss' cs' (ovr f o (yaL g o σ' ρ' S' P' φ' κ τ π' q' h' t' c' w' b' b2')) 1826 [some (.ref a0), some (.ref o), some (.ref (o + 179)), some (.ref (o + 180)), some (.ref (o + 181)), some (.ref (o + 182)), some (.ref (o + 183)), some (.ref (o + 184)), some (.ref (o + 185)), some (.int (nI tn)), some (.int x), some (.int y), some (.int kd), some (.int ki), some (.int sd), some (.int bx), some (.int tq), some (.int vv), some (.int ot), none, none, none, none, none, none, none, none, none] []))
    (kc : ∀ (x y kd ki sd bx tq vv : Int32), V p l e room_1 s m #[Value.ref a0] below meth c0 Q g 28 cs ss cs (ovr f o (yaL g o σ ρ S P φ κ τ π q h t c w b b2)) 1864 [some (.ref a0), some (.ref o), some (.ref (o + 179)), some (.ref (o + 180)), some (.ref (o + 181)), some (.ref (o + 182)), some (.ref (o + 183)), some (.ref (o + 184)), some (.ref (o + 185)), some (.int (nI tn)), some (.int x), some (.int y), some (.int kd), some (.int ki), some (.int sd), some (.int bx), some (.int tq), some (.int vv), some (.int (0 : Int32)), none, none, none, none, none, none, none, none, none] []) :
    V p l e room_1 s m #[Value.ref a0] below meth c0 Q g 28 cs ss cs (ovr f o (yaL g o σ ρ S P φ κ τ π q h t c w b b2)) 276 [some (.ref a0), some (.ref o), some (.ref (o + 179)), some (.ref (o + 180)), some (.ref (o + 181)), some (.ref (o + 182)), some (.ref (o + 183)), some (.ref (o + 184)), some (.ref (o + 185)), some (.int (nI tn)), some (.int x), some (.int y), some (.int (0 : Int32)), some (.int (nI k)), some (.int (nI sN)), some (.int (nI z)), some (.int (nI th)), some (.int (nI vn)), some (.int (1 : Int32)), none, none, none, none, none, none, none, none, none] [] := by
  have rc9 : 599000 ≤ room_1.cells := Nat.le_of_ble_eq_true rfl
  have rs9 : 7300000 ≤ room_1.slots := Nat.le_of_ble_eq_true rfl
  have hcs : cs + 0 ≤ room_1.cells ∧ ss + 0 ≤ room_1.slots := ⟨by omega, by omega⟩
  refine v_iload X dL_law_276 rfl ?_
  refine v_iconst X dL_law_278 (v := (2 : Int32)) (by decide) ?_
  refine v_icmp_ge X dL_law_279 (tgt := 420) (by decide) (fun c279 => ?_) (fun c279 => ?_)
  · skip
    exact absurd c279 (by decide)
  · skip
    exact lk_0 X ho hk hs h186 (by omega) (by omega) H hPI (kq _ _ _ _ _ _ _ _)
set_option maxRecDepth 100000 in
set_option maxHeartbeats 4000000 in
theorem lg_1 {p : Program} {l : Launch} {e : Env} {s : State} {m : MethodId} {below : List Frame} {meth : Method} {c0 : Code} {Q : State → Prop} {g : Ge} {a0 o : Nat} (X : Cx p #[Value.ref a0] s m meth c0 g cL_law 28 RL ret 0) (ho : g.2.2 = o) {f : Pic} {cs ss tn : Nat} {σ ρ : Nat → Int32} {S P : Nat → Nat → Int32} {φ κ τ π q h t c w b b2 : Nat → Int32} (h186 : 186 ≤ cs) (hcM : cs + 69 ≤ 599000) (hsM : ss + 483 ≤ 7300000) {x y : Int32} {k sN z th vn : Nat} (hk : k < 5) (hs : (sN = 0 ∧ z < 4) ∨ (sN = 1 ∧ z < 2)) (hth : th < 12) (hvn : vn < 25) {C P0 R lt B : Nat} (H : RQ C P0 R lt B σ ρ q h t c w b b2) (hPI : PI π) (htn : tn < 44)
    (kq : ∀ (x y kd ki sd bx tq vv : Int32), (∀ (f : Pic) (cs' ss' : Nat) (σ' ρ' : Nat → Int32) (S' P' : Nat → Nat → Int32) (φ' π' q' h' t' c' w' b' b2' : Nat → Int32) (C' P0' R' lt' B' : Nat) (ot : Int32), 186 ≤ cs' → cs' ≤ cs + 60 → ss' ≤ ss + 330 → RQ C' P0' R' lt' B' σ' ρ' (upd q' 8 (if ot = 0 then q' 8 else 0)) h' t' c' w' b' b2' → PI π' → V p l e room_1 s m #[Value.ref a0] below meth c0 Q g 28 cs' ss' cs' (ovr f o (yaL g o σ' ρ' S' P' φ' κ τ π' q' h' t' c' w' b' b2')) 1826 [some (.ref a0), some (.ref o), some (.ref (o + 179)), some (.ref (o + 180)), some (.ref (o + 181)), some (.ref (o + 182)), some (.ref (o + 183)), some (.ref (o + 184)), some (.ref (o + 185)), some (.int (nI tn)), some (.int x), some (.int y), some (.int kd), some (.int ki), some (.int sd), some (.int bx), some (.int tq), some (.int vv), some (.int ot), none, none, none, none, none, none, none, none, none] []))
    (kc : ∀ (x y kd ki sd bx tq vv : Int32), V p l e room_1 s m #[Value.ref a0] below meth c0 Q g 28 cs ss cs (ovr f o (yaL g o σ ρ S P φ κ τ π q h t c w b b2)) 1864 [some (.ref a0), some (.ref o), some (.ref (o + 179)), some (.ref (o + 180)), some (.ref (o + 181)), some (.ref (o + 182)), some (.ref (o + 183)), some (.ref (o + 184)), some (.ref (o + 185)), some (.int (nI tn)), some (.int x), some (.int y), some (.int kd), some (.int ki), some (.int sd), some (.int bx), some (.int tq), some (.int vv), some (.int (0 : Int32)), none, none, none, none, none, none, none, none, none] []) :
    V p l e room_1 s m #[Value.ref a0] below meth c0 Q g 28 cs ss cs (ovr f o (yaL g o σ ρ S P φ κ τ π q h t c w b b2)) 276 [some (.ref a0), some (.ref o), some (.ref (o + 179)), some (.ref (o + 180)), some (.ref (o + 181)), some (.ref (o + 182)), some (.ref (o + 183)), some (.ref (o + 184)), some (.ref (o + 185)), some (.int (nI tn)), some (.int x), some (.int y), some (.int (1 : Int32)), some (.int (nI k)), some (.int (nI sN)), some (.int (nI z)), some (.int (nI th)), some (.int (nI vn)), some (.int (1 : Int32)), none, none, none, none, none, none, none, none, none] [] := by
  have rc9 : 599000 ≤ room_1.cells := Nat.le_of_ble_eq_true rfl
  have rs9 : 7300000 ≤ room_1.slots := Nat.le_of_ble_eq_true rfl
  have hcs : cs + 0 ≤ room_1.cells ∧ ss + 0 ≤ room_1.slots := ⟨by omega, by omega⟩
  refine v_iload X dL_law_276 rfl ?_
  refine v_iconst X dL_law_278 (v := (2 : Int32)) (by decide) ?_
  refine v_icmp_ge X dL_law_279 (tgt := 420) (by decide) (fun c279 => ?_) (fun c279 => ?_)
  · skip
    exact absurd c279 (by decide)
  · skip
    exact lk_0 X ho hk hs h186 (by omega) (by omega) H hPI (kq _ _ _ _ _ _ _ _)
set_option maxRecDepth 100000 in
set_option maxHeartbeats 4000000 in
theorem lg_2 {p : Program} {l : Launch} {e : Env} {s : State} {m : MethodId} {below : List Frame} {meth : Method} {c0 : Code} {Q : State → Prop} {g : Ge} {a0 o : Nat} (X : Cx p #[Value.ref a0] s m meth c0 g cL_law 28 RL ret 0) (ho : g.2.2 = o) {f : Pic} {cs ss tn : Nat} {σ ρ : Nat → Int32} {S P : Nat → Nat → Int32} {φ κ τ π q h t c w b b2 : Nat → Int32} (h186 : 186 ≤ cs) (hcM : cs + 69 ≤ 599000) (hsM : ss + 483 ≤ 7300000) {x y : Int32} {k sN z th vn : Nat} (hk : k < 5) (hs : (sN = 0 ∧ z < 4) ∨ (sN = 1 ∧ z < 2)) (hth : th < 12) (hvn : vn < 25) {C P0 R lt B : Nat} (H : RQ C P0 R lt B σ ρ q h t c w b b2) (hPI : PI π) (htn : tn < 44)
    (kq : ∀ (x y kd ki sd bx tq vv : Int32), (∀ (f : Pic) (cs' ss' : Nat) (σ' ρ' : Nat → Int32) (S' P' : Nat → Nat → Int32) (φ' π' q' h' t' c' w' b' b2' : Nat → Int32) (C' P0' R' lt' B' : Nat) (ot : Int32), 186 ≤ cs' → cs' ≤ cs + 60 → ss' ≤ ss + 330 → RQ C' P0' R' lt' B' σ' ρ' (upd q' 8 (if ot = 0 then q' 8 else 0)) h' t' c' w' b' b2' → PI π' → V p l e room_1 s m #[Value.ref a0] below meth c0 Q g 28 cs' ss' cs' (ovr f o (yaL g o σ' ρ' S' P' φ' κ τ π' q' h' t' c' w' b' b2')) 1826 [some (.ref a0), some (.ref o), some (.ref (o + 179)), some (.ref (o + 180)), some (.ref (o + 181)), some (.ref (o + 182)), some (.ref (o + 183)), some (.ref (o + 184)), some (.ref (o + 185)), some (.int (nI tn)), some (.int x), some (.int y), some (.int kd), some (.int ki), some (.int sd), some (.int bx), some (.int tq), some (.int vv), some (.int ot), none, none, none, none, none, none, none, none, none] []))
    (kc : ∀ (x y kd ki sd bx tq vv : Int32), V p l e room_1 s m #[Value.ref a0] below meth c0 Q g 28 cs ss cs (ovr f o (yaL g o σ ρ S P φ κ τ π q h t c w b b2)) 1864 [some (.ref a0), some (.ref o), some (.ref (o + 179)), some (.ref (o + 180)), some (.ref (o + 181)), some (.ref (o + 182)), some (.ref (o + 183)), some (.ref (o + 184)), some (.ref (o + 185)), some (.int (nI tn)), some (.int x), some (.int y), some (.int kd), some (.int ki), some (.int sd), some (.int bx), some (.int tq), some (.int vv), some (.int (0 : Int32)), none, none, none, none, none, none, none, none, none] []) :
    V p l e room_1 s m #[Value.ref a0] below meth c0 Q g 28 cs ss cs (ovr f o (yaL g o σ ρ S P φ κ τ π q h t c w b b2)) 276 [some (.ref a0), some (.ref o), some (.ref (o + 179)), some (.ref (o + 180)), some (.ref (o + 181)), some (.ref (o + 182)), some (.ref (o + 183)), some (.ref (o + 184)), some (.ref (o + 185)), some (.int (nI tn)), some (.int x), some (.int y), some (.int (2 : Int32)), some (.int (nI k)), some (.int (nI sN)), some (.int (nI z)), some (.int (nI th)), some (.int (nI vn)), some (.int (1 : Int32)), none, none, none, none, none, none, none, none, none] [] := by
  have rc9 : 599000 ≤ room_1.cells := Nat.le_of_ble_eq_true rfl
  have rs9 : 7300000 ≤ room_1.slots := Nat.le_of_ble_eq_true rfl
  have hcs : cs + 0 ≤ room_1.cells ∧ ss + 0 ≤ room_1.slots := ⟨by omega, by omega⟩
  refine v_iload X dL_law_276 rfl ?_
  refine v_iconst X dL_law_278 (v := (2 : Int32)) (by decide) ?_
  refine v_icmp_ge X dL_law_279 (tgt := 420) (by decide) (fun c279 => ?_) (fun c279 => ?_)
  · skip
    refine v_iload X dL_law_420 rfl ?_
    refine v_iconst X dL_law_422 (v := (2 : Int32)) (by decide) ?_
    refine v_icmp_ne X dL_law_423 (tgt := 510) (by decide) (fun c423 => ?_) (fun c423 => ?_)
    · skip
      exact absurd c423 (by decide)
    · skip
      exact lk_2 X ho hk (kc _ _ _ _ _ _ _ _) h186 (by omega) (by omega) H hPI (kq _ _ _ _ _ _ _ _)
  · skip
    exact absurd c279 (by decide)
set_option maxRecDepth 100000 in
set_option maxHeartbeats 4000000 in
theorem lg_3 {p : Program} {l : Launch} {e : Env} {s : State} {m : MethodId} {below : List Frame} {meth : Method} {c0 : Code} {Q : State → Prop} {g : Ge} {a0 o : Nat} (X : Cx p #[Value.ref a0] s m meth c0 g cL_law 28 RL ret 0) (ho : g.2.2 = o) {f : Pic} {cs ss tn : Nat} {σ ρ : Nat → Int32} {S P : Nat → Nat → Int32} {φ κ τ π q h t c w b b2 : Nat → Int32} (h186 : 186 ≤ cs) (hcM : cs + 69 ≤ 599000) (hsM : ss + 483 ≤ 7300000) {x y : Int32} {k sN z th vn : Nat} (hk : k < 5) (hs : (sN = 0 ∧ z < 4) ∨ (sN = 1 ∧ z < 2)) (hth : th < 12) (hvn : vn < 25) {C P0 R lt B : Nat} (H : RQ C P0 R lt B σ ρ q h t c w b b2) (hPI : PI π) (htn : tn < 44)
    (kq : ∀ (x y kd ki sd bx tq vv : Int32), (∀ (f : Pic) (cs' ss' : Nat) (σ' ρ' : Nat → Int32) (S' P' : Nat → Nat → Int32) (φ' π' q' h' t' c' w' b' b2' : Nat → Int32) (C' P0' R' lt' B' : Nat) (ot : Int32), 186 ≤ cs' → cs' ≤ cs + 60 → ss' ≤ ss + 330 → RQ C' P0' R' lt' B' σ' ρ' (upd q' 8 (if ot = 0 then q' 8 else 0)) h' t' c' w' b' b2' → PI π' → V p l e room_1 s m #[Value.ref a0] below meth c0 Q g 28 cs' ss' cs' (ovr f o (yaL g o σ' ρ' S' P' φ' κ τ π' q' h' t' c' w' b' b2')) 1826 [some (.ref a0), some (.ref o), some (.ref (o + 179)), some (.ref (o + 180)), some (.ref (o + 181)), some (.ref (o + 182)), some (.ref (o + 183)), some (.ref (o + 184)), some (.ref (o + 185)), some (.int (nI tn)), some (.int x), some (.int y), some (.int kd), some (.int ki), some (.int sd), some (.int bx), some (.int tq), some (.int vv), some (.int ot), none, none, none, none, none, none, none, none, none] []))
    (kc : ∀ (x y kd ki sd bx tq vv : Int32), V p l e room_1 s m #[Value.ref a0] below meth c0 Q g 28 cs ss cs (ovr f o (yaL g o σ ρ S P φ κ τ π q h t c w b b2)) 1864 [some (.ref a0), some (.ref o), some (.ref (o + 179)), some (.ref (o + 180)), some (.ref (o + 181)), some (.ref (o + 182)), some (.ref (o + 183)), some (.ref (o + 184)), some (.ref (o + 185)), some (.int (nI tn)), some (.int x), some (.int y), some (.int kd), some (.int ki), some (.int sd), some (.int bx), some (.int tq), some (.int vv), some (.int (0 : Int32)), none, none, none, none, none, none, none, none, none] []) :
    V p l e room_1 s m #[Value.ref a0] below meth c0 Q g 28 cs ss cs (ovr f o (yaL g o σ ρ S P φ κ τ π q h t c w b b2)) 276 [some (.ref a0), some (.ref o), some (.ref (o + 179)), some (.ref (o + 180)), some (.ref (o + 181)), some (.ref (o + 182)), some (.ref (o + 183)), some (.ref (o + 184)), some (.ref (o + 185)), some (.int (nI tn)), some (.int x), some (.int y), some (.int (3 : Int32)), some (.int (nI k)), some (.int (nI sN)), some (.int (nI z)), some (.int (nI th)), some (.int (nI vn)), some (.int (1 : Int32)), none, none, none, none, none, none, none, none, none] [] := by
  have rc9 : 599000 ≤ room_1.cells := Nat.le_of_ble_eq_true rfl
  have rs9 : 7300000 ≤ room_1.slots := Nat.le_of_ble_eq_true rfl
  have hcs : cs + 0 ≤ room_1.cells ∧ ss + 0 ≤ room_1.slots := ⟨by omega, by omega⟩
  refine v_iload X dL_law_276 rfl ?_
  refine v_iconst X dL_law_278 (v := (2 : Int32)) (by decide) ?_
  refine v_icmp_ge X dL_law_279 (tgt := 420) (by decide) (fun c279 => ?_) (fun c279 => ?_)
  · skip
    refine v_iload X dL_law_420 rfl ?_
    refine v_iconst X dL_law_422 (v := (2 : Int32)) (by decide) ?_
    refine v_icmp_ne X dL_law_423 (tgt := 510) (by decide) (fun c423 => ?_) (fun c423 => ?_)
    · skip
      refine v_iload X dL_law_510 rfl ?_
      refine v_iconst X dL_law_512 (v := (3 : Int32)) (by decide) ?_
      refine v_icmp_ne X dL_law_513 (tgt := 629) (by decide) (fun c513 => ?_) (fun c513 => ?_)
      · skip
        exact absurd c513 (by decide)
      · skip
        exact lk_3 X ho hk hvn h186 (by omega) (by omega) H hPI (kq _ _ _ _ _ _ _ _)
    · skip
      exact absurd c423 (by decide)
  · skip
    exact absurd c279 (by decide)
set_option maxRecDepth 100000 in
set_option maxHeartbeats 4000000 in
theorem lg_4 {p : Program} {l : Launch} {e : Env} {s : State} {m : MethodId} {below : List Frame} {meth : Method} {c0 : Code} {Q : State → Prop} {g : Ge} {a0 o : Nat} (X : Cx p #[Value.ref a0] s m meth c0 g cL_law 28 RL ret 0) (ho : g.2.2 = o) {f : Pic} {cs ss tn : Nat} {σ ρ : Nat → Int32} {S P : Nat → Nat → Int32} {φ κ τ π q h t c w b b2 : Nat → Int32} (h186 : 186 ≤ cs) (hcM : cs + 69 ≤ 599000) (hsM : ss + 483 ≤ 7300000) {x y : Int32} {k sN z th vn : Nat} (hk : k < 5) (hs : (sN = 0 ∧ z < 4) ∨ (sN = 1 ∧ z < 2)) (hth : th < 12) (hvn : vn < 25) {C P0 R lt B : Nat} (H : RQ C P0 R lt B σ ρ q h t c w b b2) (hPI : PI π) (htn : tn < 44)
    (kq : ∀ (x y kd ki sd bx tq vv : Int32), (∀ (f : Pic) (cs' ss' : Nat) (σ' ρ' : Nat → Int32) (S' P' : Nat → Nat → Int32) (φ' π' q' h' t' c' w' b' b2' : Nat → Int32) (C' P0' R' lt' B' : Nat) (ot : Int32), 186 ≤ cs' → cs' ≤ cs + 60 → ss' ≤ ss + 330 → RQ C' P0' R' lt' B' σ' ρ' (upd q' 8 (if ot = 0 then q' 8 else 0)) h' t' c' w' b' b2' → PI π' → V p l e room_1 s m #[Value.ref a0] below meth c0 Q g 28 cs' ss' cs' (ovr f o (yaL g o σ' ρ' S' P' φ' κ τ π' q' h' t' c' w' b' b2')) 1826 [some (.ref a0), some (.ref o), some (.ref (o + 179)), some (.ref (o + 180)), some (.ref (o + 181)), some (.ref (o + 182)), some (.ref (o + 183)), some (.ref (o + 184)), some (.ref (o + 185)), some (.int (nI tn)), some (.int x), some (.int y), some (.int kd), some (.int ki), some (.int sd), some (.int bx), some (.int tq), some (.int vv), some (.int ot), none, none, none, none, none, none, none, none, none] []))
    (kc : ∀ (x y kd ki sd bx tq vv : Int32), V p l e room_1 s m #[Value.ref a0] below meth c0 Q g 28 cs ss cs (ovr f o (yaL g o σ ρ S P φ κ τ π q h t c w b b2)) 1864 [some (.ref a0), some (.ref o), some (.ref (o + 179)), some (.ref (o + 180)), some (.ref (o + 181)), some (.ref (o + 182)), some (.ref (o + 183)), some (.ref (o + 184)), some (.ref (o + 185)), some (.int (nI tn)), some (.int x), some (.int y), some (.int kd), some (.int ki), some (.int sd), some (.int bx), some (.int tq), some (.int vv), some (.int (0 : Int32)), none, none, none, none, none, none, none, none, none] []) :
    V p l e room_1 s m #[Value.ref a0] below meth c0 Q g 28 cs ss cs (ovr f o (yaL g o σ ρ S P φ κ τ π q h t c w b b2)) 276 [some (.ref a0), some (.ref o), some (.ref (o + 179)), some (.ref (o + 180)), some (.ref (o + 181)), some (.ref (o + 182)), some (.ref (o + 183)), some (.ref (o + 184)), some (.ref (o + 185)), some (.int (nI tn)), some (.int x), some (.int y), some (.int (4 : Int32)), some (.int (nI k)), some (.int (nI sN)), some (.int (nI z)), some (.int (nI th)), some (.int (nI vn)), some (.int (1 : Int32)), none, none, none, none, none, none, none, none, none] [] := by
  have rc9 : 599000 ≤ room_1.cells := Nat.le_of_ble_eq_true rfl
  have rs9 : 7300000 ≤ room_1.slots := Nat.le_of_ble_eq_true rfl
  have hcs : cs + 0 ≤ room_1.cells ∧ ss + 0 ≤ room_1.slots := ⟨by omega, by omega⟩
  refine v_iload X dL_law_276 rfl ?_
  refine v_iconst X dL_law_278 (v := (2 : Int32)) (by decide) ?_
  refine v_icmp_ge X dL_law_279 (tgt := 420) (by decide) (fun c279 => ?_) (fun c279 => ?_)
  · skip
    refine v_iload X dL_law_420 rfl ?_
    refine v_iconst X dL_law_422 (v := (2 : Int32)) (by decide) ?_
    refine v_icmp_ne X dL_law_423 (tgt := 510) (by decide) (fun c423 => ?_) (fun c423 => ?_)
    · skip
      refine v_iload X dL_law_510 rfl ?_
      refine v_iconst X dL_law_512 (v := (3 : Int32)) (by decide) ?_
      refine v_icmp_ne X dL_law_513 (tgt := 629) (by decide) (fun c513 => ?_) (fun c513 => ?_)
      · skip
        refine v_iload X dL_law_629 rfl ?_
        refine v_iconst X dL_law_631 (v := (4 : Int32)) (by decide) ?_
        refine v_icmp_ne X dL_law_632 (tgt := 665) (by decide) (fun c632 => ?_) (fun c632 => ?_)
        · skip
          exact absurd c632 (by decide)
        · skip
          exact lk_4 X ho hs h186 (by omega) (by omega) H hPI (kq _ _ _ _ _ _ _ _)
      · skip
        exact absurd c513 (by decide)
    · skip
      exact absurd c423 (by decide)
  · skip
    exact absurd c279 (by decide)
set_option maxRecDepth 100000 in
set_option maxHeartbeats 4000000 in
theorem lg_5 {p : Program} {l : Launch} {e : Env} {s : State} {m : MethodId} {below : List Frame} {meth : Method} {c0 : Code} {Q : State → Prop} {g : Ge} {a0 o : Nat} (X : Cx p #[Value.ref a0] s m meth c0 g cL_law 28 RL ret 0) (ho : g.2.2 = o) {f : Pic} {cs ss tn : Nat} {σ ρ : Nat → Int32} {S P : Nat → Nat → Int32} {φ κ τ π q h t c w b b2 : Nat → Int32} (h186 : 186 ≤ cs) (hcM : cs + 69 ≤ 599000) (hsM : ss + 483 ≤ 7300000) {x y : Int32} {k sN z th vn : Nat} (hk : k < 5) (hs : (sN = 0 ∧ z < 4) ∨ (sN = 1 ∧ z < 2)) (hth : th < 12) (hvn : vn < 25) {C P0 R lt B : Nat} (H : RQ C P0 R lt B σ ρ q h t c w b b2) (hPI : PI π) (htn : tn < 44)
    (kq : ∀ (x y kd ki sd bx tq vv : Int32), (∀ (f : Pic) (cs' ss' : Nat) (σ' ρ' : Nat → Int32) (S' P' : Nat → Nat → Int32) (φ' π' q' h' t' c' w' b' b2' : Nat → Int32) (C' P0' R' lt' B' : Nat) (ot : Int32), 186 ≤ cs' → cs' ≤ cs + 60 → ss' ≤ ss + 330 → RQ C' P0' R' lt' B' σ' ρ' (upd q' 8 (if ot = 0 then q' 8 else 0)) h' t' c' w' b' b2' → PI π' → V p l e room_1 s m #[Value.ref a0] below meth c0 Q g 28 cs' ss' cs' (ovr f o (yaL g o σ' ρ' S' P' φ' κ τ π' q' h' t' c' w' b' b2')) 1826 [some (.ref a0), some (.ref o), some (.ref (o + 179)), some (.ref (o + 180)), some (.ref (o + 181)), some (.ref (o + 182)), some (.ref (o + 183)), some (.ref (o + 184)), some (.ref (o + 185)), some (.int (nI tn)), some (.int x), some (.int y), some (.int kd), some (.int ki), some (.int sd), some (.int bx), some (.int tq), some (.int vv), some (.int ot), none, none, none, none, none, none, none, none, none] []))
    (kc : ∀ (x y kd ki sd bx tq vv : Int32), V p l e room_1 s m #[Value.ref a0] below meth c0 Q g 28 cs ss cs (ovr f o (yaL g o σ ρ S P φ κ τ π q h t c w b b2)) 1864 [some (.ref a0), some (.ref o), some (.ref (o + 179)), some (.ref (o + 180)), some (.ref (o + 181)), some (.ref (o + 182)), some (.ref (o + 183)), some (.ref (o + 184)), some (.ref (o + 185)), some (.int (nI tn)), some (.int x), some (.int y), some (.int kd), some (.int ki), some (.int sd), some (.int bx), some (.int tq), some (.int vv), some (.int (0 : Int32)), none, none, none, none, none, none, none, none, none] []) :
    V p l e room_1 s m #[Value.ref a0] below meth c0 Q g 28 cs ss cs (ovr f o (yaL g o σ ρ S P φ κ τ π q h t c w b b2)) 276 [some (.ref a0), some (.ref o), some (.ref (o + 179)), some (.ref (o + 180)), some (.ref (o + 181)), some (.ref (o + 182)), some (.ref (o + 183)), some (.ref (o + 184)), some (.ref (o + 185)), some (.int (nI tn)), some (.int x), some (.int y), some (.int (5 : Int32)), some (.int (nI k)), some (.int (nI sN)), some (.int (nI z)), some (.int (nI th)), some (.int (nI vn)), some (.int (1 : Int32)), none, none, none, none, none, none, none, none, none] [] := by
  have rc9 : 599000 ≤ room_1.cells := Nat.le_of_ble_eq_true rfl
  have rs9 : 7300000 ≤ room_1.slots := Nat.le_of_ble_eq_true rfl
  have hcs : cs + 0 ≤ room_1.cells ∧ ss + 0 ≤ room_1.slots := ⟨by omega, by omega⟩
  refine v_iload X dL_law_276 rfl ?_
  refine v_iconst X dL_law_278 (v := (2 : Int32)) (by decide) ?_
  refine v_icmp_ge X dL_law_279 (tgt := 420) (by decide) (fun c279 => ?_) (fun c279 => ?_)
  · skip
    refine v_iload X dL_law_420 rfl ?_
    refine v_iconst X dL_law_422 (v := (2 : Int32)) (by decide) ?_
    refine v_icmp_ne X dL_law_423 (tgt := 510) (by decide) (fun c423 => ?_) (fun c423 => ?_)
    · skip
      refine v_iload X dL_law_510 rfl ?_
      refine v_iconst X dL_law_512 (v := (3 : Int32)) (by decide) ?_
      refine v_icmp_ne X dL_law_513 (tgt := 629) (by decide) (fun c513 => ?_) (fun c513 => ?_)
      · skip
        refine v_iload X dL_law_629 rfl ?_
        refine v_iconst X dL_law_631 (v := (4 : Int32)) (by decide) ?_
        refine v_icmp_ne X dL_law_632 (tgt := 665) (by decide) (fun c632 => ?_) (fun c632 => ?_)
        · skip
          refine v_iload X dL_law_665 rfl ?_
          refine v_iconst X dL_law_667 (v := (5 : Int32)) (by decide) ?_
          refine v_icmp_ne X dL_law_668 (tgt := 714) (by decide) (fun c668 => ?_) (fun c668 => ?_)
          · skip
            exact absurd c668 (by decide)
          · skip
            refine v_iload X dL_law_671 rfl ?_
            refine v_iconst X dL_law_673 (v := (5 : Int32)) (by decide) ?_
            refine v_ishr X dL_law_674 ?_
            refine v_bipush X dL_law_675 (v := (6 : Int32)) (by decide) ?_
            refine v_cs X (Nat.zero_add _).symm yv_L_low m_ml_L_62 (c_L_low l g (6 : Int32) 6 rfl (x >>> ((5 : Int32) &&& 31)) (by decide) (by decide)) rfl rfl (Nat.le_of_ble_eq_true rfl) ⟨Nat.le_of_ble_eq_true rfl, Nat.le_of_ble_eq_true rfl⟩ hcs dL_law_677 rfl ?_
            obtain ⟨fr, hfr, efr⟩ : ∃ k, k < 6 ∧ (lwF (x >>> ((5 : Int32) &&& 31)) 6) = nI k := lwF_lt (by decide) (by decide)
            rw [efr]
            refine v_istore X dL_law_680 (Nat.le_of_ble_eq_true rfl) rfl ?_
            exact lk_5 X ho hth hfr h186 (by omega) (by omega) H hPI (kq _ _ _ _ _ _ _ _)
        · skip
          exact absurd c632 (by decide)
      · skip
        exact absurd c513 (by decide)
    · skip
      exact absurd c423 (by decide)
  · skip
    exact absurd c279 (by decide)
set_option maxRecDepth 100000 in
set_option maxHeartbeats 4000000 in
theorem lg_6 {p : Program} {l : Launch} {e : Env} {s : State} {m : MethodId} {below : List Frame} {meth : Method} {c0 : Code} {Q : State → Prop} {g : Ge} {a0 o : Nat} (X : Cx p #[Value.ref a0] s m meth c0 g cL_law 28 RL ret 0) (ho : g.2.2 = o) {f : Pic} {cs ss tn : Nat} {σ ρ : Nat → Int32} {S P : Nat → Nat → Int32} {φ κ τ π q h t c w b b2 : Nat → Int32} (h186 : 186 ≤ cs) (hcM : cs + 69 ≤ 599000) (hsM : ss + 483 ≤ 7300000) {x y : Int32} {k sN z th vn : Nat} (hk : k < 5) (hs : (sN = 0 ∧ z < 4) ∨ (sN = 1 ∧ z < 2)) (hth : th < 12) (hvn : vn < 25) {C P0 R lt B : Nat} (H : RQ C P0 R lt B σ ρ q h t c w b b2) (hPI : PI π) (htn : tn < 44)
    (kq : ∀ (x y kd ki sd bx tq vv : Int32), (∀ (f : Pic) (cs' ss' : Nat) (σ' ρ' : Nat → Int32) (S' P' : Nat → Nat → Int32) (φ' π' q' h' t' c' w' b' b2' : Nat → Int32) (C' P0' R' lt' B' : Nat) (ot : Int32), 186 ≤ cs' → cs' ≤ cs + 60 → ss' ≤ ss + 330 → RQ C' P0' R' lt' B' σ' ρ' (upd q' 8 (if ot = 0 then q' 8 else 0)) h' t' c' w' b' b2' → PI π' → V p l e room_1 s m #[Value.ref a0] below meth c0 Q g 28 cs' ss' cs' (ovr f o (yaL g o σ' ρ' S' P' φ' κ τ π' q' h' t' c' w' b' b2')) 1826 [some (.ref a0), some (.ref o), some (.ref (o + 179)), some (.ref (o + 180)), some (.ref (o + 181)), some (.ref (o + 182)), some (.ref (o + 183)), some (.ref (o + 184)), some (.ref (o + 185)), some (.int (nI tn)), some (.int x), some (.int y), some (.int kd), some (.int ki), some (.int sd), some (.int bx), some (.int tq), some (.int vv), some (.int ot), none, none, none, none, none, none, none, none, none] []))
    (kc : ∀ (x y kd ki sd bx tq vv : Int32), V p l e room_1 s m #[Value.ref a0] below meth c0 Q g 28 cs ss cs (ovr f o (yaL g o σ ρ S P φ κ τ π q h t c w b b2)) 1864 [some (.ref a0), some (.ref o), some (.ref (o + 179)), some (.ref (o + 180)), some (.ref (o + 181)), some (.ref (o + 182)), some (.ref (o + 183)), some (.ref (o + 184)), some (.ref (o + 185)), some (.int (nI tn)), some (.int x), some (.int y), some (.int kd), some (.int ki), some (.int sd), some (.int bx), some (.int tq), some (.int vv), some (.int (0 : Int32)), none, none, none, none, none, none, none, none, none] []) :
    V p l e room_1 s m #[Value.ref a0] below meth c0 Q g 28 cs ss cs (ovr f o (yaL g o σ ρ S P φ κ τ π q h t c w b b2)) 276 [some (.ref a0), some (.ref o), some (.ref (o + 179)), some (.ref (o + 180)), some (.ref (o + 181)), some (.ref (o + 182)), some (.ref (o + 183)), some (.ref (o + 184)), some (.ref (o + 185)), some (.int (nI tn)), some (.int x), some (.int y), some (.int (6 : Int32)), some (.int (nI k)), some (.int (nI sN)), some (.int (nI z)), some (.int (nI th)), some (.int (nI vn)), some (.int (1 : Int32)), none, none, none, none, none, none, none, none, none] [] := by
  have rc9 : 599000 ≤ room_1.cells := Nat.le_of_ble_eq_true rfl
  have rs9 : 7300000 ≤ room_1.slots := Nat.le_of_ble_eq_true rfl
  have hcs : cs + 0 ≤ room_1.cells ∧ ss + 0 ≤ room_1.slots := ⟨by omega, by omega⟩
  refine v_iload X dL_law_276 rfl ?_
  refine v_iconst X dL_law_278 (v := (2 : Int32)) (by decide) ?_
  refine v_icmp_ge X dL_law_279 (tgt := 420) (by decide) (fun c279 => ?_) (fun c279 => ?_)
  · skip
    refine v_iload X dL_law_420 rfl ?_
    refine v_iconst X dL_law_422 (v := (2 : Int32)) (by decide) ?_
    refine v_icmp_ne X dL_law_423 (tgt := 510) (by decide) (fun c423 => ?_) (fun c423 => ?_)
    · skip
      refine v_iload X dL_law_510 rfl ?_
      refine v_iconst X dL_law_512 (v := (3 : Int32)) (by decide) ?_
      refine v_icmp_ne X dL_law_513 (tgt := 629) (by decide) (fun c513 => ?_) (fun c513 => ?_)
      · skip
        refine v_iload X dL_law_629 rfl ?_
        refine v_iconst X dL_law_631 (v := (4 : Int32)) (by decide) ?_
        refine v_icmp_ne X dL_law_632 (tgt := 665) (by decide) (fun c632 => ?_) (fun c632 => ?_)
        · skip
          refine v_iload X dL_law_665 rfl ?_
          refine v_iconst X dL_law_667 (v := (5 : Int32)) (by decide) ?_
          refine v_icmp_ne X dL_law_668 (tgt := 714) (by decide) (fun c668 => ?_) (fun c668 => ?_)
          · skip
            refine v_iload X dL_law_714 rfl ?_
            refine v_bipush X dL_law_716 (v := (6 : Int32)) (by decide) ?_
            refine v_icmp_ne X dL_law_718 (tgt := 757) (by decide) (fun c718 => ?_) (fun c718 => ?_)
            · skip
              exact absurd c718 (by decide)
            · skip
              exact lk_6 X ho hth hvn h186 (by omega) (by omega) H hPI (kq _ _ _ _ _ _ _ _)
          · skip
            exact absurd c668 (by decide)
        · skip
          exact absurd c632 (by decide)
      · skip
        exact absurd c513 (by decide)
    · skip
      exact absurd c423 (by decide)
  · skip
    exact absurd c279 (by decide)
set_option maxRecDepth 100000 in
set_option maxHeartbeats 4000000 in
theorem lg_7 {p : Program} {l : Launch} {e : Env} {s : State} {m : MethodId} {below : List Frame} {meth : Method} {c0 : Code} {Q : State → Prop} {g : Ge} {a0 o : Nat} (X : Cx p #[Value.ref a0] s m meth c0 g cL_law 28 RL ret 0) (ho : g.2.2 = o) {f : Pic} {cs ss tn : Nat} {σ ρ : Nat → Int32} {S P : Nat → Nat → Int32} {φ κ τ π q h t c w b b2 : Nat → Int32} (h186 : 186 ≤ cs) (hcM : cs + 69 ≤ 599000) (hsM : ss + 483 ≤ 7300000) {x y : Int32} {k sN z th vn : Nat} (hk : k < 5) (hs : (sN = 0 ∧ z < 4) ∨ (sN = 1 ∧ z < 2)) (hth : th < 12) (hvn : vn < 25) {C P0 R lt B : Nat} (H : RQ C P0 R lt B σ ρ q h t c w b b2) (hPI : PI π) (htn : tn < 44)
    (kq : ∀ (x y kd ki sd bx tq vv : Int32), (∀ (f : Pic) (cs' ss' : Nat) (σ' ρ' : Nat → Int32) (S' P' : Nat → Nat → Int32) (φ' π' q' h' t' c' w' b' b2' : Nat → Int32) (C' P0' R' lt' B' : Nat) (ot : Int32), 186 ≤ cs' → cs' ≤ cs + 60 → ss' ≤ ss + 330 → RQ C' P0' R' lt' B' σ' ρ' (upd q' 8 (if ot = 0 then q' 8 else 0)) h' t' c' w' b' b2' → PI π' → V p l e room_1 s m #[Value.ref a0] below meth c0 Q g 28 cs' ss' cs' (ovr f o (yaL g o σ' ρ' S' P' φ' κ τ π' q' h' t' c' w' b' b2')) 1826 [some (.ref a0), some (.ref o), some (.ref (o + 179)), some (.ref (o + 180)), some (.ref (o + 181)), some (.ref (o + 182)), some (.ref (o + 183)), some (.ref (o + 184)), some (.ref (o + 185)), some (.int (nI tn)), some (.int x), some (.int y), some (.int kd), some (.int ki), some (.int sd), some (.int bx), some (.int tq), some (.int vv), some (.int ot), none, none, none, none, none, none, none, none, none] []))
    (kc : ∀ (x y kd ki sd bx tq vv : Int32), V p l e room_1 s m #[Value.ref a0] below meth c0 Q g 28 cs ss cs (ovr f o (yaL g o σ ρ S P φ κ τ π q h t c w b b2)) 1864 [some (.ref a0), some (.ref o), some (.ref (o + 179)), some (.ref (o + 180)), some (.ref (o + 181)), some (.ref (o + 182)), some (.ref (o + 183)), some (.ref (o + 184)), some (.ref (o + 185)), some (.int (nI tn)), some (.int x), some (.int y), some (.int kd), some (.int ki), some (.int sd), some (.int bx), some (.int tq), some (.int vv), some (.int (0 : Int32)), none, none, none, none, none, none, none, none, none] []) :
    V p l e room_1 s m #[Value.ref a0] below meth c0 Q g 28 cs ss cs (ovr f o (yaL g o σ ρ S P φ κ τ π q h t c w b b2)) 276 [some (.ref a0), some (.ref o), some (.ref (o + 179)), some (.ref (o + 180)), some (.ref (o + 181)), some (.ref (o + 182)), some (.ref (o + 183)), some (.ref (o + 184)), some (.ref (o + 185)), some (.int (nI tn)), some (.int x), some (.int y), some (.int (7 : Int32)), some (.int (nI k)), some (.int (nI sN)), some (.int (nI z)), some (.int (nI th)), some (.int (nI vn)), some (.int (1 : Int32)), none, none, none, none, none, none, none, none, none] [] := by
  have rc9 : 599000 ≤ room_1.cells := Nat.le_of_ble_eq_true rfl
  have rs9 : 7300000 ≤ room_1.slots := Nat.le_of_ble_eq_true rfl
  have hcs : cs + 0 ≤ room_1.cells ∧ ss + 0 ≤ room_1.slots := ⟨by omega, by omega⟩
  refine v_iload X dL_law_276 rfl ?_
  refine v_iconst X dL_law_278 (v := (2 : Int32)) (by decide) ?_
  refine v_icmp_ge X dL_law_279 (tgt := 420) (by decide) (fun c279 => ?_) (fun c279 => ?_)
  · skip
    refine v_iload X dL_law_420 rfl ?_
    refine v_iconst X dL_law_422 (v := (2 : Int32)) (by decide) ?_
    refine v_icmp_ne X dL_law_423 (tgt := 510) (by decide) (fun c423 => ?_) (fun c423 => ?_)
    · skip
      refine v_iload X dL_law_510 rfl ?_
      refine v_iconst X dL_law_512 (v := (3 : Int32)) (by decide) ?_
      refine v_icmp_ne X dL_law_513 (tgt := 629) (by decide) (fun c513 => ?_) (fun c513 => ?_)
      · skip
        refine v_iload X dL_law_629 rfl ?_
        refine v_iconst X dL_law_631 (v := (4 : Int32)) (by decide) ?_
        refine v_icmp_ne X dL_law_632 (tgt := 665) (by decide) (fun c632 => ?_) (fun c632 => ?_)
        · skip
          refine v_iload X dL_law_665 rfl ?_
          refine v_iconst X dL_law_667 (v := (5 : Int32)) (by decide) ?_
          refine v_icmp_ne X dL_law_668 (tgt := 714) (by decide) (fun c668 => ?_) (fun c668 => ?_)
          · skip
            refine v_iload X dL_law_714 rfl ?_
            refine v_bipush X dL_law_716 (v := (6 : Int32)) (by decide) ?_
            refine v_icmp_ne X dL_law_718 (tgt := 757) (by decide) (fun c718 => ?_) (fun c718 => ?_)
            · skip
              refine v_iload X dL_law_757 rfl ?_
              refine v_bipush X dL_law_759 (v := (7 : Int32)) (by decide) ?_
              refine v_icmp_ne X dL_law_761 (tgt := 796) (by decide) (fun c761 => ?_) (fun c761 => ?_)
              · skip
                exact absurd c761 (by decide)
              · skip
                refine v_iconst X dL_law_764 (v := (1 : Int32)) (by decide) ?_
                refine v_iload X dL_law_765 rfl ?_
                refine v_iconst X dL_law_767 (v := (3 : Int32)) (by decide) ?_
                refine v_cs X (Nat.zero_add _).symm yv_L_low m_ml_L_62 (c_L_low l g (3 : Int32) 3 rfl y (by decide) (by decide)) rfl rfl (Nat.le_of_ble_eq_true rfl) ⟨Nat.le_of_ble_eq_true rfl, Nat.le_of_ble_eq_true rfl⟩ hcs dL_law_768 rfl ?_
                obtain ⟨sq, hsq, esq⟩ : ∃ k, k < 3 ∧ (lwF y 3) = nI k := lwF_lt (by decide) (by decide)
                rw [esq]
                refine v_iadd X dL_law_771 ?_
                obtain ⟨sp, hsp1, hsp4, esp⟩ : ∃ k, 0 < k ∧ k < 4 ∧ ((1 : Int32) + (nI sq)) = nI k := ⟨1 + sq, by omega, by omega, ix_add rfl rfl⟩
                rw [esp]
                refine v_istore X dL_law_772 (Nat.le_of_ble_eq_true rfl) rfl ?_
                exact lk_7 X ho hsp1 hsp4 h186 (by omega) (by omega) H hPI (kq _ _ _ _ _ _ _ _)
            · skip
              exact absurd c718 (by decide)
          · skip
            exact absurd c668 (by decide)
        · skip
          exact absurd c632 (by decide)
      · skip
        exact absurd c513 (by decide)
    · skip
      exact absurd c423 (by decide)
  · skip
    exact absurd c279 (by decide)
set_option maxRecDepth 100000 in
set_option maxHeartbeats 4000000 in
theorem lg_8 {p : Program} {l : Launch} {e : Env} {s : State} {m : MethodId} {below : List Frame} {meth : Method} {c0 : Code} {Q : State → Prop} {g : Ge} {a0 o : Nat} (X : Cx p #[Value.ref a0] s m meth c0 g cL_law 28 RL ret 0) (ho : g.2.2 = o) {f : Pic} {cs ss tn : Nat} {σ ρ : Nat → Int32} {S P : Nat → Nat → Int32} {φ κ τ π q h t c w b b2 : Nat → Int32} (h186 : 186 ≤ cs) (hcM : cs + 69 ≤ 599000) (hsM : ss + 483 ≤ 7300000) {x y : Int32} {k sN z th vn : Nat} (hk : k < 5) (hs : (sN = 0 ∧ z < 4) ∨ (sN = 1 ∧ z < 2)) (hth : th < 12) (hvn : vn < 25) {C P0 R lt B : Nat} (H : RQ C P0 R lt B σ ρ q h t c w b b2) (hPI : PI π) (htn : tn < 44)
    (kq : ∀ (x y kd ki sd bx tq vv : Int32), (∀ (f : Pic) (cs' ss' : Nat) (σ' ρ' : Nat → Int32) (S' P' : Nat → Nat → Int32) (φ' π' q' h' t' c' w' b' b2' : Nat → Int32) (C' P0' R' lt' B' : Nat) (ot : Int32), 186 ≤ cs' → cs' ≤ cs + 60 → ss' ≤ ss + 330 → RQ C' P0' R' lt' B' σ' ρ' (upd q' 8 (if ot = 0 then q' 8 else 0)) h' t' c' w' b' b2' → PI π' → V p l e room_1 s m #[Value.ref a0] below meth c0 Q g 28 cs' ss' cs' (ovr f o (yaL g o σ' ρ' S' P' φ' κ τ π' q' h' t' c' w' b' b2')) 1826 [some (.ref a0), some (.ref o), some (.ref (o + 179)), some (.ref (o + 180)), some (.ref (o + 181)), some (.ref (o + 182)), some (.ref (o + 183)), some (.ref (o + 184)), some (.ref (o + 185)), some (.int (nI tn)), some (.int x), some (.int y), some (.int kd), some (.int ki), some (.int sd), some (.int bx), some (.int tq), some (.int vv), some (.int ot), none, none, none, none, none, none, none, none, none] []))
    (kc : ∀ (x y kd ki sd bx tq vv : Int32), V p l e room_1 s m #[Value.ref a0] below meth c0 Q g 28 cs ss cs (ovr f o (yaL g o σ ρ S P φ κ τ π q h t c w b b2)) 1864 [some (.ref a0), some (.ref o), some (.ref (o + 179)), some (.ref (o + 180)), some (.ref (o + 181)), some (.ref (o + 182)), some (.ref (o + 183)), some (.ref (o + 184)), some (.ref (o + 185)), some (.int (nI tn)), some (.int x), some (.int y), some (.int kd), some (.int ki), some (.int sd), some (.int bx), some (.int tq), some (.int vv), some (.int (0 : Int32)), none, none, none, none, none, none, none, none, none] []) :
    V p l e room_1 s m #[Value.ref a0] below meth c0 Q g 28 cs ss cs (ovr f o (yaL g o σ ρ S P φ κ τ π q h t c w b b2)) 276 [some (.ref a0), some (.ref o), some (.ref (o + 179)), some (.ref (o + 180)), some (.ref (o + 181)), some (.ref (o + 182)), some (.ref (o + 183)), some (.ref (o + 184)), some (.ref (o + 185)), some (.int (nI tn)), some (.int x), some (.int y), some (.int (8 : Int32)), some (.int (nI k)), some (.int (nI sN)), some (.int (nI z)), some (.int (nI th)), some (.int (nI vn)), some (.int (1 : Int32)), none, none, none, none, none, none, none, none, none] [] := by
  have rc9 : 599000 ≤ room_1.cells := Nat.le_of_ble_eq_true rfl
  have rs9 : 7300000 ≤ room_1.slots := Nat.le_of_ble_eq_true rfl
  have hcs : cs + 0 ≤ room_1.cells ∧ ss + 0 ≤ room_1.slots := ⟨by omega, by omega⟩
  refine v_iload X dL_law_276 rfl ?_
  refine v_iconst X dL_law_278 (v := (2 : Int32)) (by decide) ?_
  refine v_icmp_ge X dL_law_279 (tgt := 420) (by decide) (fun c279 => ?_) (fun c279 => ?_)
  · skip
    refine v_iload X dL_law_420 rfl ?_
    refine v_iconst X dL_law_422 (v := (2 : Int32)) (by decide) ?_
    refine v_icmp_ne X dL_law_423 (tgt := 510) (by decide) (fun c423 => ?_) (fun c423 => ?_)
    · skip
      refine v_iload X dL_law_510 rfl ?_
      refine v_iconst X dL_law_512 (v := (3 : Int32)) (by decide) ?_
      refine v_icmp_ne X dL_law_513 (tgt := 629) (by decide) (fun c513 => ?_) (fun c513 => ?_)
      · skip
        refine v_iload X dL_law_629 rfl ?_
        refine v_iconst X dL_law_631 (v := (4 : Int32)) (by decide) ?_
        refine v_icmp_ne X dL_law_632 (tgt := 665) (by decide) (fun c632 => ?_) (fun c632 => ?_)
        · skip
          refine v_iload X dL_law_665 rfl ?_
          refine v_iconst X dL_law_667 (v := (5 : Int32)) (by decide) ?_
          refine v_icmp_ne X dL_law_668 (tgt := 714) (by decide) (fun c668 => ?_) (fun c668 => ?_)
          · skip
            refine v_iload X dL_law_714 rfl ?_
            refine v_bipush X dL_law_716 (v := (6 : Int32)) (by decide) ?_
            refine v_icmp_ne X dL_law_718 (tgt := 757) (by decide) (fun c718 => ?_) (fun c718 => ?_)
            · skip
              refine v_iload X dL_law_757 rfl ?_
              refine v_bipush X dL_law_759 (v := (7 : Int32)) (by decide) ?_
              refine v_icmp_ne X dL_law_761 (tgt := 796) (by decide) (fun c761 => ?_) (fun c761 => ?_)
              · skip
                refine v_iload X dL_law_796 rfl ?_
                refine v_bipush X dL_law_798 (v := (10 : Int32)) (by decide) ?_
                refine v_icmp_ge X dL_law_800 (tgt := 939) (by decide) (fun c800 => ?_) (fun c800 => ?_)
                · skip
                  exact absurd c800 (by decide)
                · skip
                  exact lk_8 X ho h186 (by omega) (by omega) H hPI (kq _ _ _ _ _ _ _ _)
              · skip
                exact absurd c761 (by decide)
            · skip
              exact absurd c718 (by decide)
          · skip
            exact absurd c668 (by decide)
        · skip
          exact absurd c632 (by decide)
      · skip
        exact absurd c513 (by decide)
    · skip
      exact absurd c423 (by decide)
  · skip
    exact absurd c279 (by decide)
set_option maxRecDepth 100000 in
set_option maxHeartbeats 4000000 in
theorem lg_9 {p : Program} {l : Launch} {e : Env} {s : State} {m : MethodId} {below : List Frame} {meth : Method} {c0 : Code} {Q : State → Prop} {g : Ge} {a0 o : Nat} (X : Cx p #[Value.ref a0] s m meth c0 g cL_law 28 RL ret 0) (ho : g.2.2 = o) {f : Pic} {cs ss tn : Nat} {σ ρ : Nat → Int32} {S P : Nat → Nat → Int32} {φ κ τ π q h t c w b b2 : Nat → Int32} (h186 : 186 ≤ cs) (hcM : cs + 69 ≤ 599000) (hsM : ss + 483 ≤ 7300000) {x y : Int32} {k sN z th vn : Nat} (hk : k < 5) (hs : (sN = 0 ∧ z < 4) ∨ (sN = 1 ∧ z < 2)) (hth : th < 12) (hvn : vn < 25) {C P0 R lt B : Nat} (H : RQ C P0 R lt B σ ρ q h t c w b b2) (hPI : PI π) (htn : tn < 44)
    (kq : ∀ (x y kd ki sd bx tq vv : Int32), (∀ (f : Pic) (cs' ss' : Nat) (σ' ρ' : Nat → Int32) (S' P' : Nat → Nat → Int32) (φ' π' q' h' t' c' w' b' b2' : Nat → Int32) (C' P0' R' lt' B' : Nat) (ot : Int32), 186 ≤ cs' → cs' ≤ cs + 60 → ss' ≤ ss + 330 → RQ C' P0' R' lt' B' σ' ρ' (upd q' 8 (if ot = 0 then q' 8 else 0)) h' t' c' w' b' b2' → PI π' → V p l e room_1 s m #[Value.ref a0] below meth c0 Q g 28 cs' ss' cs' (ovr f o (yaL g o σ' ρ' S' P' φ' κ τ π' q' h' t' c' w' b' b2')) 1826 [some (.ref a0), some (.ref o), some (.ref (o + 179)), some (.ref (o + 180)), some (.ref (o + 181)), some (.ref (o + 182)), some (.ref (o + 183)), some (.ref (o + 184)), some (.ref (o + 185)), some (.int (nI tn)), some (.int x), some (.int y), some (.int kd), some (.int ki), some (.int sd), some (.int bx), some (.int tq), some (.int vv), some (.int ot), none, none, none, none, none, none, none, none, none] []))
    (kc : ∀ (x y kd ki sd bx tq vv : Int32), V p l e room_1 s m #[Value.ref a0] below meth c0 Q g 28 cs ss cs (ovr f o (yaL g o σ ρ S P φ κ τ π q h t c w b b2)) 1864 [some (.ref a0), some (.ref o), some (.ref (o + 179)), some (.ref (o + 180)), some (.ref (o + 181)), some (.ref (o + 182)), some (.ref (o + 183)), some (.ref (o + 184)), some (.ref (o + 185)), some (.int (nI tn)), some (.int x), some (.int y), some (.int kd), some (.int ki), some (.int sd), some (.int bx), some (.int tq), some (.int vv), some (.int (0 : Int32)), none, none, none, none, none, none, none, none, none] []) :
    V p l e room_1 s m #[Value.ref a0] below meth c0 Q g 28 cs ss cs (ovr f o (yaL g o σ ρ S P φ κ τ π q h t c w b b2)) 276 [some (.ref a0), some (.ref o), some (.ref (o + 179)), some (.ref (o + 180)), some (.ref (o + 181)), some (.ref (o + 182)), some (.ref (o + 183)), some (.ref (o + 184)), some (.ref (o + 185)), some (.int (nI tn)), some (.int x), some (.int y), some (.int (9 : Int32)), some (.int (nI k)), some (.int (nI sN)), some (.int (nI z)), some (.int (nI th)), some (.int (nI vn)), some (.int (1 : Int32)), none, none, none, none, none, none, none, none, none] [] := by
  have rc9 : 599000 ≤ room_1.cells := Nat.le_of_ble_eq_true rfl
  have rs9 : 7300000 ≤ room_1.slots := Nat.le_of_ble_eq_true rfl
  have hcs : cs + 0 ≤ room_1.cells ∧ ss + 0 ≤ room_1.slots := ⟨by omega, by omega⟩
  refine v_iload X dL_law_276 rfl ?_
  refine v_iconst X dL_law_278 (v := (2 : Int32)) (by decide) ?_
  refine v_icmp_ge X dL_law_279 (tgt := 420) (by decide) (fun c279 => ?_) (fun c279 => ?_)
  · skip
    refine v_iload X dL_law_420 rfl ?_
    refine v_iconst X dL_law_422 (v := (2 : Int32)) (by decide) ?_
    refine v_icmp_ne X dL_law_423 (tgt := 510) (by decide) (fun c423 => ?_) (fun c423 => ?_)
    · skip
      refine v_iload X dL_law_510 rfl ?_
      refine v_iconst X dL_law_512 (v := (3 : Int32)) (by decide) ?_
      refine v_icmp_ne X dL_law_513 (tgt := 629) (by decide) (fun c513 => ?_) (fun c513 => ?_)
      · skip
        refine v_iload X dL_law_629 rfl ?_
        refine v_iconst X dL_law_631 (v := (4 : Int32)) (by decide) ?_
        refine v_icmp_ne X dL_law_632 (tgt := 665) (by decide) (fun c632 => ?_) (fun c632 => ?_)
        · skip
          refine v_iload X dL_law_665 rfl ?_
          refine v_iconst X dL_law_667 (v := (5 : Int32)) (by decide) ?_
          refine v_icmp_ne X dL_law_668 (tgt := 714) (by decide) (fun c668 => ?_) (fun c668 => ?_)
          · skip
            refine v_iload X dL_law_714 rfl ?_
            refine v_bipush X dL_law_716 (v := (6 : Int32)) (by decide) ?_
            refine v_icmp_ne X dL_law_718 (tgt := 757) (by decide) (fun c718 => ?_) (fun c718 => ?_)
            · skip
              refine v_iload X dL_law_757 rfl ?_
              refine v_bipush X dL_law_759 (v := (7 : Int32)) (by decide) ?_
              refine v_icmp_ne X dL_law_761 (tgt := 796) (by decide) (fun c761 => ?_) (fun c761 => ?_)
              · skip
                refine v_iload X dL_law_796 rfl ?_
                refine v_bipush X dL_law_798 (v := (10 : Int32)) (by decide) ?_
                refine v_icmp_ge X dL_law_800 (tgt := 939) (by decide) (fun c800 => ?_) (fun c800 => ?_)
                · skip
                  exact absurd c800 (by decide)
                · skip
                  exact lk_8 X ho h186 (by omega) (by omega) H hPI (kq _ _ _ _ _ _ _ _)
              · skip
                exact absurd c761 (by decide)
            · skip
              exact absurd c718 (by decide)
          · skip
            exact absurd c668 (by decide)
        · skip
          exact absurd c632 (by decide)
      · skip
        exact absurd c513 (by decide)
    · skip
      exact absurd c423 (by decide)
  · skip
    exact absurd c279 (by decide)
set_option maxRecDepth 100000 in
set_option maxHeartbeats 4000000 in
theorem lg_10 {p : Program} {l : Launch} {e : Env} {s : State} {m : MethodId} {below : List Frame} {meth : Method} {c0 : Code} {Q : State → Prop} {g : Ge} {a0 o : Nat} (X : Cx p #[Value.ref a0] s m meth c0 g cL_law 28 RL ret 0) (ho : g.2.2 = o) {f : Pic} {cs ss tn : Nat} {σ ρ : Nat → Int32} {S P : Nat → Nat → Int32} {φ κ τ π q h t c w b b2 : Nat → Int32} (h186 : 186 ≤ cs) (hcM : cs + 69 ≤ 599000) (hsM : ss + 483 ≤ 7300000) {x y : Int32} {k sN z th vn : Nat} (hk : k < 5) (hs : (sN = 0 ∧ z < 4) ∨ (sN = 1 ∧ z < 2)) (hth : th < 12) (hvn : vn < 25) {C P0 R lt B : Nat} (H : RQ C P0 R lt B σ ρ q h t c w b b2) (hPI : PI π) (htn : tn < 44)
    (kq : ∀ (x y kd ki sd bx tq vv : Int32), (∀ (f : Pic) (cs' ss' : Nat) (σ' ρ' : Nat → Int32) (S' P' : Nat → Nat → Int32) (φ' π' q' h' t' c' w' b' b2' : Nat → Int32) (C' P0' R' lt' B' : Nat) (ot : Int32), 186 ≤ cs' → cs' ≤ cs + 60 → ss' ≤ ss + 330 → RQ C' P0' R' lt' B' σ' ρ' (upd q' 8 (if ot = 0 then q' 8 else 0)) h' t' c' w' b' b2' → PI π' → V p l e room_1 s m #[Value.ref a0] below meth c0 Q g 28 cs' ss' cs' (ovr f o (yaL g o σ' ρ' S' P' φ' κ τ π' q' h' t' c' w' b' b2')) 1826 [some (.ref a0), some (.ref o), some (.ref (o + 179)), some (.ref (o + 180)), some (.ref (o + 181)), some (.ref (o + 182)), some (.ref (o + 183)), some (.ref (o + 184)), some (.ref (o + 185)), some (.int (nI tn)), some (.int x), some (.int y), some (.int kd), some (.int ki), some (.int sd), some (.int bx), some (.int tq), some (.int vv), some (.int ot), none, none, none, none, none, none, none, none, none] []))
    (kc : ∀ (x y kd ki sd bx tq vv : Int32), V p l e room_1 s m #[Value.ref a0] below meth c0 Q g 28 cs ss cs (ovr f o (yaL g o σ ρ S P φ κ τ π q h t c w b b2)) 1864 [some (.ref a0), some (.ref o), some (.ref (o + 179)), some (.ref (o + 180)), some (.ref (o + 181)), some (.ref (o + 182)), some (.ref (o + 183)), some (.ref (o + 184)), some (.ref (o + 185)), some (.int (nI tn)), some (.int x), some (.int y), some (.int kd), some (.int ki), some (.int sd), some (.int bx), some (.int tq), some (.int vv), some (.int (0 : Int32)), none, none, none, none, none, none, none, none, none] []) :
    V p l e room_1 s m #[Value.ref a0] below meth c0 Q g 28 cs ss cs (ovr f o (yaL g o σ ρ S P φ κ τ π q h t c w b b2)) 276 [some (.ref a0), some (.ref o), some (.ref (o + 179)), some (.ref (o + 180)), some (.ref (o + 181)), some (.ref (o + 182)), some (.ref (o + 183)), some (.ref (o + 184)), some (.ref (o + 185)), some (.int (nI tn)), some (.int x), some (.int y), some (.int (10 : Int32)), some (.int (nI k)), some (.int (nI sN)), some (.int (nI z)), some (.int (nI th)), some (.int (nI vn)), some (.int (1 : Int32)), none, none, none, none, none, none, none, none, none] [] := by
  have rc9 : 599000 ≤ room_1.cells := Nat.le_of_ble_eq_true rfl
  have rs9 : 7300000 ≤ room_1.slots := Nat.le_of_ble_eq_true rfl
  have hcs : cs + 0 ≤ room_1.cells ∧ ss + 0 ≤ room_1.slots := ⟨by omega, by omega⟩
  refine v_iload X dL_law_276 rfl ?_
  refine v_iconst X dL_law_278 (v := (2 : Int32)) (by decide) ?_
  refine v_icmp_ge X dL_law_279 (tgt := 420) (by decide) (fun c279 => ?_) (fun c279 => ?_)
  · skip
    refine v_iload X dL_law_420 rfl ?_
    refine v_iconst X dL_law_422 (v := (2 : Int32)) (by decide) ?_
    refine v_icmp_ne X dL_law_423 (tgt := 510) (by decide) (fun c423 => ?_) (fun c423 => ?_)
    · skip
      refine v_iload X dL_law_510 rfl ?_
      refine v_iconst X dL_law_512 (v := (3 : Int32)) (by decide) ?_
      refine v_icmp_ne X dL_law_513 (tgt := 629) (by decide) (fun c513 => ?_) (fun c513 => ?_)
      · skip
        refine v_iload X dL_law_629 rfl ?_
        refine v_iconst X dL_law_631 (v := (4 : Int32)) (by decide) ?_
        refine v_icmp_ne X dL_law_632 (tgt := 665) (by decide) (fun c632 => ?_) (fun c632 => ?_)
        · skip
          refine v_iload X dL_law_665 rfl ?_
          refine v_iconst X dL_law_667 (v := (5 : Int32)) (by decide) ?_
          refine v_icmp_ne X dL_law_668 (tgt := 714) (by decide) (fun c668 => ?_) (fun c668 => ?_)
          · skip
            refine v_iload X dL_law_714 rfl ?_
            refine v_bipush X dL_law_716 (v := (6 : Int32)) (by decide) ?_
            refine v_icmp_ne X dL_law_718 (tgt := 757) (by decide) (fun c718 => ?_) (fun c718 => ?_)
            · skip
              refine v_iload X dL_law_757 rfl ?_
              refine v_bipush X dL_law_759 (v := (7 : Int32)) (by decide) ?_
              refine v_icmp_ne X dL_law_761 (tgt := 796) (by decide) (fun c761 => ?_) (fun c761 => ?_)
              · skip
                refine v_iload X dL_law_796 rfl ?_
                refine v_bipush X dL_law_798 (v := (10 : Int32)) (by decide) ?_
                refine v_icmp_ge X dL_law_800 (tgt := 939) (by decide) (fun c800 => ?_) (fun c800 => ?_)
                · skip
                  refine v_iload X dL_law_939 rfl ?_
                  refine v_bipush X dL_law_941 (v := (10 : Int32)) (by decide) ?_
                  refine v_icmp_ne X dL_law_943 (tgt := 1072) (by decide) (fun c943 => ?_) (fun c943 => ?_)
                  · skip
                    exact absurd c943 (by decide)
                  · skip
                    exact lk_10 X ho h186 (by omega) (by omega) H hPI (kq _ _ _ _ _ _ _ _)
                · skip
                  exact absurd c800 (by decide)
              · skip
                exact absurd c761 (by decide)
            · skip
              exact absurd c718 (by decide)
          · skip
            exact absurd c668 (by decide)
        · skip
          exact absurd c632 (by decide)
      · skip
        exact absurd c513 (by decide)
    · skip
      exact absurd c423 (by decide)
  · skip
    exact absurd c279 (by decide)
set_option maxRecDepth 100000 in
set_option maxHeartbeats 4000000 in
theorem lg_11 {p : Program} {l : Launch} {e : Env} {s : State} {m : MethodId} {below : List Frame} {meth : Method} {c0 : Code} {Q : State → Prop} {g : Ge} {a0 o : Nat} (X : Cx p #[Value.ref a0] s m meth c0 g cL_law 28 RL ret 0) (ho : g.2.2 = o) {f : Pic} {cs ss tn : Nat} {σ ρ : Nat → Int32} {S P : Nat → Nat → Int32} {φ κ τ π q h t c w b b2 : Nat → Int32} (h186 : 186 ≤ cs) (hcM : cs + 69 ≤ 599000) (hsM : ss + 483 ≤ 7300000) {x y : Int32} {k sN z th vn : Nat} (hk : k < 5) (hs : (sN = 0 ∧ z < 4) ∨ (sN = 1 ∧ z < 2)) (hth : th < 12) (hvn : vn < 25) {C P0 R lt B : Nat} (H : RQ C P0 R lt B σ ρ q h t c w b b2) (hPI : PI π) (htn : tn < 44)
    (kq : ∀ (x y kd ki sd bx tq vv : Int32), (∀ (f : Pic) (cs' ss' : Nat) (σ' ρ' : Nat → Int32) (S' P' : Nat → Nat → Int32) (φ' π' q' h' t' c' w' b' b2' : Nat → Int32) (C' P0' R' lt' B' : Nat) (ot : Int32), 186 ≤ cs' → cs' ≤ cs + 60 → ss' ≤ ss + 330 → RQ C' P0' R' lt' B' σ' ρ' (upd q' 8 (if ot = 0 then q' 8 else 0)) h' t' c' w' b' b2' → PI π' → V p l e room_1 s m #[Value.ref a0] below meth c0 Q g 28 cs' ss' cs' (ovr f o (yaL g o σ' ρ' S' P' φ' κ τ π' q' h' t' c' w' b' b2')) 1826 [some (.ref a0), some (.ref o), some (.ref (o + 179)), some (.ref (o + 180)), some (.ref (o + 181)), some (.ref (o + 182)), some (.ref (o + 183)), some (.ref (o + 184)), some (.ref (o + 185)), some (.int (nI tn)), some (.int x), some (.int y), some (.int kd), some (.int ki), some (.int sd), some (.int bx), some (.int tq), some (.int vv), some (.int ot), none, none, none, none, none, none, none, none, none] []))
    (kc : ∀ (x y kd ki sd bx tq vv : Int32), V p l e room_1 s m #[Value.ref a0] below meth c0 Q g 28 cs ss cs (ovr f o (yaL g o σ ρ S P φ κ τ π q h t c w b b2)) 1864 [some (.ref a0), some (.ref o), some (.ref (o + 179)), some (.ref (o + 180)), some (.ref (o + 181)), some (.ref (o + 182)), some (.ref (o + 183)), some (.ref (o + 184)), some (.ref (o + 185)), some (.int (nI tn)), some (.int x), some (.int y), some (.int kd), some (.int ki), some (.int sd), some (.int bx), some (.int tq), some (.int vv), some (.int (0 : Int32)), none, none, none, none, none, none, none, none, none] []) :
    V p l e room_1 s m #[Value.ref a0] below meth c0 Q g 28 cs ss cs (ovr f o (yaL g o σ ρ S P φ κ τ π q h t c w b b2)) 276 [some (.ref a0), some (.ref o), some (.ref (o + 179)), some (.ref (o + 180)), some (.ref (o + 181)), some (.ref (o + 182)), some (.ref (o + 183)), some (.ref (o + 184)), some (.ref (o + 185)), some (.int (nI tn)), some (.int x), some (.int y), some (.int (11 : Int32)), some (.int (nI k)), some (.int (nI sN)), some (.int (nI z)), some (.int (nI th)), some (.int (nI vn)), some (.int (1 : Int32)), none, none, none, none, none, none, none, none, none] [] := by
  have rc9 : 599000 ≤ room_1.cells := Nat.le_of_ble_eq_true rfl
  have rs9 : 7300000 ≤ room_1.slots := Nat.le_of_ble_eq_true rfl
  have hcs : cs + 0 ≤ room_1.cells ∧ ss + 0 ≤ room_1.slots := ⟨by omega, by omega⟩
  refine v_iload X dL_law_276 rfl ?_
  refine v_iconst X dL_law_278 (v := (2 : Int32)) (by decide) ?_
  refine v_icmp_ge X dL_law_279 (tgt := 420) (by decide) (fun c279 => ?_) (fun c279 => ?_)
  · skip
    refine v_iload X dL_law_420 rfl ?_
    refine v_iconst X dL_law_422 (v := (2 : Int32)) (by decide) ?_
    refine v_icmp_ne X dL_law_423 (tgt := 510) (by decide) (fun c423 => ?_) (fun c423 => ?_)
    · skip
      refine v_iload X dL_law_510 rfl ?_
      refine v_iconst X dL_law_512 (v := (3 : Int32)) (by decide) ?_
      refine v_icmp_ne X dL_law_513 (tgt := 629) (by decide) (fun c513 => ?_) (fun c513 => ?_)
      · skip
        refine v_iload X dL_law_629 rfl ?_
        refine v_iconst X dL_law_631 (v := (4 : Int32)) (by decide) ?_
        refine v_icmp_ne X dL_law_632 (tgt := 665) (by decide) (fun c632 => ?_) (fun c632 => ?_)
        · skip
          refine v_iload X dL_law_665 rfl ?_
          refine v_iconst X dL_law_667 (v := (5 : Int32)) (by decide) ?_
          refine v_icmp_ne X dL_law_668 (tgt := 714) (by decide) (fun c668 => ?_) (fun c668 => ?_)
          · skip
            refine v_iload X dL_law_714 rfl ?_
            refine v_bipush X dL_law_716 (v := (6 : Int32)) (by decide) ?_
            refine v_icmp_ne X dL_law_718 (tgt := 757) (by decide) (fun c718 => ?_) (fun c718 => ?_)
            · skip
              refine v_iload X dL_law_757 rfl ?_
              refine v_bipush X dL_law_759 (v := (7 : Int32)) (by decide) ?_
              refine v_icmp_ne X dL_law_761 (tgt := 796) (by decide) (fun c761 => ?_) (fun c761 => ?_)
              · skip
                refine v_iload X dL_law_796 rfl ?_
                refine v_bipush X dL_law_798 (v := (10 : Int32)) (by decide) ?_
                refine v_icmp_ge X dL_law_800 (tgt := 939) (by decide) (fun c800 => ?_) (fun c800 => ?_)
                · skip
                  refine v_iload X dL_law_939 rfl ?_
                  refine v_bipush X dL_law_941 (v := (10 : Int32)) (by decide) ?_
                  refine v_icmp_ne X dL_law_943 (tgt := 1072) (by decide) (fun c943 => ?_) (fun c943 => ?_)
                  · skip
                    refine v_iload X dL_law_1072 rfl ?_
                    refine v_bipush X dL_law_1074 (v := (11 : Int32)) (by decide) ?_
                    refine v_icmp_ne X dL_law_1076 (tgt := 1144) (by decide) (fun c1076 => ?_) (fun c1076 => ?_)
                    · skip
                      exact absurd c1076 (by decide)
                    · skip
                      exact lk_11 X ho h186 (by omega) (by omega) H hPI (kq _ _ _ _ _ _ _ _)
                  · skip
                    exact absurd c943 (by decide)
                · skip
                  exact absurd c800 (by decide)
              · skip
                exact absurd c761 (by decide)
            · skip
              exact absurd c718 (by decide)
          · skip
            exact absurd c668 (by decide)
        · skip
          exact absurd c632 (by decide)
      · skip
        exact absurd c513 (by decide)
    · skip
      exact absurd c423 (by decide)
  · skip
    exact absurd c279 (by decide)
set_option maxRecDepth 100000 in
set_option maxHeartbeats 4000000 in
theorem lg_12 {p : Program} {l : Launch} {e : Env} {s : State} {m : MethodId} {below : List Frame} {meth : Method} {c0 : Code} {Q : State → Prop} {g : Ge} {a0 o : Nat} (X : Cx p #[Value.ref a0] s m meth c0 g cL_law 28 RL ret 0) (ho : g.2.2 = o) {f : Pic} {cs ss tn : Nat} {σ ρ : Nat → Int32} {S P : Nat → Nat → Int32} {φ κ τ π q h t c w b b2 : Nat → Int32} (h186 : 186 ≤ cs) (hcM : cs + 69 ≤ 599000) (hsM : ss + 483 ≤ 7300000) {x y : Int32} {k sN z th vn : Nat} (hk : k < 5) (hs : (sN = 0 ∧ z < 4) ∨ (sN = 1 ∧ z < 2)) (hth : th < 12) (hvn : vn < 25) {C P0 R lt B : Nat} (H : RQ C P0 R lt B σ ρ q h t c w b b2) (hPI : PI π) (htn : tn < 44)
    (kq : ∀ (x y kd ki sd bx tq vv : Int32), (∀ (f : Pic) (cs' ss' : Nat) (σ' ρ' : Nat → Int32) (S' P' : Nat → Nat → Int32) (φ' π' q' h' t' c' w' b' b2' : Nat → Int32) (C' P0' R' lt' B' : Nat) (ot : Int32), 186 ≤ cs' → cs' ≤ cs + 60 → ss' ≤ ss + 330 → RQ C' P0' R' lt' B' σ' ρ' (upd q' 8 (if ot = 0 then q' 8 else 0)) h' t' c' w' b' b2' → PI π' → V p l e room_1 s m #[Value.ref a0] below meth c0 Q g 28 cs' ss' cs' (ovr f o (yaL g o σ' ρ' S' P' φ' κ τ π' q' h' t' c' w' b' b2')) 1826 [some (.ref a0), some (.ref o), some (.ref (o + 179)), some (.ref (o + 180)), some (.ref (o + 181)), some (.ref (o + 182)), some (.ref (o + 183)), some (.ref (o + 184)), some (.ref (o + 185)), some (.int (nI tn)), some (.int x), some (.int y), some (.int kd), some (.int ki), some (.int sd), some (.int bx), some (.int tq), some (.int vv), some (.int ot), none, none, none, none, none, none, none, none, none] []))
    (kc : ∀ (x y kd ki sd bx tq vv : Int32), V p l e room_1 s m #[Value.ref a0] below meth c0 Q g 28 cs ss cs (ovr f o (yaL g o σ ρ S P φ κ τ π q h t c w b b2)) 1864 [some (.ref a0), some (.ref o), some (.ref (o + 179)), some (.ref (o + 180)), some (.ref (o + 181)), some (.ref (o + 182)), some (.ref (o + 183)), some (.ref (o + 184)), some (.ref (o + 185)), some (.int (nI tn)), some (.int x), some (.int y), some (.int kd), some (.int ki), some (.int sd), some (.int bx), some (.int tq), some (.int vv), some (.int (0 : Int32)), none, none, none, none, none, none, none, none, none] []) :
    V p l e room_1 s m #[Value.ref a0] below meth c0 Q g 28 cs ss cs (ovr f o (yaL g o σ ρ S P φ κ τ π q h t c w b b2)) 276 [some (.ref a0), some (.ref o), some (.ref (o + 179)), some (.ref (o + 180)), some (.ref (o + 181)), some (.ref (o + 182)), some (.ref (o + 183)), some (.ref (o + 184)), some (.ref (o + 185)), some (.int (nI tn)), some (.int x), some (.int y), some (.int (12 : Int32)), some (.int (nI k)), some (.int (nI sN)), some (.int (nI z)), some (.int (nI th)), some (.int (nI vn)), some (.int (1 : Int32)), none, none, none, none, none, none, none, none, none] [] := by
  have rc9 : 599000 ≤ room_1.cells := Nat.le_of_ble_eq_true rfl
  have rs9 : 7300000 ≤ room_1.slots := Nat.le_of_ble_eq_true rfl
  have hcs : cs + 0 ≤ room_1.cells ∧ ss + 0 ≤ room_1.slots := ⟨by omega, by omega⟩
  refine v_iload X dL_law_276 rfl ?_
  refine v_iconst X dL_law_278 (v := (2 : Int32)) (by decide) ?_
  refine v_icmp_ge X dL_law_279 (tgt := 420) (by decide) (fun c279 => ?_) (fun c279 => ?_)
  · skip
    refine v_iload X dL_law_420 rfl ?_
    refine v_iconst X dL_law_422 (v := (2 : Int32)) (by decide) ?_
    refine v_icmp_ne X dL_law_423 (tgt := 510) (by decide) (fun c423 => ?_) (fun c423 => ?_)
    · skip
      refine v_iload X dL_law_510 rfl ?_
      refine v_iconst X dL_law_512 (v := (3 : Int32)) (by decide) ?_
      refine v_icmp_ne X dL_law_513 (tgt := 629) (by decide) (fun c513 => ?_) (fun c513 => ?_)
      · skip
        refine v_iload X dL_law_629 rfl ?_
        refine v_iconst X dL_law_631 (v := (4 : Int32)) (by decide) ?_
        refine v_icmp_ne X dL_law_632 (tgt := 665) (by decide) (fun c632 => ?_) (fun c632 => ?_)
        · skip
          refine v_iload X dL_law_665 rfl ?_
          refine v_iconst X dL_law_667 (v := (5 : Int32)) (by decide) ?_
          refine v_icmp_ne X dL_law_668 (tgt := 714) (by decide) (fun c668 => ?_) (fun c668 => ?_)
          · skip
            refine v_iload X dL_law_714 rfl ?_
            refine v_bipush X dL_law_716 (v := (6 : Int32)) (by decide) ?_
            refine v_icmp_ne X dL_law_718 (tgt := 757) (by decide) (fun c718 => ?_) (fun c718 => ?_)
            · skip
              refine v_iload X dL_law_757 rfl ?_
              refine v_bipush X dL_law_759 (v := (7 : Int32)) (by decide) ?_
              refine v_icmp_ne X dL_law_761 (tgt := 796) (by decide) (fun c761 => ?_) (fun c761 => ?_)
              · skip
                refine v_iload X dL_law_796 rfl ?_
                refine v_bipush X dL_law_798 (v := (10 : Int32)) (by decide) ?_
                refine v_icmp_ge X dL_law_800 (tgt := 939) (by decide) (fun c800 => ?_) (fun c800 => ?_)
                · skip
                  refine v_iload X dL_law_939 rfl ?_
                  refine v_bipush X dL_law_941 (v := (10 : Int32)) (by decide) ?_
                  refine v_icmp_ne X dL_law_943 (tgt := 1072) (by decide) (fun c943 => ?_) (fun c943 => ?_)
                  · skip
                    refine v_iload X dL_law_1072 rfl ?_
                    refine v_bipush X dL_law_1074 (v := (11 : Int32)) (by decide) ?_
                    refine v_icmp_ne X dL_law_1076 (tgt := 1144) (by decide) (fun c1076 => ?_) (fun c1076 => ?_)
                    · skip
                      refine v_iload X dL_law_1144 rfl ?_
                      refine v_bipush X dL_law_1146 (v := (16 : Int32)) (by decide) ?_
                      refine v_icmp_ge X dL_law_1148 (tgt := 1638) (by decide) (fun c1148 => ?_) (fun c1148 => ?_)
                      · skip
                        exact absurd c1148 (by decide)
                      · skip
                        exact lk_12 X ho h186 (by omega) (by omega) H hPI (kq _ _ _ _ _ _ _ _)
                    · skip
                      exact absurd c1076 (by decide)
                  · skip
                    exact absurd c943 (by decide)
                · skip
                  exact absurd c800 (by decide)
              · skip
                exact absurd c761 (by decide)
            · skip
              exact absurd c718 (by decide)
          · skip
            exact absurd c668 (by decide)
        · skip
          exact absurd c632 (by decide)
      · skip
        exact absurd c513 (by decide)
    · skip
      exact absurd c423 (by decide)
  · skip
    exact absurd c279 (by decide)
set_option maxRecDepth 100000 in
set_option maxHeartbeats 4000000 in
theorem lg_13 {p : Program} {l : Launch} {e : Env} {s : State} {m : MethodId} {below : List Frame} {meth : Method} {c0 : Code} {Q : State → Prop} {g : Ge} {a0 o : Nat} (X : Cx p #[Value.ref a0] s m meth c0 g cL_law 28 RL ret 0) (ho : g.2.2 = o) {f : Pic} {cs ss tn : Nat} {σ ρ : Nat → Int32} {S P : Nat → Nat → Int32} {φ κ τ π q h t c w b b2 : Nat → Int32} (h186 : 186 ≤ cs) (hcM : cs + 69 ≤ 599000) (hsM : ss + 483 ≤ 7300000) {x y : Int32} {k sN z th vn : Nat} (hk : k < 5) (hs : (sN = 0 ∧ z < 4) ∨ (sN = 1 ∧ z < 2)) (hth : th < 12) (hvn : vn < 25) {C P0 R lt B : Nat} (H : RQ C P0 R lt B σ ρ q h t c w b b2) (hPI : PI π) (htn : tn < 44)
    (kq : ∀ (x y kd ki sd bx tq vv : Int32), (∀ (f : Pic) (cs' ss' : Nat) (σ' ρ' : Nat → Int32) (S' P' : Nat → Nat → Int32) (φ' π' q' h' t' c' w' b' b2' : Nat → Int32) (C' P0' R' lt' B' : Nat) (ot : Int32), 186 ≤ cs' → cs' ≤ cs + 60 → ss' ≤ ss + 330 → RQ C' P0' R' lt' B' σ' ρ' (upd q' 8 (if ot = 0 then q' 8 else 0)) h' t' c' w' b' b2' → PI π' → V p l e room_1 s m #[Value.ref a0] below meth c0 Q g 28 cs' ss' cs' (ovr f o (yaL g o σ' ρ' S' P' φ' κ τ π' q' h' t' c' w' b' b2')) 1826 [some (.ref a0), some (.ref o), some (.ref (o + 179)), some (.ref (o + 180)), some (.ref (o + 181)), some (.ref (o + 182)), some (.ref (o + 183)), some (.ref (o + 184)), some (.ref (o + 185)), some (.int (nI tn)), some (.int x), some (.int y), some (.int kd), some (.int ki), some (.int sd), some (.int bx), some (.int tq), some (.int vv), some (.int ot), none, none, none, none, none, none, none, none, none] []))
    (kc : ∀ (x y kd ki sd bx tq vv : Int32), V p l e room_1 s m #[Value.ref a0] below meth c0 Q g 28 cs ss cs (ovr f o (yaL g o σ ρ S P φ κ τ π q h t c w b b2)) 1864 [some (.ref a0), some (.ref o), some (.ref (o + 179)), some (.ref (o + 180)), some (.ref (o + 181)), some (.ref (o + 182)), some (.ref (o + 183)), some (.ref (o + 184)), some (.ref (o + 185)), some (.int (nI tn)), some (.int x), some (.int y), some (.int kd), some (.int ki), some (.int sd), some (.int bx), some (.int tq), some (.int vv), some (.int (0 : Int32)), none, none, none, none, none, none, none, none, none] []) :
    V p l e room_1 s m #[Value.ref a0] below meth c0 Q g 28 cs ss cs (ovr f o (yaL g o σ ρ S P φ κ τ π q h t c w b b2)) 276 [some (.ref a0), some (.ref o), some (.ref (o + 179)), some (.ref (o + 180)), some (.ref (o + 181)), some (.ref (o + 182)), some (.ref (o + 183)), some (.ref (o + 184)), some (.ref (o + 185)), some (.int (nI tn)), some (.int x), some (.int y), some (.int (13 : Int32)), some (.int (nI k)), some (.int (nI sN)), some (.int (nI z)), some (.int (nI th)), some (.int (nI vn)), some (.int (1 : Int32)), none, none, none, none, none, none, none, none, none] [] := by
  have rc9 : 599000 ≤ room_1.cells := Nat.le_of_ble_eq_true rfl
  have rs9 : 7300000 ≤ room_1.slots := Nat.le_of_ble_eq_true rfl
  have hcs : cs + 0 ≤ room_1.cells ∧ ss + 0 ≤ room_1.slots := ⟨by omega, by omega⟩
  refine v_iload X dL_law_276 rfl ?_
  refine v_iconst X dL_law_278 (v := (2 : Int32)) (by decide) ?_
  refine v_icmp_ge X dL_law_279 (tgt := 420) (by decide) (fun c279 => ?_) (fun c279 => ?_)
  · skip
    refine v_iload X dL_law_420 rfl ?_
    refine v_iconst X dL_law_422 (v := (2 : Int32)) (by decide) ?_
    refine v_icmp_ne X dL_law_423 (tgt := 510) (by decide) (fun c423 => ?_) (fun c423 => ?_)
    · skip
      refine v_iload X dL_law_510 rfl ?_
      refine v_iconst X dL_law_512 (v := (3 : Int32)) (by decide) ?_
      refine v_icmp_ne X dL_law_513 (tgt := 629) (by decide) (fun c513 => ?_) (fun c513 => ?_)
      · skip
        refine v_iload X dL_law_629 rfl ?_
        refine v_iconst X dL_law_631 (v := (4 : Int32)) (by decide) ?_
        refine v_icmp_ne X dL_law_632 (tgt := 665) (by decide) (fun c632 => ?_) (fun c632 => ?_)
        · skip
          refine v_iload X dL_law_665 rfl ?_
          refine v_iconst X dL_law_667 (v := (5 : Int32)) (by decide) ?_
          refine v_icmp_ne X dL_law_668 (tgt := 714) (by decide) (fun c668 => ?_) (fun c668 => ?_)
          · skip
            refine v_iload X dL_law_714 rfl ?_
            refine v_bipush X dL_law_716 (v := (6 : Int32)) (by decide) ?_
            refine v_icmp_ne X dL_law_718 (tgt := 757) (by decide) (fun c718 => ?_) (fun c718 => ?_)
            · skip
              refine v_iload X dL_law_757 rfl ?_
              refine v_bipush X dL_law_759 (v := (7 : Int32)) (by decide) ?_
              refine v_icmp_ne X dL_law_761 (tgt := 796) (by decide) (fun c761 => ?_) (fun c761 => ?_)
              · skip
                refine v_iload X dL_law_796 rfl ?_
                refine v_bipush X dL_law_798 (v := (10 : Int32)) (by decide) ?_
                refine v_icmp_ge X dL_law_800 (tgt := 939) (by decide) (fun c800 => ?_) (fun c800 => ?_)
                · skip
                  refine v_iload X dL_law_939 rfl ?_
                  refine v_bipush X dL_law_941 (v := (10 : Int32)) (by decide) ?_
                  refine v_icmp_ne X dL_law_943 (tgt := 1072) (by decide) (fun c943 => ?_) (fun c943 => ?_)
                  · skip
                    refine v_iload X dL_law_1072 rfl ?_
                    refine v_bipush X dL_law_1074 (v := (11 : Int32)) (by decide) ?_
                    refine v_icmp_ne X dL_law_1076 (tgt := 1144) (by decide) (fun c1076 => ?_) (fun c1076 => ?_)
                    · skip
                      refine v_iload X dL_law_1144 rfl ?_
                      refine v_bipush X dL_law_1146 (v := (16 : Int32)) (by decide) ?_
                      refine v_icmp_ge X dL_law_1148 (tgt := 1638) (by decide) (fun c1148 => ?_) (fun c1148 => ?_)
                      · skip
                        exact absurd c1148 (by decide)
                      · skip
                        exact lk_12 X ho h186 (by omega) (by omega) H hPI (kq _ _ _ _ _ _ _ _)
                    · skip
                      exact absurd c1076 (by decide)
                  · skip
                    exact absurd c943 (by decide)
                · skip
                  exact absurd c800 (by decide)
              · skip
                exact absurd c761 (by decide)
            · skip
              exact absurd c718 (by decide)
          · skip
            exact absurd c668 (by decide)
        · skip
          exact absurd c632 (by decide)
      · skip
        exact absurd c513 (by decide)
    · skip
      exact absurd c423 (by decide)
  · skip
    exact absurd c279 (by decide)
set_option maxRecDepth 100000 in
set_option maxHeartbeats 4000000 in
theorem lg_14 {p : Program} {l : Launch} {e : Env} {s : State} {m : MethodId} {below : List Frame} {meth : Method} {c0 : Code} {Q : State → Prop} {g : Ge} {a0 o : Nat} (X : Cx p #[Value.ref a0] s m meth c0 g cL_law 28 RL ret 0) (ho : g.2.2 = o) {f : Pic} {cs ss tn : Nat} {σ ρ : Nat → Int32} {S P : Nat → Nat → Int32} {φ κ τ π q h t c w b b2 : Nat → Int32} (h186 : 186 ≤ cs) (hcM : cs + 69 ≤ 599000) (hsM : ss + 483 ≤ 7300000) {x y : Int32} {k sN z th vn : Nat} (hk : k < 5) (hs : (sN = 0 ∧ z < 4) ∨ (sN = 1 ∧ z < 2)) (hth : th < 12) (hvn : vn < 25) {C P0 R lt B : Nat} (H : RQ C P0 R lt B σ ρ q h t c w b b2) (hPI : PI π) (htn : tn < 44)
    (kq : ∀ (x y kd ki sd bx tq vv : Int32), (∀ (f : Pic) (cs' ss' : Nat) (σ' ρ' : Nat → Int32) (S' P' : Nat → Nat → Int32) (φ' π' q' h' t' c' w' b' b2' : Nat → Int32) (C' P0' R' lt' B' : Nat) (ot : Int32), 186 ≤ cs' → cs' ≤ cs + 60 → ss' ≤ ss + 330 → RQ C' P0' R' lt' B' σ' ρ' (upd q' 8 (if ot = 0 then q' 8 else 0)) h' t' c' w' b' b2' → PI π' → V p l e room_1 s m #[Value.ref a0] below meth c0 Q g 28 cs' ss' cs' (ovr f o (yaL g o σ' ρ' S' P' φ' κ τ π' q' h' t' c' w' b' b2')) 1826 [some (.ref a0), some (.ref o), some (.ref (o + 179)), some (.ref (o + 180)), some (.ref (o + 181)), some (.ref (o + 182)), some (.ref (o + 183)), some (.ref (o + 184)), some (.ref (o + 185)), some (.int (nI tn)), some (.int x), some (.int y), some (.int kd), some (.int ki), some (.int sd), some (.int bx), some (.int tq), some (.int vv), some (.int ot), none, none, none, none, none, none, none, none, none] []))
    (kc : ∀ (x y kd ki sd bx tq vv : Int32), V p l e room_1 s m #[Value.ref a0] below meth c0 Q g 28 cs ss cs (ovr f o (yaL g o σ ρ S P φ κ τ π q h t c w b b2)) 1864 [some (.ref a0), some (.ref o), some (.ref (o + 179)), some (.ref (o + 180)), some (.ref (o + 181)), some (.ref (o + 182)), some (.ref (o + 183)), some (.ref (o + 184)), some (.ref (o + 185)), some (.int (nI tn)), some (.int x), some (.int y), some (.int kd), some (.int ki), some (.int sd), some (.int bx), some (.int tq), some (.int vv), some (.int (0 : Int32)), none, none, none, none, none, none, none, none, none] []) :
    V p l e room_1 s m #[Value.ref a0] below meth c0 Q g 28 cs ss cs (ovr f o (yaL g o σ ρ S P φ κ τ π q h t c w b b2)) 276 [some (.ref a0), some (.ref o), some (.ref (o + 179)), some (.ref (o + 180)), some (.ref (o + 181)), some (.ref (o + 182)), some (.ref (o + 183)), some (.ref (o + 184)), some (.ref (o + 185)), some (.int (nI tn)), some (.int x), some (.int y), some (.int (14 : Int32)), some (.int (nI k)), some (.int (nI sN)), some (.int (nI z)), some (.int (nI th)), some (.int (nI vn)), some (.int (1 : Int32)), none, none, none, none, none, none, none, none, none] [] := by
  have rc9 : 599000 ≤ room_1.cells := Nat.le_of_ble_eq_true rfl
  have rs9 : 7300000 ≤ room_1.slots := Nat.le_of_ble_eq_true rfl
  have hcs : cs + 0 ≤ room_1.cells ∧ ss + 0 ≤ room_1.slots := ⟨by omega, by omega⟩
  refine v_iload X dL_law_276 rfl ?_
  refine v_iconst X dL_law_278 (v := (2 : Int32)) (by decide) ?_
  refine v_icmp_ge X dL_law_279 (tgt := 420) (by decide) (fun c279 => ?_) (fun c279 => ?_)
  · skip
    refine v_iload X dL_law_420 rfl ?_
    refine v_iconst X dL_law_422 (v := (2 : Int32)) (by decide) ?_
    refine v_icmp_ne X dL_law_423 (tgt := 510) (by decide) (fun c423 => ?_) (fun c423 => ?_)
    · skip
      refine v_iload X dL_law_510 rfl ?_
      refine v_iconst X dL_law_512 (v := (3 : Int32)) (by decide) ?_
      refine v_icmp_ne X dL_law_513 (tgt := 629) (by decide) (fun c513 => ?_) (fun c513 => ?_)
      · skip
        refine v_iload X dL_law_629 rfl ?_
        refine v_iconst X dL_law_631 (v := (4 : Int32)) (by decide) ?_
        refine v_icmp_ne X dL_law_632 (tgt := 665) (by decide) (fun c632 => ?_) (fun c632 => ?_)
        · skip
          refine v_iload X dL_law_665 rfl ?_
          refine v_iconst X dL_law_667 (v := (5 : Int32)) (by decide) ?_
          refine v_icmp_ne X dL_law_668 (tgt := 714) (by decide) (fun c668 => ?_) (fun c668 => ?_)
          · skip
            refine v_iload X dL_law_714 rfl ?_
            refine v_bipush X dL_law_716 (v := (6 : Int32)) (by decide) ?_
            refine v_icmp_ne X dL_law_718 (tgt := 757) (by decide) (fun c718 => ?_) (fun c718 => ?_)
            · skip
              refine v_iload X dL_law_757 rfl ?_
              refine v_bipush X dL_law_759 (v := (7 : Int32)) (by decide) ?_
              refine v_icmp_ne X dL_law_761 (tgt := 796) (by decide) (fun c761 => ?_) (fun c761 => ?_)
              · skip
                refine v_iload X dL_law_796 rfl ?_
                refine v_bipush X dL_law_798 (v := (10 : Int32)) (by decide) ?_
                refine v_icmp_ge X dL_law_800 (tgt := 939) (by decide) (fun c800 => ?_) (fun c800 => ?_)
                · skip
                  refine v_iload X dL_law_939 rfl ?_
                  refine v_bipush X dL_law_941 (v := (10 : Int32)) (by decide) ?_
                  refine v_icmp_ne X dL_law_943 (tgt := 1072) (by decide) (fun c943 => ?_) (fun c943 => ?_)
                  · skip
                    refine v_iload X dL_law_1072 rfl ?_
                    refine v_bipush X dL_law_1074 (v := (11 : Int32)) (by decide) ?_
                    refine v_icmp_ne X dL_law_1076 (tgt := 1144) (by decide) (fun c1076 => ?_) (fun c1076 => ?_)
                    · skip
                      refine v_iload X dL_law_1144 rfl ?_
                      refine v_bipush X dL_law_1146 (v := (16 : Int32)) (by decide) ?_
                      refine v_icmp_ge X dL_law_1148 (tgt := 1638) (by decide) (fun c1148 => ?_) (fun c1148 => ?_)
                      · skip
                        exact absurd c1148 (by decide)
                      · skip
                        exact lk_12 X ho h186 (by omega) (by omega) H hPI (kq _ _ _ _ _ _ _ _)
                    · skip
                      exact absurd c1076 (by decide)
                  · skip
                    exact absurd c943 (by decide)
                · skip
                  exact absurd c800 (by decide)
              · skip
                exact absurd c761 (by decide)
            · skip
              exact absurd c718 (by decide)
          · skip
            exact absurd c668 (by decide)
        · skip
          exact absurd c632 (by decide)
      · skip
        exact absurd c513 (by decide)
    · skip
      exact absurd c423 (by decide)
  · skip
    exact absurd c279 (by decide)
set_option maxRecDepth 100000 in
set_option maxHeartbeats 4000000 in
theorem lg_15 {p : Program} {l : Launch} {e : Env} {s : State} {m : MethodId} {below : List Frame} {meth : Method} {c0 : Code} {Q : State → Prop} {g : Ge} {a0 o : Nat} (X : Cx p #[Value.ref a0] s m meth c0 g cL_law 28 RL ret 0) (ho : g.2.2 = o) {f : Pic} {cs ss tn : Nat} {σ ρ : Nat → Int32} {S P : Nat → Nat → Int32} {φ κ τ π q h t c w b b2 : Nat → Int32} (h186 : 186 ≤ cs) (hcM : cs + 69 ≤ 599000) (hsM : ss + 483 ≤ 7300000) {x y : Int32} {k sN z th vn : Nat} (hk : k < 5) (hs : (sN = 0 ∧ z < 4) ∨ (sN = 1 ∧ z < 2)) (hth : th < 12) (hvn : vn < 25) {C P0 R lt B : Nat} (H : RQ C P0 R lt B σ ρ q h t c w b b2) (hPI : PI π) (htn : tn < 44)
    (kq : ∀ (x y kd ki sd bx tq vv : Int32), (∀ (f : Pic) (cs' ss' : Nat) (σ' ρ' : Nat → Int32) (S' P' : Nat → Nat → Int32) (φ' π' q' h' t' c' w' b' b2' : Nat → Int32) (C' P0' R' lt' B' : Nat) (ot : Int32), 186 ≤ cs' → cs' ≤ cs + 60 → ss' ≤ ss + 330 → RQ C' P0' R' lt' B' σ' ρ' (upd q' 8 (if ot = 0 then q' 8 else 0)) h' t' c' w' b' b2' → PI π' → V p l e room_1 s m #[Value.ref a0] below meth c0 Q g 28 cs' ss' cs' (ovr f o (yaL g o σ' ρ' S' P' φ' κ τ π' q' h' t' c' w' b' b2')) 1826 [some (.ref a0), some (.ref o), some (.ref (o + 179)), some (.ref (o + 180)), some (.ref (o + 181)), some (.ref (o + 182)), some (.ref (o + 183)), some (.ref (o + 184)), some (.ref (o + 185)), some (.int (nI tn)), some (.int x), some (.int y), some (.int kd), some (.int ki), some (.int sd), some (.int bx), some (.int tq), some (.int vv), some (.int ot), none, none, none, none, none, none, none, none, none] []))
    (kc : ∀ (x y kd ki sd bx tq vv : Int32), V p l e room_1 s m #[Value.ref a0] below meth c0 Q g 28 cs ss cs (ovr f o (yaL g o σ ρ S P φ κ τ π q h t c w b b2)) 1864 [some (.ref a0), some (.ref o), some (.ref (o + 179)), some (.ref (o + 180)), some (.ref (o + 181)), some (.ref (o + 182)), some (.ref (o + 183)), some (.ref (o + 184)), some (.ref (o + 185)), some (.int (nI tn)), some (.int x), some (.int y), some (.int kd), some (.int ki), some (.int sd), some (.int bx), some (.int tq), some (.int vv), some (.int (0 : Int32)), none, none, none, none, none, none, none, none, none] []) :
    V p l e room_1 s m #[Value.ref a0] below meth c0 Q g 28 cs ss cs (ovr f o (yaL g o σ ρ S P φ κ τ π q h t c w b b2)) 276 [some (.ref a0), some (.ref o), some (.ref (o + 179)), some (.ref (o + 180)), some (.ref (o + 181)), some (.ref (o + 182)), some (.ref (o + 183)), some (.ref (o + 184)), some (.ref (o + 185)), some (.int (nI tn)), some (.int x), some (.int y), some (.int (15 : Int32)), some (.int (nI k)), some (.int (nI sN)), some (.int (nI z)), some (.int (nI th)), some (.int (nI vn)), some (.int (1 : Int32)), none, none, none, none, none, none, none, none, none] [] := by
  have rc9 : 599000 ≤ room_1.cells := Nat.le_of_ble_eq_true rfl
  have rs9 : 7300000 ≤ room_1.slots := Nat.le_of_ble_eq_true rfl
  have hcs : cs + 0 ≤ room_1.cells ∧ ss + 0 ≤ room_1.slots := ⟨by omega, by omega⟩
  refine v_iload X dL_law_276 rfl ?_
  refine v_iconst X dL_law_278 (v := (2 : Int32)) (by decide) ?_
  refine v_icmp_ge X dL_law_279 (tgt := 420) (by decide) (fun c279 => ?_) (fun c279 => ?_)
  · skip
    refine v_iload X dL_law_420 rfl ?_
    refine v_iconst X dL_law_422 (v := (2 : Int32)) (by decide) ?_
    refine v_icmp_ne X dL_law_423 (tgt := 510) (by decide) (fun c423 => ?_) (fun c423 => ?_)
    · skip
      refine v_iload X dL_law_510 rfl ?_
      refine v_iconst X dL_law_512 (v := (3 : Int32)) (by decide) ?_
      refine v_icmp_ne X dL_law_513 (tgt := 629) (by decide) (fun c513 => ?_) (fun c513 => ?_)
      · skip
        refine v_iload X dL_law_629 rfl ?_
        refine v_iconst X dL_law_631 (v := (4 : Int32)) (by decide) ?_
        refine v_icmp_ne X dL_law_632 (tgt := 665) (by decide) (fun c632 => ?_) (fun c632 => ?_)
        · skip
          refine v_iload X dL_law_665 rfl ?_
          refine v_iconst X dL_law_667 (v := (5 : Int32)) (by decide) ?_
          refine v_icmp_ne X dL_law_668 (tgt := 714) (by decide) (fun c668 => ?_) (fun c668 => ?_)
          · skip
            refine v_iload X dL_law_714 rfl ?_
            refine v_bipush X dL_law_716 (v := (6 : Int32)) (by decide) ?_
            refine v_icmp_ne X dL_law_718 (tgt := 757) (by decide) (fun c718 => ?_) (fun c718 => ?_)
            · skip
              refine v_iload X dL_law_757 rfl ?_
              refine v_bipush X dL_law_759 (v := (7 : Int32)) (by decide) ?_
              refine v_icmp_ne X dL_law_761 (tgt := 796) (by decide) (fun c761 => ?_) (fun c761 => ?_)
              · skip
                refine v_iload X dL_law_796 rfl ?_
                refine v_bipush X dL_law_798 (v := (10 : Int32)) (by decide) ?_
                refine v_icmp_ge X dL_law_800 (tgt := 939) (by decide) (fun c800 => ?_) (fun c800 => ?_)
                · skip
                  refine v_iload X dL_law_939 rfl ?_
                  refine v_bipush X dL_law_941 (v := (10 : Int32)) (by decide) ?_
                  refine v_icmp_ne X dL_law_943 (tgt := 1072) (by decide) (fun c943 => ?_) (fun c943 => ?_)
                  · skip
                    refine v_iload X dL_law_1072 rfl ?_
                    refine v_bipush X dL_law_1074 (v := (11 : Int32)) (by decide) ?_
                    refine v_icmp_ne X dL_law_1076 (tgt := 1144) (by decide) (fun c1076 => ?_) (fun c1076 => ?_)
                    · skip
                      refine v_iload X dL_law_1144 rfl ?_
                      refine v_bipush X dL_law_1146 (v := (16 : Int32)) (by decide) ?_
                      refine v_icmp_ge X dL_law_1148 (tgt := 1638) (by decide) (fun c1148 => ?_) (fun c1148 => ?_)
                      · skip
                        exact absurd c1148 (by decide)
                      · skip
                        exact lk_12 X ho h186 (by omega) (by omega) H hPI (kq _ _ _ _ _ _ _ _)
                    · skip
                      exact absurd c1076 (by decide)
                  · skip
                    exact absurd c943 (by decide)
                · skip
                  exact absurd c800 (by decide)
              · skip
                exact absurd c761 (by decide)
            · skip
              exact absurd c718 (by decide)
          · skip
            exact absurd c668 (by decide)
        · skip
          exact absurd c632 (by decide)
      · skip
        exact absurd c513 (by decide)
    · skip
      exact absurd c423 (by decide)
  · skip
    exact absurd c279 (by decide)
set_option maxRecDepth 100000 in
set_option maxHeartbeats 4000000 in
theorem lg_16 {p : Program} {l : Launch} {e : Env} {s : State} {m : MethodId} {below : List Frame} {meth : Method} {c0 : Code} {Q : State → Prop} {g : Ge} {a0 o : Nat} (X : Cx p #[Value.ref a0] s m meth c0 g cL_law 28 RL ret 0) (ho : g.2.2 = o) {f : Pic} {cs ss tn : Nat} {σ ρ : Nat → Int32} {S P : Nat → Nat → Int32} {φ κ τ π q h t c w b b2 : Nat → Int32} (h186 : 186 ≤ cs) (hcM : cs + 69 ≤ 599000) (hsM : ss + 483 ≤ 7300000) {x y : Int32} {k sN z th vn : Nat} (hk : k < 5) (hs : (sN = 0 ∧ z < 4) ∨ (sN = 1 ∧ z < 2)) (hth : th < 12) (hvn : vn < 25) {C P0 R lt B : Nat} (H : RQ C P0 R lt B σ ρ q h t c w b b2) (hPI : PI π) (htn : tn < 44)
    (kq : ∀ (x y kd ki sd bx tq vv : Int32), (∀ (f : Pic) (cs' ss' : Nat) (σ' ρ' : Nat → Int32) (S' P' : Nat → Nat → Int32) (φ' π' q' h' t' c' w' b' b2' : Nat → Int32) (C' P0' R' lt' B' : Nat) (ot : Int32), 186 ≤ cs' → cs' ≤ cs + 60 → ss' ≤ ss + 330 → RQ C' P0' R' lt' B' σ' ρ' (upd q' 8 (if ot = 0 then q' 8 else 0)) h' t' c' w' b' b2' → PI π' → V p l e room_1 s m #[Value.ref a0] below meth c0 Q g 28 cs' ss' cs' (ovr f o (yaL g o σ' ρ' S' P' φ' κ τ π' q' h' t' c' w' b' b2')) 1826 [some (.ref a0), some (.ref o), some (.ref (o + 179)), some (.ref (o + 180)), some (.ref (o + 181)), some (.ref (o + 182)), some (.ref (o + 183)), some (.ref (o + 184)), some (.ref (o + 185)), some (.int (nI tn)), some (.int x), some (.int y), some (.int kd), some (.int ki), some (.int sd), some (.int bx), some (.int tq), some (.int vv), some (.int ot), none, none, none, none, none, none, none, none, none] []))
    (kc : ∀ (x y kd ki sd bx tq vv : Int32), V p l e room_1 s m #[Value.ref a0] below meth c0 Q g 28 cs ss cs (ovr f o (yaL g o σ ρ S P φ κ τ π q h t c w b b2)) 1864 [some (.ref a0), some (.ref o), some (.ref (o + 179)), some (.ref (o + 180)), some (.ref (o + 181)), some (.ref (o + 182)), some (.ref (o + 183)), some (.ref (o + 184)), some (.ref (o + 185)), some (.int (nI tn)), some (.int x), some (.int y), some (.int kd), some (.int ki), some (.int sd), some (.int bx), some (.int tq), some (.int vv), some (.int (0 : Int32)), none, none, none, none, none, none, none, none, none] []) :
    V p l e room_1 s m #[Value.ref a0] below meth c0 Q g 28 cs ss cs (ovr f o (yaL g o σ ρ S P φ κ τ π q h t c w b b2)) 276 [some (.ref a0), some (.ref o), some (.ref (o + 179)), some (.ref (o + 180)), some (.ref (o + 181)), some (.ref (o + 182)), some (.ref (o + 183)), some (.ref (o + 184)), some (.ref (o + 185)), some (.int (nI tn)), some (.int x), some (.int y), some (.int (16 : Int32)), some (.int (nI k)), some (.int (nI sN)), some (.int (nI z)), some (.int (nI th)), some (.int (nI vn)), some (.int (1 : Int32)), none, none, none, none, none, none, none, none, none] [] := by
  have rc9 : 599000 ≤ room_1.cells := Nat.le_of_ble_eq_true rfl
  have rs9 : 7300000 ≤ room_1.slots := Nat.le_of_ble_eq_true rfl
  have hcs : cs + 0 ≤ room_1.cells ∧ ss + 0 ≤ room_1.slots := ⟨by omega, by omega⟩
  refine v_iload X dL_law_276 rfl ?_
  refine v_iconst X dL_law_278 (v := (2 : Int32)) (by decide) ?_
  refine v_icmp_ge X dL_law_279 (tgt := 420) (by decide) (fun c279 => ?_) (fun c279 => ?_)
  · skip
    refine v_iload X dL_law_420 rfl ?_
    refine v_iconst X dL_law_422 (v := (2 : Int32)) (by decide) ?_
    refine v_icmp_ne X dL_law_423 (tgt := 510) (by decide) (fun c423 => ?_) (fun c423 => ?_)
    · skip
      refine v_iload X dL_law_510 rfl ?_
      refine v_iconst X dL_law_512 (v := (3 : Int32)) (by decide) ?_
      refine v_icmp_ne X dL_law_513 (tgt := 629) (by decide) (fun c513 => ?_) (fun c513 => ?_)
      · skip
        refine v_iload X dL_law_629 rfl ?_
        refine v_iconst X dL_law_631 (v := (4 : Int32)) (by decide) ?_
        refine v_icmp_ne X dL_law_632 (tgt := 665) (by decide) (fun c632 => ?_) (fun c632 => ?_)
        · skip
          refine v_iload X dL_law_665 rfl ?_
          refine v_iconst X dL_law_667 (v := (5 : Int32)) (by decide) ?_
          refine v_icmp_ne X dL_law_668 (tgt := 714) (by decide) (fun c668 => ?_) (fun c668 => ?_)
          · skip
            refine v_iload X dL_law_714 rfl ?_
            refine v_bipush X dL_law_716 (v := (6 : Int32)) (by decide) ?_
            refine v_icmp_ne X dL_law_718 (tgt := 757) (by decide) (fun c718 => ?_) (fun c718 => ?_)
            · skip
              refine v_iload X dL_law_757 rfl ?_
              refine v_bipush X dL_law_759 (v := (7 : Int32)) (by decide) ?_
              refine v_icmp_ne X dL_law_761 (tgt := 796) (by decide) (fun c761 => ?_) (fun c761 => ?_)
              · skip
                refine v_iload X dL_law_796 rfl ?_
                refine v_bipush X dL_law_798 (v := (10 : Int32)) (by decide) ?_
                refine v_icmp_ge X dL_law_800 (tgt := 939) (by decide) (fun c800 => ?_) (fun c800 => ?_)
                · skip
                  refine v_iload X dL_law_939 rfl ?_
                  refine v_bipush X dL_law_941 (v := (10 : Int32)) (by decide) ?_
                  refine v_icmp_ne X dL_law_943 (tgt := 1072) (by decide) (fun c943 => ?_) (fun c943 => ?_)
                  · skip
                    refine v_iload X dL_law_1072 rfl ?_
                    refine v_bipush X dL_law_1074 (v := (11 : Int32)) (by decide) ?_
                    refine v_icmp_ne X dL_law_1076 (tgt := 1144) (by decide) (fun c1076 => ?_) (fun c1076 => ?_)
                    · skip
                      refine v_iload X dL_law_1144 rfl ?_
                      refine v_bipush X dL_law_1146 (v := (16 : Int32)) (by decide) ?_
                      refine v_icmp_ge X dL_law_1148 (tgt := 1638) (by decide) (fun c1148 => ?_) (fun c1148 => ?_)
                      · skip
                        exact lk_16 X ho h186 (by omega) (by omega) H hPI (kq _ _ _ _ _ _ _ _)
                      · skip
                        exact absurd c1148 (by decide)
                    · skip
                      exact absurd c1076 (by decide)
                  · skip
                    exact absurd c943 (by decide)
                · skip
                  exact absurd c800 (by decide)
              · skip
                exact absurd c761 (by decide)
            · skip
              exact absurd c718 (by decide)
          · skip
            exact absurd c668 (by decide)
        · skip
          exact absurd c632 (by decide)
      · skip
        exact absurd c513 (by decide)
    · skip
      exact absurd c423 (by decide)
  · skip
    exact absurd c279 (by decide)
set_option maxRecDepth 100000 in
set_option maxHeartbeats 4000000 in
theorem lg_17 {p : Program} {l : Launch} {e : Env} {s : State} {m : MethodId} {below : List Frame} {meth : Method} {c0 : Code} {Q : State → Prop} {g : Ge} {a0 o : Nat} (X : Cx p #[Value.ref a0] s m meth c0 g cL_law 28 RL ret 0) (ho : g.2.2 = o) {f : Pic} {cs ss tn : Nat} {σ ρ : Nat → Int32} {S P : Nat → Nat → Int32} {φ κ τ π q h t c w b b2 : Nat → Int32} (h186 : 186 ≤ cs) (hcM : cs + 69 ≤ 599000) (hsM : ss + 483 ≤ 7300000) {x y : Int32} {k sN z th vn : Nat} (hk : k < 5) (hs : (sN = 0 ∧ z < 4) ∨ (sN = 1 ∧ z < 2)) (hth : th < 12) (hvn : vn < 25) {C P0 R lt B : Nat} (H : RQ C P0 R lt B σ ρ q h t c w b b2) (hPI : PI π) (htn : tn < 44)
    (kq : ∀ (x y kd ki sd bx tq vv : Int32), (∀ (f : Pic) (cs' ss' : Nat) (σ' ρ' : Nat → Int32) (S' P' : Nat → Nat → Int32) (φ' π' q' h' t' c' w' b' b2' : Nat → Int32) (C' P0' R' lt' B' : Nat) (ot : Int32), 186 ≤ cs' → cs' ≤ cs + 60 → ss' ≤ ss + 330 → RQ C' P0' R' lt' B' σ' ρ' (upd q' 8 (if ot = 0 then q' 8 else 0)) h' t' c' w' b' b2' → PI π' → V p l e room_1 s m #[Value.ref a0] below meth c0 Q g 28 cs' ss' cs' (ovr f o (yaL g o σ' ρ' S' P' φ' κ τ π' q' h' t' c' w' b' b2')) 1826 [some (.ref a0), some (.ref o), some (.ref (o + 179)), some (.ref (o + 180)), some (.ref (o + 181)), some (.ref (o + 182)), some (.ref (o + 183)), some (.ref (o + 184)), some (.ref (o + 185)), some (.int (nI tn)), some (.int x), some (.int y), some (.int kd), some (.int ki), some (.int sd), some (.int bx), some (.int tq), some (.int vv), some (.int ot), none, none, none, none, none, none, none, none, none] []))
    (kc : ∀ (x y kd ki sd bx tq vv : Int32), V p l e room_1 s m #[Value.ref a0] below meth c0 Q g 28 cs ss cs (ovr f o (yaL g o σ ρ S P φ κ τ π q h t c w b b2)) 1864 [some (.ref a0), some (.ref o), some (.ref (o + 179)), some (.ref (o + 180)), some (.ref (o + 181)), some (.ref (o + 182)), some (.ref (o + 183)), some (.ref (o + 184)), some (.ref (o + 185)), some (.int (nI tn)), some (.int x), some (.int y), some (.int kd), some (.int ki), some (.int sd), some (.int bx), some (.int tq), some (.int vv), some (.int (0 : Int32)), none, none, none, none, none, none, none, none, none] []) :
    V p l e room_1 s m #[Value.ref a0] below meth c0 Q g 28 cs ss cs (ovr f o (yaL g o σ ρ S P φ κ τ π q h t c w b b2)) 276 [some (.ref a0), some (.ref o), some (.ref (o + 179)), some (.ref (o + 180)), some (.ref (o + 181)), some (.ref (o + 182)), some (.ref (o + 183)), some (.ref (o + 184)), some (.ref (o + 185)), some (.int (nI tn)), some (.int x), some (.int y), some (.int (17 : Int32)), some (.int (nI k)), some (.int (nI sN)), some (.int (nI z)), some (.int (nI th)), some (.int (nI vn)), some (.int (1 : Int32)), none, none, none, none, none, none, none, none, none] [] := by
  have rc9 : 599000 ≤ room_1.cells := Nat.le_of_ble_eq_true rfl
  have rs9 : 7300000 ≤ room_1.slots := Nat.le_of_ble_eq_true rfl
  have hcs : cs + 0 ≤ room_1.cells ∧ ss + 0 ≤ room_1.slots := ⟨by omega, by omega⟩
  refine v_iload X dL_law_276 rfl ?_
  refine v_iconst X dL_law_278 (v := (2 : Int32)) (by decide) ?_
  refine v_icmp_ge X dL_law_279 (tgt := 420) (by decide) (fun c279 => ?_) (fun c279 => ?_)
  · skip
    refine v_iload X dL_law_420 rfl ?_
    refine v_iconst X dL_law_422 (v := (2 : Int32)) (by decide) ?_
    refine v_icmp_ne X dL_law_423 (tgt := 510) (by decide) (fun c423 => ?_) (fun c423 => ?_)
    · skip
      refine v_iload X dL_law_510 rfl ?_
      refine v_iconst X dL_law_512 (v := (3 : Int32)) (by decide) ?_
      refine v_icmp_ne X dL_law_513 (tgt := 629) (by decide) (fun c513 => ?_) (fun c513 => ?_)
      · skip
        refine v_iload X dL_law_629 rfl ?_
        refine v_iconst X dL_law_631 (v := (4 : Int32)) (by decide) ?_
        refine v_icmp_ne X dL_law_632 (tgt := 665) (by decide) (fun c632 => ?_) (fun c632 => ?_)
        · skip
          refine v_iload X dL_law_665 rfl ?_
          refine v_iconst X dL_law_667 (v := (5 : Int32)) (by decide) ?_
          refine v_icmp_ne X dL_law_668 (tgt := 714) (by decide) (fun c668 => ?_) (fun c668 => ?_)
          · skip
            refine v_iload X dL_law_714 rfl ?_
            refine v_bipush X dL_law_716 (v := (6 : Int32)) (by decide) ?_
            refine v_icmp_ne X dL_law_718 (tgt := 757) (by decide) (fun c718 => ?_) (fun c718 => ?_)
            · skip
              refine v_iload X dL_law_757 rfl ?_
              refine v_bipush X dL_law_759 (v := (7 : Int32)) (by decide) ?_
              refine v_icmp_ne X dL_law_761 (tgt := 796) (by decide) (fun c761 => ?_) (fun c761 => ?_)
              · skip
                refine v_iload X dL_law_796 rfl ?_
                refine v_bipush X dL_law_798 (v := (10 : Int32)) (by decide) ?_
                refine v_icmp_ge X dL_law_800 (tgt := 939) (by decide) (fun c800 => ?_) (fun c800 => ?_)
                · skip
                  refine v_iload X dL_law_939 rfl ?_
                  refine v_bipush X dL_law_941 (v := (10 : Int32)) (by decide) ?_
                  refine v_icmp_ne X dL_law_943 (tgt := 1072) (by decide) (fun c943 => ?_) (fun c943 => ?_)
                  · skip
                    refine v_iload X dL_law_1072 rfl ?_
                    refine v_bipush X dL_law_1074 (v := (11 : Int32)) (by decide) ?_
                    refine v_icmp_ne X dL_law_1076 (tgt := 1144) (by decide) (fun c1076 => ?_) (fun c1076 => ?_)
                    · skip
                      refine v_iload X dL_law_1144 rfl ?_
                      refine v_bipush X dL_law_1146 (v := (16 : Int32)) (by decide) ?_
                      refine v_icmp_ge X dL_law_1148 (tgt := 1638) (by decide) (fun c1148 => ?_) (fun c1148 => ?_)
                      · skip
                        exact lk_16 X ho h186 (by omega) (by omega) H hPI (kq _ _ _ _ _ _ _ _)
                      · skip
                        exact absurd c1148 (by decide)
                    · skip
                      exact absurd c1076 (by decide)
                  · skip
                    exact absurd c943 (by decide)
                · skip
                  exact absurd c800 (by decide)
              · skip
                exact absurd c761 (by decide)
            · skip
              exact absurd c718 (by decide)
          · skip
            exact absurd c668 (by decide)
        · skip
          exact absurd c632 (by decide)
      · skip
        exact absurd c513 (by decide)
    · skip
      exact absurd c423 (by decide)
  · skip
    exact absurd c279 (by decide)
set_option maxRecDepth 100000 in
set_option maxHeartbeats 4000000 in
theorem law_turn {p : Program} {l : Launch} {e : Env} {s : State} {m : MethodId} {below : List Frame} {meth : Method} {c0 : Code} {Q : State → Prop} {g : Ge} {a0 o : Nat} (X : Cx p #[Value.ref a0] s m meth c0 g cL_law 28 RL ret 0) (ho : g.2.2 = o) {f : Pic} {cs ss tn : Nat} {σ ρ : Nat → Int32} {S P : Nat → Nat → Int32} {φ κ τ π q h t c w b b2 : Nat → Int32} (h186 : 186 ≤ cs) (hcM : cs + 69 ≤ 599000) (hsM : ss + 483 ≤ 7300000) {Ls : Nat} {xs : Nat → Int32} (hXs : va_X a0 Ls xs s s.heap) (hbl : a0 < s.heap.size) (hbA : ¬ gA g a0) (hLs : Ls ≤ 260) {C P0 R lt B : Nat} (H : RQ C P0 R lt B σ ρ q h t c w b b2) (hPI : PI π) (hb0 : a0 < g.2.2) (htn : tn < 44)
    (kk : ∀ (f : Pic) (cs' ss' : Nat) (σ' ρ' : Nat → Int32) (S' P' : Nat → Nat → Int32) (φ' π' q' h' t' c' w' b' b2' : Nat → Int32) (C' P0' R' lt' B' : Nat), 186 ≤ cs' → cs' ≤ cs + 69 → ss' ≤ ss + 483 → RQ C' P0' R' lt' B' σ' ρ' q' h' t' c' w' b' b2' → PI π' → V p l e room_1 s m #[Value.ref a0] below meth c0 Q g 28 cs' ss' cs' (ovr f o (yaL g o σ' ρ' S' P' φ' κ τ π' q' h' t' c' w' b' b2')) 142 [some (.ref a0), some (.ref o), some (.ref (o + 179)), some (.ref (o + 180)), some (.ref (o + 181)), some (.ref (o + 182)), some (.ref (o + 183)), some (.ref (o + 184)), some (.ref (o + 185)), some (.int (nI (tn + 1))), none, none, none, none, none, none, none, none, none, none, none, none, none, none, none, none, none, none] []) :
    V p l e room_1 s m #[Value.ref a0] below meth c0 Q g 28 cs ss cs (ovr f o (yaL g o σ ρ S P φ κ τ π q h t c w b b2)) 149 [some (.ref a0), some (.ref o), some (.ref (o + 179)), some (.ref (o + 180)), some (.ref (o + 181)), some (.ref (o + 182)), some (.ref (o + 183)), some (.ref (o + 184)), some (.ref (o + 185)), some (.int (nI tn)), none, none, none, none, none, none, none, none, none, none, none, none, none, none, none, none, none, none] [] := by
  have kq : ∀ (x y kd ki sd bx tq vv : Int32), (∀ (f : Pic) (cs' ss' : Nat) (σ' ρ' : Nat → Int32) (S' P' : Nat → Nat → Int32) (φ' π' q' h' t' c' w' b' b2' : Nat → Int32) (C' P0' R' lt' B' : Nat) (ot : Int32), 186 ≤ cs' → cs' ≤ cs + 60 → ss' ≤ ss + 330 → RQ C' P0' R' lt' B' σ' ρ' (upd q' 8 (if ot = 0 then q' 8 else 0)) h' t' c' w' b' b2' → PI π' → V p l e room_1 s m #[Value.ref a0] below meth c0 Q g 28 cs' ss' cs' (ovr f o (yaL g o σ' ρ' S' P' φ' κ τ π' q' h' t' c' w' b' b2')) 1826 [some (.ref a0), some (.ref o), some (.ref (o + 179)), some (.ref (o + 180)), some (.ref (o + 181)), some (.ref (o + 182)), some (.ref (o + 183)), some (.ref (o + 184)), some (.ref (o + 185)), some (.int (nI tn)), some (.int x), some (.int y), some (.int kd), some (.int ki), some (.int sd), some (.int bx), some (.int tq), some (.int vv), some (.int ot), none, none, none, none, none, none, none, none, none] []) := by
    intro x y kd ki sd bx tq vv f cs' ss' σ' ρ' S' P' φ' π' q' h' t' c' w' b' b2' C' P0' R' lt' B' ot a1 a2 a3 H2 hPI2
    refine law_tail X ho a1 (by omega) (by omega) H2 (fun f cs2 ss2 φ2 q2 d1 d2 d3 H3 => ?_)
    refine v_drop 10 ?_
    refine v_drop 11 ?_
    refine v_drop 12 ?_
    refine v_drop 13 ?_
    refine v_drop 14 ?_
    refine v_drop 15 ?_
    refine v_drop 16 ?_
    refine v_drop 17 ?_
    refine v_drop 18 ?_
    exact kk f cs2 ss2 _ _ _ _ _ _ _ _ _ _ _ _ _ _ _ _ _ _ d1 (by omega) (by omega) H3 hPI2
  have kc : ∀ (x y kd ki sd bx tq vv : Int32), V p l e room_1 s m #[Value.ref a0] below meth c0 Q g 28 cs ss cs (ovr f o (yaL g o σ ρ S P φ κ τ π q h t c w b b2)) 1864 [some (.ref a0), some (.ref o), some (.ref (o + 179)), some (.ref (o + 180)), some (.ref (o + 181)), some (.ref (o + 182)), some (.ref (o + 183)), some (.ref (o + 184)), some (.ref (o + 185)), some (.int (nI tn)), some (.int x), some (.int y), some (.int kd), some (.int ki), some (.int sd), some (.int bx), some (.int tq), some (.int vv), some (.int (0 : Int32)), none, none, none, none, none, none, none, none, none] [] := by
    intro x y kd ki sd bx tq vv
    refine v_iinc X dL_law_1864 (v := nI (tn + 1)) rfl (ix_inc rfl) (Nat.le_of_ble_eq_true rfl) rfl ?_
    refine v_goto X dL_law_1867 (tgt := 142) (by decide) ?_
    refine v_drop 10 ?_
    refine v_drop 11 ?_
    refine v_drop 12 ?_
    refine v_drop 13 ?_
    refine v_drop 14 ?_
    refine v_drop 15 ?_
    refine v_drop 16 ?_
    refine v_drop 17 ?_
    refine v_drop 18 ?_
    exact kk f cs ss _ _ _ _ _ _ _ _ _ _ _ _ _ _ _ _ _ _ h186 (by omega) (by omega) H hPI
  refine lh_1 X ho h186 hcM hsM hXs hbl hbA hLs hb0 htn (fun x y kd hkd => ?_)
  refine lh_2 X ho h186 hcM hsM htn (fun k hk => ?_)
  refine lh_3 X ho h186 hcM hsM htn (fun sN z th vn hs hth hvn => ?_)
  rcases (show kd = 0 ∨ kd = 1 ∨ kd = 2 ∨ kd = 3 ∨ kd = 4 ∨ kd = 5 ∨ kd = 6 ∨ kd = 7 ∨ kd = 8 ∨ kd = 9 ∨ kd = 10 ∨ kd = 11 ∨ kd = 12 ∨ kd = 13 ∨ kd = 14 ∨ kd = 15 ∨ kd = 16 ∨ kd = 17 by omega) with rfl | rfl | rfl | rfl | rfl | rfl | rfl | rfl | rfl | rfl | rfl | rfl | rfl | rfl | rfl | rfl | rfl | rfl
  · exact lg_0 X ho h186 hcM hsM hk hs hth hvn H hPI htn kq kc
  · exact lg_1 X ho h186 hcM hsM hk hs hth hvn H hPI htn kq kc
  · exact lg_2 X ho h186 hcM hsM hk hs hth hvn H hPI htn kq kc
  · exact lg_3 X ho h186 hcM hsM hk hs hth hvn H hPI htn kq kc
  · exact lg_4 X ho h186 hcM hsM hk hs hth hvn H hPI htn kq kc
  · exact lg_5 X ho h186 hcM hsM hk hs hth hvn H hPI htn kq kc
  · exact lg_6 X ho h186 hcM hsM hk hs hth hvn H hPI htn kq kc
  · exact lg_7 X ho h186 hcM hsM hk hs hth hvn H hPI htn kq kc
  · exact lg_8 X ho h186 hcM hsM hk hs hth hvn H hPI htn kq kc
  · exact lg_9 X ho h186 hcM hsM hk hs hth hvn H hPI htn kq kc
  · exact lg_10 X ho h186 hcM hsM hk hs hth hvn H hPI htn kq kc
  · exact lg_11 X ho h186 hcM hsM hk hs hth hvn H hPI htn kq kc
  · exact lg_12 X ho h186 hcM hsM hk hs hth hvn H hPI htn kq kc
  · exact lg_13 X ho h186 hcM hsM hk hs hth hvn H hPI htn kq kc
  · exact lg_14 X ho h186 hcM hsM hk hs hth hvn H hPI htn kq kc
  · exact lg_15 X ho h186 hcM hsM hk hs hth hvn H hPI htn kq kc
  · exact lg_16 X ho h186 hcM hsM hk hs hth hvn H hPI htn kq kc
  · exact lg_17 X ho h186 hcM hsM hk hs hth hvn H hPI htn kq kc
