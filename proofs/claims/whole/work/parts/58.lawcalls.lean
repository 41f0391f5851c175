/-! the law: one call of the script -/
def PW (f : Pic) (o : Nat) (A B : List va_E) : Pic := ovr (ovr f o A) (o + 179) B
set_option maxRecDepth 100000 in
theorem xL_len {g : Ge} {o : Nat} {σ ρ : Nat → Int32} {S P : Nat → Nat → Int32} {φ κ τ π : Nat → Int32} : (xL g o σ ρ S P φ κ τ π).length = 179 := rfl
theorem mdL_len {g : Ge} {o : Nat} {μ kp hs tx ι : Nat → Int32} : (mdL g o μ kp hs tx ι).length = 5 := rfl
section L1
variable {p : Program} {l : Launch} {e : Env} {R : Room} {s : State} {m : MethodId} {args : Array Value} {below : List Frame} {meth : Method} {c : Code} {Q : State → Prop}
variable {g : Ge} {cc : ByteArray} {nL : Nat} {own : String} {rt : Option FieldType} {N0 cs ss N : Nat} {f : Pic} {pc : Nat} {lv : List (Option Value)} {st : List Value} {o : Nat} {A A' B B' : List va_E}
theorem v_lwx (X : Cx p args s m meth c g cc nL own rt N0) {y : MethodName} {bytes : ByteArray} {maxL idx d : Nat} {ret : Option FieldType} {r : Option Value} {fs : List Value} {st0 st' : List Value} (As : List Value) (hA : A.length = 179) (hA' : A'.length = 179) (hA0 : A[0]? = some (.inr (7, fs))) (hz : N = N0 + cs) (hBB : BB g N o 184) {n : Nat} (hy : YV y bytes maxL ret n 7) (hml : Cond.methodLink own idx y ∈ gT) (hC : Cb l g y (.code y bytes maxL ret) d (.ref o :: As) N o A r A') (hst0 : st0 = As.reverse ++ .ref o :: st) (hlen : As.length = n) (hcat : (st.map fun v => v.category).sum ≤ 8) (hR : d + 1 ≤ R.frames ∧ 8 + (maxL + 11) + 35 * d ≤ R.locals) (hf : cs ≤ R.cells ∧ ss ≤ R.slots) (dd : decode cc pc = .ok (.invokevirtual idx, 3)) (hst : r.toList ++ st = st') (kk : V p l e R s m args below meth c Q g nL cs ss N (PW f o A' B) (pc + 3) lv st') : V p l e R s m args below meth c Q g nL cs ss N (PW f o A B) pc lv st0 := by
  have hsw : ∀ L : List va_E, L.length = 179 → ovr (ovr f o L) (o + 179) B = ovr (ovr f (o + 179) B) o L := fun L h => ovr_swap (Or.inl (by rw [h]; exact Nat.le_refl _))
  unfold PW at kk ⊢
  rw [hsw A' hA'] at kk
  rw [hsw A hA]
  exact v_callV X hz hy hml (hC (ovr f (o + 179) B) (by rw [hA]; exact ⟨hBB.1, by have := hBB.2; omega⟩)) ⟨hBB.1, by have := hBB.2; omega⟩ (ovr_at (o := o) (j := 0) hA0) hst0 hlen hcat hR hf dd hst kk
theorem v_lwm (X : Cx p args s m meth c g cc nL own rt N0) {y : MethodName} {bytes : ByteArray} {maxL idx d : Nat} {ret : Option FieldType} {r : Option Value} {fs : List Value} {st0 st' : List Value} (As : List Value) (hB : B.length = 5) (hB0 : B[0]? = some (.inr (8, fs))) (hz : N = N0 + cs) (hBB : BB g N o 184) {n : Nat} (hy : YV y bytes maxL ret n 8) (hml : Cond.methodLink own idx y ∈ gT) (hC : Cb l g y (.code y bytes maxL ret) d (.ref (o + 179) :: As) N (o + 179) B r B') (hst0 : st0 = As.reverse ++ .ref (o + 179) :: st) (hlen : As.length = n) (hcat : (st.map fun v => v.category).sum ≤ 8) (hR : d + 1 ≤ R.frames ∧ 8 + (maxL + 11) + 35 * d ≤ R.locals) (hf : cs ≤ R.cells ∧ ss ≤ R.slots) (dd : decode cc pc = .ok (.invokevirtual idx, 3)) (hst : r.toList ++ st = st') (kk : V p l e R s m args below meth c Q g nL cs ss N (PW f o A B') (pc + 3) lv st') : V p l e R s m args below meth c Q g nL cs ss N (PW f o A B) pc lv st0 := by
  unfold PW at kk ⊢
  exact v_callV X hz hy hml (hC (ovr f o A) (by rw [hB]; exact ⟨Nat.le_trans hBB.1 (Nat.le_add_right _ _), by have := hBB.2; omega⟩)) ⟨Nat.le_trans hBB.1 (Nat.le_add_right _ _), by have := hBB.2; omega⟩ (ovr_at (o := o + 179) (j := 0) hB0) hst0 hlen hcat hR hf dd hst kk
theorem v_sld (X : Cx p args s m meth c g cc nL own rt N0) {b Ls : Nat} {xs : Nat → Int32} (hXs : va_X b Ls xs s s.heap) (hbl : b < s.heap.size) (hbA : ¬ gA g b) {i : Int32} (hin : vp_in i Ls) (d : decode cc pc = .ok (.iaload, 1)) (kk : V p l e R s m args below meth c Q g nL cs ss N f (pc + 1) lv (.int (xs i.toNatClampNeg) :: st)) : V p l e R s m args below meth c Q g nL cs ss N f pc lv (.int i :: .ref b :: st) :=
  fun H locs ls hP hS hl => va_sld X.1 X.2.1 hXs hbl hbA hS hin d (kk H locs ls hP hS hl)
theorem v_slen (X : Cx p args s m meth c g cc nL own rt N0) {b Ls : Nat} {xs : Nat → Int32} (hXs : va_X b Ls xs s s.heap) (hbl : b < s.heap.size) (hbA : ¬ gA g b) (d : decode cc pc = .ok (.arraylength, 1)) (kk : V p l e R s m args below meth c Q g nL cs ss N f (pc + 1) lv (.int (Int32.ofNat Ls) :: st)) : V p l e R s m args below meth c Q g nL cs ss N f pc lv (.ref b :: st) :=
  fun H locs ls hP hS hl => va_slen X.1 X.2.1 hXs hbl hbA hS d (kk H locs ls hP hS hl)
theorem in_i {i k Ls : Nat} {x : Int32} (hx : x = nI (i + k)) (h : i + k < Ls) (hL : Ls ≤ 2048) : vp_in x Ls := by subst hx; exact vp_in_nI h (by omega)
theorem lg_self (x : Int64) : lg_cmp x x = 0 := by
  unfold lg_cmp
  rw [if_neg (show ¬ x > x from Int64.lt_irrefl), if_pos rfl]
end L1
set_option maxHeartbeats 1000000 in
theorem lc_0 {p : Program} {l : Launch} {e : Env} {s : State} {m : MethodId} {args : Array Value} {below : List Frame} {meth : Method} {c : Code} {Q : State → Prop} {g : Ge} (X : Cx p args s m meth c g cL_law 4 RL ret 0) {b Ls o : Nat} {xs : Nat → Int32} {f : Pic} (hXs : va_X b Ls xs s s.heap) (hbl : b < s.heap.size) (hbA : ¬ gA g b) (hBB : BB g 184 o 184) {i : Nat} (hi : i + 4 ≤ Ls) (hLs : Ls ≤ 2048) {σ ρ : Nat → Int32} {S P : Nat → Nat → Int32} {φ κ τ π μ kp hs tx ι : Nat → Int32} (F : Fr σ ρ S P τ π μ hs tx ι) (kk : ∀ (σ ρ : Nat → Int32) (S P : Nat → Nat → Int32) (φ κ τ π μ kp hs tx ι : Nat → Int32), Fr σ ρ S P τ π μ hs tx ι → V p l e room_1 s m args below meth c Q g 4 184 4443 184 (PW f o (xL g o σ ρ S P φ κ τ π) (mdL g (o + 179) μ kp hs tx ι)) 872 [some (.ref b), some (.ref o), some (.ref (o + 179)), some (.int (nI i))] []) : V p l e room_1 s m args below meth c Q g 4 184 4443 184 (PW f o (xL g o σ ρ S P φ κ τ π) (mdL g (o + 179) μ kp hs tx ι)) 164 [some (.ref b), some (.ref o), some (.ref (o + 179)), some (.int (nI i))] [] := by
  obtain ⟨r, σ1, ρ1, S1, P1, φ1, κ1, τ1, π1, μ1, kp1, hs1, tx1, ι1, ⟨x, rfl⟩, F1, c7, c8⟩ := pr_putIn l g 184 o σ ρ S P φ κ τ π μ kp hs tx ι F (xs (nI i + 1).toNatClampNeg) (xs (nI i + 2).toNatClampNeg) (xs (nI i + 3).toNatClampNeg)
  refine v_aload_n X dL_law_164 (i := 1) rfl rfl ?_
  refine v_aload_n X dL_law_165 (i := 0) rfl rfl ?_
  refine v_iload_n X dL_law_166 (i := 3) rfl rfl ?_
  refine v_iconst X dL_law_167 (v := (1 : Int32)) (by decide) ?_
  refine v_iadd X dL_law_168 ?_
  refine v_sld X hXs hbl hbA (in_i (i := i) (k := 1) (ix_add rfl rfl) (by omega) hLs) dL_law_169 ?_
  refine v_aload_n X dL_law_170 (i := 0) rfl rfl ?_
  refine v_iload_n X dL_law_171 (i := 3) rfl rfl ?_
  refine v_iconst X dL_law_172 (v := (2 : Int32)) (by decide) ?_
  refine v_iadd X dL_law_173 ?_
  refine v_sld X hXs hbl hbA (in_i (i := i) (k := 2) (ix_add rfl rfl) (by omega) hLs) dL_law_174 ?_
  refine v_aload_n X dL_law_175 (i := 0) rfl rfl ?_
  refine v_iload_n X dL_law_176 (i := 3) rfl rfl ?_
  refine v_iconst X dL_law_177 (v := (3 : Int32)) (by decide) ?_
  refine v_iadd X dL_law_178 ?_
  refine v_sld X hXs hbl hbA (in_i (i := i) (k := 3) (ix_add rfl rfl) (by omega) hLs) dL_law_179 ?_
  refine v_lwx X [.int (xs (nI i + 1).toNatClampNeg), .int (xs (nI i + 2).toNatClampNeg), .int (xs (nI i + 3).toNatClampNeg)] xL_len xL_len rfl rfl hBB yv_X7_putIn m_ml_L_13 c7 rfl rfl (Nat.le_of_ble_eq_true rfl) ⟨Nat.le_of_ble_eq_true rfl, Nat.le_of_ble_eq_true rfl⟩ ⟨Nat.le_of_ble_eq_true rfl, Nat.le_of_ble_eq_true rfl⟩ dL_law_180 rfl ?_
  refine v_aload_n X dL_law_183 (i := 2) rfl rfl ?_
  refine v_aload_n X dL_law_184 (i := 0) rfl rfl ?_
  refine v_iload_n X dL_law_185 (i := 3) rfl rfl ?_
  refine v_iconst X dL_law_186 (v := (1 : Int32)) (by decide) ?_
  refine v_iadd X dL_law_187 ?_
  refine v_sld X hXs hbl hbA (in_i (i := i) (k := 1) (ix_add rfl rfl) (by omega) hLs) dL_law_188 ?_
  refine v_aload_n X dL_law_189 (i := 0) rfl rfl ?_
  refine v_iload_n X dL_law_190 (i := 3) rfl rfl ?_
  refine v_iconst X dL_law_191 (v := (2 : Int32)) (by decide) ?_
  refine v_iadd X dL_law_192 ?_
  refine v_sld X hXs hbl hbA (in_i (i := i) (k := 2) (ix_add rfl rfl) (by omega) hLs) dL_law_193 ?_
  refine v_aload_n X dL_law_194 (i := 0) rfl rfl ?_
  refine v_iload_n X dL_law_195 (i := 3) rfl rfl ?_
  refine v_iconst X dL_law_196 (v := (3 : Int32)) (by decide) ?_
  refine v_iadd X dL_law_197 ?_
  refine v_sld X hXs hbl hbA (in_i (i := i) (k := 3) (ix_add rfl rfl) (by omega) hLs) dL_law_198 ?_
  refine v_lwm X [.int (xs (nI i + 1).toNatClampNeg), .int (xs (nI i + 2).toNatClampNeg), .int (xs (nI i + 3).toNatClampNeg)] mdL_len rfl rfl hBB yv_X8_putIn m_ml_L_17 c8 rfl rfl (Nat.le_of_ble_eq_true rfl) ⟨Nat.le_of_ble_eq_true rfl, Nat.le_of_ble_eq_true rfl⟩ ⟨Nat.le_of_ble_eq_true rfl, Nat.le_of_ble_eq_true rfl⟩ dL_law_199 rfl ?_
  exact v_icmp_eq X dL_law_202 (tgt := 872) (by decide) (fun _ => kk _ _ _ _ _ _ _ _ _ _ _ _ _ F1) (fun h => absurd rfl h)
set_option maxHeartbeats 1000000 in
theorem lc_1 {p : Program} {l : Launch} {e : Env} {s : State} {m : MethodId} {args : Array Value} {below : List Frame} {meth : Method} {c : Code} {Q : State → Prop} {g : Ge} (X : Cx p args s m meth c g cL_law 4 RL ret 0) {b Ls o : Nat} {xs : Nat → Int32} {f : Pic} (hXs : va_X b Ls xs s s.heap) (hbl : b < s.heap.size) (hbA : ¬ gA g b) (hBB : BB g 184 o 184) {i : Nat} (hi : i + 4 ≤ Ls) (hLs : Ls ≤ 2048) {σ ρ : Nat → Int32} {S P : Nat → Nat → Int32} {φ κ τ π μ kp hs tx ι : Nat → Int32} (F : Fr σ ρ S P τ π μ hs tx ι) (kk : ∀ (σ ρ : Nat → Int32) (S P : Nat → Nat → Int32) (φ κ τ π μ kp hs tx ι : Nat → Int32), Fr σ ρ S P τ π μ hs tx ι → V p l e room_1 s m args below meth c Q g 4 184 4443 184 (PW f o (xL g o σ ρ S P φ κ τ π) (mdL g (o + 179) μ kp hs tx ι)) 872 [some (.ref b), some (.ref o), some (.ref (o + 179)), some (.int (nI i))] []) : V p l e room_1 s m args below meth c Q g 4 184 4443 184 (PW f o (xL g o σ ρ S P φ κ τ π) (mdL g (o + 179) μ kp hs tx ι)) 207 [some (.ref b), some (.ref o), some (.ref (o + 179)), some (.int (nI i))] [] := by
  obtain ⟨r, σ1, ρ1, S1, P1, φ1, κ1, τ1, π1, μ1, kp1, hs1, tx1, ι1, ⟨x, rfl⟩, F1, c7, c8⟩ := pr_takeOut l g 184 o σ ρ S P φ κ τ π μ kp hs tx ι F (xs (nI i + 1).toNatClampNeg)
  refine v_aload_n X dL_law_207 (i := 1) rfl rfl ?_
  refine v_aload_n X dL_law_208 (i := 0) rfl rfl ?_
  refine v_iload_n X dL_law_209 (i := 3) rfl rfl ?_
  refine v_iconst X dL_law_210 (v := (1 : Int32)) (by decide) ?_
  refine v_iadd X dL_law_211 ?_
  refine v_sld X hXs hbl hbA (in_i (i := i) (k := 1) (ix_add rfl rfl) (by omega) hLs) dL_law_212 ?_
  refine v_lwx X [.int (xs (nI i + 1).toNatClampNeg)] xL_len xL_len rfl rfl hBB yv_X7_takeOut m_ml_L_18 c7 rfl rfl (Nat.le_of_ble_eq_true rfl) ⟨Nat.le_of_ble_eq_true rfl, Nat.le_of_ble_eq_true rfl⟩ ⟨Nat.le_of_ble_eq_true rfl, Nat.le_of_ble_eq_true rfl⟩ dL_law_213 rfl ?_
  refine v_aload_n X dL_law_216 (i := 2) rfl rfl ?_
  refine v_aload_n X dL_law_217 (i := 0) rfl rfl ?_
  refine v_iload_n X dL_law_218 (i := 3) rfl rfl ?_
  refine v_iconst X dL_law_219 (v := (1 : Int32)) (by decide) ?_
  refine v_iadd X dL_law_220 ?_
  refine v_sld X hXs hbl hbA (in_i (i := i) (k := 1) (ix_add rfl rfl) (by omega) hLs) dL_law_221 ?_
  refine v_lwm X [.int (xs (nI i + 1).toNatClampNeg)] mdL_len rfl rfl hBB yv_X8_takeOut m_ml_L_22 c8 rfl rfl (Nat.le_of_ble_eq_true rfl) ⟨Nat.le_of_ble_eq_true rfl, Nat.le_of_ble_eq_true rfl⟩ ⟨Nat.le_of_ble_eq_true rfl, Nat.le_of_ble_eq_true rfl⟩ dL_law_222 rfl ?_
  exact v_icmp_eq X dL_law_225 (tgt := 872) (by decide) (fun _ => kk _ _ _ _ _ _ _ _ _ _ _ _ _ F1) (fun h => absurd rfl h)
set_option maxHeartbeats 1000000 in
theorem lc_2 {p : Program} {l : Launch} {e : Env} {s : State} {m : MethodId} {args : Array Value} {below : List Frame} {meth : Method} {c : Code} {Q : State → Prop} {g : Ge} (X : Cx p args s m meth c g cL_law 4 RL ret 0) {b Ls o : Nat} {xs : Nat → Int32} {f : Pic} (hXs : va_X b Ls xs s s.heap) (hbl : b < s.heap.size) (hbA : ¬ gA g b) (hBB : BB g 184 o 184) {i : Nat} (hi : i + 4 ≤ Ls) (hLs : Ls ≤ 2048) {σ ρ : Nat → Int32} {S P : Nat → Nat → Int32} {φ κ τ π μ kp hs tx ι : Nat → Int32} (F : Fr σ ρ S P τ π μ hs tx ι) (kk : ∀ (σ ρ : Nat → Int32) (S P : Nat → Nat → Int32) (φ κ τ π μ kp hs tx ι : Nat → Int32), Fr σ ρ S P τ π μ hs tx ι → V p l e room_1 s m args below meth c Q g 4 184 4443 184 (PW f o (xL g o σ ρ S P φ κ τ π) (mdL g (o + 179) μ kp hs tx ι)) 872 [some (.ref b), some (.ref o), some (.ref (o + 179)), some (.int (nI i))] []) : V p l e room_1 s m args below meth c Q g 4 184 4443 184 (PW f o (xL g o σ ρ S P φ κ τ π) (mdL g (o + 179) μ kp hs tx ι)) 230 [some (.ref b), some (.ref o), some (.ref (o + 179)), some (.int (nI i))] [] := by
  obtain ⟨r, σ1, ρ1, S1, P1, φ1, κ1, τ1, π1, μ1, kp1, hs1, tx1, ι1, ⟨x, rfl⟩, F1, c7, c8⟩ := pr_wind l g 184 o σ ρ S P φ κ τ π μ kp hs tx ι F (xs (nI i + 1).toNatClampNeg) (xs (nI i + 2).toNatClampNeg) (xs (nI i + 3).toNatClampNeg)
  refine v_aload_n X dL_law_230 (i := 1) rfl rfl ?_
  refine v_aload_n X dL_law_231 (i := 0) rfl rfl ?_
  refine v_iload_n X dL_law_232 (i := 3) rfl rfl ?_
  refine v_iconst X dL_law_233 (v := (1 : Int32)) (by decide) ?_
  refine v_iadd X dL_law_234 ?_
  refine v_sld X hXs hbl hbA (in_i (i := i) (k := 1) (ix_add rfl rfl) (by omega) hLs) dL_law_235 ?_
  refine v_aload_n X dL_law_236 (i := 0) rfl rfl ?_
  refine v_iload_n X dL_law_237 (i := 3) rfl rfl ?_
  refine v_iconst X dL_law_238 (v := (2 : Int32)) (by decide) ?_
  refine v_iadd X dL_law_239 ?_
  refine v_sld X hXs hbl hbA (in_i (i := i) (k := 2) (ix_add rfl rfl) (by omega) hLs) dL_law_240 ?_
  refine v_aload_n X dL_law_241 (i := 0) rfl rfl ?_
  refine v_iload_n X dL_law_242 (i := 3) rfl rfl ?_
  refine v_iconst X dL_law_243 (v := (3 : Int32)) (by decide) ?_
  refine v_iadd X dL_law_244 ?_
  refine v_sld X hXs hbl hbA (in_i (i := i) (k := 3) (ix_add rfl rfl) (by omega) hLs) dL_law_245 ?_
  refine v_lwx X [.int (xs (nI i + 1).toNatClampNeg), .int (xs (nI i + 2).toNatClampNeg), .int (xs (nI i + 3).toNatClampNeg)] xL_len xL_len rfl rfl hBB yv_X7_wind m_ml_L_23 c7 rfl rfl (Nat.le_of_ble_eq_true rfl) ⟨Nat.le_of_ble_eq_true rfl, Nat.le_of_ble_eq_true rfl⟩ ⟨Nat.le_of_ble_eq_true rfl, Nat.le_of_ble_eq_true rfl⟩ dL_law_246 rfl ?_
  refine v_aload_n X dL_law_249 (i := 2) rfl rfl ?_
  refine v_aload_n X dL_law_250 (i := 0) rfl rfl ?_
  refine v_iload_n X dL_law_251 (i := 3) rfl rfl ?_
  refine v_iconst X dL_law_252 (v := (1 : Int32)) (by decide) ?_
  refine v_iadd X dL_law_253 ?_
  refine v_sld X hXs hbl hbA (in_i (i := i) (k := 1) (ix_add rfl rfl) (by omega) hLs) dL_law_254 ?_
  refine v_aload_n X dL_law_255 (i := 0) rfl rfl ?_
  refine v_iload_n X dL_law_256 (i := 3) rfl rfl ?_
  refine v_iconst X dL_law_257 (v := (2 : Int32)) (by decide) ?_
  refine v_iadd X dL_law_258 ?_
  refine v_sld X hXs hbl hbA (in_i (i := i) (k := 2) (ix_add rfl rfl) (by omega) hLs) dL_law_259 ?_
  refine v_aload_n X dL_law_260 (i := 0) rfl rfl ?_
  refine v_iload_n X dL_law_261 (i := 3) rfl rfl ?_
  refine v_iconst X dL_law_262 (v := (3 : Int32)) (by decide) ?_
  refine v_iadd X dL_law_263 ?_
  refine v_sld X hXs hbl hbA (in_i (i := i) (k := 3) (ix_add rfl rfl) (by omega) hLs) dL_law_264 ?_
  refine v_lwm X [.int (xs (nI i + 1).toNatClampNeg), .int (xs (nI i + 2).toNatClampNeg), .int (xs (nI i + 3).toNatClampNeg)] mdL_len rfl rfl hBB yv_X8_wind m_ml_L_26 c8 rfl rfl (Nat.le_of_ble_eq_true rfl) ⟨Nat.le_of_ble_eq_true rfl, Nat.le_of_ble_eq_true rfl⟩ ⟨Nat.le_of_ble_eq_true rfl, Nat.le_of_ble_eq_true rfl⟩ dL_law_265 rfl ?_
  exact v_icmp_eq X dL_law_268 (tgt := 872) (by decide) (fun _ => kk _ _ _ _ _ _ _ _ _ _ _ _ _ F1) (fun h => absurd rfl h)
set_option maxHeartbeats 1000000 in
theorem lc_3 {p : Program} {l : Launch} {e : Env} {s : State} {m : MethodId} {args : Array Value} {below : List Frame} {meth : Method} {c : Code} {Q : State → Prop} {g : Ge} (X : Cx p args s m meth c g cL_law 4 RL ret 0) {b Ls o : Nat} {xs : Nat → Int32} {f : Pic} (hXs : va_X b Ls xs s s.heap) (hbl : b < s.heap.size) (hbA : ¬ gA g b) (hBB : BB g 184 o 184) {i : Nat} (hi : i + 4 ≤ Ls) (hLs : Ls ≤ 2048) {σ ρ : Nat → Int32} {S P : Nat → Nat → Int32} {φ κ τ π μ kp hs tx ι : Nat → Int32} (F : Fr σ ρ S P τ π μ hs tx ι) (kk : ∀ (σ ρ : Nat → Int32) (S P : Nat → Nat → Int32) (φ κ τ π μ kp hs tx ι : Nat → Int32), Fr σ ρ S P τ π μ hs tx ι → V p l e room_1 s m args below meth c Q g 4 184 4443 184 (PW f o (xL g o σ ρ S P φ κ τ π) (mdL g (o + 179) μ kp hs tx ι)) 872 [some (.ref b), some (.ref o), some (.ref (o + 179)), some (.int (nI i))] []) : V p l e room_1 s m args below meth c Q g 4 184 4443 184 (PW f o (xL g o σ ρ S P φ κ τ π) (mdL g (o + 179) μ kp hs tx ι)) 273 [some (.ref b), some (.ref o), some (.ref (o + 179)), some (.int (nI i))] [] := by
  obtain ⟨r, σ1, ρ1, S1, P1, φ1, κ1, τ1, π1, μ1, kp1, hs1, tx1, ι1, ⟨x, rfl⟩, F1, c7, c8⟩ := pr_moveBoxes l g 184 o σ ρ S P φ κ τ π μ kp hs tx ι F (xs (nI i + 1).toNatClampNeg) (xs (nI i + 2).toNatClampNeg)
  refine v_aload_n X dL_law_273 (i := 1) rfl rfl ?_
  refine v_aload_n X dL_law_274 (i := 0) rfl rfl ?_
  refine v_iload_n X dL_law_275 (i := 3) rfl rfl ?_
  refine v_iconst X dL_law_276 (v := (1 : Int32)) (by decide) ?_
  refine v_iadd X dL_law_277 ?_
  refine v_sld X hXs hbl hbA (in_i (i := i) (k := 1) (ix_add rfl rfl) (by omega) hLs) dL_law_278 ?_
  refine v_aload_n X dL_law_279 (i := 0) rfl rfl ?_
  refine v_iload_n X dL_law_280 (i := 3) rfl rfl ?_
  refine v_iconst X dL_law_281 (v := (2 : Int32)) (by decide) ?_
  refine v_iadd X dL_law_282 ?_
  refine v_sld X hXs hbl hbA (in_i (i := i) (k := 2) (ix_add rfl rfl) (by omega) hLs) dL_law_283 ?_
  refine v_lwx X [.int (xs (nI i + 1).toNatClampNeg), .int (xs (nI i + 2).toNatClampNeg)] xL_len xL_len rfl rfl hBB yv_X7_moveBoxes m_ml_L_27 c7 rfl rfl (Nat.le_of_ble_eq_true rfl) ⟨Nat.le_of_ble_eq_true rfl, Nat.le_of_ble_eq_true rfl⟩ ⟨Nat.le_of_ble_eq_true rfl, Nat.le_of_ble_eq_true rfl⟩ dL_law_284 rfl ?_
  refine v_aload_n X dL_law_287 (i := 2) rfl rfl ?_
  refine v_aload_n X dL_law_288 (i := 0) rfl rfl ?_
  refine v_iload_n X dL_law_289 (i := 3) rfl rfl ?_
  refine v_iconst X dL_law_290 (v := (1 : Int32)) (by decide) ?_
  refine v_iadd X dL_law_291 ?_
  refine v_sld X hXs hbl hbA (in_i (i := i) (k := 1) (ix_add rfl rfl) (by omega) hLs) dL_law_292 ?_
  refine v_aload_n X dL_law_293 (i := 0) rfl rfl ?_
  refine v_iload_n X dL_law_294 (i := 3) rfl rfl ?_
  refine v_iconst X dL_law_295 (v := (2 : Int32)) (by decide) ?_
  refine v_iadd X dL_law_296 ?_
  refine v_sld X hXs hbl hbA (in_i (i := i) (k := 2) (ix_add rfl rfl) (by omega) hLs) dL_law_297 ?_
  refine v_lwm X [.int (xs (nI i + 1).toNatClampNeg), .int (xs (nI i + 2).toNatClampNeg)] mdL_len rfl rfl hBB yv_X8_moveBoxes m_ml_L_31 c8 rfl rfl (Nat.le_of_ble_eq_true rfl) ⟨Nat.le_of_ble_eq_true rfl, Nat.le_of_ble_eq_true rfl⟩ ⟨Nat.le_of_ble_eq_true rfl, Nat.le_of_ble_eq_true rfl⟩ dL_law_298 rfl ?_
  exact v_icmp_eq X dL_law_301 (tgt := 872) (by decide) (fun _ => kk _ _ _ _ _ _ _ _ _ _ _ _ _ F1) (fun h => absurd rfl h)
set_option maxHeartbeats 1000000 in
theorem lc_4 {p : Program} {l : Launch} {e : Env} {s : State} {m : MethodId} {args : Array Value} {below : List Frame} {meth : Method} {c : Code} {Q : State → Prop} {g : Ge} (X : Cx p args s m meth c g cL_law 4 RL ret 0) {b Ls o : Nat} {xs : Nat → Int32} {f : Pic} (hXs : va_X b Ls xs s s.heap) (hbl : b < s.heap.size) (hbA : ¬ gA g b) (hBB : BB g 184 o 184) {i : Nat} (hi : i + 4 ≤ Ls) (hLs : Ls ≤ 2048) {σ ρ : Nat → Int32} {S P : Nat → Nat → Int32} {φ κ τ π μ kp hs tx ι : Nat → Int32} (F : Fr σ ρ S P τ π μ hs tx ι) (kk : ∀ (σ ρ : Nat → Int32) (S P : Nat → Nat → Int32) (φ κ τ π μ kp hs tx ι : Nat → Int32), Fr σ ρ S P τ π μ hs tx ι → V p l e room_1 s m args below meth c Q g 4 184 4443 184 (PW f o (xL g o σ ρ S P φ κ τ π) (mdL g (o + 179) μ kp hs tx ι)) 872 [some (.ref b), some (.ref o), some (.ref (o + 179)), some (.int (nI i))] []) : V p l e room_1 s m args below meth c Q g 4 184 4443 184 (PW f o (xL g o σ ρ S P φ κ τ π) (mdL g (o + 179) μ kp hs tx ι)) 306 [some (.ref b), some (.ref o), some (.ref (o + 179)), some (.int (nI i))] [] := by
  obtain ⟨r, σ1, ρ1, S1, P1, φ1, κ1, τ1, π1, μ1, kp1, hs1, tx1, ι1, ⟨x, rfl⟩, F1, c7, c8⟩ := pr_draw l g 184 o σ ρ S P φ κ τ π μ kp hs tx ι F (xs (nI i + 1).toNatClampNeg) (xs (nI i + 2).toNatClampNeg)
  refine v_aload_n X dL_law_306 (i := 1) rfl rfl ?_
  refine v_aload_n X dL_law_307 (i := 0) rfl rfl ?_
  refine v_iload_n X dL_law_308 (i := 3) rfl rfl ?_
  refine v_iconst X dL_law_309 (v := (1 : Int32)) (by decide) ?_
  refine v_iadd X dL_law_310 ?_
  refine v_sld X hXs hbl hbA (in_i (i := i) (k := 1) (ix_add rfl rfl) (by omega) hLs) dL_law_311 ?_
  refine v_aload_n X dL_law_312 (i := 0) rfl rfl ?_
  refine v_iload_n X dL_law_313 (i := 3) rfl rfl ?_
  refine v_iconst X dL_law_314 (v := (2 : Int32)) (by decide) ?_
  refine v_iadd X dL_law_315 ?_
  refine v_sld X hXs hbl hbA (in_i (i := i) (k := 2) (ix_add rfl rfl) (by omega) hLs) dL_law_316 ?_
  refine v_lwx X [.int (xs (nI i + 1).toNatClampNeg), .int (xs (nI i + 2).toNatClampNeg)] xL_len xL_len rfl rfl hBB yv_X7_draw m_ml_L_32 c7 rfl rfl (Nat.le_of_ble_eq_true rfl) ⟨Nat.le_of_ble_eq_true rfl, Nat.le_of_ble_eq_true rfl⟩ ⟨Nat.le_of_ble_eq_true rfl, Nat.le_of_ble_eq_true rfl⟩ dL_law_317 rfl ?_
  refine v_aload_n X dL_law_320 (i := 2) rfl rfl ?_
  refine v_aload_n X dL_law_321 (i := 0) rfl rfl ?_
  refine v_iload_n X dL_law_322 (i := 3) rfl rfl ?_
  refine v_iconst X dL_law_323 (v := (1 : Int32)) (by decide) ?_
  refine v_iadd X dL_law_324 ?_
  refine v_sld X hXs hbl hbA (in_i (i := i) (k := 1) (ix_add rfl rfl) (by omega) hLs) dL_law_325 ?_
  refine v_aload_n X dL_law_326 (i := 0) rfl rfl ?_
  refine v_iload_n X dL_law_327 (i := 3) rfl rfl ?_
  refine v_iconst X dL_law_328 (v := (2 : Int32)) (by decide) ?_
  refine v_iadd X dL_law_329 ?_
  refine v_sld X hXs hbl hbA (in_i (i := i) (k := 2) (ix_add rfl rfl) (by omega) hLs) dL_law_330 ?_
  refine v_lwm X [.int (xs (nI i + 1).toNatClampNeg), .int (xs (nI i + 2).toNatClampNeg)] mdL_len rfl rfl hBB yv_X8_draw m_ml_L_35 c8 rfl rfl (Nat.le_of_ble_eq_true rfl) ⟨Nat.le_of_ble_eq_true rfl, Nat.le_of_ble_eq_true rfl⟩ ⟨Nat.le_of_ble_eq_true rfl, Nat.le_of_ble_eq_true rfl⟩ dL_law_331 rfl ?_
  exact v_icmp_eq X dL_law_334 (tgt := 872) (by decide) (fun _ => kk _ _ _ _ _ _ _ _ _ _ _ _ _ F1) (fun h => absurd rfl h)
set_option maxHeartbeats 1000000 in
theorem lc_5 {p : Program} {l : Launch} {e : Env} {s : State} {m : MethodId} {args : Array Value} {below : List Frame} {meth : Method} {c : Code} {Q : State → Prop} {g : Ge} (X : Cx p args s m meth c g cL_law 4 RL ret 0) {b Ls o : Nat} {xs : Nat → Int32} {f : Pic} (hXs : va_X b Ls xs s s.heap) (hbl : b < s.heap.size) (hbA : ¬ gA g b) (hBB : BB g 184 o 184) {i : Nat} (hi : i + 4 ≤ Ls) (hLs : Ls ≤ 2048) {σ ρ : Nat → Int32} {S P : Nat → Nat → Int32} {φ κ τ π μ kp hs tx ι : Nat → Int32} (F : Fr σ ρ S P τ π μ hs tx ι) (kk : ∀ (σ ρ : Nat → Int32) (S P : Nat → Nat → Int32) (φ κ τ π μ kp hs tx ι : Nat → Int32), Fr σ ρ S P τ π μ hs tx ι → V p l e room_1 s m args below meth c Q g 4 184 4443 184 (PW f o (xL g o σ ρ S P φ κ τ π) (mdL g (o + 179) μ kp hs tx ι)) 872 [some (.ref b), some (.ref o), some (.ref (o + 179)), some (.int (nI i))] []) : V p l e room_1 s m args below meth c Q g 4 184 4443 184 (PW f o (xL g o σ ρ S P φ κ τ π) (mdL g (o + 179) μ kp hs tx ι)) 339 [some (.ref b), some (.ref o), some (.ref (o + 179)), some (.int (nI i))] [] := by
  obtain ⟨r, σ1, ρ1, S1, P1, φ1, κ1, τ1, π1, μ1, kp1, hs1, tx1, ι1, ⟨x, rfl⟩, F1, c7, c8⟩ := pr_mend l g 184 o σ ρ S P φ κ τ π μ kp hs tx ι F (xs (nI i + 1).toNatClampNeg) (xs (nI i + 2).toNatClampNeg)
  refine v_aload_n X dL_law_339 (i := 1) rfl rfl ?_
  refine v_aload_n X dL_law_340 (i := 0) rfl rfl ?_
  refine v_iload_n X dL_law_341 (i := 3) rfl rfl ?_
  refine v_iconst X dL_law_342 (v := (1 : Int32)) (by decide) ?_
  refine v_iadd X dL_law_343 ?_
  refine v_sld X hXs hbl hbA (in_i (i := i) (k := 1) (ix_add rfl rfl) (by omega) hLs) dL_law_344 ?_
  refine v_aload_n X dL_law_345 (i := 0) rfl rfl ?_
  refine v_iload_n X dL_law_346 (i := 3) rfl rfl ?_
  refine v_iconst X dL_law_347 (v := (2 : Int32)) (by decide) ?_
  refine v_iadd X dL_law_348 ?_
  refine v_sld X hXs hbl hbA (in_i (i := i) (k := 2) (ix_add rfl rfl) (by omega) hLs) dL_law_349 ?_
  refine v_lwx X [.int (xs (nI i + 1).toNatClampNeg), .int (xs (nI i + 2).toNatClampNeg)] xL_len xL_len rfl rfl hBB yv_X7_mend m_ml_L_36 c7 rfl rfl (Nat.le_of_ble_eq_true rfl) ⟨Nat.le_of_ble_eq_true rfl, Nat.le_of_ble_eq_true rfl⟩ ⟨Nat.le_of_ble_eq_true rfl, Nat.le_of_ble_eq_true rfl⟩ dL_law_350 rfl ?_
  refine v_aload_n X dL_law_353 (i := 2) rfl rfl ?_
  refine v_aload_n X dL_law_354 (i := 0) rfl rfl ?_
  refine v_iload_n X dL_law_355 (i := 3) rfl rfl ?_
  refine v_iconst X dL_law_356 (v := (1 : Int32)) (by decide) ?_
  refine v_iadd X dL_law_357 ?_
  refine v_sld X hXs hbl hbA (in_i (i := i) (k := 1) (ix_add rfl rfl) (by omega) hLs) dL_law_358 ?_
  refine v_aload_n X dL_law_359 (i := 0) rfl rfl ?_
  refine v_iload_n X dL_law_360 (i := 3) rfl rfl ?_
  refine v_iconst X dL_law_361 (v := (2 : Int32)) (by decide) ?_
  refine v_iadd X dL_law_362 ?_
  refine v_sld X hXs hbl hbA (in_i (i := i) (k := 2) (ix_add rfl rfl) (by omega) hLs) dL_law_363 ?_
  refine v_lwm X [.int (xs (nI i + 1).toNatClampNeg), .int (xs (nI i + 2).toNatClampNeg)] mdL_len rfl rfl hBB yv_X8_mend m_ml_L_39 c8 rfl rfl (Nat.le_of_ble_eq_true rfl) ⟨Nat.le_of_ble_eq_true rfl, Nat.le_of_ble_eq_true rfl⟩ ⟨Nat.le_of_ble_eq_true rfl, Nat.le_of_ble_eq_true rfl⟩ dL_law_364 rfl ?_
  exact v_icmp_eq X dL_law_367 (tgt := 872) (by decide) (fun _ => kk _ _ _ _ _ _ _ _ _ _ _ _ _ F1) (fun h => absurd rfl h)
set_option maxHeartbeats 1000000 in
theorem lc_6 {p : Program} {l : Launch} {e : Env} {s : State} {m : MethodId} {args : Array Value} {below : List Frame} {meth : Method} {c : Code} {Q : State → Prop} {g : Ge} (X : Cx p args s m meth c g cL_law 4 RL ret 0) {b Ls o : Nat} {xs : Nat → Int32} {f : Pic} (hXs : va_X b Ls xs s s.heap) (hbl : b < s.heap.size) (hbA : ¬ gA g b) (hBB : BB g 184 o 184) {i : Nat} (hi : i + 4 ≤ Ls) (hLs : Ls ≤ 2048) {σ ρ : Nat → Int32} {S P : Nat → Nat → Int32} {φ κ τ π μ kp hs tx ι : Nat → Int32} (F : Fr σ ρ S P τ π μ hs tx ι) (kk : ∀ (σ ρ : Nat → Int32) (S P : Nat → Nat → Int32) (φ κ τ π μ kp hs tx ι : Nat → Int32), Fr σ ρ S P τ π μ hs tx ι → V p l e room_1 s m args below meth c Q g 4 184 4443 184 (PW f o (xL g o σ ρ S P φ κ τ π) (mdL g (o + 179) μ kp hs tx ι)) 872 [some (.ref b), some (.ref o), some (.ref (o + 179)), some (.int (nI i))] []) : V p l e room_1 s m args below meth c Q g 4 184 4443 184 (PW f o (xL g o σ ρ S P φ κ τ π) (mdL g (o + 179) μ kp hs tx ι)) 372 [some (.ref b), some (.ref o), some (.ref (o + 179)), some (.int (nI i))] [] := by
  obtain ⟨r, σ1, ρ1, S1, P1, φ1, κ1, τ1, π1, μ1, kp1, hs1, tx1, ι1, ⟨x, rfl⟩, F1, c7, c8⟩ := pr_setSpeed l g 184 o σ ρ S P φ κ τ π μ kp hs tx ι F (xs (nI i + 1).toNatClampNeg)
  refine v_aload_n X dL_law_372 (i := 1) rfl rfl ?_
  refine v_aload_n X dL_law_373 (i := 0) rfl rfl ?_
  refine v_iload_n X dL_law_374 (i := 3) rfl rfl ?_
  refine v_iconst X dL_law_375 (v := (1 : Int32)) (by decide) ?_
  refine v_iadd X dL_law_376 ?_
  refine v_sld X hXs hbl hbA (in_i (i := i) (k := 1) (ix_add rfl rfl) (by omega) hLs) dL_law_377 ?_
  refine v_lwx X [.int (xs (nI i + 1).toNatClampNeg)] xL_len xL_len rfl rfl hBB yv_X7_setSpeed m_ml_L_40 c7 rfl rfl (Nat.le_of_ble_eq_true rfl) ⟨Nat.le_of_ble_eq_true rfl, Nat.le_of_ble_eq_true rfl⟩ ⟨Nat.le_of_ble_eq_true rfl, Nat.le_of_ble_eq_true rfl⟩ dL_law_378 rfl ?_
  refine v_aload_n X dL_law_381 (i := 2) rfl rfl ?_
  refine v_aload_n X dL_law_382 (i := 0) rfl rfl ?_
  refine v_iload_n X dL_law_383 (i := 3) rfl rfl ?_
  refine v_iconst X dL_law_384 (v := (1 : Int32)) (by decide) ?_
  refine v_iadd X dL_law_385 ?_
  refine v_sld X hXs hbl hbA (in_i (i := i) (k := 1) (ix_add rfl rfl) (by omega) hLs) dL_law_386 ?_
  refine v_lwm X [.int (xs (nI i + 1).toNatClampNeg)] mdL_len rfl rfl hBB yv_X8_setSpeed m_ml_L_43 c8 rfl rfl (Nat.le_of_ble_eq_true rfl) ⟨Nat.le_of_ble_eq_true rfl, Nat.le_of_ble_eq_true rfl⟩ ⟨Nat.le_of_ble_eq_true rfl, Nat.le_of_ble_eq_true rfl⟩ dL_law_387 rfl ?_
  exact v_icmp_eq X dL_law_390 (tgt := 872) (by decide) (fun _ => kk _ _ _ _ _ _ _ _ _ _ _ _ _ F1) (fun h => absurd rfl h)
set_option maxHeartbeats 1000000 in
theorem lc_7 {p : Program} {l : Launch} {e : Env} {s : State} {m : MethodId} {args : Array Value} {below : List Frame} {meth : Method} {c : Code} {Q : State → Prop} {g : Ge} (X : Cx p args s m meth c g cL_law 4 RL ret 0) {b Ls o : Nat} {xs : Nat → Int32} {f : Pic} (hXs : va_X b Ls xs s s.heap) (hbl : b < s.heap.size) (hbA : ¬ gA g b) (hBB : BB g 184 o 184) {i : Nat} (hi : i + 4 ≤ Ls) (hLs : Ls ≤ 2048) {σ ρ : Nat → Int32} {S P : Nat → Nat → Int32} {φ κ τ π μ kp hs tx ι : Nat → Int32} (F : Fr σ ρ S P τ π μ hs tx ι) (kk : ∀ (σ ρ : Nat → Int32) (S P : Nat → Nat → Int32) (φ κ τ π μ kp hs tx ι : Nat → Int32), Fr σ ρ S P τ π μ hs tx ι → V p l e room_1 s m args below meth c Q g 4 184 4443 184 (PW f o (xL g o σ ρ S P φ κ τ π) (mdL g (o + 179) μ kp hs tx ι)) 872 [some (.ref b), some (.ref o), some (.ref (o + 179)), some (.int (nI i))] []) : V p l e room_1 s m args below meth c Q g 4 184 4443 184 (PW f o (xL g o σ ρ S P φ κ τ π) (mdL g (o + 179) μ kp hs tx ι)) 395 [some (.ref b), some (.ref o), some (.ref (o + 179)), some (.int (nI i))] [] := by
  obtain ⟨r, σ1, ρ1, S1, P1, φ1, κ1, τ1, π1, μ1, kp1, hs1, tx1, ι1, ⟨x, rfl⟩, F1, c7, c8⟩ := pr_addCard l g 184 o σ ρ S P φ κ τ π μ kp hs tx ι F (xs (nI i + 1).toNatClampNeg) (xs (nI i + 2).toNatClampNeg) (xs (nI i + 3).toNatClampNeg)
  refine v_aload_n X dL_law_395 (i := 1) rfl rfl ?_
  refine v_aload_n X dL_law_396 (i := 0) rfl rfl ?_
  refine v_iload_n X dL_law_397 (i := 3) rfl rfl ?_
  refine v_iconst X dL_law_398 (v := (1 : Int32)) (by decide) ?_
  refine v_iadd X dL_law_399 ?_
  refine v_sld X hXs hbl hbA (in_i (i := i) (k := 1) (ix_add rfl rfl) (by omega) hLs) dL_law_400 ?_
  refine v_aload_n X dL_law_401 (i := 0) rfl rfl ?_
  refine v_iload_n X dL_law_402 (i := 3) rfl rfl ?_
  refine v_iconst X dL_law_403 (v := (2 : Int32)) (by decide) ?_
  refine v_iadd X dL_law_404 ?_
  refine v_sld X hXs hbl hbA (in_i (i := i) (k := 2) (ix_add rfl rfl) (by omega) hLs) dL_law_405 ?_
  refine v_aload_n X dL_law_406 (i := 0) rfl rfl ?_
  refine v_iload_n X dL_law_407 (i := 3) rfl rfl ?_
  refine v_iconst X dL_law_408 (v := (3 : Int32)) (by decide) ?_
  refine v_iadd X dL_law_409 ?_
  refine v_sld X hXs hbl hbA (in_i (i := i) (k := 3) (ix_add rfl rfl) (by omega) hLs) dL_law_410 ?_
  refine v_lwx X [.int (xs (nI i + 1).toNatClampNeg), .int (xs (nI i + 2).toNatClampNeg), .int (xs (nI i + 3).toNatClampNeg)] xL_len xL_len rfl rfl hBB yv_X7_addCard m_ml_L_44 c7 rfl rfl (Nat.le_of_ble_eq_true rfl) ⟨Nat.le_of_ble_eq_true rfl, Nat.le_of_ble_eq_true rfl⟩ ⟨Nat.le_of_ble_eq_true rfl, Nat.le_of_ble_eq_true rfl⟩ dL_law_411 rfl ?_
  refine v_aload_n X dL_law_414 (i := 2) rfl rfl ?_
  refine v_aload_n X dL_law_415 (i := 0) rfl rfl ?_
  refine v_iload_n X dL_law_416 (i := 3) rfl rfl ?_
  refine v_iconst X dL_law_417 (v := (1 : Int32)) (by decide) ?_
  refine v_iadd X dL_law_418 ?_
  refine v_sld X hXs hbl hbA (in_i (i := i) (k := 1) (ix_add rfl rfl) (by omega) hLs) dL_law_419 ?_
  refine v_aload_n X dL_law_420 (i := 0) rfl rfl ?_
  refine v_iload_n X dL_law_421 (i := 3) rfl rfl ?_
  refine v_iconst X dL_law_422 (v := (2 : Int32)) (by decide) ?_
  refine v_iadd X dL_law_423 ?_
  refine v_sld X hXs hbl hbA (in_i (i := i) (k := 2) (ix_add rfl rfl) (by omega) hLs) dL_law_424 ?_
  refine v_aload_n X dL_law_425 (i := 0) rfl rfl ?_
  refine v_iload_n X dL_law_426 (i := 3) rfl rfl ?_
  refine v_iconst X dL_law_427 (v := (3 : Int32)) (by decide) ?_
  refine v_iadd X dL_law_428 ?_
  refine v_sld X hXs hbl hbA (in_i (i := i) (k := 3) (ix_add rfl rfl) (by omega) hLs) dL_law_429 ?_
  refine v_lwm X [.int (xs (nI i + 1).toNatClampNeg), .int (xs (nI i + 2).toNatClampNeg), .int (xs (nI i + 3).toNatClampNeg)] mdL_len rfl rfl hBB yv_X8_addCard m_ml_L_47 c8 rfl rfl (Nat.le_of_ble_eq_true rfl) ⟨Nat.le_of_ble_eq_true rfl, Nat.le_of_ble_eq_true rfl⟩ ⟨Nat.le_of_ble_eq_true rfl, Nat.le_of_ble_eq_true rfl⟩ dL_law_430 rfl ?_
  exact v_icmp_eq X dL_law_433 (tgt := 872) (by decide) (fun _ => kk _ _ _ _ _ _ _ _ _ _ _ _ _ F1) (fun h => absurd rfl h)
set_option maxHeartbeats 1000000 in
theorem lc_8 {p : Program} {l : Launch} {e : Env} {s : State} {m : MethodId} {args : Array Value} {below : List Frame} {meth : Method} {c : Code} {Q : State → Prop} {g : Ge} (X : Cx p args s m meth c g cL_law 4 RL ret 0) {b Ls o : Nat} {xs : Nat → Int32} {f : Pic} (hXs : va_X b Ls xs s s.heap) (hbl : b < s.heap.size) (hbA : ¬ gA g b) (hBB : BB g 184 o 184) {i : Nat} (hi : i + 4 ≤ Ls) (hLs : Ls ≤ 2048) {σ ρ : Nat → Int32} {S P : Nat → Nat → Int32} {φ κ τ π μ kp hs tx ι : Nat → Int32} (F : Fr σ ρ S P τ π μ hs tx ι) (kk : ∀ (σ ρ : Nat → Int32) (S P : Nat → Nat → Int32) (φ κ τ π μ kp hs tx ι : Nat → Int32), Fr σ ρ S P τ π μ hs tx ι → V p l e room_1 s m args below meth c Q g 4 184 4443 184 (PW f o (xL g o σ ρ S P φ κ τ π) (mdL g (o + 179) μ kp hs tx ι)) 872 [some (.ref b), some (.ref o), some (.ref (o + 179)), some (.int (nI i))] []) : V p l e room_1 s m args below meth c Q g 4 184 4443 184 (PW f o (xL g o σ ρ S P φ κ τ π) (mdL g (o + 179) μ kp hs tx ι)) 438 [some (.ref b), some (.ref o), some (.ref (o + 179)), some (.int (nI i))] [] := by
  obtain ⟨r, σ1, ρ1, S1, P1, φ1, κ1, τ1, π1, μ1, kp1, hs1, tx1, ι1, ⟨x, rfl⟩, F1, c7, c8⟩ := pr_removeCard l g 184 o σ ρ S P φ κ τ π μ kp hs tx ι F (xs (nI i + 1).toNatClampNeg)
  refine v_aload_n X dL_law_438 (i := 1) rfl rfl ?_
  refine v_aload_n X dL_law_439 (i := 0) rfl rfl ?_
  refine v_iload_n X dL_law_440 (i := 3) rfl rfl ?_
  refine v_iconst X dL_law_441 (v := (1 : Int32)) (by decide) ?_
  refine v_iadd X dL_law_442 ?_
  refine v_sld X hXs hbl hbA (in_i (i := i) (k := 1) (ix_add rfl rfl) (by omega) hLs) dL_law_443 ?_
  refine v_lwx X [.int (xs (nI i + 1).toNatClampNeg)] xL_len xL_len rfl rfl hBB yv_X7_removeCard m_ml_L_48 c7 rfl rfl (Nat.le_of_ble_eq_true rfl) ⟨Nat.le_of_ble_eq_true rfl, Nat.le_of_ble_eq_true rfl⟩ ⟨Nat.le_of_ble_eq_true rfl, Nat.le_of_ble_eq_true rfl⟩ dL_law_444 rfl ?_
  refine v_aload_n X dL_law_447 (i := 2) rfl rfl ?_
  refine v_aload_n X dL_law_448 (i := 0) rfl rfl ?_
  refine v_iload_n X dL_law_449 (i := 3) rfl rfl ?_
  refine v_iconst X dL_law_450 (v := (1 : Int32)) (by decide) ?_
  refine v_iadd X dL_law_451 ?_
  refine v_sld X hXs hbl hbA (in_i (i := i) (k := 1) (ix_add rfl rfl) (by omega) hLs) dL_law_452 ?_
  refine v_lwm X [.int (xs (nI i + 1).toNatClampNeg)] mdL_len rfl rfl hBB yv_X8_removeCard m_ml_L_51 c8 rfl rfl (Nat.le_of_ble_eq_true rfl) ⟨Nat.le_of_ble_eq_true rfl, Nat.le_of_ble_eq_true rfl⟩ ⟨Nat.le_of_ble_eq_true rfl, Nat.le_of_ble_eq_true rfl⟩ dL_law_453 rfl ?_
  exact v_icmp_eq X dL_law_456 (tgt := 872) (by decide) (fun _ => kk _ _ _ _ _ _ _ _ _ _ _ _ _ F1) (fun h => absurd rfl h)
set_option maxHeartbeats 1000000 in
theorem lc_9 {p : Program} {l : Launch} {e : Env} {s : State} {m : MethodId} {args : Array Value} {below : List Frame} {meth : Method} {c : Code} {Q : State → Prop} {g : Ge} (X : Cx p args s m meth c g cL_law 4 RL ret 0) {b Ls o : Nat} {xs : Nat → Int32} {f : Pic} (hXs : va_X b Ls xs s s.heap) (hbl : b < s.heap.size) (hbA : ¬ gA g b) (hBB : BB g 184 o 184) {i : Nat} (hi : i + 4 ≤ Ls) (hLs : Ls ≤ 2048) {σ ρ : Nat → Int32} {S P : Nat → Nat → Int32} {φ κ τ π μ kp hs tx ι : Nat → Int32} (F : Fr σ ρ S P τ π μ hs tx ι) (kk : ∀ (σ ρ : Nat → Int32) (S P : Nat → Nat → Int32) (φ κ τ π μ kp hs tx ι : Nat → Int32), Fr σ ρ S P τ π μ hs tx ι → V p l e room_1 s m args below meth c Q g 4 184 4443 184 (PW f o (xL g o σ ρ S P φ κ τ π) (mdL g (o + 179) μ kp hs tx ι)) 872 [some (.ref b), some (.ref o), some (.ref (o + 179)), some (.int (nI i))] []) : V p l e room_1 s m args below meth c Q g 4 184 4443 184 (PW f o (xL g o σ ρ S P φ κ τ π) (mdL g (o + 179) μ kp hs tx ι)) 461 [some (.ref b), some (.ref o), some (.ref (o + 179)), some (.int (nI i))] [] := by
  obtain ⟨r, σ1, ρ1, S1, P1, φ1, κ1, τ1, π1, μ1, kp1, hs1, tx1, ι1, ⟨x, rfl⟩, F1, c7, c8⟩ := pr_turnTo l g 184 o σ ρ S P φ κ τ π μ kp hs tx ι F (xs (nI i + 1).toNatClampNeg)
  refine v_aload_n X dL_law_461 (i := 1) rfl rfl ?_
  refine v_aload_n X dL_law_462 (i := 0) rfl rfl ?_
  refine v_iload_n X dL_law_463 (i := 3) rfl rfl ?_
  refine v_iconst X dL_law_464 (v := (1 : Int32)) (by decide) ?_
  refine v_iadd X dL_law_465 ?_
  refine v_sld X hXs hbl hbA (in_i (i := i) (k := 1) (ix_add rfl rfl) (by omega) hLs) dL_law_466 ?_
  refine v_lwx X [.int (xs (nI i + 1).toNatClampNeg)] xL_len xL_len rfl rfl hBB yv_X7_turnTo m_ml_L_52 c7 rfl rfl (Nat.le_of_ble_eq_true rfl) ⟨Nat.le_of_ble_eq_true rfl, Nat.le_of_ble_eq_true rfl⟩ ⟨Nat.le_of_ble_eq_true rfl, Nat.le_of_ble_eq_true rfl⟩ dL_law_467 rfl ?_
  refine v_aload_n X dL_law_470 (i := 2) rfl rfl ?_
  refine v_aload_n X dL_law_471 (i := 0) rfl rfl ?_
  refine v_iload_n X dL_law_472 (i := 3) rfl rfl ?_
  refine v_iconst X dL_law_473 (v := (1 : Int32)) (by decide) ?_
  refine v_iadd X dL_law_474 ?_
  refine v_sld X hXs hbl hbA (in_i (i := i) (k := 1) (ix_add rfl rfl) (by omega) hLs) dL_law_475 ?_
  refine v_lwm X [.int (xs (nI i + 1).toNatClampNeg)] mdL_len rfl rfl hBB yv_X8_turnTo m_ml_L_55 c8 rfl rfl (Nat.le_of_ble_eq_true rfl) ⟨Nat.le_of_ble_eq_true rfl, Nat.le_of_ble_eq_true rfl⟩ ⟨Nat.le_of_ble_eq_true rfl, Nat.le_of_ble_eq_true rfl⟩ dL_law_476 rfl ?_
  exact v_icmp_eq X dL_law_479 (tgt := 872) (by decide) (fun _ => kk _ _ _ _ _ _ _ _ _ _ _ _ _ F1) (fun h => absurd rfl h)
set_option maxHeartbeats 1000000 in
theorem lc_10 {p : Program} {l : Launch} {e : Env} {s : State} {m : MethodId} {args : Array Value} {below : List Frame} {meth : Method} {c : Code} {Q : State → Prop} {g : Ge} (X : Cx p args s m meth c g cL_law 4 RL ret 0) {b Ls o : Nat} {xs : Nat → Int32} {f : Pic} (hXs : va_X b Ls xs s s.heap) (hbl : b < s.heap.size) (hbA : ¬ gA g b) (hBB : BB g 184 o 184) {i : Nat} (hi : i + 4 ≤ Ls) (hLs : Ls ≤ 2048) {σ ρ : Nat → Int32} {S P : Nat → Nat → Int32} {φ κ τ π μ kp hs tx ι : Nat → Int32} (F : Fr σ ρ S P τ π μ hs tx ι) (kk : ∀ (σ ρ : Nat → Int32) (S P : Nat → Nat → Int32) (φ κ τ π μ kp hs tx ι : Nat → Int32), Fr σ ρ S P τ π μ hs tx ι → V p l e room_1 s m args below meth c Q g 4 184 4443 184 (PW f o (xL g o σ ρ S P φ κ τ π) (mdL g (o + 179) μ kp hs tx ι)) 872 [some (.ref b), some (.ref o), some (.ref (o + 179)), some (.int (nI i))] []) : V p l e room_1 s m args below meth c Q g 4 184 4443 184 (PW f o (xL g o σ ρ S P φ κ τ π) (mdL g (o + 179) μ kp hs tx ι)) 484 [some (.ref b), some (.ref o), some (.ref (o + 179)), some (.int (nI i))] [] := by
  obtain ⟨r, σ1, ρ1, S1, P1, φ1, κ1, τ1, π1, μ1, kp1, hs1, tx1, ι1, ⟨x, rfl⟩, F1, c7, c8⟩ := pr_weave l g 184 o σ ρ S P φ κ τ π μ kp hs tx ι F (xs (nI i + 1).toNatClampNeg)
  refine v_aload_n X dL_law_484 (i := 1) rfl rfl ?_
  refine v_aload_n X dL_law_485 (i := 0) rfl rfl ?_
  refine v_iload_n X dL_law_486 (i := 3) rfl rfl ?_
  refine v_iconst X dL_law_487 (v := (1 : Int32)) (by decide) ?_
  refine v_iadd X dL_law_488 ?_
  refine v_sld X hXs hbl hbA (in_i (i := i) (k := 1) (ix_add rfl rfl) (by omega) hLs) dL_law_489 ?_
  refine v_lwx X [.int (xs (nI i + 1).toNatClampNeg)] xL_len xL_len rfl rfl hBB yv_X7_weave m_ml_L_56 c7 rfl rfl (Nat.le_of_ble_eq_true rfl) ⟨Nat.le_of_ble_eq_true rfl, Nat.le_of_ble_eq_true rfl⟩ ⟨Nat.le_of_ble_eq_true rfl, Nat.le_of_ble_eq_true rfl⟩ dL_law_490 rfl ?_
  refine v_aload_n X dL_law_493 (i := 2) rfl rfl ?_
  refine v_aload_n X dL_law_494 (i := 0) rfl rfl ?_
  refine v_iload_n X dL_law_495 (i := 3) rfl rfl ?_
  refine v_iconst X dL_law_496 (v := (1 : Int32)) (by decide) ?_
  refine v_iadd X dL_law_497 ?_
  refine v_sld X hXs hbl hbA (in_i (i := i) (k := 1) (ix_add rfl rfl) (by omega) hLs) dL_law_498 ?_
  refine v_lwm X [.int (xs (nI i + 1).toNatClampNeg)] mdL_len rfl rfl hBB yv_X8_weave m_ml_L_59 c8 rfl rfl (Nat.le_of_ble_eq_true rfl) ⟨Nat.le_of_ble_eq_true rfl, Nat.le_of_ble_eq_true rfl⟩ ⟨Nat.le_of_ble_eq_true rfl, Nat.le_of_ble_eq_true rfl⟩ dL_law_499 rfl ?_
  exact v_icmp_eq X dL_law_502 (tgt := 872) (by decide) (fun _ => kk _ _ _ _ _ _ _ _ _ _ _ _ _ F1) (fun h => absurd rfl h)
set_option maxHeartbeats 1000000 in
theorem lc_11 {p : Program} {l : Launch} {e : Env} {s : State} {m : MethodId} {args : Array Value} {below : List Frame} {meth : Method} {c : Code} {Q : State → Prop} {g : Ge} (X : Cx p args s m meth c g cL_law 4 RL ret 0) {b Ls o : Nat} {xs : Nat → Int32} {f : Pic} (hXs : va_X b Ls xs s s.heap) (hbl : b < s.heap.size) (hbA : ¬ gA g b) (hBB : BB g 184 o 184) {i : Nat} (hi : i + 4 ≤ Ls) (hLs : Ls ≤ 2048) {σ ρ : Nat → Int32} {S P : Nat → Nat → Int32} {φ κ τ π μ kp hs tx ι : Nat → Int32} (F : Fr σ ρ S P τ π μ hs tx ι) (kk : ∀ (σ ρ : Nat → Int32) (S P : Nat → Nat → Int32) (φ κ τ π μ kp hs tx ι : Nat → Int32), Fr σ ρ S P τ π μ hs tx ι → V p l e room_1 s m args below meth c Q g 4 184 4443 184 (PW f o (xL g o σ ρ S P φ κ τ π) (mdL g (o + 179) μ kp hs tx ι)) 872 [some (.ref b), some (.ref o), some (.ref (o + 179)), some (.int (nI i))] []) : V p l e room_1 s m args below meth c Q g 4 184 4443 184 (PW f o (xL g o σ ρ S P φ κ τ π) (mdL g (o + 179) μ kp hs tx ι)) 507 [some (.ref b), some (.ref o), some (.ref (o + 179)), some (.int (nI i))] [] := by
  obtain ⟨r, σ1, ρ1, S1, P1, φ1, κ1, τ1, π1, μ1, kp1, hs1, tx1, ι1, ⟨x, rfl⟩, F1, c7, c8⟩ := pr_takeBack l g 184 o σ ρ S P φ κ τ π μ kp hs tx ι F 
  refine v_aload_n X dL_law_507 (i := 1) rfl rfl ?_
  refine v_lwx X [] xL_len xL_len rfl rfl hBB yv_X7_takeBack m_ml_L_60 c7 rfl rfl (Nat.le_of_ble_eq_true rfl) ⟨Nat.le_of_ble_eq_true rfl, Nat.le_of_ble_eq_true rfl⟩ ⟨Nat.le_of_ble_eq_true rfl, Nat.le_of_ble_eq_true rfl⟩ dL_law_508 rfl ?_
  refine v_aload_n X dL_law_511 (i := 2) rfl rfl ?_
  refine v_lwm X [] mdL_len rfl rfl hBB yv_X8_takeBack m_ml_L_64 c8 rfl rfl (Nat.le_of_ble_eq_true rfl) ⟨Nat.le_of_ble_eq_true rfl, Nat.le_of_ble_eq_true rfl⟩ ⟨Nat.le_of_ble_eq_true rfl, Nat.le_of_ble_eq_true rfl⟩ dL_law_512 rfl ?_
  exact v_icmp_eq X dL_law_515 (tgt := 872) (by decide) (fun _ => kk _ _ _ _ _ _ _ _ _ _ _ _ _ F1) (fun h => absurd rfl h)
set_option maxHeartbeats 1000000 in
theorem lc_12 {p : Program} {l : Launch} {e : Env} {s : State} {m : MethodId} {args : Array Value} {below : List Frame} {meth : Method} {c : Code} {Q : State → Prop} {g : Ge} (X : Cx p args s m meth c g cL_law 4 RL ret 0) {b Ls o : Nat} {xs : Nat → Int32} {f : Pic} (hXs : va_X b Ls xs s s.heap) (hbl : b < s.heap.size) (hbA : ¬ gA g b) (hBB : BB g 184 o 184) {i : Nat} (hi : i + 4 ≤ Ls) (hLs : Ls ≤ 2048) {σ ρ : Nat → Int32} {S P : Nat → Nat → Int32} {φ κ τ π μ kp hs tx ι : Nat → Int32} (F : Fr σ ρ S P τ π μ hs tx ι) (kk : ∀ (σ ρ : Nat → Int32) (S P : Nat → Nat → Int32) (φ κ τ π μ kp hs tx ι : Nat → Int32), Fr σ ρ S P τ π μ hs tx ι → V p l e room_1 s m args below meth c Q g 4 184 4443 184 (PW f o (xL g o σ ρ S P φ κ τ π) (mdL g (o + 179) μ kp hs tx ι)) 872 [some (.ref b), some (.ref o), some (.ref (o + 179)), some (.int (nI i))] []) : V p l e room_1 s m args below meth c Q g 4 184 4443 184 (PW f o (xL g o σ ρ S P φ κ τ π) (mdL g (o + 179) μ kp hs tx ι)) 520 [some (.ref b), some (.ref o), some (.ref (o + 179)), some (.int (nI i))] [] := by
  obtain ⟨r, σ1, ρ1, S1, P1, φ1, κ1, τ1, π1, μ1, kp1, hs1, tx1, ι1, ⟨x, rfl⟩, F1, c7, c8⟩ := pr_count l g 184 o σ ρ S P φ κ τ π μ kp hs tx ι F (xs (nI i + 1).toNatClampNeg)
  refine v_aload_n X dL_law_520 (i := 1) rfl rfl ?_
  refine v_aload_n X dL_law_521 (i := 0) rfl rfl ?_
  refine v_iload_n X dL_law_522 (i := 3) rfl rfl ?_
  refine v_iconst X dL_law_523 (v := (1 : Int32)) (by decide) ?_
  refine v_iadd X dL_law_524 ?_
  refine v_sld X hXs hbl hbA (in_i (i := i) (k := 1) (ix_add rfl rfl) (by omega) hLs) dL_law_525 ?_
  refine v_lwx X [.int (xs (nI i + 1).toNatClampNeg)] xL_len xL_len rfl rfl hBB yv_X7_count m_ml_L_65 c7 rfl rfl (Nat.le_of_ble_eq_true rfl) ⟨Nat.le_of_ble_eq_true rfl, Nat.le_of_ble_eq_true rfl⟩ ⟨Nat.le_of_ble_eq_true rfl, Nat.le_of_ble_eq_true rfl⟩ dL_law_526 rfl ?_
  refine v_aload_n X dL_law_529 (i := 2) rfl rfl ?_
  refine v_aload_n X dL_law_530 (i := 0) rfl rfl ?_
  refine v_iload_n X dL_law_531 (i := 3) rfl rfl ?_
  refine v_iconst X dL_law_532 (v := (1 : Int32)) (by decide) ?_
  refine v_iadd X dL_law_533 ?_
  refine v_sld X hXs hbl hbA (in_i (i := i) (k := 1) (ix_add rfl rfl) (by omega) hLs) dL_law_534 ?_
  refine v_lwm X [.int (xs (nI i + 1).toNatClampNeg)] mdL_len rfl rfl hBB yv_X8_count m_ml_L_68 c8 rfl rfl (Nat.le_of_ble_eq_true rfl) ⟨Nat.le_of_ble_eq_true rfl, Nat.le_of_ble_eq_true rfl⟩ ⟨Nat.le_of_ble_eq_true rfl, Nat.le_of_ble_eq_true rfl⟩ dL_law_535 rfl ?_
  exact v_icmp_eq X dL_law_538 (tgt := 872) (by decide) (fun _ => kk _ _ _ _ _ _ _ _ _ _ _ _ _ F1) (fun h => absurd rfl h)
set_option maxHeartbeats 1000000 in
theorem lc_13 {p : Program} {l : Launch} {e : Env} {s : State} {m : MethodId} {args : Array Value} {below : List Frame} {meth : Method} {c : Code} {Q : State → Prop} {g : Ge} (X : Cx p args s m meth c g cL_law 4 RL ret 0) {b Ls o : Nat} {xs : Nat → Int32} {f : Pic} (hXs : va_X b Ls xs s s.heap) (hbl : b < s.heap.size) (hbA : ¬ gA g b) (hBB : BB g 184 o 184) {i : Nat} (hi : i + 4 ≤ Ls) (hLs : Ls ≤ 2048) {σ ρ : Nat → Int32} {S P : Nat → Nat → Int32} {φ κ τ π μ kp hs tx ι : Nat → Int32} (F : Fr σ ρ S P τ π μ hs tx ι) (kk : ∀ (σ ρ : Nat → Int32) (S P : Nat → Nat → Int32) (φ κ τ π μ kp hs tx ι : Nat → Int32), Fr σ ρ S P τ π μ hs tx ι → V p l e room_1 s m args below meth c Q g 4 184 4443 184 (PW f o (xL g o σ ρ S P φ κ τ π) (mdL g (o + 179) μ kp hs tx ι)) 872 [some (.ref b), some (.ref o), some (.ref (o + 179)), some (.int (nI i))] []) : V p l e room_1 s m args below meth c Q g 4 184 4443 184 (PW f o (xL g o σ ρ S P φ κ τ π) (mdL g (o + 179) μ kp hs tx ι)) 543 [some (.ref b), some (.ref o), some (.ref (o + 179)), some (.int (nI i))] [] := by
  obtain ⟨r, σ1, ρ1, S1, P1, φ1, κ1, τ1, π1, μ1, kp1, hs1, tx1, ι1, ⟨x, rfl⟩, F1, c7, c8⟩ := pr_shuttle l g 184 o σ ρ S P φ κ τ π μ kp hs tx ι F (xs (nI i + 1).toNatClampNeg) (xs (nI i + 2).toNatClampNeg)
  refine v_aload_n X dL_law_543 (i := 1) rfl rfl ?_
  refine v_aload_n X dL_law_544 (i := 0) rfl rfl ?_
  refine v_iload_n X dL_law_545 (i := 3) rfl rfl ?_
  refine v_iconst X dL_law_546 (v := (1 : Int32)) (by decide) ?_
  refine v_iadd X dL_law_547 ?_
  refine v_sld X hXs hbl hbA (in_i (i := i) (k := 1) (ix_add rfl rfl) (by omega) hLs) dL_law_548 ?_
  refine v_aload_n X dL_law_549 (i := 0) rfl rfl ?_
  refine v_iload_n X dL_law_550 (i := 3) rfl rfl ?_
  refine v_iconst X dL_law_551 (v := (2 : Int32)) (by decide) ?_
  refine v_iadd X dL_law_552 ?_
  refine v_sld X hXs hbl hbA (in_i (i := i) (k := 2) (ix_add rfl rfl) (by omega) hLs) dL_law_553 ?_
  refine v_lwx X [.int (xs (nI i + 1).toNatClampNeg), .int (xs (nI i + 2).toNatClampNeg)] xL_len xL_len rfl rfl hBB yv_X7_shuttle m_ml_L_69 c7 rfl rfl (Nat.le_of_ble_eq_true rfl) ⟨Nat.le_of_ble_eq_true rfl, Nat.le_of_ble_eq_true rfl⟩ ⟨Nat.le_of_ble_eq_true rfl, Nat.le_of_ble_eq_true rfl⟩ dL_law_554 rfl ?_
  refine v_aload_n X dL_law_557 (i := 2) rfl rfl ?_
  refine v_aload_n X dL_law_558 (i := 0) rfl rfl ?_
  refine v_iload_n X dL_law_559 (i := 3) rfl rfl ?_
  refine v_iconst X dL_law_560 (v := (1 : Int32)) (by decide) ?_
  refine v_iadd X dL_law_561 ?_
  refine v_sld X hXs hbl hbA (in_i (i := i) (k := 1) (ix_add rfl rfl) (by omega) hLs) dL_law_562 ?_
  refine v_aload_n X dL_law_563 (i := 0) rfl rfl ?_
  refine v_iload_n X dL_law_564 (i := 3) rfl rfl ?_
  refine v_iconst X dL_law_565 (v := (2 : Int32)) (by decide) ?_
  refine v_iadd X dL_law_566 ?_
  refine v_sld X hXs hbl hbA (in_i (i := i) (k := 2) (ix_add rfl rfl) (by omega) hLs) dL_law_567 ?_
  refine v_lwm X [.int (xs (nI i + 1).toNatClampNeg), .int (xs (nI i + 2).toNatClampNeg)] mdL_len rfl rfl hBB yv_X8_shuttle m_ml_L_72 c8 rfl rfl (Nat.le_of_ble_eq_true rfl) ⟨Nat.le_of_ble_eq_true rfl, Nat.le_of_ble_eq_true rfl⟩ ⟨Nat.le_of_ble_eq_true rfl, Nat.le_of_ble_eq_true rfl⟩ dL_law_568 rfl ?_
  exact v_icmp_eq X dL_law_571 (tgt := 872) (by decide) (fun _ => kk _ _ _ _ _ _ _ _ _ _ _ _ _ F1) (fun h => absurd rfl h)
set_option maxHeartbeats 1000000 in
theorem lc_14 {p : Program} {l : Launch} {e : Env} {s : State} {m : MethodId} {args : Array Value} {below : List Frame} {meth : Method} {c : Code} {Q : State → Prop} {g : Ge} (X : Cx p args s m meth c g cL_law 4 RL ret 0) {b Ls o : Nat} {xs : Nat → Int32} {f : Pic} (hXs : va_X b Ls xs s s.heap) (hbl : b < s.heap.size) (hbA : ¬ gA g b) (hBB : BB g 184 o 184) {i : Nat} (hi : i + 4 ≤ Ls) (hLs : Ls ≤ 2048) {σ ρ : Nat → Int32} {S P : Nat → Nat → Int32} {φ κ τ π μ kp hs tx ι : Nat → Int32} (F : Fr σ ρ S P τ π μ hs tx ι) (kk : ∀ (σ ρ : Nat → Int32) (S P : Nat → Nat → Int32) (φ κ τ π μ kp hs tx ι : Nat → Int32), Fr σ ρ S P τ π μ hs tx ι → V p l e room_1 s m args below meth c Q g 4 184 4443 184 (PW f o (xL g o σ ρ S P φ κ τ π) (mdL g (o + 179) μ kp hs tx ι)) 872 [some (.ref b), some (.ref o), some (.ref (o + 179)), some (.int (nI i))] []) : V p l e room_1 s m args below meth c Q g 4 184 4443 184 (PW f o (xL g o σ ρ S P φ κ τ π) (mdL g (o + 179) μ kp hs tx ι)) 576 [some (.ref b), some (.ref o), some (.ref (o + 179)), some (.int (nI i))] [] := by
  obtain ⟨r, σ1, ρ1, S1, P1, φ1, κ1, τ1, π1, μ1, kp1, hs1, tx1, ι1, ⟨x, rfl⟩, F1, c7, c8⟩ := pr_inBox l g 184 o σ ρ S P φ κ τ π μ kp hs tx ι F (xs (nI i + 1).toNatClampNeg) (xs (nI i + 2).toNatClampNeg)
  refine v_aload_n X dL_law_576 (i := 1) rfl rfl ?_
  refine v_aload_n X dL_law_577 (i := 0) rfl rfl ?_
  refine v_iload_n X dL_law_578 (i := 3) rfl rfl ?_
  refine v_iconst X dL_law_579 (v := (1 : Int32)) (by decide) ?_
  refine v_iadd X dL_law_580 ?_
  refine v_sld X hXs hbl hbA (in_i (i := i) (k := 1) (ix_add rfl rfl) (by omega) hLs) dL_law_581 ?_
  refine v_aload_n X dL_law_582 (i := 0) rfl rfl ?_
  refine v_iload_n X dL_law_583 (i := 3) rfl rfl ?_
  refine v_iconst X dL_law_584 (v := (2 : Int32)) (by decide) ?_
  refine v_iadd X dL_law_585 ?_
  refine v_sld X hXs hbl hbA (in_i (i := i) (k := 2) (ix_add rfl rfl) (by omega) hLs) dL_law_586 ?_
  refine v_lwx X [.int (xs (nI i + 1).toNatClampNeg), .int (xs (nI i + 2).toNatClampNeg)] xL_len xL_len rfl rfl hBB yv_X7_inBox m_ml_L_73 c7 rfl rfl (Nat.le_of_ble_eq_true rfl) ⟨Nat.le_of_ble_eq_true rfl, Nat.le_of_ble_eq_true rfl⟩ ⟨Nat.le_of_ble_eq_true rfl, Nat.le_of_ble_eq_true rfl⟩ dL_law_587 rfl ?_
  refine v_aload_n X dL_law_590 (i := 2) rfl rfl ?_
  refine v_aload_n X dL_law_591 (i := 0) rfl rfl ?_
  refine v_iload_n X dL_law_592 (i := 3) rfl rfl ?_
  refine v_iconst X dL_law_593 (v := (1 : Int32)) (by decide) ?_
  refine v_iadd X dL_law_594 ?_
  refine v_sld X hXs hbl hbA (in_i (i := i) (k := 1) (ix_add rfl rfl) (by omega) hLs) dL_law_595 ?_
  refine v_aload_n X dL_law_596 (i := 0) rfl rfl ?_
  refine v_iload_n X dL_law_597 (i := 3) rfl rfl ?_
  refine v_iconst X dL_law_598 (v := (2 : Int32)) (by decide) ?_
  refine v_iadd X dL_law_599 ?_
  refine v_sld X hXs hbl hbA (in_i (i := i) (k := 2) (ix_add rfl rfl) (by omega) hLs) dL_law_600 ?_
  refine v_lwm X [.int (xs (nI i + 1).toNatClampNeg), .int (xs (nI i + 2).toNatClampNeg)] mdL_len rfl rfl hBB yv_X8_inBox m_ml_L_76 c8 rfl rfl (Nat.le_of_ble_eq_true rfl) ⟨Nat.le_of_ble_eq_true rfl, Nat.le_of_ble_eq_true rfl⟩ ⟨Nat.le_of_ble_eq_true rfl, Nat.le_of_ble_eq_true rfl⟩ dL_law_601 rfl ?_
  exact v_icmp_eq X dL_law_604 (tgt := 872) (by decide) (fun _ => kk _ _ _ _ _ _ _ _ _ _ _ _ _ F1) (fun h => absurd rfl h)
set_option maxHeartbeats 1000000 in
theorem lc_15 {p : Program} {l : Launch} {e : Env} {s : State} {m : MethodId} {args : Array Value} {below : List Frame} {meth : Method} {c : Code} {Q : State → Prop} {g : Ge} (X : Cx p args s m meth c g cL_law 4 RL ret 0) {b Ls o : Nat} {xs : Nat → Int32} {f : Pic} (hXs : va_X b Ls xs s s.heap) (hbl : b < s.heap.size) (hbA : ¬ gA g b) (hBB : BB g 184 o 184) {i : Nat} (hi : i + 4 ≤ Ls) (hLs : Ls ≤ 2048) {σ ρ : Nat → Int32} {S P : Nat → Nat → Int32} {φ κ τ π μ kp hs tx ι : Nat → Int32} (F : Fr σ ρ S P τ π μ hs tx ι) (kk : ∀ (σ ρ : Nat → Int32) (S P : Nat → Nat → Int32) (φ κ τ π μ kp hs tx ι : Nat → Int32), Fr σ ρ S P τ π μ hs tx ι → V p l e room_1 s m args below meth c Q g 4 184 4443 184 (PW f o (xL g o σ ρ S P φ κ τ π) (mdL g (o + 179) μ kp hs tx ι)) 872 [some (.ref b), some (.ref o), some (.ref (o + 179)), some (.int (nI i))] []) : V p l e room_1 s m args below meth c Q g 4 184 4443 184 (PW f o (xL g o σ ρ S P φ κ τ π) (mdL g (o + 179) μ kp hs tx ι)) 609 [some (.ref b), some (.ref o), some (.ref (o + 179)), some (.int (nI i))] [] := by
  obtain ⟨r, σ1, ρ1, S1, P1, φ1, κ1, τ1, π1, μ1, kp1, hs1, tx1, ι1, ⟨x, rfl⟩, F1, c7, c8⟩ := pr_thread l g 184 o σ ρ S P φ κ τ π μ kp hs tx ι F (xs (nI i + 1).toNatClampNeg) (xs (nI i + 2).toNatClampNeg)
  refine v_aload_n X dL_law_609 (i := 1) rfl rfl ?_
  refine v_aload_n X dL_law_610 (i := 0) rfl rfl ?_
  refine v_iload_n X dL_law_611 (i := 3) rfl rfl ?_
  refine v_iconst X dL_law_612 (v := (1 : Int32)) (by decide) ?_
  refine v_iadd X dL_law_613 ?_
  refine v_sld X hXs hbl hbA (in_i (i := i) (k := 1) (ix_add rfl rfl) (by omega) hLs) dL_law_614 ?_
  refine v_aload_n X dL_law_615 (i := 0) rfl rfl ?_
  refine v_iload_n X dL_law_616 (i := 3) rfl rfl ?_
  refine v_iconst X dL_law_617 (v := (2 : Int32)) (by decide) ?_
  refine v_iadd X dL_law_618 ?_
  refine v_sld X hXs hbl hbA (in_i (i := i) (k := 2) (ix_add rfl rfl) (by omega) hLs) dL_law_619 ?_
  refine v_lwx X [.int (xs (nI i + 1).toNatClampNeg), .int (xs (nI i + 2).toNatClampNeg)] xL_len xL_len rfl rfl hBB yv_X7_thread m_ml_L_77 c7 rfl rfl (Nat.le_of_ble_eq_true rfl) ⟨Nat.le_of_ble_eq_true rfl, Nat.le_of_ble_eq_true rfl⟩ ⟨Nat.le_of_ble_eq_true rfl, Nat.le_of_ble_eq_true rfl⟩ dL_law_620 rfl ?_
  refine v_aload_n X dL_law_623 (i := 2) rfl rfl ?_
  refine v_aload_n X dL_law_624 (i := 0) rfl rfl ?_
  refine v_iload_n X dL_law_625 (i := 3) rfl rfl ?_
  refine v_iconst X dL_law_626 (v := (1 : Int32)) (by decide) ?_
  refine v_iadd X dL_law_627 ?_
  refine v_sld X hXs hbl hbA (in_i (i := i) (k := 1) (ix_add rfl rfl) (by omega) hLs) dL_law_628 ?_
  refine v_aload_n X dL_law_629 (i := 0) rfl rfl ?_
  refine v_iload_n X dL_law_630 (i := 3) rfl rfl ?_
  refine v_iconst X dL_law_631 (v := (2 : Int32)) (by decide) ?_
  refine v_iadd X dL_law_632 ?_
  refine v_sld X hXs hbl hbA (in_i (i := i) (k := 2) (ix_add rfl rfl) (by omega) hLs) dL_law_633 ?_
  refine v_lwm X [.int (xs (nI i + 1).toNatClampNeg), .int (xs (nI i + 2).toNatClampNeg)] mdL_len rfl rfl hBB yv_X8_thread m_ml_L_80 c8 rfl rfl (Nat.le_of_ble_eq_true rfl) ⟨Nat.le_of_ble_eq_true rfl, Nat.le_of_ble_eq_true rfl⟩ ⟨Nat.le_of_ble_eq_true rfl, Nat.le_of_ble_eq_true rfl⟩ dL_law_634 rfl ?_
  exact v_icmp_eq X dL_law_637 (tgt := 872) (by decide) (fun _ => kk _ _ _ _ _ _ _ _ _ _ _ _ _ F1) (fun h => absurd rfl h)
set_option maxHeartbeats 1000000 in
theorem lc_16 {p : Program} {l : Launch} {e : Env} {s : State} {m : MethodId} {args : Array Value} {below : List Frame} {meth : Method} {c : Code} {Q : State → Prop} {g : Ge} (X : Cx p args s m meth c g cL_law 4 RL ret 0) {b Ls o : Nat} {xs : Nat → Int32} {f : Pic} (hXs : va_X b Ls xs s s.heap) (hbl : b < s.heap.size) (hbA : ¬ gA g b) (hBB : BB g 184 o 184) {i : Nat} (hi : i + 4 ≤ Ls) (hLs : Ls ≤ 2048) {σ ρ : Nat → Int32} {S P : Nat → Nat → Int32} {φ κ τ π μ kp hs tx ι : Nat → Int32} (F : Fr σ ρ S P τ π μ hs tx ι) (kk : ∀ (σ ρ : Nat → Int32) (S P : Nat → Nat → Int32) (φ κ τ π μ kp hs tx ι : Nat → Int32), Fr σ ρ S P τ π μ hs tx ι → V p l e room_1 s m args below meth c Q g 4 184 4443 184 (PW f o (xL g o σ ρ S P φ κ τ π) (mdL g (o + 179) μ kp hs tx ι)) 872 [some (.ref b), some (.ref o), some (.ref (o + 179)), some (.int (nI i))] []) : V p l e room_1 s m args below meth c Q g 4 184 4443 184 (PW f o (xL g o σ ρ S P φ κ τ π) (mdL g (o + 179) μ kp hs tx ι)) 642 [some (.ref b), some (.ref o), some (.ref (o + 179)), some (.int (nI i))] [] := by
  obtain ⟨r, σ1, ρ1, S1, P1, φ1, κ1, τ1, π1, μ1, kp1, hs1, tx1, ι1, ⟨x, rfl⟩, F1, c7, c8⟩ := pr_card l g 184 o σ ρ S P φ κ τ π μ kp hs tx ι F (xs (nI i + 1).toNatClampNeg) (xs (nI i + 2).toNatClampNeg)
  refine v_aload_n X dL_law_642 (i := 1) rfl rfl ?_
  refine v_aload_n X dL_law_643 (i := 0) rfl rfl ?_
  refine v_iload_n X dL_law_644 (i := 3) rfl rfl ?_
  refine v_iconst X dL_law_645 (v := (1 : Int32)) (by decide) ?_
  refine v_iadd X dL_law_646 ?_
  refine v_sld X hXs hbl hbA (in_i (i := i) (k := 1) (ix_add rfl rfl) (by omega) hLs) dL_law_647 ?_
  refine v_aload_n X dL_law_648 (i := 0) rfl rfl ?_
  refine v_iload_n X dL_law_649 (i := 3) rfl rfl ?_
  refine v_iconst X dL_law_650 (v := (2 : Int32)) (by decide) ?_
  refine v_iadd X dL_law_651 ?_
  refine v_sld X hXs hbl hbA (in_i (i := i) (k := 2) (ix_add rfl rfl) (by omega) hLs) dL_law_652 ?_
  refine v_lwx X [.int (xs (nI i + 1).toNatClampNeg), .int (xs (nI i + 2).toNatClampNeg)] xL_len xL_len rfl rfl hBB yv_X7_card m_ml_L_81 c7 rfl rfl (Nat.le_of_ble_eq_true rfl) ⟨Nat.le_of_ble_eq_true rfl, Nat.le_of_ble_eq_true rfl⟩ ⟨Nat.le_of_ble_eq_true rfl, Nat.le_of_ble_eq_true rfl⟩ dL_law_653 rfl ?_
  refine v_aload_n X dL_law_656 (i := 2) rfl rfl ?_
  refine v_aload_n X dL_law_657 (i := 0) rfl rfl ?_
  refine v_iload_n X dL_law_658 (i := 3) rfl rfl ?_
  refine v_iconst X dL_law_659 (v := (1 : Int32)) (by decide) ?_
  refine v_iadd X dL_law_660 ?_
  refine v_sld X hXs hbl hbA (in_i (i := i) (k := 1) (ix_add rfl rfl) (by omega) hLs) dL_law_661 ?_
  refine v_aload_n X dL_law_662 (i := 0) rfl rfl ?_
  refine v_iload_n X dL_law_663 (i := 3) rfl rfl ?_
  refine v_iconst X dL_law_664 (v := (2 : Int32)) (by decide) ?_
  refine v_iadd X dL_law_665 ?_
  refine v_sld X hXs hbl hbA (in_i (i := i) (k := 2) (ix_add rfl rfl) (by omega) hLs) dL_law_666 ?_
  refine v_lwm X [.int (xs (nI i + 1).toNatClampNeg), .int (xs (nI i + 2).toNatClampNeg)] mdL_len rfl rfl hBB yv_X8_card m_ml_L_84 c8 rfl rfl (Nat.le_of_ble_eq_true rfl) ⟨Nat.le_of_ble_eq_true rfl, Nat.le_of_ble_eq_true rfl⟩ ⟨Nat.le_of_ble_eq_true rfl, Nat.le_of_ble_eq_true rfl⟩ dL_law_667 rfl ?_
  exact v_icmp_eq X dL_law_670 (tgt := 872) (by decide) (fun _ => kk _ _ _ _ _ _ _ _ _ _ _ _ _ F1) (fun h => absurd rfl h)
set_option maxHeartbeats 1000000 in
theorem lc_17 {p : Program} {l : Launch} {e : Env} {s : State} {m : MethodId} {args : Array Value} {below : List Frame} {meth : Method} {c : Code} {Q : State → Prop} {g : Ge} (X : Cx p args s m meth c g cL_law 4 RL ret 0) {b Ls o : Nat} {xs : Nat → Int32} {f : Pic} (hXs : va_X b Ls xs s s.heap) (hbl : b < s.heap.size) (hbA : ¬ gA g b) (hBB : BB g 184 o 184) {i : Nat} (hi : i + 4 ≤ Ls) (hLs : Ls ≤ 2048) {σ ρ : Nat → Int32} {S P : Nat → Nat → Int32} {φ κ τ π μ kp hs tx ι : Nat → Int32} (F : Fr σ ρ S P τ π μ hs tx ι) (kk : ∀ (σ ρ : Nat → Int32) (S P : Nat → Nat → Int32) (φ κ τ π μ kp hs tx ι : Nat → Int32), Fr σ ρ S P τ π μ hs tx ι → V p l e room_1 s m args below meth c Q g 4 184 4443 184 (PW f o (xL g o σ ρ S P φ κ τ π) (mdL g (o + 179) μ kp hs tx ι)) 872 [some (.ref b), some (.ref o), some (.ref (o + 179)), some (.int (nI i))] []) : V p l e room_1 s m args below meth c Q g 4 184 4443 184 (PW f o (xL g o σ ρ S P φ κ τ π) (mdL g (o + 179) μ kp hs tx ι)) 675 [some (.ref b), some (.ref o), some (.ref (o + 179)), some (.int (nI i))] [] := by
  obtain ⟨r, σ1, ρ1, S1, P1, φ1, κ1, τ1, π1, μ1, kp1, hs1, tx1, ι1, ⟨x, rfl⟩, F1, c7, c8⟩ := pr_cloth l g 184 o σ ρ S P φ κ τ π μ kp hs tx ι F (xs (nI i + 1).toNatClampNeg) (xs (nI i + 2).toNatClampNeg)
  refine v_aload_n X dL_law_675 (i := 1) rfl rfl ?_
  refine v_aload_n X dL_law_676 (i := 0) rfl rfl ?_
  refine v_iload_n X dL_law_677 (i := 3) rfl rfl ?_
  refine v_iconst X dL_law_678 (v := (1 : Int32)) (by decide) ?_
  refine v_iadd X dL_law_679 ?_
  refine v_sld X hXs hbl hbA (in_i (i := i) (k := 1) (ix_add rfl rfl) (by omega) hLs) dL_law_680 ?_
  refine v_aload_n X dL_law_681 (i := 0) rfl rfl ?_
  refine v_iload_n X dL_law_682 (i := 3) rfl rfl ?_
  refine v_iconst X dL_law_683 (v := (2 : Int32)) (by decide) ?_
  refine v_iadd X dL_law_684 ?_
  refine v_sld X hXs hbl hbA (in_i (i := i) (k := 2) (ix_add rfl rfl) (by omega) hLs) dL_law_685 ?_
  refine v_lwx X [.int (xs (nI i + 1).toNatClampNeg), .int (xs (nI i + 2).toNatClampNeg)] xL_len xL_len rfl rfl hBB yv_X7_cloth m_ml_L_85 c7 rfl rfl (Nat.le_of_ble_eq_true rfl) ⟨Nat.le_of_ble_eq_true rfl, Nat.le_of_ble_eq_true rfl⟩ ⟨Nat.le_of_ble_eq_true rfl, Nat.le_of_ble_eq_true rfl⟩ dL_law_686 rfl ?_
  refine v_aload_n X dL_law_689 (i := 2) rfl rfl ?_
  refine v_aload_n X dL_law_690 (i := 0) rfl rfl ?_
  refine v_iload_n X dL_law_691 (i := 3) rfl rfl ?_
  refine v_iconst X dL_law_692 (v := (1 : Int32)) (by decide) ?_
  refine v_iadd X dL_law_693 ?_
  refine v_sld X hXs hbl hbA (in_i (i := i) (k := 1) (ix_add rfl rfl) (by omega) hLs) dL_law_694 ?_
  refine v_aload_n X dL_law_695 (i := 0) rfl rfl ?_
  refine v_iload_n X dL_law_696 (i := 3) rfl rfl ?_
  refine v_iconst X dL_law_697 (v := (2 : Int32)) (by decide) ?_
  refine v_iadd X dL_law_698 ?_
  refine v_sld X hXs hbl hbA (in_i (i := i) (k := 2) (ix_add rfl rfl) (by omega) hLs) dL_law_699 ?_
  refine v_lwm X [.int (xs (nI i + 1).toNatClampNeg), .int (xs (nI i + 2).toNatClampNeg)] mdL_len rfl rfl hBB yv_X8_cloth m_ml_L_88 c8 rfl rfl (Nat.le_of_ble_eq_true rfl) ⟨Nat.le_of_ble_eq_true rfl, Nat.le_of_ble_eq_true rfl⟩ ⟨Nat.le_of_ble_eq_true rfl, Nat.le_of_ble_eq_true rfl⟩ dL_law_700 rfl ?_
  exact v_icmp_eq X dL_law_703 (tgt := 872) (by decide) (fun _ => kk _ _ _ _ _ _ _ _ _ _ _ _ _ F1) (fun h => absurd rfl h)
set_option maxHeartbeats 1000000 in
theorem lc_18 {p : Program} {l : Launch} {e : Env} {s : State} {m : MethodId} {args : Array Value} {below : List Frame} {meth : Method} {c : Code} {Q : State → Prop} {g : Ge} (X : Cx p args s m meth c g cL_law 4 RL ret 0) {b Ls o : Nat} {xs : Nat → Int32} {f : Pic} (hXs : va_X b Ls xs s s.heap) (hbl : b < s.heap.size) (hbA : ¬ gA g b) (hBB : BB g 184 o 184) {i : Nat} (hi : i + 4 ≤ Ls) (hLs : Ls ≤ 2048) {σ ρ : Nat → Int32} {S P : Nat → Nat → Int32} {φ κ τ π μ kp hs tx ι : Nat → Int32} (F : Fr σ ρ S P τ π μ hs tx ι) (kk : ∀ (σ ρ : Nat → Int32) (S P : Nat → Nat → Int32) (φ κ τ π μ kp hs tx ι : Nat → Int32), Fr σ ρ S P τ π μ hs tx ι → V p l e room_1 s m args below meth c Q g 4 184 4443 184 (PW f o (xL g o σ ρ S P φ κ τ π) (mdL g (o + 179) μ kp hs tx ι)) 872 [some (.ref b), some (.ref o), some (.ref (o + 179)), some (.int (nI i))] []) : V p l e room_1 s m args below meth c Q g 4 184 4443 184 (PW f o (xL g o σ ρ S P φ κ τ π) (mdL g (o + 179) μ kp hs tx ι)) 708 [some (.ref b), some (.ref o), some (.ref (o + 179)), some (.int (nI i))] [] := by
  obtain ⟨r, σ1, ρ1, S1, P1, φ1, κ1, τ1, π1, μ1, kp1, hs1, tx1, ι1, ⟨x, rfl⟩, F1, c7, c8⟩ := pr_longestFloat l g 184 o σ ρ S P φ κ τ π μ kp hs tx ι F (xs (nI i + 1).toNatClampNeg)
  refine v_aload_n X dL_law_708 (i := 1) rfl rfl ?_
  refine v_aload_n X dL_law_709 (i := 0) rfl rfl ?_
  refine v_iload_n X dL_law_710 (i := 3) rfl rfl ?_
  refine v_iconst X dL_law_711 (v := (1 : Int32)) (by decide) ?_
  refine v_iadd X dL_law_712 ?_
  refine v_sld X hXs hbl hbA (in_i (i := i) (k := 1) (ix_add rfl rfl) (by omega) hLs) dL_law_713 ?_
  refine v_lwx X [.int (xs (nI i + 1).toNatClampNeg)] xL_len xL_len rfl rfl hBB yv_X7_longestFloat m_ml_L_89 c7 rfl rfl (Nat.le_of_ble_eq_true rfl) ⟨Nat.le_of_ble_eq_true rfl, Nat.le_of_ble_eq_true rfl⟩ ⟨Nat.le_of_ble_eq_true rfl, Nat.le_of_ble_eq_true rfl⟩ dL_law_714 rfl ?_
  refine v_aload_n X dL_law_717 (i := 2) rfl rfl ?_
  refine v_aload_n X dL_law_718 (i := 0) rfl rfl ?_
  refine v_iload_n X dL_law_719 (i := 3) rfl rfl ?_
  refine v_iconst X dL_law_720 (v := (1 : Int32)) (by decide) ?_
  refine v_iadd X dL_law_721 ?_
  refine v_sld X hXs hbl hbA (in_i (i := i) (k := 1) (ix_add rfl rfl) (by omega) hLs) dL_law_722 ?_
  refine v_lwm X [.int (xs (nI i + 1).toNatClampNeg)] mdL_len rfl rfl hBB yv_X8_longestFloat m_ml_L_92 c8 rfl rfl (Nat.le_of_ble_eq_true rfl) ⟨Nat.le_of_ble_eq_true rfl, Nat.le_of_ble_eq_true rfl⟩ ⟨Nat.le_of_ble_eq_true rfl, Nat.le_of_ble_eq_true rfl⟩ dL_law_723 rfl ?_
  exact v_icmp_eq X dL_law_726 (tgt := 872) (by decide) (fun _ => kk _ _ _ _ _ _ _ _ _ _ _ _ _ F1) (fun h => absurd rfl h)
set_option maxHeartbeats 1000000 in
theorem lc_19 {p : Program} {l : Launch} {e : Env} {s : State} {m : MethodId} {args : Array Value} {below : List Frame} {meth : Method} {c : Code} {Q : State → Prop} {g : Ge} (X : Cx p args s m meth c g cL_law 4 RL ret 0) {b Ls o : Nat} {xs : Nat → Int32} {f : Pic} (hXs : va_X b Ls xs s s.heap) (hbl : b < s.heap.size) (hbA : ¬ gA g b) (hBB : BB g 184 o 184) {i : Nat} (hi : i + 4 ≤ Ls) (hLs : Ls ≤ 2048) {σ ρ : Nat → Int32} {S P : Nat → Nat → Int32} {φ κ τ π μ kp hs tx ι : Nat → Int32} (F : Fr σ ρ S P τ π μ hs tx ι) (kk : ∀ (σ ρ : Nat → Int32) (S P : Nat → Nat → Int32) (φ κ τ π μ kp hs tx ι : Nat → Int32), Fr σ ρ S P τ π μ hs tx ι → V p l e room_1 s m args below meth c Q g 4 184 4443 184 (PW f o (xL g o σ ρ S P φ κ τ π) (mdL g (o + 179) μ kp hs tx ι)) 872 [some (.ref b), some (.ref o), some (.ref (o + 179)), some (.int (nI i))] []) : V p l e room_1 s m args below meth c Q g 4 184 4443 184 (PW f o (xL g o σ ρ S P φ κ τ π) (mdL g (o + 179) μ kp hs tx ι)) 731 [some (.ref b), some (.ref o), some (.ref (o + 179)), some (.int (nI i))] [] := by
  obtain ⟨r, σ1, ρ1, S1, P1, φ1, κ1, τ1, π1, μ1, kp1, hs1, tx1, ι1, ⟨x, rfl⟩, F1, c7, c8⟩ := pr_whyNot l g 184 o σ ρ S P φ κ τ π μ kp hs tx ι F 
  refine v_aload_n X dL_law_731 (i := 1) rfl rfl ?_
  refine v_lwx X [] xL_len xL_len rfl rfl hBB yv_X7_whyNot m_ml_L_93 c7 rfl rfl (Nat.le_of_ble_eq_true rfl) ⟨Nat.le_of_ble_eq_true rfl, Nat.le_of_ble_eq_true rfl⟩ ⟨Nat.le_of_ble_eq_true rfl, Nat.le_of_ble_eq_true rfl⟩ dL_law_732 rfl ?_
  refine v_aload_n X dL_law_735 (i := 2) rfl rfl ?_
  refine v_lwm X [] mdL_len rfl rfl hBB yv_X8_whyNot m_ml_L_96 c8 rfl rfl (Nat.le_of_ble_eq_true rfl) ⟨Nat.le_of_ble_eq_true rfl, Nat.le_of_ble_eq_true rfl⟩ ⟨Nat.le_of_ble_eq_true rfl, Nat.le_of_ble_eq_true rfl⟩ dL_law_736 rfl ?_
  exact v_icmp_eq X dL_law_739 (tgt := 872) (by decide) (fun _ => kk _ _ _ _ _ _ _ _ _ _ _ _ _ F1) (fun h => absurd rfl h)
set_option maxHeartbeats 1000000 in
theorem lc_20 {p : Program} {l : Launch} {e : Env} {s : State} {m : MethodId} {args : Array Value} {below : List Frame} {meth : Method} {c : Code} {Q : State → Prop} {g : Ge} (X : Cx p args s m meth c g cL_law 4 RL ret 0) {b Ls o : Nat} {xs : Nat → Int32} {f : Pic} (hXs : va_X b Ls xs s s.heap) (hbl : b < s.heap.size) (hbA : ¬ gA g b) (hBB : BB g 184 o 184) {i : Nat} (hi : i + 4 ≤ Ls) (hLs : Ls ≤ 2048) {σ ρ : Nat → Int32} {S P : Nat → Nat → Int32} {φ κ τ π μ kp hs tx ι : Nat → Int32} (F : Fr σ ρ S P τ π μ hs tx ι) (kk : ∀ (σ ρ : Nat → Int32) (S P : Nat → Nat → Int32) (φ κ τ π μ kp hs tx ι : Nat → Int32), Fr σ ρ S P τ π μ hs tx ι → V p l e room_1 s m args below meth c Q g 4 184 4443 184 (PW f o (xL g o σ ρ S P φ κ τ π) (mdL g (o + 179) μ kp hs tx ι)) 872 [some (.ref b), some (.ref o), some (.ref (o + 179)), some (.int (nI i))] []) : V p l e room_1 s m args below meth c Q g 4 184 4443 184 (PW f o (xL g o σ ρ S P φ κ τ π) (mdL g (o + 179) μ kp hs tx ι)) 744 [some (.ref b), some (.ref o), some (.ref (o + 179)), some (.int (nI i))] [] := by
  obtain ⟨r, σ1, ρ1, S1, P1, φ1, κ1, τ1, π1, μ1, kp1, hs1, tx1, ι1, ⟨x, rfl⟩, F1, c7, c8⟩ := pr_picksLeft l g 184 o σ ρ S P φ κ τ π μ kp hs tx ι F 
  refine v_aload_n X dL_law_744 (i := 1) rfl rfl ?_
  refine v_lwx X [] xL_len xL_len rfl rfl hBB yv_X7_picksLeft m_ml_L_97 c7 rfl rfl (Nat.le_of_ble_eq_true rfl) ⟨Nat.le_of_ble_eq_true rfl, Nat.le_of_ble_eq_true rfl⟩ ⟨Nat.le_of_ble_eq_true rfl, Nat.le_of_ble_eq_true rfl⟩ dL_law_745 rfl ?_
  refine v_aload_n X dL_law_748 (i := 2) rfl rfl ?_
  refine v_lwm X [] mdL_len rfl rfl hBB yv_X8_picksLeft m_ml_L_100 c8 rfl rfl (Nat.le_of_ble_eq_true rfl) ⟨Nat.le_of_ble_eq_true rfl, Nat.le_of_ble_eq_true rfl⟩ ⟨Nat.le_of_ble_eq_true rfl, Nat.le_of_ble_eq_true rfl⟩ dL_law_749 rfl ?_
  exact v_icmp_eq X dL_law_752 (tgt := 872) (by decide) (fun _ => kk _ _ _ _ _ _ _ _ _ _ _ _ _ F1) (fun h => absurd rfl h)
set_option maxHeartbeats 1000000 in
theorem lc_21 {p : Program} {l : Launch} {e : Env} {s : State} {m : MethodId} {args : Array Value} {below : List Frame} {meth : Method} {c : Code} {Q : State → Prop} {g : Ge} (X : Cx p args s m meth c g cL_law 4 RL ret 0) {b Ls o : Nat} {xs : Nat → Int32} {f : Pic} (hXs : va_X b Ls xs s s.heap) (hbl : b < s.heap.size) (hbA : ¬ gA g b) (hBB : BB g 184 o 184) {i : Nat} (hi : i + 4 ≤ Ls) (hLs : Ls ≤ 2048) {σ ρ : Nat → Int32} {S P : Nat → Nat → Int32} {φ κ τ π μ kp hs tx ι : Nat → Int32} (F : Fr σ ρ S P τ π μ hs tx ι) (kk : ∀ (σ ρ : Nat → Int32) (S P : Nat → Nat → Int32) (φ κ τ π μ kp hs tx ι : Nat → Int32), Fr σ ρ S P τ π μ hs tx ι → V p l e room_1 s m args below meth c Q g 4 184 4443 184 (PW f o (xL g o σ ρ S P φ κ τ π) (mdL g (o + 179) μ kp hs tx ι)) 872 [some (.ref b), some (.ref o), some (.ref (o + 179)), some (.int (nI i))] []) : V p l e room_1 s m args below meth c Q g 4 184 4443 184 (PW f o (xL g o σ ρ S P φ κ τ π) (mdL g (o + 179) μ kp hs tx ι)) 757 [some (.ref b), some (.ref o), some (.ref (o + 179)), some (.int (nI i))] [] := by
  obtain ⟨r, σ1, ρ1, S1, P1, φ1, κ1, τ1, π1, μ1, kp1, hs1, tx1, ι1, ⟨x, rfl⟩, F1, c7, c8⟩ := pr_firstEmpty l g 184 o σ ρ S P φ κ τ π μ kp hs tx ι F 
  refine v_aload_n X dL_law_757 (i := 1) rfl rfl ?_
  refine v_lwx X [] xL_len xL_len rfl rfl hBB yv_X7_firstEmpty m_ml_L_101 c7 rfl rfl (Nat.le_of_ble_eq_true rfl) ⟨Nat.le_of_ble_eq_true rfl, Nat.le_of_ble_eq_true rfl⟩ ⟨Nat.le_of_ble_eq_true rfl, Nat.le_of_ble_eq_true rfl⟩ dL_law_758 rfl ?_
  refine v_aload_n X dL_law_761 (i := 2) rfl rfl ?_
  refine v_lwm X [] mdL_len rfl rfl hBB yv_X8_firstEmpty m_ml_L_104 c8 rfl rfl (Nat.le_of_ble_eq_true rfl) ⟨Nat.le_of_ble_eq_true rfl, Nat.le_of_ble_eq_true rfl⟩ ⟨Nat.le_of_ble_eq_true rfl, Nat.le_of_ble_eq_true rfl⟩ dL_law_762 rfl ?_
  exact v_icmp_eq X dL_law_765 (tgt := 872) (by decide) (fun _ => kk _ _ _ _ _ _ _ _ _ _ _ _ _ F1) (fun h => absurd rfl h)
set_option maxHeartbeats 1000000 in
theorem lc_22 {p : Program} {l : Launch} {e : Env} {s : State} {m : MethodId} {args : Array Value} {below : List Frame} {meth : Method} {c : Code} {Q : State → Prop} {g : Ge} (X : Cx p args s m meth c g cL_law 4 RL ret 0) {b Ls o : Nat} {xs : Nat → Int32} {f : Pic} (hXs : va_X b Ls xs s s.heap) (hbl : b < s.heap.size) (hbA : ¬ gA g b) (hBB : BB g 184 o 184) {i : Nat} (hi : i + 4 ≤ Ls) (hLs : Ls ≤ 2048) {σ ρ : Nat → Int32} {S P : Nat → Nat → Int32} {φ κ τ π μ kp hs tx ι : Nat → Int32} (F : Fr σ ρ S P τ π μ hs tx ι) (kk : ∀ (σ ρ : Nat → Int32) (S P : Nat → Nat → Int32) (φ κ τ π μ kp hs tx ι : Nat → Int32), Fr σ ρ S P τ π μ hs tx ι → V p l e room_1 s m args below meth c Q g 4 184 4443 184 (PW f o (xL g o σ ρ S P φ κ τ π) (mdL g (o + 179) μ kp hs tx ι)) 872 [some (.ref b), some (.ref o), some (.ref (o + 179)), some (.int (nI i))] []) : V p l e room_1 s m args below meth c Q g 4 184 4443 184 (PW f o (xL g o σ ρ S P φ κ τ π) (mdL g (o + 179) μ kp hs tx ι)) 770 [some (.ref b), some (.ref o), some (.ref (o + 179)), some (.int (nI i))] [] := by
  obtain ⟨r, σ1, ρ1, S1, P1, φ1, κ1, τ1, π1, μ1, kp1, hs1, tx1, ι1, ⟨x, rfl⟩, F1, c7, c8⟩ := pr_repeats l g 184 o σ ρ S P φ κ τ π μ kp hs tx ι F 
  refine v_aload_n X dL_law_770 (i := 1) rfl rfl ?_
  refine v_lwx X [] xL_len xL_len rfl rfl hBB yv_X7_repeats m_ml_L_105 c7 rfl rfl (Nat.le_of_ble_eq_true rfl) ⟨Nat.le_of_ble_eq_true rfl, Nat.le_of_ble_eq_true rfl⟩ ⟨Nat.le_of_ble_eq_true rfl, Nat.le_of_ble_eq_true rfl⟩ dL_law_771 rfl ?_
  refine v_aload_n X dL_law_774 (i := 2) rfl rfl ?_
  refine v_lwm X [] mdL_len rfl rfl hBB yv_X8_repeats m_ml_L_108 c8 rfl rfl (Nat.le_of_ble_eq_true rfl) ⟨Nat.le_of_ble_eq_true rfl, Nat.le_of_ble_eq_true rfl⟩ ⟨Nat.le_of_ble_eq_true rfl, Nat.le_of_ble_eq_true rfl⟩ dL_law_775 rfl ?_
  exact v_icmp_eq X dL_law_778 (tgt := 872) (by decide) (fun _ => kk _ _ _ _ _ _ _ _ _ _ _ _ _ F1) (fun h => absurd rfl h)
set_option maxHeartbeats 1000000 in
theorem lc_23 {p : Program} {l : Launch} {e : Env} {s : State} {m : MethodId} {args : Array Value} {below : List Frame} {meth : Method} {c : Code} {Q : State → Prop} {g : Ge} (X : Cx p args s m meth c g cL_law 4 RL ret 0) {b Ls o : Nat} {xs : Nat → Int32} {f : Pic} (hXs : va_X b Ls xs s s.heap) (hbl : b < s.heap.size) (hbA : ¬ gA g b) (hBB : BB g 184 o 184) {i : Nat} (hi : i + 4 ≤ Ls) (hLs : Ls ≤ 2048) {σ ρ : Nat → Int32} {S P : Nat → Nat → Int32} {φ κ τ π μ kp hs tx ι : Nat → Int32} (F : Fr σ ρ S P τ π μ hs tx ι) (kk : ∀ (σ ρ : Nat → Int32) (S P : Nat → Nat → Int32) (φ κ τ π μ kp hs tx ι : Nat → Int32), Fr σ ρ S P τ π μ hs tx ι → V p l e room_1 s m args below meth c Q g 4 184 4443 184 (PW f o (xL g o σ ρ S P φ κ τ π) (mdL g (o + 179) μ kp hs tx ι)) 872 [some (.ref b), some (.ref o), some (.ref (o + 179)), some (.int (nI i))] []) : V p l e room_1 s m args below meth c Q g 4 184 4443 184 (PW f o (xL g o σ ρ S P φ κ τ π) (mdL g (o + 179) μ kp hs tx ι)) 783 [some (.ref b), some (.ref o), some (.ref (o + 179)), some (.int (nI i))] [] := by
  obtain ⟨r, σ1, ρ1, S1, P1, φ1, κ1, τ1, π1, μ1, kp1, hs1, tx1, ι1, ⟨x, rfl⟩, F1, c7, c8⟩ := pr_type l g 184 o σ ρ S P φ κ τ π μ kp hs tx ι F (xs (nI i + 1).toNatClampNeg)
  refine v_aload_n X dL_law_783 (i := 1) rfl rfl ?_
  refine v_aload_n X dL_law_784 (i := 0) rfl rfl ?_
  refine v_iload_n X dL_law_785 (i := 3) rfl rfl ?_
  refine v_iconst X dL_law_786 (v := (1 : Int32)) (by decide) ?_
  refine v_iadd X dL_law_787 ?_
  refine v_sld X hXs hbl hbA (in_i (i := i) (k := 1) (ix_add rfl rfl) (by omega) hLs) dL_law_788 ?_
  refine v_lwx X [.int (xs (nI i + 1).toNatClampNeg)] xL_len xL_len rfl rfl hBB yv_X7_type m_ml_L_109 c7 rfl rfl (Nat.le_of_ble_eq_true rfl) ⟨Nat.le_of_ble_eq_true rfl, Nat.le_of_ble_eq_true rfl⟩ ⟨Nat.le_of_ble_eq_true rfl, Nat.le_of_ble_eq_true rfl⟩ dL_law_789 rfl ?_
  refine v_aload_n X dL_law_792 (i := 2) rfl rfl ?_
  refine v_aload_n X dL_law_793 (i := 0) rfl rfl ?_
  refine v_iload_n X dL_law_794 (i := 3) rfl rfl ?_
  refine v_iconst X dL_law_795 (v := (1 : Int32)) (by decide) ?_
  refine v_iadd X dL_law_796 ?_
  refine v_sld X hXs hbl hbA (in_i (i := i) (k := 1) (ix_add rfl rfl) (by omega) hLs) dL_law_797 ?_
  refine v_lwm X [.int (xs (nI i + 1).toNatClampNeg)] mdL_len rfl rfl hBB yv_X8_type m_ml_L_112 c8 rfl rfl (Nat.le_of_ble_eq_true rfl) ⟨Nat.le_of_ble_eq_true rfl, Nat.le_of_ble_eq_true rfl⟩ ⟨Nat.le_of_ble_eq_true rfl, Nat.le_of_ble_eq_true rfl⟩ dL_law_798 rfl ?_
  exact v_icmp_eq X dL_law_801 (tgt := 872) (by decide) (fun _ => kk _ _ _ _ _ _ _ _ _ _ _ _ _ F1) (fun h => absurd rfl h)
set_option maxHeartbeats 1000000 in
theorem lc_24 {p : Program} {l : Launch} {e : Env} {s : State} {m : MethodId} {args : Array Value} {below : List Frame} {meth : Method} {c : Code} {Q : State → Prop} {g : Ge} (X : Cx p args s m meth c g cL_law 4 RL ret 0) {b Ls o : Nat} {xs : Nat → Int32} {f : Pic} (hXs : va_X b Ls xs s s.heap) (hbl : b < s.heap.size) (hbA : ¬ gA g b) (hBB : BB g 184 o 184) {i : Nat} (hi : i + 4 ≤ Ls) (hLs : Ls ≤ 2048) {σ ρ : Nat → Int32} {S P : Nat → Nat → Int32} {φ κ τ π μ kp hs tx ι : Nat → Int32} (F : Fr σ ρ S P τ π μ hs tx ι) (kk : ∀ (σ ρ : Nat → Int32) (S P : Nat → Nat → Int32) (φ κ τ π μ kp hs tx ι : Nat → Int32), Fr σ ρ S P τ π μ hs tx ι → V p l e room_1 s m args below meth c Q g 4 184 4443 184 (PW f o (xL g o σ ρ S P φ κ τ π) (mdL g (o + 179) μ kp hs tx ι)) 872 [some (.ref b), some (.ref o), some (.ref (o + 179)), some (.int (nI i))] []) : V p l e room_1 s m args below meth c Q g 4 184 4443 184 (PW f o (xL g o σ ρ S P φ κ τ π) (mdL g (o + 179) μ kp hs tx ι)) 806 [some (.ref b), some (.ref o), some (.ref (o + 179)), some (.int (nI i))] [] := by
  obtain ⟨r, σ1, ρ1, S1, P1, φ1, κ1, τ1, π1, μ1, kp1, hs1, tx1, ι1, ⟨x, rfl⟩, F1, c7, c8⟩ := pr_clearText l g 184 o σ ρ S P φ κ τ π μ kp hs tx ι F 
  refine v_aload_n X dL_law_806 (i := 1) rfl rfl ?_
  refine v_lwx X [] xL_len xL_len rfl rfl hBB yv_X7_clearText m_ml_L_113 c7 rfl rfl (Nat.le_of_ble_eq_true rfl) ⟨Nat.le_of_ble_eq_true rfl, Nat.le_of_ble_eq_true rfl⟩ ⟨Nat.le_of_ble_eq_true rfl, Nat.le_of_ble_eq_true rfl⟩ dL_law_807 rfl ?_
  refine v_aload_n X dL_law_810 (i := 2) rfl rfl ?_
  refine v_lwm X [] mdL_len rfl rfl hBB yv_X8_clearText m_ml_L_116 c8 rfl rfl (Nat.le_of_ble_eq_true rfl) ⟨Nat.le_of_ble_eq_true rfl, Nat.le_of_ble_eq_true rfl⟩ ⟨Nat.le_of_ble_eq_true rfl, Nat.le_of_ble_eq_true rfl⟩ dL_law_811 rfl ?_
  exact v_icmp_eq X dL_law_814 (tgt := 872) (by decide) (fun _ => kk _ _ _ _ _ _ _ _ _ _ _ _ _ F1) (fun h => absurd rfl h)
set_option maxHeartbeats 1000000 in
theorem lc_25 {p : Program} {l : Launch} {e : Env} {s : State} {m : MethodId} {args : Array Value} {below : List Frame} {meth : Method} {c : Code} {Q : State → Prop} {g : Ge} (X : Cx p args s m meth c g cL_law 4 RL ret 0) {b Ls o : Nat} {xs : Nat → Int32} {f : Pic} (hXs : va_X b Ls xs s s.heap) (hbl : b < s.heap.size) (hbA : ¬ gA g b) (hBB : BB g 184 o 184) {i : Nat} (hi : i + 4 ≤ Ls) (hLs : Ls ≤ 2048) {σ ρ : Nat → Int32} {S P : Nat → Nat → Int32} {φ κ τ π μ kp hs tx ι : Nat → Int32} (F : Fr σ ρ S P τ π μ hs tx ι) (kk : ∀ (σ ρ : Nat → Int32) (S P : Nat → Nat → Int32) (φ κ τ π μ kp hs tx ι : Nat → Int32), Fr σ ρ S P τ π μ hs tx ι → V p l e room_1 s m args below meth c Q g 4 184 4443 184 (PW f o (xL g o σ ρ S P φ κ τ π) (mdL g (o + 179) μ kp hs tx ι)) 872 [some (.ref b), some (.ref o), some (.ref (o + 179)), some (.int (nI i))] []) : V p l e room_1 s m args below meth c Q g 4 184 4443 184 (PW f o (xL g o σ ρ S P φ κ τ π) (mdL g (o + 179) μ kp hs tx ι)) 819 [some (.ref b), some (.ref o), some (.ref (o + 179)), some (.int (nI i))] [] := by
  obtain ⟨r, σ1, ρ1, S1, P1, φ1, κ1, τ1, π1, μ1, kp1, hs1, tx1, ι1, ⟨x, rfl⟩, F1, c7, c8⟩ := pr_syntaxError l g 184 o σ ρ S P φ κ τ π μ kp hs tx ι F 
  refine v_aload_n X dL_law_819 (i := 1) rfl rfl ?_
  refine v_lwx X [] xL_len xL_len rfl rfl hBB yv_X7_syntaxError m_ml_L_117 c7 rfl rfl (Nat.le_of_ble_eq_true rfl) ⟨Nat.le_of_ble_eq_true rfl, Nat.le_of_ble_eq_true rfl⟩ ⟨Nat.le_of_ble_eq_true rfl, Nat.le_of_ble_eq_true rfl⟩ dL_law_820 rfl ?_
  refine v_aload_n X dL_law_823 (i := 2) rfl rfl ?_
  refine v_lwm X [] mdL_len rfl rfl hBB yv_X8_syntaxError m_ml_L_120 c8 rfl rfl (Nat.le_of_ble_eq_true rfl) ⟨Nat.le_of_ble_eq_true rfl, Nat.le_of_ble_eq_true rfl⟩ ⟨Nat.le_of_ble_eq_true rfl, Nat.le_of_ble_eq_true rfl⟩ dL_law_824 rfl ?_
  exact v_icmp_eq X dL_law_827 (tgt := 872) (by decide) (fun _ => kk _ _ _ _ _ _ _ _ _ _ _ _ _ F1) (fun h => absurd rfl h)
set_option maxHeartbeats 1000000 in
theorem lc_26 {p : Program} {l : Launch} {e : Env} {s : State} {m : MethodId} {args : Array Value} {below : List Frame} {meth : Method} {c : Code} {Q : State → Prop} {g : Ge} (X : Cx p args s m meth c g cL_law 4 RL ret 0) {b Ls o : Nat} {xs : Nat → Int32} {f : Pic} (hXs : va_X b Ls xs s s.heap) (hbl : b < s.heap.size) (hbA : ¬ gA g b) (hBB : BB g 184 o 184) {i : Nat} (hi : i + 4 ≤ Ls) (hLs : Ls ≤ 2048) {σ ρ : Nat → Int32} {S P : Nat → Nat → Int32} {φ κ τ π μ kp hs tx ι : Nat → Int32} (F : Fr σ ρ S P τ π μ hs tx ι) (kk : ∀ (σ ρ : Nat → Int32) (S P : Nat → Nat → Int32) (φ κ τ π μ kp hs tx ι : Nat → Int32), Fr σ ρ S P τ π μ hs tx ι → V p l e room_1 s m args below meth c Q g 4 184 4443 184 (PW f o (xL g o σ ρ S P φ κ τ π) (mdL g (o + 179) μ kp hs tx ι)) 872 [some (.ref b), some (.ref o), some (.ref (o + 179)), some (.int (nI i))] []) : V p l e room_1 s m args below meth c Q g 4 184 4443 184 (PW f o (xL g o σ ρ S P φ κ τ π) (mdL g (o + 179) μ kp hs tx ι)) 832 [some (.ref b), some (.ref o), some (.ref (o + 179)), some (.int (nI i))] [] := by
  obtain ⟨r, σ1, ρ1, S1, P1, φ1, κ1, τ1, π1, μ1, kp1, hs1, tx1, ι1, ⟨x, rfl⟩, F1, c7, c8⟩ := pr_readCards l g 184 o σ ρ S P φ κ τ π μ kp hs tx ι F 
  refine v_aload_n X dL_law_832 (i := 1) rfl rfl ?_
  refine v_lwx X [] xL_len xL_len rfl rfl hBB yv_X7_readCards m_ml_L_121 c7 rfl rfl (Nat.le_of_ble_eq_true rfl) ⟨Nat.le_of_ble_eq_true rfl, Nat.le_of_ble_eq_true rfl⟩ ⟨Nat.le_of_ble_eq_true rfl, Nat.le_of_ble_eq_true rfl⟩ dL_law_833 rfl ?_
  refine v_aload_n X dL_law_836 (i := 2) rfl rfl ?_
  refine v_lwm X [] mdL_len rfl rfl hBB yv_X8_readCards m_ml_L_124 c8 rfl rfl (Nat.le_of_ble_eq_true rfl) ⟨Nat.le_of_ble_eq_true rfl, Nat.le_of_ble_eq_true rfl⟩ ⟨Nat.le_of_ble_eq_true rfl, Nat.le_of_ble_eq_true rfl⟩ dL_law_837 rfl ?_
  exact v_icmp_eq X dL_law_840 (tgt := 872) (by decide) (fun _ => kk _ _ _ _ _ _ _ _ _ _ _ _ _ F1) (fun h => absurd rfl h)
set_option maxHeartbeats 1000000 in
theorem lc_27 {p : Program} {l : Launch} {e : Env} {s : State} {m : MethodId} {args : Array Value} {below : List Frame} {meth : Method} {c : Code} {Q : State → Prop} {g : Ge} (X : Cx p args s m meth c g cL_law 4 RL ret 0) {b Ls o : Nat} {xs : Nat → Int32} {f : Pic} (hXs : va_X b Ls xs s s.heap) (hbl : b < s.heap.size) (hbA : ¬ gA g b) (hBB : BB g 184 o 184) {i : Nat} (hi : i + 4 ≤ Ls) (hLs : Ls ≤ 2048) {σ ρ : Nat → Int32} {S P : Nat → Nat → Int32} {φ κ τ π μ kp hs tx ι : Nat → Int32} (F : Fr σ ρ S P τ π μ hs tx ι) (kk : ∀ (σ ρ : Nat → Int32) (S P : Nat → Nat → Int32) (φ κ τ π μ kp hs tx ι : Nat → Int32), Fr σ ρ S P τ π μ hs tx ι → V p l e room_1 s m args below meth c Q g 4 184 4443 184 (PW f o (xL g o σ ρ S P φ κ τ π) (mdL g (o + 179) μ kp hs tx ι)) 872 [some (.ref b), some (.ref o), some (.ref (o + 179)), some (.int (nI i))] []) : V p l e room_1 s m args below meth c Q g 4 184 4443 184 (PW f o (xL g o σ ρ S P φ κ τ π) (mdL g (o + 179) μ kp hs tx ι)) 845 [some (.ref b), some (.ref o), some (.ref (o + 179)), some (.int (nI i))] [] := by
  obtain ⟨r, σ1, ρ1, S1, P1, φ1, κ1, τ1, π1, μ1, kp1, hs1, tx1, ι1, ⟨x, rfl⟩, F1, c7, c8⟩ := pr_undo l g 184 o σ ρ S P φ κ τ π μ kp hs tx ι F 
  refine v_aload_n X dL_law_845 (i := 1) rfl rfl ?_
  refine v_lwx X [] xL_len xL_len rfl rfl hBB yv_X7_undo m_ml_L_125 c7 rfl rfl (Nat.le_of_ble_eq_true rfl) ⟨Nat.le_of_ble_eq_true rfl, Nat.le_of_ble_eq_true rfl⟩ ⟨Nat.le_of_ble_eq_true rfl, Nat.le_of_ble_eq_true rfl⟩ dL_law_846 rfl ?_
  refine v_aload_n X dL_law_849 (i := 2) rfl rfl ?_
  refine v_lwm X [] mdL_len rfl rfl hBB yv_X8_undo m_ml_L_128 c8 rfl rfl (Nat.le_of_ble_eq_true rfl) ⟨Nat.le_of_ble_eq_true rfl, Nat.le_of_ble_eq_true rfl⟩ ⟨Nat.le_of_ble_eq_true rfl, Nat.le_of_ble_eq_true rfl⟩ dL_law_850 rfl ?_
  exact v_icmp_eq X dL_law_853 (tgt := 872) (by decide) (fun _ => kk _ _ _ _ _ _ _ _ _ _ _ _ _ F1) (fun h => absurd rfl h)
set_option maxHeartbeats 1000000 in
theorem lc_28 {p : Program} {l : Launch} {e : Env} {s : State} {m : MethodId} {args : Array Value} {below : List Frame} {meth : Method} {c : Code} {Q : State → Prop} {g : Ge} (X : Cx p args s m meth c g cL_law 4 RL ret 0) {b Ls o : Nat} {xs : Nat → Int32} {f : Pic} (hXs : va_X b Ls xs s s.heap) (hbl : b < s.heap.size) (hbA : ¬ gA g b) (hBB : BB g 184 o 184) {i : Nat} (hi : i + 4 ≤ Ls) (hLs : Ls ≤ 2048) {σ ρ : Nat → Int32} {S P : Nat → Nat → Int32} {φ κ τ π μ kp hs tx ι : Nat → Int32} (F : Fr σ ρ S P τ π μ hs tx ι) (kk : ∀ (σ ρ : Nat → Int32) (S P : Nat → Nat → Int32) (φ κ τ π μ kp hs tx ι : Nat → Int32), Fr σ ρ S P τ π μ hs tx ι → V p l e room_1 s m args below meth c Q g 4 184 4443 184 (PW f o (xL g o σ ρ S P φ κ τ π) (mdL g (o + 179) μ kp hs tx ι)) 872 [some (.ref b), some (.ref o), some (.ref (o + 179)), some (.int (nI i))] []) : V p l e room_1 s m args below meth c Q g 4 184 4443 184 (PW f o (xL g o σ ρ S P φ κ τ π) (mdL g (o + 179) μ kp hs tx ι)) 858 [some (.ref b), some (.ref o), some (.ref (o + 179)), some (.int (nI i))] [] := by
  obtain ⟨r, σ1, ρ1, S1, P1, φ1, κ1, τ1, π1, μ1, kp1, hs1, tx1, ι1, ⟨x, rfl⟩, F1, c7, c8⟩ := pr_digest l g 184 o σ ρ S P φ κ τ π μ kp hs tx ι F 
  refine v_aload_n X dL_law_858 (i := 1) rfl rfl ?_
  refine v_lwx X [] xL_len xL_len rfl rfl hBB yv_X7_digest m_ml_L_129 c7 rfl rfl (Nat.le_of_ble_eq_true rfl) ⟨Nat.le_of_ble_eq_true rfl, Nat.le_of_ble_eq_true rfl⟩ ⟨Nat.le_of_ble_eq_true rfl, Nat.le_of_ble_eq_true rfl⟩ dL_law_859 rfl ?_
  refine v_aload_n X dL_law_862 (i := 2) rfl rfl ?_
  refine v_lwm X [] mdL_len rfl rfl hBB yv_X8_digest m_ml_L_133 c8 rfl rfl (Nat.le_of_ble_eq_true rfl) ⟨Nat.le_of_ble_eq_true rfl, Nat.le_of_ble_eq_true rfl⟩ ⟨Nat.le_of_ble_eq_true rfl, Nat.le_of_ble_eq_true rfl⟩ dL_law_863 rfl ?_
  refine v_lcmp X dL_law_866 ?_
  exact v_if_eq X dL_law_867 (tgt := 872) (by decide) (fun _ => kk _ _ _ _ _ _ _ _ _ _ _ _ _ F1) (fun h => absurd (lg_self x) h)
