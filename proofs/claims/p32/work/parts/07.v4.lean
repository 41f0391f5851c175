section V3
variable {p : Program} {l : Launch} {e : Env} {R : Room} {s : State} {m : MethodId} {args : Array Value} {below : List Frame} {meth : Method} {c : Code} {Q : State → Prop}
variable {g : Ge} {cc : ByteArray} {nL : Nat} {own : String} {rt : Option FieldType} {N0 cs ss N : Nat} {f : Pic} {pc : Nat} {lv : List (Option Value)} {st : List Value} {o : Nat} {L L' : List va_E}
def YC (y : MethodName) (bytes : ByteArray) (maxL : Nat) (ret : Option FieldType) (n : Nat) : Prop := Cond.code y bytes maxL ret ∈ gT ∧ Cond.initialized y.cls ∈ gT ∧ y.cls ≠ "java/lang/invoke/MethodHandle" ∧ y.cls ≠ "java/lang/invoke/VarHandle" ∧ (parseMethodDescriptor y.desc).map (fun d => d.parameters.length) = some n
/-- an instance method, called by its own class's name -/
def YV (y : MethodName) (bytes : ByteArray) (maxL : Nat) (ret : Option FieldType) (n ci : Nat) : Prop := YC y bytes maxL ret n ∧ Cond.instanceMethod y ∈ gT ∧ ∃ (C : String) (T : u_T) (k : Nat), vwCl[ci]? = some (C, T, k) ∧ Cond.selects C y y ∈ gT
def YS (y : MethodName) (bytes : ByteArray) (maxL : Nat) (ret : Option FieldType) (n : Nat) : Prop := YC y bytes maxL ret n ∧ Cond.static y ∈ gT
def YI (y : MethodName) (bytes : ByteArray) (maxL n : Nat) : Prop := YC y bytes maxL none n ∧ Cond.instanceMethod y ∈ gT ∧ y.name = "<init>"
theorem gT_in {w : Cond} (h : w ∈ gT) : GoodIn gT (w :: gT) := fun x hx => by
  rcases List.mem_cons.mp hx with rfl | hx
  · exact ⟨h, good_of_word (gT_good h)⟩
  · exact ⟨hx, good_of_word (gT_good hx)⟩
theorem ct_blind {As : List Value} : FrameBlind (va_Pc As (fun U => U.heap.size = g.2.2 + N ∧ HP g N f U.heap ∧ KK g U)) := fun a U g' mk q => ⟨q.1, q.2.1, q.2.2.1, q.2.2.2.calling⟩
theorem Cx.fix (X : Cx p args s m meth c g cc nL own rt N0) : CallFix p m c cc nL s args gT own := ⟨X.1, X.2.1, X.2.2.1, X.2.2.2.1, X.2.2.2.2.1⟩
theorem YC.callB {y : MethodName} {bytes : ByteArray} {maxL n idx d mc ms : Nat} {ret : Option FieldType} (h : YC y bytes maxL ret n) (X : Cx p args s m meth c g cc nL own rt N0) (hml : Cond.methodLink own idx y ∈ gT) (hR : d + 1 ≤ R.frames ∧ 8 + (maxL + 11) + 35 * d ≤ R.locals) : CallB R s args own idx y bytes maxL ret (Cond.code y bytes maxL ret :: gT) (rmD d mc ms) mc ms n :=
  callB_of (ws' := gT) n X.2.2.2.2.1 (gT_in h.1) rfl rfl rfl (X.wd h.2.1) (X.wd hml) ⟨h.2.2.1, h.2.2.2.1, h.2.2.2.2⟩ hR
/-- behind a call that kept its contract -/
theorem v_back (X : Cx p args s m meth c g cc nL own rt N0) {mc ms N' : Nat} {f' : Pic} {r : Option Value} {st0 st' : List Value} {a : Array Value} {T : State} {H : Heap} {locs : List Loc} {ls : Array Slot} (hP : HP g N f H) (hS : va_S (gA g) s.heap H locs) (hl : lv_has ls nL (lvp 0 lv)) (hT : T.heap = H) (St : Stand p l e R s m args below meth c T locs cs ss)
    (hr : va_Run p l e R s m args below meth c H locs cs ss mc ms (F0 m pc ls st0) st (CtQ g r N' f' a) (gA g)) (hst : r.toList ++ st = st') (kk : V p l e R s m args below meth c Q g nL (cs + mc) (ss + ms) N' f' (pc + 3) lv st') : ∃ t, Steps p.tables e below (T.setTop (F0 m pc ls st0)) t ∧ Q t := by
  obtain ⟨v, st₀, t, T', L, h0, X', hL, e1, e2, ⟨hv, hPt, hk⟩, stp⟩ := hr T hT St
  cases hv
  subst hst
  have hS' : va_S (gA g) s.heap T'.heap (locs ++ L) := by
    refine ⟨X'.same.2.1, fun q h1 h2 => ?_, fun q hq => ?_⟩
    · have hq : q < g.2.2 := Nat.not_le.mp h2
      rw [e1, hk q hq, h0]
      exact hS.2.1 q h1 h2
    · rcases List.mem_append.mp hq with h | h
      · exact hS.2.2 q h
      · exact hL q h
  obtain ⟨t2, a1, b1⟩ := kk T'.heap (locs ++ L) ls (by rw [e1]; exact hPt) hS' hl T' rfl X'
  exact ⟨t2, stp t2 a1, b1⟩
theorem v_callV (X : Cx p args s m meth c g cc nL own rt N0) {y : MethodName} {bytes : ByteArray} {maxL idx d mc ms N' b ci : Nat} {ret : Option FieldType} {As : List Value} {f' : Pic} {r : Option Value} {fs : List Value} {st0 st' : List Value} (hz : N = N0 + cs) {n : Nat} (hy : YV y bytes maxL ret n ci) (hml : Cond.methodLink own idx y ∈ gT) (hC : Ct l g y (.code y bytes maxL ret) d (.ref b :: As) N f r N' f' mc ms) (hb : g.2.2 ≤ b ∧ b < g.2.2 + N) (hrec : f b = .inr (ci, fs)) (hst0 : st0 = As.reverse ++ .ref b :: st) (hlen : As.length = n) (hcat : (st.map fun v => v.category).sum ≤ 8) (hR : d + 1 ≤ R.frames ∧ 8 + (maxL + 11) + 35 * d ≤ R.locals) (hf : cs + mc ≤ R.cells ∧ ss + ms ≤ R.slots) (dd : decode cc pc = .ok (.invokevirtual idx, 3)) (hst : r.toList ++ st = st') (kk : V p l e R s m args below meth c Q g nL (cs + mc) (ss + ms) N' f' (pc + 3) lv st') : V p l e R s m args below meth c Q g nL cs ss N f pc lv st0 := by
  intro H locs ls hP hS hl T hT St
  have hsz := X.size hz hT hP St
  obtain ⟨hyc, hin, C, T0, k, hcl, hsel⟩ := hy
  refine v_back X hP hS hl hT St (va_runV (g := F0 m pc ls st0) X.fix hC ⟨hyc.callB X hml hR, X.wd hin, X.wd hsel⟩ ⟨ct_blind, va_recv X.kk hP hcl (wl_atE hb.1 hb.2 hrec), fun U hU hW => ⟨rfl, by rw [hU]; exact hsz, by rw [hU]; exact hP, KK.warm hW X.2.2.2.2.2.2.2.1⟩⟩ rfl hlen hl.1 hst0 (lv_room (rest := st0) hcat) dd hf) hst kk
theorem v_callS (X : Cx p args s m meth c g cc nL own rt N0) {y : MethodName} {bytes : ByteArray} {maxL idx d mc ms N' : Nat} {ret : Option FieldType} {As : List Value} {f' : Pic} {r : Option Value} {st0 st' : List Value} (hz : N = N0 + cs) {n : Nat} (hy : YS y bytes maxL ret n) (hml : Cond.methodLink own idx y ∈ gT) (hC : Ct l g y (.code y bytes maxL ret) d As N f r N' f' mc ms) (hst0 : st0 = As.reverse ++ st) (hlen : As.length = n) (hcat : (st.map fun v => v.category).sum ≤ 8) (hR : d + 1 ≤ R.frames ∧ 8 + (maxL + 11) + 35 * d ≤ R.locals) (hf : cs + mc ≤ R.cells ∧ ss + ms ≤ R.slots) (dd : decode cc pc = .ok (.invokestatic idx, 3)) (hst : r.toList ++ st = st') (kk : V p l e R s m args below meth c Q g nL (cs + mc) (ss + ms) N' f' (pc + 3) lv st') : V p l e R s m args below meth c Q g nL cs ss N f pc lv st0 := by
  intro H locs ls hP hS hl T hT St
  have hsz := X.size hz hT hP St
  refine v_back X hP hS hl hT St (va_runS (g := F0 m pc ls st0) X.fix hC ⟨hy.1.callB X hml hR, X.wd hy.2⟩ ⟨ct_blind, fun U hU hW => ⟨rfl, by rw [hU]; exact hsz, by rw [hU]; exact hP, KK.warm hW X.2.2.2.2.2.2.2.1⟩⟩ rfl hlen hl.1 hst0 (lv_room (rest := st0) hcat) dd hf) hst kk
theorem v_callSN (X : Cx p args s m meth c g cc nL own rt N0) {y : MethodName} {bytes : ByteArray} {maxL idx d mc ms N' : Nat} {host : String} {ret : Option FieldType} {As : List Value} {f' : Pic} {r : Option Value} {st0 st' : List Value} (hz : N = N0 + cs) {n : Nat} (hy : YS y bytes maxL ret n) (hml : (own, idx, y, host) ∈ gN) (hC : Ct l g y (.code y bytes maxL ret) d As N f r N' f' mc ms) (hst0 : st0 = As.reverse ++ st) (hlen : As.length = n) (hcat : (st.map fun v => v.category).sum ≤ 8) (hR : d + 1 ≤ R.frames ∧ 8 + (maxL + 11) + 35 * d ≤ R.locals) (hf : cs + mc ≤ R.cells ∧ ss + ms ≤ R.slots) (dd : decode cc pc = .ok (.invokestatic idx, 3)) (hst : r.toList ++ st = st') (kk : V p l e R s m args below meth c Q g nL (cs + mc) (ss + ms) N' f' (pc + 3) lv st') : V p l e R s m args below meth c Q g nL cs ss N f pc lv st0 := by
  intro H locs ls hP hS hl T hT St
  have hsz := X.size hz hT hP St
  refine v_back X hP hS hl hT St (va_runSN (g := F0 m pc ls st0) X.fix hC ⟨va_cnB (ws' := gT) n X.2.2.2.2.1 (gT_in hy.1.1) rfl rfl rfl (X.2.2.2.2.2.2.2.1.2.1 _ hml) (X.wd hy.1.2.1) ⟨hy.1.2.2.1, hy.1.2.2.2.1, hy.1.2.2.2.2⟩ hR, X.wd hy.2, trivial⟩ ⟨ct_blind, fun U hU hW => ⟨rfl, by rw [hU]; exact hsz, by rw [hU]; exact hP, KK.warm hW X.2.2.2.2.2.2.2.1⟩⟩ rfl hlen hl.1 hst0 (lv_room (rest := st0) hcat) dd hf) hst kk
theorem v_callI (X : Cx p args s m meth c g cc nL own rt N0) {y : MethodName} {bytes : ByteArray} {maxL idx d mc ms N' b : Nat} {As : List Value} {f' : Pic} {st0 : List Value} (hz : N = N0 + cs) {n : Nat} (hy : YI y bytes maxL n) (hml : Cond.methodLink own idx y ∈ gT) (hC : Ct l g y (.code y bytes maxL none) d (.ref b :: As) N f none N' f' mc ms) (hst0 : st0 = As.reverse ++ .ref b :: st) (hlen : As.length = n) (hcat : (st.map fun v => v.category).sum ≤ 8) (hR : d + 1 ≤ R.frames ∧ 8 + (maxL + 11) + 35 * d ≤ R.locals) (hf : cs + mc ≤ R.cells ∧ ss + ms ≤ R.slots) (dd : decode cc pc = .ok (.invokespecial idx, 3)) (kk : V p l e R s m args below meth c Q g nL (cs + mc) (ss + ms) N' f' (pc + 3) lv st) : V p l e R s m args below meth c Q g nL cs ss N f pc lv st0 := by
  intro H locs ls hP hS hl T hT St
  have hsz := X.size hz hT hP St
  refine v_back X hP hS hl hT St (va_runI (g := F0 m pc ls st0) X.fix hC ⟨hy.1.callB X hml hR, hy.2.2, X.wd hy.2.1⟩ ⟨ct_blind, fun U hU hW => ⟨rfl, by rw [hU]; exact hsz, by rw [hU]; exact hP, KK.warm hW X.2.2.2.2.2.2.2.1⟩⟩ rfl hlen hl.1 hst0 (lv_room (rest := st0) hcat) dd hf) rfl kk
theorem v_callIN (X : Cx p args s m meth c g cc nL own rt N0) {y : MethodName} {bytes : ByteArray} {maxL idx d mc ms N' b : Nat} {host : String} {As : List Value} {f' : Pic} {st0 : List Value} (hz : N = N0 + cs) {n : Nat} (hy : YI y bytes maxL n) (hml : (own, idx, y, host) ∈ gN) (hC : Ct l g y (.code y bytes maxL none) d (.ref b :: As) N f none N' f' mc ms) (hst0 : st0 = As.reverse ++ .ref b :: st) (hlen : As.length = n) (hcat : (st.map fun v => v.category).sum ≤ 8) (hR : d + 1 ≤ R.frames ∧ 8 + (maxL + 11) + 35 * d ≤ R.locals) (hf : cs + mc ≤ R.cells ∧ ss + ms ≤ R.slots) (dd : decode cc pc = .ok (.invokespecial idx, 3)) (kk : V p l e R s m args below meth c Q g nL (cs + mc) (ss + ms) N' f' (pc + 3) lv st) : V p l e R s m args below meth c Q g nL cs ss N f pc lv st0 := by
  intro H locs ls hP hS hl T hT St
  have hsz := X.size hz hT hP St
  refine v_back X hP hS hl hT St (va_runIN (g := F0 m pc ls st0) X.fix hC ⟨va_cnB (ws' := gT) n X.2.2.2.2.1 (gT_in hy.1.1) rfl rfl rfl (X.2.2.2.2.2.2.2.1.2.1 _ hml) (X.wd hy.1.2.1) ⟨hy.1.2.2.1, hy.1.2.2.2.1, hy.1.2.2.2.2⟩ hR, hy.2.2, X.wd hy.2.1⟩ ⟨ct_blind, fun U hU hW => ⟨rfl, by rw [hU]; exact hsz, by rw [hU]; exact hP, KK.warm hW X.2.2.2.2.2.2.2.1⟩⟩ rfl hlen hl.1 hst0 (lv_room (rest := st0) hcat) dd hf) rfl kk
theorem v_objInit (X : Cx p args s m meth c g cc nL own rt N0) {idx a : Nat} (hml : Cond.methodLink own idx objectInit ∈ gT) (hcat : (st.map fun v => v.category).sum ≤ 8) (hR : 1 ≤ R.frames ∧ 20 ≤ R.locals) (d : decode cc pc = .ok (.invokespecial idx, 3)) (kk : V p l e R s m args below meth c Q g nL cs ss N f (pc + 3) lv st) : V p l e R s m args below meth c Q g nL cs ss N f pc lv (.ref a :: st) :=
  fun H locs ls hP hS hl => W.objInit X.1 X.2.1 X.2.2.2.1 (X.wd hml) (X.wd m_in_init) (X.wd m_co_init) rfl (by rw [X.2.2.1]; exact hl.1) rfl d hR.1 (by have := lv_room (m := m) (pc := pc) (ls := ls) (rest := .ref a :: st) hcat; omega) (kk H locs ls hP hS hl)
theorem v_mmax (X : Cx p args s m meth c g cc nL own rt N0) {idx : Nat} {x y v : Int32} (hml : Cond.methodLink own idx yJ9_max_7cf53 ∈ gT) (hcat : (st.map fun v => v.category).sum ≤ 8) (hR : 1 ≤ R.frames ∧ 21 ≤ R.locals) (hc : cs ≤ R.cells ∧ ss ≤ R.slots) (d : decode cc pc = .ok (.invokestatic idx, 3)) (hv : (if x < y then y else x) = v) (kk : V p l e R s m args below meth c Q g nL cs ss N f (pc + 3) lv (.int v :: st)) : V p l e R s m args below meth c Q g nL cs ss N f pc lv (.int y :: .int x :: st) := by
  intro H locs ls hP hS hl
  refine va_mmax X.1 X.2.1 (by rw [X.2.2.1]; exact hl.1.symm) X.2.2.2.1 (X.wd hml) (X.wd m_st_J9_max_7cf53) (X.wd m_ini_J9) (X.wd m_co_J9_max_7cf53) hR.1 (by omega) hc.1 hc.2 d ?_
  first | rw [hv] | (have hv' := hv; simp only at hv'; rw [hv'])
  exact kk H locs ls hP hS hl
theorem v_mmin (X : Cx p args s m meth c g cc nL own rt N0) {idx : Nat} {x y v : Int32} (hml : Cond.methodLink own idx yJ9_min_7cf53 ∈ gT) (hcat : (st.map fun v => v.category).sum ≤ 8) (hR : 1 ≤ R.frames ∧ 21 ≤ R.locals) (hc : cs ≤ R.cells ∧ ss ≤ R.slots) (d : decode cc pc = .ok (.invokestatic idx, 3)) (hv : (if y < x then y else x) = v) (kk : V p l e R s m args below meth c Q g nL cs ss N f (pc + 3) lv (.int v :: st)) : V p l e R s m args below meth c Q g nL cs ss N f pc lv (.int y :: .int x :: st) := by
  intro H locs ls hP hS hl
  refine va_mmin X.1 X.2.1 (by rw [X.2.2.1]; exact hl.1.symm) X.2.2.2.1 (X.wd hml) (X.wd m_st_J9_min_7cf53) (X.wd m_ini_J9) (X.wd m_co_J9_min_7cf53) hR.1 (by omega) hc.1 hc.2 d ?_
  first | rw [hv] | (have hv' := hv; simp only at hv'; rw [hv'])
  exact kk H locs ls hP hS hl
theorem v_mabs (X : Cx p args s m meth c g cc nL own rt N0) {idx : Nat} {x v : Int32} (hml : Cond.methodLink own idx yJ9_abs_0f7a4 ∈ gT) (hcat : (st.map fun v => v.category).sum ≤ 8) (hR : 1 ≤ R.frames ∧ 21 ≤ R.locals) (hc : cs ≤ R.cells ∧ ss ≤ R.slots) (d : decode cc pc = .ok (.invokestatic idx, 3)) (hv : (if 0 ≤ x then x else 0 - x) = v) (kk : V p l e R s m args below meth c Q g nL cs ss N f (pc + 3) lv (.int v :: st)) : V p l e R s m args below meth c Q g nL cs ss N f pc lv (.int x :: st) := by
  intro H locs ls hP hS hl
  refine va_mabs X.1 X.2.1 (by rw [X.2.2.1]; exact hl.1.symm) X.2.2.2.1 (X.wd hml) (X.wd m_st_J9_abs_0f7a4) (X.wd m_ini_J9) (X.wd m_co_J9_abs_0f7a4) hR.1 (by omega) hc.1 hc.2 d ?_
  first | rw [hv] | (have hv' := hv; simp only at hv'; rw [hv'])
  exact kk H locs ls hP hS hl
theorem v_copy (X : Cx p args s m meth c g cc nL own rt N0) {idx a a0 n0 n1 n : Nat} {sp dp z : Int32} {src dst : Nat → Int32} (hml : Cond.methodLink own idx arraycopyName ∈ gT) (h0 : sp = 0) (h1 : dp = 0) (hz : z = nI n) (hn : n < 2 ^ 31) (hn0 : n ≤ n0) (hn1 : n ≤ n1) (ha0 : g.2.2 ≤ a0 ∧ a0 < g.2.2 + N) (hc0 : f a0 = .inl (g.2.1.1, n0, .inl src)) (ha : g.2.2 ≤ a ∧ a < g.2.2 + N) (hc : f a = .inl (g.2.1.1, n1, .inl dst)) (hcat : (st.map fun v => v.category).sum ≤ 8) (hR : 1 ≤ R.frames ∧ 8 + (nativeFrameWords "java/lang/System" "arraycopy" 5 + 11) ≤ R.locals) (d : decode cc pc = .ok (.invokestatic idx, 3)) (kk : V p l e R s m args below meth c Q g nL cs ss N (upP f a (.inl (g.2.1.1, n1, .inl (va_cpy src dst 0 0 n)))) (pc + 3) lv st) : V p l e R s m args below meth c Q g nL cs ss N f pc lv (.int z :: .int dp :: .ref a :: .int sp :: .ref a0 :: st) := by
  subst h0; subst h1; subst hz
  intro H locs ls hP hS hl
  have e0 : (0 : Int32).toNatClampNeg = 0 := rfl
  have en : (nI n).toNatClampNeg = n := nI_clamp hn
  refine va_copyi (D := g.1) X.1 X.2.1 (by rw [X.2.2.1]; exact hl.1.symm) X.2.2.2.1 (X.wd hml) (X.wd m_na_arraycopy) (X.wd m_st_arraycopy) (X.wd m_ini_J10) X.kk hP (wl_D g N f) hS (a0 - g.2.2) (a - g.2.2) 0 0 (wl_atE ha0.1 ha0.2 hc0) (wl_atE ha.1 ha.2 hc) rfl rfl rfl (by decide) (by decide) (nI_pos hn) (by rw [e0, en]; omega) (by rw [e0, en]; omega) (fun _ _ => rfl) hR.1 (by omega) d (fun H1 locs1 hP1 hD1 hS1 => ?_)
  rw [wl_set ha.1 ha.2, e0, en] at hP1
  exact kk H1 locs1 ls hP1 hS1 hl
theorem v_iret (X : Cx p args s m meth c g cc nL own rt N0) {r : Option Value} {N' : Nat} {f' : Pic} {v : Int32} (hrt : rt = some .int) (d : decode cc pc = .ok (.ireturn, 1)) (hv : some (.int v) = r) (hf : f = f') (hN : N = N' := by rfl) : V p l e R s m args below meth c (MQ below (CtQ g r N' f') args s cs ss (gA g)) g nL cs ss N f pc lv [.int v] :=
  fun H locs ls hP hS hl => W.iret X.1 X.2.1 (by rw [X.2.2.2.2.2.2.1, hrt]) (fun t ht hW => ⟨by rw [hv], by rw [ht]; subst hN; subst hf; exact hP, fun q hq => by rw [ht]; exact hS.2.1 q (by have := X.2.2.2.2.2.2.2.2; omega) (Nat.not_le.mpr hq)⟩) hS.2.2 d (hlocks := X.2.2.2.2.2.1)
theorem v_zret (X : Cx p args s m meth c g cc nL own rt N0) {r : Option Value} {N' : Nat} {f' : Pic} {v : Int32} (hrt : rt = some .boolean) (d : decode cc pc = .ok (.ireturn, 1)) (hn : narrow .boolean (.int v) = .int v) (hv : some (.int v) = r) (hf : f = f') (hN : N = N' := by rfl) : V p l e R s m args below meth c (MQ below (CtQ g r N' f') args s cs ss (gA g)) g nL cs ss N f pc lv [.int v] :=
  fun H locs ls hP hS hl => W.zret X.1 X.2.1 (by rw [X.2.2.2.2.2.2.1, hrt]) hn (fun t ht hW => ⟨by rw [hv], by rw [ht]; subst hN; subst hf; exact hP, fun q hq => by rw [ht]; exact hS.2.1 q (by have := X.2.2.2.2.2.2.2.2; omega) (Nat.not_le.mpr hq)⟩) hS.2.2 d (hlocks := X.2.2.2.2.2.1)
theorem v_lret (X : Cx p args s m meth c g cc nL own rt N0) {r : Option Value} {N' : Nat} {f' : Pic} {v : Int64} (hrt : rt = some .long) (d : decode cc pc = .ok (.lreturn, 1)) (hv : some (.long v) = r) (hf : f = f') (hN : N = N' := by rfl) : V p l e R s m args below meth c (MQ below (CtQ g r N' f') args s cs ss (gA g)) g nL cs ss N f pc lv [.long v] :=
  fun H locs ls hP hS hl => W.lret X.1 X.2.1 (by rw [X.2.2.2.2.2.2.1, hrt]) (fun t ht hW => ⟨by rw [hv], by rw [ht]; subst hN; subst hf; exact hP, fun q hq => by rw [ht]; exact hS.2.1 q (by have := X.2.2.2.2.2.2.2.2; omega) (Nat.not_le.mpr hq)⟩) hS.2.2 d (hlocks := X.2.2.2.2.2.1)
theorem v_vret (X : Cx p args s m meth c g cc nL own rt N0) {r : Option Value} {N' : Nat} {f' : Pic} (hrt : rt = none) (d : decode cc pc = .ok (.return_, 1)) (hv : none = r) (hf : f = f') (hN : N = N' := by rfl) : V p l e R s m args below meth c (MQ below (CtQ g r N' f') args s cs ss (gA g)) g nL cs ss N f pc lv [] :=
  fun H locs ls hP hS hl => W.vret X.1 X.2.1 (by rw [X.2.2.2.2.2.2.1, hrt]) (fun t ht hW => ⟨by rw [hv], by rw [ht]; subst hN; subst hf; exact hP, fun q hq => by rw [ht]; exact hS.2.1 q (by have := X.2.2.2.2.2.2.2.2; omega) (Nat.not_le.mpr hq)⟩) hS.2.2 d (hlocks := X.2.2.2.2.2.1)
theorem v_widen {ks kn : Nat} (h1 : cs ≤ ks) (h2 : ss ≤ kn) (kk : V p l e R s m args below meth c Q g nL ks kn N f pc lv st) : V p l e R s m args below meth c Q g nL cs ss N f pc lv st :=
  fun H locs ls hP hS hl => W.widen h1 h2 (kk H locs ls hP hS hl)
end V3
abbrev Vm (p : Program) (l : Launch) (e : Env) (s : State) (m : MethodId) (args : Array Value) (below : List Frame) (meth : Method) (c : Code) (g : Ge) (d nL N : Nat) (r : Option Value) (f' f : Pic) (pc : Nat) (lv : List (Option Value)) (st : List Value) : Prop := V p l e (rmD d 0 0) s m args below meth c (MQ below (CtQ g r N f') args s 0 0 (gA g)) g nL 0 0 N f pc lv st
theorem ct_of {l : Launch} {g : Ge} {y : MethodName} {own : String} {bytes : ByteArray} {maxL d N N' mc ms : Nat} {ret : Option FieldType} {As : List Value} {f f' : Pic} {r : Option Value} (lv0 : List (Option Value)) (hy : plainName y.cls = true) (hown : y.cls = own) (hlv : lvp 0 lv0 = lv_args 0 As) (hlen : (lg_sl As).length ≤ maxL)
    (body : ∀ (p : Program) (e : Env) (s : State) (m : MethodId) (args : Array Value) (below : List Frame) (meth : Method) (c : Code), (y.name = meth.name) → Cx p args s m meth c g bytes maxL own ret N → V p l e (rmD d mc ms) s m args below meth c (MQ below (CtQ g r N' f') args s mc ms (gA g)) g maxL 0 0 N f 0 lv0 []) :
    Ct l g y (.code y bytes maxL ret) d As N f r N' f' mc ms := by
  refine Met.ofW (cc := bytes) (maxL := maxL) (ret := ret) hy rfl ?_
  intro p e s m args below meth c s₁ B hml hv
  obtain ⟨rfl, hsz, hP, hK⟩ := hv
  have hts := atoms_spec (ws := Cond.code y bytes maxL ret :: gT) B.pre
  have hf : s.vm.findClass own = some m.cls := by rw [← hown]; exact findClass_of_methodNamed B.named
  have hX : Cx p As.toArray s m meth c g bytes maxL own ret N := ⟨B.exec, B.bytes, hml, hf, fun w hw => hts w (List.mem_cons_of_mem _ hw), B.notSynchronized, B.returns, hK, hsz⟩
  have hl := lv_entry As (n := maxL) hlen
  rw [lg_entry_eq]
  exact body p e s m As.toArray below meth c ((name_of_methodNamed B.named B.method).1).symm hX s.heap [] _ hP va_S.rf (by rw [hlv]; exact hl)
