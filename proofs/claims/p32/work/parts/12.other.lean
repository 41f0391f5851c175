/-! a second block, read alone -/
def OB (g : Ge) (N : Nat) (f : Pic) (o nB o2 nB2 : Nat) (M2 : List va_E) : Prop := BB g N o2 nB2 ∧ (o + nB ≤ o2 ∨ o2 + nB2 ≤ o) ∧ M2.length = nB2 ∧ ∀ (j : Nat) (c : va_E), M2[j]? = some c → f (o2 + j) = c
def Cb2 (l : Launch) (g : Ge) (y : MethodName) (w : Cond) (d : Nat) (As : List Value) (N o : Nat) (M : List va_E) (o2 : Nat) (M2 : List va_E) (r : Option Value) (M' : List va_E) : Prop :=
  ∀ f : Pic, BB g N o M.length → OB g N f o M.length o2 M2.length M2 → Ct l g y w d As N (ovr f o M) r N (ovr f o M') 0 0
theorem OB.at {g : Ge} {N o nB o2 nB2 j : Nat} {f : Pic} {L M2 : List va_E} {c : va_E} (h : OB g N f o nB o2 nB2 M2) (hL : L.length = nB) (hj : M2[j]? = some c) : ovr f o L (o2 + j) = c := by
  have h1 := (List.getElem?_eq_some_iff.mp hj).1
  have h2 := h.2.2.1
  rw [ovr_out (by have := h.2.1; omega)]
  exact h.2.2.2 j c hj
theorem OB.rg {g : Ge} {N o nB o2 nB2 j : Nat} {f : Pic} {M2 : List va_E} {c : va_E} (h : OB g N f o nB o2 nB2 M2) (hj : M2[j]? = some c) : g.2.2 ≤ o2 + j ∧ o2 + j < g.2.2 + N := by
  have h1 := (List.getElem?_eq_some_iff.mp hj).1
  exact ⟨h.1.lo, h.1.hi (by rw [← h.2.2.1]; exact h1)⟩
theorem OB.sub {g : Ge} {N o nB o2 nB2 j n j2 : Nat} {f : Pic} {L M2 M3 : List va_E} (h : OB g N f o nB o2 nB2 M2) (hL : L.length = nB) (hj : j + n ≤ nB) (hj2 : j2 + M3.length ≤ nB2) (hs : sbl M2 j2 M3.length = M3) : OB g N (ovr f o L) (o + j) n (o2 + j2) M3.length M3 := by
  refine ⟨h.1.sub hj2, ?_, rfl, fun i c hi => ?_⟩
  · have := h.2.1; omega
  · have h1 := (List.getElem?_eq_some_iff.mp hi).1
    have e : M2[j2 + i]? = some c := by
      rw [← hs] at hi
      unfold sbl at hi
      rw [List.getElem?_take, if_pos h1, List.getElem?_drop] at hi
      exact hi
    rw [Nat.add_assoc]
    exact h.at hL e
/-- the second block lies in the first picture itself -/
theorem OB.of {g : Ge} {N o o1 o2 n n2 : Nat} {f : Pic} {L M2 : List va_E} (j1 j2 : Nat) {nB : Nat} (hB : BB g N o nB) (h1 : o1 = o + j1) (h2 : o2 = o + j2) (hj2 : j2 + M2.length ≤ nB) (hd : j1 + n ≤ j2 ∨ j2 + M2.length ≤ j1) (hs : sbl L j2 M2.length = M2) (hn : n2 = M2.length) : OB g N (ovr f o L) o1 n o2 n2 M2 := by
  subst h1; subst h2; subst hn
  refine ⟨hB.sub hj2, by omega, rfl, fun i c hi => ?_⟩
  have h1 := (List.getElem?_eq_some_iff.mp hi).1
  have e : L[j2 + i]? = some c := by
    rw [← hs] at hi
    unfold sbl at hi
    rw [List.getElem?_take, if_pos h1, List.getElem?_drop] at hi
    exact hi
  rw [Nat.add_assoc]
  exact ovr_at e
theorem cpy_vw {σ σ2 : Nat → Int32} {b s n : Nat} : va_cpy (vw σ2 b s n) (vw σ b s n) 0 0 n = vw σ2 b s n := by
  funext j
  by_cases hj : j < n
  · rw [pk_cpy_in (Nat.zero_le _) (by omega)]; congr 1; omega
  · rw [pk_cpy_out (by omega)]; simp [vw, hj]
section V6
variable {p : Program} {l : Launch} {e : Env} {R : Room} {s : State} {m : MethodId} {args : Array Value} {below : List Frame} {meth : Method} {c : Code} {Q : State → Prop}
variable {g : Ge} {cc : ByteArray} {nL : Nat} {own : String} {rt : Option FieldType} {N0 cs ss N : Nat} {f : Pic} {pc : Nat} {lv : List (Option Value)} {st : List Value} {o nB o2 nB2 : Nat} {L L' M2 : List va_E}
theorem v_getO (X : Cx p args s m meth c g cc nL own rt N0) {ci idx : Nat} {C : String} {T : u_T} {n : Nat} {ty : Nat → FieldType} {fs : List Value} {v : Value} (hO : OB g N f o nB o2 nB2 M2) (hL : L.length = nB) (cf : CF ci C T n ty) (k : Nat) (hk : k < n) (hl : Cond.fieldLink own idx C (T k).2.1 (T k).2.2.1 ∈ gT) (d : decode cc pc = .ok (.getfield idx, 3)) (j : Nat) (hj : M2[j]? = some (.inr (ci, fs))) (hv : fs[k]? = some v) (kk : V p l e R s m args below meth c Q g nL cs ss N (ovr f o L) (pc + 3) lv (v :: st)) : V p l e R s m args below meth c Q g nL cs ss N (ovr f o L) pc lv (.ref (o2 + j) :: st) :=
  v_get X cf k hk hl d (hO.rg hj) (hO.at hL hj) hv kk
theorem v_ialdO (X : Cx p args s m meth c g cc nL own rt N0) {n b s' : Nat} {i : Int32} {σ : Nat → Int32} (hO : OB g N f o nB o2 nB2 M2) (hL : L.length = nB) (d : decode cc pc = .ok (.iaload, 1)) (j : Nat) (hj : M2[j]? = some (.inl (g.2.1.1, n, .inl (fun i => if i < n then σ (b + s' * i) else 0)))) (k : Nat) (hi : i = nI k) (hk : k < n) (hn : n < 2 ^ 31) (kk : V p l e R s m args below meth c Q g nL cs ss N (ovr f o L) (pc + 1) lv (.int (σ (b + s' * k)) :: st)) : V p l e R s m args below meth c Q g nL cs ss N (ovr f o L) pc lv (.int i :: .ref (o2 + j) :: st) := by
  refine v_iald X d (hO.rg hj) (hO.at hL hj) hi hk hn ?_
  rw [if_pos hk]
  exact kk
theorem v_copyO (X : Cx p args s m meth c g cc nL own rt N0) {idx n : Nat} {sp dp z : Int32} {src dst : Nat → Int32} (hO : OB g N f o nB o2 nB2 M2) (hL0 : L.length = nB) (hB : BB g N o nB) (hml : Cond.methodLink own idx arraycopyName ∈ gT) (h0 : sp = 0) (h1 : dp = 0) (hz : z = nI n) (hn : n < 2 ^ 31) (j2 : Nat) (hj2 : M2[j2]? = some (.inl (g.2.1.1, n, .inl src))) (j : Nat) (hjn : j < nB) (hj : L[j]? = some (.inl (g.2.1.1, n, .inl dst))) (hL : L.set j (.inl (g.2.1.1, n, .inl (va_cpy src dst 0 0 n))) = L') (hcat : (st.map fun v => v.category).sum ≤ 8) (hR : 1 ≤ R.frames ∧ 8 + (nativeFrameWords "java/lang/System" "arraycopy" 5 + 11) ≤ R.locals) (d : decode cc pc = .ok (.invokestatic idx, 3)) (kk : V p l e R s m args below meth c Q g nL cs ss N (ovr f o L') (pc + 3) lv st) : V p l e R s m args below meth c Q g nL cs ss N (ovr f o L) pc lv (.int z :: .int dp :: .ref (o + j) :: .int sp :: .ref (o2 + j2) :: st) := by
  refine v_copy X hml h0 h1 hz hn (Nat.le_refl n) (Nat.le_refl n) (hO.rg hj2) (hO.at hL0 hj2) ⟨hB.lo, hB.hi hjn⟩ (ovr_at hj) hcat hR d ?_
  rw [ovr_up (getE_lt hj), hL]
  exact kk
theorem v_copyW (X : Cx p args s m meth c g cc nL own rt N0) {idx n b s' : Nat} {sp dp z : Int32} {σ σ2 : Nat → Int32} (hO : OB g N f o nB o2 nB2 M2) (hL0 : L.length = nB) (hB : BB g N o nB) (hml : Cond.methodLink own idx arraycopyName ∈ gT) (h0 : sp = 0) (h1 : dp = 0) (hz : z = nI n) (hn : n < 2 ^ 31) (j2 : Nat) (hj2 : M2[j2]? = some (.inl (g.2.1.1, n, .inl (vw σ2 b s' n)))) (j : Nat) (hjn : j < nB) (hj : L[j]? = some (.inl (g.2.1.1, n, .inl (vw σ b s' n)))) (hL : L.set j (.inl (g.2.1.1, n, .inl (vw σ2 b s' n))) = L') (hcat : (st.map fun v => v.category).sum ≤ 8) (hR : 1 ≤ R.frames ∧ 8 + (nativeFrameWords "java/lang/System" "arraycopy" 5 + 11) ≤ R.locals) (d : decode cc pc = .ok (.invokestatic idx, 3)) (kk : V p l e R s m args below meth c Q g nL cs ss N (ovr f o L') (pc + 3) lv st) : V p l e R s m args below meth c Q g nL cs ss N (ovr f o L) pc lv (.int z :: .int dp :: .ref (o + j) :: .int sp :: .ref (o2 + j2) :: st) :=
  v_copyO X hO hL0 hB hml h0 h1 hz hn j2 hj2 j hjn hj (by rw [cpy_vw]; exact hL) hcat hR d kk
theorem v_cvB2 (X : Cx p args s m meth c g cc nL own rt N0) {y : MethodName} {bytes : ByteArray} {maxL idx d ci : Nat} {ret : Option FieldType} {As : List Value} {r : Option Value} {fs : List Value} {st0 st' : List Value} (hz : N = N0 + cs) {n : Nat} (hy : YV y bytes maxL ret n ci) (hml : Cond.methodLink own idx y ∈ gT) {M M3 M' : List va_E} (j jr : Nat) (hC : Cb2 l g y (.code y bytes maxL ret) d (.ref (o + jr) :: As) N (o + j) M o2 M3 r M') (hB : BB g N o nB) (hO : OB g N (ovr f o L) (o + j) M.length o2 M3.length M3) (hjn : j + M.length ≤ nB) (hs : sbl L j M.length = M) (hLl : j + M.length ≤ L.length) (hM : M'.length = M.length) (hL : spl L j M' = L') (hrec : L[jr]? = some (.inr (ci, fs))) (hjr : jr < nB) (hst0 : st0 = As.reverse ++ .ref (o + jr) :: st) (hlen : As.length = n) (hcat : (st.map fun v => v.category).sum ≤ 8) (hR : d + 1 ≤ R.frames ∧ 8 + (maxL + 11) + 35 * d ≤ R.locals) (hf : cs + 0 ≤ R.cells ∧ ss + 0 ≤ R.slots) (dd : decode cc pc = .ok (.invokevirtual idx, 3)) (hst : r.toList ++ st = st') (kk : V p l e R s m args below meth c Q g nL cs ss N (ovr f o L') (pc + 3) lv st') : V p l e R s m args below meth c Q g nL cs ss N (ovr f o L) pc lv st0 := by
  have h1 := hC (ovr f o L) (hB.sub hjn) hO
  rw [ovr_foc hLl hs, ovr_spl (by rw [hM]; exact hLl), hL] at h1
  exact v_callV X hz hy hml h1 ⟨hB.lo, hB.hi hjr⟩ (ovr_at hrec) hst0 hlen hcat hR hf dd hst kk
end V6
theorem v_drop {p : Program} {l : Launch} {e : Env} {R : Room} {s : State} {m : MethodId} {args : Array Value} {below : List Frame} {meth : Method} {c : Code} {Q : State → Prop} {g : Ge} {nL cs ss N : Nat} {f : Pic} {pc : Nat} {lv : List (Option Value)} {st : List Value} (i : Nat) (k : V p l e R s m args below meth c Q g nL cs ss N f pc (lv.set i none) st) : V p l e R s m args below meth c Q g nL cs ss N f pc lv st := by
  intro H locs ls hP hS hl
  refine k H locs ls hP hS (lv_weak hl fun q hq => ?_)
  obtain ⟨j, h1, h2⟩ := (lvp_mem _ _ _).mp hq
  refine (lvp_mem _ _ _).mpr ⟨j, ?_, h2⟩
  by_cases e : i = j
  · subst e
    by_cases hl : i < lv.length
    · rw [List.getElem?_set_self hl] at h1; cases h1
    · rw [List.getElem?_eq_none (by rw [List.length_set]; omega)] at h1; cases h1
  · rw [List.getElem?_set_ne e] at h1; exact h1
