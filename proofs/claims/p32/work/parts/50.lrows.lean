/-! the law's own arrays, and the rows that its methods need -/
def hhL (g : Ge) (_ : Nat) (h : Nat → Int32) : List va_E := [iA g 15 h]
def ttL (g : Ge) (_ : Nat) (t : Nat → Int32) : List va_E := [iA g 24 t]
def ccL (g : Ge) (_ : Nat) (c : Nat → Int32) : List va_E := [iA g 48 c]
def qhL (g : Ge) (_ : Nat) (q h t : Nat → Int32) : List va_E := [iA g 12 q, iA g 15 h, iA g 24 t]
section L0
variable {p : Program} {l : Launch} {e : Env} {R : Room} {s : State} {m : MethodId} {args : Array Value} {below : List Frame} {meth : Method} {c : Code} {Q : State → Prop}
variable {g : Ge} {cc : ByteArray} {nL : Nat} {own : String} {rt : Option FieldType} {N0 cs ss N : Nat} {f : Pic} {pc : Nat} {lv : List (Option Value)} {st : List Value} {o nB o2 nB2 : Nat} {L L' M2 : List va_E}
theorem v_ldc (X : Cx p args s m meth c g cc nL own rt N0) {idx : Nat} {v : Int32} (d : decode cc pc = .ok (.ldc idx, 2)) (hw : Cond.constant own idx v ∈ gT) (k : V p l e R s m args below meth c Q g nL cs ss N f (pc + 2) lv (.int v :: st)) : V p l e R s m args below meth c Q g nL cs ss N f pc lv st :=
  fun H locs ls hP hS hl => lv_ldc X.1 X.2.1 X.2.2.2.1 (X.wd hw) d (k H locs ls hP hS hl)
theorem v_idiv (X : Cx p args s m meth c g cc nL own rt N0) {x y : Int32} (d : decode cc pc = .ok (.idiv, 1)) (hne : ¬ y = 0) (k : V p l e R s m args below meth c Q g nL cs ss N f (pc + 1) lv (.int (x / y) :: st)) : V p l e R s m args below meth c Q g nL cs ss N f pc lv (.int y :: .int x :: st) :=
  fun H locs ls hP hS hl => lv_idiv X.1 X.2.1 d hne (k H locs ls hP hS hl)
theorem v_ialdR (X : Cx p args s m meth c g cc nL own rt N0) {n : Nat} {i : Int32} {row : Nat → Int32} (hO : OB g N f o nB o2 nB2 M2) (hL : L.length = nB) (d : decode cc pc = .ok (.iaload, 1)) (j : Nat) (hj : M2[j]? = some (.inl (g.2.1.1, n, .inl row))) (k : Nat) (hi : i = nI k) (hk : k < n) (hn : n < 2 ^ 31) (kk : V p l e R s m args below meth c Q g nL cs ss N (ovr f o L) (pc + 1) lv (.int (row k) :: st)) : V p l e R s m args below meth c Q g nL cs ss N (ovr f o L) pc lv (.int i :: .ref (o2 + j) :: st) :=
  v_iald X d (hO.rg hj) (hO.at hL hj) hi hk hn kk
theorem v_csB2 (X : Cx p args s m meth c g cc nL own rt N0) {y : MethodName} {bytes : ByteArray} {maxL idx d : Nat} {ret : Option FieldType} {As : List Value} {r : Option Value} {st0 st' : List Value} (hz : N = N0 + cs) {n : Nat} (hy : YS y bytes maxL ret n) (hml : Cond.methodLink own idx y ∈ gT) {M M3 M' : List va_E} (j : Nat) (hC : Cb2 l g y (.code y bytes maxL ret) d As N (o + j) M o2 M3 r M') (hB : BB g N o nB) (hO : OB g N (ovr f o L) (o + j) M.length o2 M3.length M3) (hjn : j + M.length ≤ nB) (hs : sbl L j M.length = M) (hLl : j + M.length ≤ L.length) (hM : M'.length = M.length) (hL : spl L j M' = L') (hst0 : st0 = As.reverse ++ st) (hlen : As.length = n) (hcat : (st.map fun v => v.category).sum ≤ 8) (hR : d + 1 ≤ R.frames ∧ 8 + (maxL + 11) + 35 * d ≤ R.locals) (hf : cs + 0 ≤ R.cells ∧ ss + 0 ≤ R.slots) (dd : decode cc pc = .ok (.invokestatic idx, 3)) (hst : r.toList ++ st = st') (kk : V p l e R s m args below meth c Q g nL cs ss N (ovr f o L') (pc + 3) lv st') : V p l e R s m args below meth c Q g nL cs ss N (ovr f o L) pc lv st0 := by
  have h1 := hC (ovr f o L) (hB.sub hjn) hO
  rw [ovr_foc hLl hs, ovr_spl (by rw [hM]; exact hLl), hL] at h1
  exact v_callS X hz hy hml h1 hst0 hlen hcat hR hf dd hst kk
end L0
