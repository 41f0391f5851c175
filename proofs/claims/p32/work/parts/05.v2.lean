/-! the walk over pictures: W, whatever heap holds the picture -/
def CtQ (g : Ge) (r : Option Value) (N : Nat) (f : Pic) : Array Value → State → Outcome → State → Prop := fun _ st oc t => oc = .returned r ∧ HP g N f t.heap ∧ ∀ q : Nat, q < g.2.2 → t.heap[q]? = st.heap[q]?
def rmD (d mc ms : Nat) : Room := { frames := d, cells := mc, slots := ms, locals := 35 * d }
/-- a method's contract: from the picture f of N cells with the arguments As it answers r, with the picture f' of N' cells -/
def Ct (l : Launch) (g : Ge) (y : MethodName) (w : Cond) (d : Nat) (As : List Value) (N : Nat) (f : Pic) (r : Option Value) (N' : Nat) (f' : Pic) (mc ms : Nat) : Prop :=
  Met l y (w :: gT) (rmD d mc ms) (va_Pc As (fun U => U.heap.size = g.2.2 + N ∧ HP g N f U.heap ∧ KK g U)) (CtQ g r N' f') mc ms (gA g)
/-- the same over a block: the cells M from o on, become M' -/
def Cb (l : Launch) (g : Ge) (y : MethodName) (w : Cond) (d : Nat) (As : List Value) (N o : Nat) (M : List va_E) (r : Option Value) (M' : List va_E) : Prop :=
  ∀ f : Pic, BB g N o M.length → Ct l g y w d As N (ovr f o M) r N (ovr f o M') 0 0
/-- the same without any cell -/
def Cs (l : Launch) (g : Ge) (y : MethodName) (w : Cond) (d : Nat) (As : List Value) (r : Option Value) : Prop :=
  ∀ (N : Nat) (f : Pic), Ct l g y w d As N f r N f 0 0
def Cx (p : Program) (args : Array Value) (s : State) (m : MethodId) (meth : Method) (c : Code) (g : Ge) (cc : ByteArray) (nL : Nat) (own : String) (rt : Option FieldType) (N0 : Nat) : Prop :=
  p.tables.exec = Jvm.exec ∧ c.code = cc ∧ c.maxLocals = nL ∧ s.vm.findClass own = some m.cls ∧ (∀ w ∈ gT, w.before args s = true) ∧ meth.locks = false ∧ meth.sig.returnType = rt ∧ KK g s ∧ s.heap.size = g.2.2 + N0
def V (p : Program) (l : Launch) (e : Env) (R : Room) (s : State) (m : MethodId) (args : Array Value) (below : List Frame) (meth : Method) (c : Code) (Q : State → Prop) (g : Ge) (nL cs ss N : Nat) (f : Pic) (pc : Nat) (lv : List (Option Value)) (st : List Value) : Prop :=
  ∀ (H : Heap) (locs : List Loc) (ls : Array Slot), HP g N f H → va_S (gA g) s.heap H locs → lv_has ls nL (lvp 0 lv) → W p l e R s m args below meth c H locs cs ss Q (F0 m pc ls st)
section V1
variable {p : Program} {l : Launch} {e : Env} {R : Room} {s : State} {m : MethodId} {args : Array Value} {below : List Frame} {meth : Method} {c : Code} {Q : State → Prop}
variable {g : Ge} {cc : ByteArray} {nL : Nat} {own : String} {rt : Option FieldType} {N0 cs ss N : Nat} {f : Pic} {pc : Nat} {lv : List (Option Value)} {st : List Value}
theorem Cx.hA (X : Cx p args s m meth c g cc nL own rt N0) : ∀ q, s.heap.size ≤ q → gA g q := fun q h => Nat.le_trans (by rw [X.2.2.2.2.2.2.2.2]; exact Nat.le_add_right _ _) h
theorem Cx.wd (X : Cx p args s m meth c g cc nL own rt N0) {w : Cond} (h : w ∈ gT) : w.before args s = true := X.2.2.2.2.1 w h
theorem Cx.kk (X : Cx p args s m meth c g cc nL own rt N0) : va_K g.1 vwCl (tyG g) s := X.2.2.2.2.2.2.2.1.1
theorem V.cast {f' : Pic} {lv' : List (Option Value)} {st' : List Value} (k : V p l e R s m args below meth c Q g nL cs ss N f' pc lv' st') (e1 : lv = lv' := by rfl) (e2 : st = st' := by rfl) (e3 : f = f' := by rfl) : V p l e R s m args below meth c Q g nL cs ss N f pc lv st := by
  subst e1; subst e2; subst e3; exact k

theorem v_iconst (X : Cx p args s m meth c g cc nL own rt N0) {n : Int} {v : Int32} (d : decode cc pc = .ok (.iconst n, 1)) (hv : Int32.ofInt n = v) (k : V p l e R s m args below meth c Q g nL cs ss N f (pc + 1) lv (.int v :: st)) : V p l e R s m args below meth c Q g nL cs ss N f pc lv (st) :=
  fun H locs ls hP hS hl => lv_iconst X.1 X.2.1 d hv (k H locs ls hP hS hl)
theorem v_bipush (X : Cx p args s m meth c g cc nL own rt N0) {n : Int} {v : Int32} (d : decode cc pc = .ok (.bipush n, 2)) (hv : (Int8.ofInt n).toInt32 = v) (k : V p l e R s m args below meth c Q g nL cs ss N f (pc + 2) lv (.int v :: st)) : V p l e R s m args below meth c Q g nL cs ss N f pc lv (st) :=
  fun H locs ls hP hS hl => lv_bipush X.1 X.2.1 d hv (k H locs ls hP hS hl)
theorem v_sipush (X : Cx p args s m meth c g cc nL own rt N0) {n : Int} {v : Int32} (d : decode cc pc = .ok (.sipush n, 3)) (hv : (Int16.ofInt n).toInt32 = v) (k : V p l e R s m args below meth c Q g nL cs ss N f (pc + 3) lv (.int v :: st)) : V p l e R s m args below meth c Q g nL cs ss N f pc lv (st) :=
  fun H locs ls hP hS hl => lv_sipush X.1 X.2.1 d hv (k H locs ls hP hS hl)
theorem v_lconst (X : Cx p args s m meth c g cc nL own rt N0) {n : Fin 2} {v : Int64} (d : decode cc pc = .ok (.lconst n, 1)) (hv : Int64.ofNat (n : Nat) = v) (k : V p l e R s m args below meth c Q g nL cs ss N f (pc + 1) lv (.long v :: st)) : V p l e R s m args below meth c Q g nL cs ss N f pc lv (st) :=
  fun H locs ls hP hS hl => lv_lconst X.1 X.2.1 d hv (k H locs ls hP hS hl)
theorem v_ldc2 (X : Cx p args s m meth c g cc nL own rt N0) {idx : Nat} {v : Int64} (d : decode cc pc = .ok (.ldc2_w idx, 3)) (hw : Cond.constantLong own idx v ∈ gT) (k : V p l e R s m args below meth c Q g nL cs ss N f (pc + 3) lv (.long v :: st)) : V p l e R s m args below meth c Q g nL cs ss N f pc lv (st) :=
  fun H locs ls hP hS hl => lv_ldc2 X.1 X.2.1 X.2.2.2.1 (X.wd hw) d (k H locs ls hP hS hl)
theorem v_iload_n (X : Cx p args s m meth c g cc nL own rt N0) {k4 : Fin 4} {i : Nat} {x : Int32} (d : decode cc pc = .ok (.iload_n k4, 1)) (hi : (k4 : Nat) = i) (hx : lv[i]? = some (some (.int x))) (k : V p l e R s m args below meth c Q g nL cs ss N f (pc + 1) lv (.int x :: st)) : V p l e R s m args below meth c Q g nL cs ss N f pc lv (st) :=
  fun H locs ls hP hS hl => lv_iload_n X.1 X.2.1 d hi (lvp_at hl hx) (k H locs ls hP hS hl)
theorem v_iload (X : Cx p args s m meth c g cc nL own rt N0) {i : Nat} {x : Int32} (d : decode cc pc = .ok (.iload i, 2)) (hx : lv[i]? = some (some (.int x))) (k : V p l e R s m args below meth c Q g nL cs ss N f (pc + 2) lv (.int x :: st)) : V p l e R s m args below meth c Q g nL cs ss N f pc lv (st) :=
  fun H locs ls hP hS hl => lv_iload X.1 X.2.1 d (lvp_at hl hx) (k H locs ls hP hS hl)
theorem v_lload_n (X : Cx p args s m meth c g cc nL own rt N0) {k4 : Fin 4} {i : Nat} {x : Int64} (d : decode cc pc = .ok (.lload_n k4, 1)) (hi : (k4 : Nat) = i) (hx : lv[i]? = some (some (.long x))) (k : V p l e R s m args below meth c Q g nL cs ss N f (pc + 1) lv (.long x :: st)) : V p l e R s m args below meth c Q g nL cs ss N f pc lv (st) :=
  fun H locs ls hP hS hl => lv_lload_n X.1 X.2.1 d hi (lvp_at hl hx) (k H locs ls hP hS hl)
theorem v_lload (X : Cx p args s m meth c g cc nL own rt N0) {i : Nat} {x : Int64} (d : decode cc pc = .ok (.lload i, 2)) (hx : lv[i]? = some (some (.long x))) (k : V p l e R s m args below meth c Q g nL cs ss N f (pc + 2) lv (.long x :: st)) : V p l e R s m args below meth c Q g nL cs ss N f pc lv (st) :=
  fun H locs ls hP hS hl => lv_lload X.1 X.2.1 d (lvp_at hl hx) (k H locs ls hP hS hl)
theorem v_aload_n (X : Cx p args s m meth c g cc nL own rt N0) {k4 : Fin 4} {i : Nat} {x : Nat} (d : decode cc pc = .ok (.aload_n k4, 1)) (hi : (k4 : Nat) = i) (hx : lv[i]? = some (some (.ref x))) (k : V p l e R s m args below meth c Q g nL cs ss N f (pc + 1) lv (.ref x :: st)) : V p l e R s m args below meth c Q g nL cs ss N f pc lv (st) :=
  fun H locs ls hP hS hl => lv_aload_n X.1 X.2.1 d hi (lvp_at hl hx) (k H locs ls hP hS hl)
theorem v_aload (X : Cx p args s m meth c g cc nL own rt N0) {i : Nat} {x : Nat} (d : decode cc pc = .ok (.aload i, 2)) (hx : lv[i]? = some (some (.ref x))) (k : V p l e R s m args below meth c Q g nL cs ss N f (pc + 2) lv (.ref x :: st)) : V p l e R s m args below meth c Q g nL cs ss N f pc lv (st) :=
  fun H locs ls hP hS hl => lv_aload X.1 X.2.1 d (lvp_at hl hx) (k H locs ls hP hS hl)
theorem v_istore_n (X : Cx p args s m meth c g cc nL own rt N0) {k4 : Fin 4} {i : Nat} {x : Int32} (d : decode cc pc = .ok (.istore_n k4, 1)) (hi : (k4 : Nat) = i) (hn : i < nL) (ho : lvok lv i = true) (k : V p l e R s m args below meth c Q g nL cs ss N f (pc + 1) (lv.set i (some (.int x))) st) : V p l e R s m args below meth c Q g nL cs ss N f pc lv (.int x :: st) :=
  fun H locs ls hP hS hl => lv_istore_n X.1 X.2.1 d hi hl hn rfl (fun ls' hl' => k H locs ls' hP hS (lvp_set1 ho hl'))
theorem v_istore (X : Cx p args s m meth c g cc nL own rt N0) {i : Nat} {x : Int32} (d : decode cc pc = .ok (.istore i, 2)) (hn : i < nL) (ho : lvok lv i = true) (k : V p l e R s m args below meth c Q g nL cs ss N f (pc + 2) (lv.set i (some (.int x))) st) : V p l e R s m args below meth c Q g nL cs ss N f pc lv (.int x :: st) :=
  fun H locs ls hP hS hl => lv_istore X.1 X.2.1 d hl hn rfl (fun ls' hl' => k H locs ls' hP hS (lvp_set1 ho hl'))
theorem v_lstore_n (X : Cx p args s m meth c g cc nL own rt N0) {k4 : Fin 4} {i : Nat} {x : Int64} (d : decode cc pc = .ok (.lstore_n k4, 1)) (hi : (k4 : Nat) = i) (hn : i + 1 < nL) (ho : lvok lv i = true) (k : V p l e R s m args below meth c Q g nL cs ss N f (pc + 1) ((lv.set i (some (.long x))).set (i + 1) none) st) : V p l e R s m args below meth c Q g nL cs ss N f pc lv (.long x :: st) :=
  fun H locs ls hP hS hl => lv_lstore_n X.1 X.2.1 d hi hl hn rfl (fun ls' hl' => k H locs ls' hP hS (lvp_set2 ho hl'))
theorem v_lstore (X : Cx p args s m meth c g cc nL own rt N0) {i : Nat} {x : Int64} (d : decode cc pc = .ok (.lstore i, 2)) (hn : i + 1 < nL) (ho : lvok lv i = true) (k : V p l e R s m args below meth c Q g nL cs ss N f (pc + 2) ((lv.set i (some (.long x))).set (i + 1) none) st) : V p l e R s m args below meth c Q g nL cs ss N f pc lv (.long x :: st) :=
  fun H locs ls hP hS hl => lv_lstore X.1 X.2.1 d hl hn rfl (fun ls' hl' => k H locs ls' hP hS (lvp_set2 ho hl'))
theorem v_astore_n (X : Cx p args s m meth c g cc nL own rt N0) {k4 : Fin 4} {i : Nat} {x : Nat} (d : decode cc pc = .ok (.astore_n k4, 1)) (hi : (k4 : Nat) = i) (hn : i < nL) (ho : lvok lv i = true) (k : V p l e R s m args below meth c Q g nL cs ss N f (pc + 1) (lv.set i (some (.ref x))) st) : V p l e R s m args below meth c Q g nL cs ss N f pc lv (.ref x :: st) :=
  fun H locs ls hP hS hl => lv_astore_n X.1 X.2.1 d hi hl hn rfl (fun ls' hl' => k H locs ls' hP hS (lvp_set1 ho hl'))
theorem v_astore (X : Cx p args s m meth c g cc nL own rt N0) {i : Nat} {x : Nat} (d : decode cc pc = .ok (.astore i, 2)) (hn : i < nL) (ho : lvok lv i = true) (k : V p l e R s m args below meth c Q g nL cs ss N f (pc + 2) (lv.set i (some (.ref x))) st) : V p l e R s m args below meth c Q g nL cs ss N f pc lv (.ref x :: st) :=
  fun H locs ls hP hS hl => lv_astore X.1 X.2.1 d hl hn rfl (fun ls' hl' => k H locs ls' hP hS (lvp_set1 ho hl'))
theorem v_iinc (X : Cx p args s m meth c g cc nL own rt N0) {i : Nat} {n : Int} {x v : Int32} (d : decode cc pc = .ok (.iinc i n, 3)) (hx : lv[i]? = some (some (.int x))) (hv : x + Int32.ofInt n = v) (hn : i < nL) (ho : lvok lv i = true) (k : V p l e R s m args below meth c Q g nL cs ss N f (pc + 3) (lv.set i (some (.int v))) st) : V p l e R s m args below meth c Q g nL cs ss N f pc lv st := by
  intro H locs ls hP hS hl
  obtain ⟨j, hj⟩ : ∃ j, (lvp 0 lv)[j]? = some (i, Value.int x) := List.getElem?_of_mem ((lvp_mem lv 0 (i, Value.int x)).mpr ⟨i, hx, by simp⟩)
  exact lv_iinc X.1 X.2.1 d hl hj hv hn rfl (fun ls' hl' => k H locs ls' hP hS (lvp_set1 ho hl'))
theorem v_iadd (X : Cx p args s m meth c g cc nL own rt N0) {x y : Int32} (d : decode cc pc = .ok (.iadd, 1)) (k : V p l e R s m args below meth c Q g nL cs ss N f (pc + 1) lv (.int (x + y) :: st)) : V p l e R s m args below meth c Q g nL cs ss N f pc lv (.int y :: .int x :: st) :=
  fun H locs ls hP hS hl => lv_iadd X.1 X.2.1 d (k H locs ls hP hS hl)
theorem v_isub (X : Cx p args s m meth c g cc nL own rt N0) {x y : Int32} (d : decode cc pc = .ok (.isub, 1)) (k : V p l e R s m args below meth c Q g nL cs ss N f (pc + 1) lv (.int (x - y) :: st)) : V p l e R s m args below meth c Q g nL cs ss N f pc lv (.int y :: .int x :: st) :=
  fun H locs ls hP hS hl => lv_isub X.1 X.2.1 d (k H locs ls hP hS hl)
theorem v_imul (X : Cx p args s m meth c g cc nL own rt N0) {x y : Int32} (d : decode cc pc = .ok (.imul, 1)) (k : V p l e R s m args below meth c Q g nL cs ss N f (pc + 1) lv (.int (x * y) :: st)) : V p l e R s m args below meth c Q g nL cs ss N f pc lv (.int y :: .int x :: st) :=
  fun H locs ls hP hS hl => lv_imul X.1 X.2.1 d (k H locs ls hP hS hl)
theorem v_iand (X : Cx p args s m meth c g cc nL own rt N0) {x y : Int32} (d : decode cc pc = .ok (.iand, 1)) (k : V p l e R s m args below meth c Q g nL cs ss N f (pc + 1) lv (.int (x &&& y) :: st)) : V p l e R s m args below meth c Q g nL cs ss N f pc lv (.int y :: .int x :: st) :=
  fun H locs ls hP hS hl => lv_iand X.1 X.2.1 d (k H locs ls hP hS hl)
theorem v_ior (X : Cx p args s m meth c g cc nL own rt N0) {x y : Int32} (d : decode cc pc = .ok (.ior, 1)) (k : V p l e R s m args below meth c Q g nL cs ss N f (pc + 1) lv (.int (x ||| y) :: st)) : V p l e R s m args below meth c Q g nL cs ss N f pc lv (.int y :: .int x :: st) :=
  fun H locs ls hP hS hl => lv_ior X.1 X.2.1 d (k H locs ls hP hS hl)
theorem v_ixor (X : Cx p args s m meth c g cc nL own rt N0) {x y : Int32} (d : decode cc pc = .ok (.ixor, 1)) (k : V p l e R s m args below meth c Q g nL cs ss N f (pc + 1) lv (.int (x ^^^ y) :: st)) : V p l e R s m args below meth c Q g nL cs ss N f pc lv (.int y :: .int x :: st) :=
  fun H locs ls hP hS hl => lv_ixor X.1 X.2.1 d (k H locs ls hP hS hl)
theorem v_irem (X : Cx p args s m meth c g cc nL own rt N0) {x y : Int32} (d : decode cc pc = .ok (.irem, 1)) (hne : ¬ y = 0) (k : V p l e R s m args below meth c Q g nL cs ss N f (pc + 1) lv (.int (x - x / y * y) :: st)) : V p l e R s m args below meth c Q g nL cs ss N f pc lv (.int y :: .int x :: st) :=
  fun H locs ls hP hS hl => lv_irem X.1 X.2.1 d hne (k H locs ls hP hS hl)
theorem v_ineg (X : Cx p args s m meth c g cc nL own rt N0) {x : Int32} (d : decode cc pc = .ok (.ineg, 1)) (k : V p l e R s m args below meth c Q g nL cs ss N f (pc + 1) lv (.int (-x) :: st)) : V p l e R s m args below meth c Q g nL cs ss N f pc lv (.int x :: st) :=
  fun H locs ls hP hS hl => lv_ineg X.1 X.2.1 d (k H locs ls hP hS hl)
theorem v_ishl (X : Cx p args s m meth c g cc nL own rt N0) {x y : Int32} (d : decode cc pc = .ok (.ishl, 1)) (k : V p l e R s m args below meth c Q g nL cs ss N f (pc + 1) lv (.int (x <<< (y &&& 31)) :: st)) : V p l e R s m args below meth c Q g nL cs ss N f pc lv (.int y :: .int x :: st) :=
  fun H locs ls hP hS hl => lv_ishl X.1 X.2.1 d (k H locs ls hP hS hl)
theorem v_ishr (X : Cx p args s m meth c g cc nL own rt N0) {x y : Int32} (d : decode cc pc = .ok (.ishr, 1)) (k : V p l e R s m args below meth c Q g nL cs ss N f (pc + 1) lv (.int (x >>> (y &&& 31)) :: st)) : V p l e R s m args below meth c Q g nL cs ss N f pc lv (.int y :: .int x :: st) :=
  fun H locs ls hP hS hl => lv_ishr X.1 X.2.1 d (k H locs ls hP hS hl)
theorem v_ladd (X : Cx p args s m meth c g cc nL own rt N0) {x y : Int64} (d : decode cc pc = .ok (.ladd, 1)) (k : V p l e R s m args below meth c Q g nL cs ss N f (pc + 1) lv (.long (x + y) :: st)) : V p l e R s m args below meth c Q g nL cs ss N f pc lv (.long y :: .long x :: st) :=
  fun H locs ls hP hS hl => lv_ladd X.1 X.2.1 d (k H locs ls hP hS hl)
theorem v_lmul (X : Cx p args s m meth c g cc nL own rt N0) {x y : Int64} (d : decode cc pc = .ok (.lmul, 1)) (k : V p l e R s m args below meth c Q g nL cs ss N f (pc + 1) lv (.long (x * y) :: st)) : V p l e R s m args below meth c Q g nL cs ss N f pc lv (.long y :: .long x :: st) :=
  fun H locs ls hP hS hl => lv_lmul X.1 X.2.1 d (k H locs ls hP hS hl)
theorem v_lsub (X : Cx p args s m meth c g cc nL own rt N0) {x y : Int64} (d : decode cc pc = .ok (.lsub, 1)) (k : V p l e R s m args below meth c Q g nL cs ss N f (pc + 1) lv (.long (x - y) :: st)) : V p l e R s m args below meth c Q g nL cs ss N f pc lv (.long y :: .long x :: st) :=
  fun H locs ls hP hS hl => lv_lsub X.1 X.2.1 d (k H locs ls hP hS hl)
theorem v_i2l (X : Cx p args s m meth c g cc nL own rt N0) {x : Int32} (d : decode cc pc = .ok (.i2l, 1)) (k : V p l e R s m args below meth c Q g nL cs ss N f (pc + 1) lv (.long x.toInt64 :: st)) : V p l e R s m args below meth c Q g nL cs ss N f pc lv (.int x :: st) :=
  fun H locs ls hP hS hl => lv_i2l X.1 X.2.1 d rfl (k H locs ls hP hS hl)
theorem v_i2c (X : Cx p args s m meth c g cc nL own rt N0) {x v : Int32} (d : decode cc pc = .ok (.i2c, 1)) (hv : (x.toUInt32 % 65536).toInt32 = v) (k : V p l e R s m args below meth c Q g nL cs ss N f (pc + 1) lv (.int v :: st)) : V p l e R s m args below meth c Q g nL cs ss N f pc lv (.int x :: st) :=
  fun H locs ls hP hS hl => lv_i2c X.1 X.2.1 d hv (k H locs ls hP hS hl)
theorem v_lcmp (X : Cx p args s m meth c g cc nL own rt N0) {x y : Int64} (d : decode cc pc = .ok (.lcmp, 1)) (k : V p l e R s m args below meth c Q g nL cs ss N f (pc + 1) lv (.int (lg_cmp x y) :: st)) : V p l e R s m args below meth c Q g nL cs ss N f pc lv (.long y :: .long x :: st) :=
  fun H locs ls hP hS hl => W.lcmp X.1 X.2.1 d (k H locs ls hP hS hl)
theorem v_dup (X : Cx p args s m meth c g cc nL own rt N0) {a : Value} (d : decode cc pc = .ok (.dup, 1)) (ha : a.category = 1) (k : V p l e R s m args below meth c Q g nL cs ss N f (pc + 1) lv (a :: a :: st)) : V p l e R s m args below meth c Q g nL cs ss N f pc lv (a :: st) :=
  fun H locs ls hP hS hl => lv_dup X.1 X.2.1 d ha (k H locs ls hP hS hl)
theorem v_pop (X : Cx p args s m meth c g cc nL own rt N0) {a : Value} (d : decode cc pc = .ok (.pop, 1)) (ha : a.category = 1) (k : V p l e R s m args below meth c Q g nL cs ss N f (pc + 1) lv (st)) : V p l e R s m args below meth c Q g nL cs ss N f pc lv (a :: st) :=
  fun H locs ls hP hS hl => lv_pop X.1 X.2.1 d ha (k H locs ls hP hS hl)
theorem v_dup2 (X : Cx p args s m meth c g cc nL own rt N0) {a b : Value} (d : decode cc pc = .ok (.dup2, 1)) (ha : a.category = 1) (hb : b.category = 1) (k : V p l e R s m args below meth c Q g nL cs ss N f (pc + 1) lv (a :: b :: a :: b :: st)) : V p l e R s m args below meth c Q g nL cs ss N f pc lv (a :: b :: st) :=
  fun H locs ls hP hS hl => lv_dup2_11 X.1 X.2.1 d ha hb (k H locs ls hP hS hl)
theorem v_dup_x1 (X : Cx p args s m meth c g cc nL own rt N0) {a b : Value} (d : decode cc pc = .ok (.dup_x1, 1)) (ha : a.category = 1) (hb : b.category = 1) (k : V p l e R s m args below meth c Q g nL cs ss N f (pc + 1) lv (a :: b :: a :: st)) : V p l e R s m args below meth c Q g nL cs ss N f pc lv (a :: b :: st) :=
  fun H locs ls hP hS hl => lv_dup_x1 X.1 X.2.1 d ha hb (k H locs ls hP hS hl)
theorem v_goto (X : Cx p args s m meth c g cc nL own rt N0) {off : Int} {tgt : Nat} (d : decode cc pc = .ok (.goto off, 3)) (ht : (pc : Int) + off = (tgt : Int)) (k : V p l e R s m args below meth c Q g nL cs ss N f tgt lv st) : V p l e R s m args below meth c Q g nL cs ss N f pc lv st :=
  fun H locs ls hP hS hl => lv_goto X.1 X.2.1 d ht (k H locs ls hP hS hl)
theorem v_if_eq (X : Cx p args s m meth c g cc nL own rt N0) {x : Int32} {off : Int} {tgt : Nat} (d : decode cc pc = .ok (.ifCond .eq off, 3)) (ht : (pc : Int) + off = (tgt : Int)) (kt : x = 0 → V p l e R s m args below meth c Q g nL cs ss N f tgt lv st) (kf : ¬ x = 0 → V p l e R s m args below meth c Q g nL cs ss N f (pc + 3) lv st) : V p l e R s m args below meth c Q g nL cs ss N f pc lv (.int x :: st) :=
  fun H locs ls hP hS hl => lv_if_eq X.1 X.2.1 d ht (fun h => kt (by first | exact h | simpa using h) H locs ls hP hS hl) (fun h => kf (by first | exact h | exact Int32.not_lt.mp h | exact Int32.not_le.mp h | simpa using h) H locs ls hP hS hl)
theorem v_icmp_eq (X : Cx p args s m meth c g cc nL own rt N0) {x y : Int32} {off : Int} {tgt : Nat} (d : decode cc pc = .ok (.if_icmp .eq off, 3)) (ht : (pc : Int) + off = (tgt : Int)) (kt : x = y → V p l e R s m args below meth c Q g nL cs ss N f tgt lv st) (kf : ¬ x = y → V p l e R s m args below meth c Q g nL cs ss N f (pc + 3) lv st) : V p l e R s m args below meth c Q g nL cs ss N f pc lv (.int y :: .int x :: st) :=
  fun H locs ls hP hS hl => lv_icmp_eq X.1 X.2.1 d ht (fun h => kt (by first | exact h | simpa using h) H locs ls hP hS hl) (fun h => kf (by first | exact h | exact Int32.not_lt.mp h | exact Int32.not_le.mp h | simpa using h) H locs ls hP hS hl)
theorem v_if_ne (X : Cx p args s m meth c g cc nL own rt N0) {x : Int32} {off : Int} {tgt : Nat} (d : decode cc pc = .ok (.ifCond .ne off, 3)) (ht : (pc : Int) + off = (tgt : Int)) (kt : ¬ x = 0 → V p l e R s m args below meth c Q g nL cs ss N f tgt lv st) (kf : x = 0 → V p l e R s m args below meth c Q g nL cs ss N f (pc + 3) lv st) : V p l e R s m args below meth c Q g nL cs ss N f pc lv (.int x :: st) :=
  fun H locs ls hP hS hl => lv_if_ne X.1 X.2.1 d ht (fun h => kt (by first | exact h | simpa using h) H locs ls hP hS hl) (fun h => kf (by first | exact h | exact Int32.not_lt.mp h | exact Int32.not_le.mp h | simpa using h) H locs ls hP hS hl)
theorem v_icmp_ne (X : Cx p args s m meth c g cc nL own rt N0) {x y : Int32} {off : Int} {tgt : Nat} (d : decode cc pc = .ok (.if_icmp .ne off, 3)) (ht : (pc : Int) + off = (tgt : Int)) (kt : ¬ x = y → V p l e R s m args below meth c Q g nL cs ss N f tgt lv st) (kf : x = y → V p l e R s m args below meth c Q g nL cs ss N f (pc + 3) lv st) : V p l e R s m args below meth c Q g nL cs ss N f pc lv (.int y :: .int x :: st) :=
  fun H locs ls hP hS hl => lv_icmp_ne X.1 X.2.1 d ht (fun h => kt (by first | exact h | simpa using h) H locs ls hP hS hl) (fun h => kf (by first | exact h | exact Int32.not_lt.mp h | exact Int32.not_le.mp h | simpa using h) H locs ls hP hS hl)
theorem v_if_lt (X : Cx p args s m meth c g cc nL own rt N0) {x : Int32} {off : Int} {tgt : Nat} (d : decode cc pc = .ok (.ifCond .lt off, 3)) (ht : (pc : Int) + off = (tgt : Int)) (kt : x < 0 → V p l e R s m args below meth c Q g nL cs ss N f tgt lv st) (kf : 0 ≤ x → V p l e R s m args below meth c Q g nL cs ss N f (pc + 3) lv st) : V p l e R s m args below meth c Q g nL cs ss N f pc lv (.int x :: st) :=
  fun H locs ls hP hS hl => lv_if_lt X.1 X.2.1 d ht (fun h => kt (by first | exact h | simpa using h) H locs ls hP hS hl) (fun h => kf (by first | exact h | exact Int32.not_lt.mp h | exact Int32.not_le.mp h | simpa using h) H locs ls hP hS hl)
theorem v_icmp_lt (X : Cx p args s m meth c g cc nL own rt N0) {x y : Int32} {off : Int} {tgt : Nat} (d : decode cc pc = .ok (.if_icmp .lt off, 3)) (ht : (pc : Int) + off = (tgt : Int)) (kt : x < y → V p l e R s m args below meth c Q g nL cs ss N f tgt lv st) (kf : y ≤ x → V p l e R s m args below meth c Q g nL cs ss N f (pc + 3) lv st) : V p l e R s m args below meth c Q g nL cs ss N f pc lv (.int y :: .int x :: st) :=
  fun H locs ls hP hS hl => lv_icmp_lt X.1 X.2.1 d ht (fun h => kt (by first | exact h | simpa using h) H locs ls hP hS hl) (fun h => kf (by first | exact h | exact Int32.not_lt.mp h | exact Int32.not_le.mp h | simpa using h) H locs ls hP hS hl)
theorem v_if_ge (X : Cx p args s m meth c g cc nL own rt N0) {x : Int32} {off : Int} {tgt : Nat} (d : decode cc pc = .ok (.ifCond .ge off, 3)) (ht : (pc : Int) + off = (tgt : Int)) (kt : 0 ≤ x → V p l e R s m args below meth c Q g nL cs ss N f tgt lv st) (kf : x < 0 → V p l e R s m args below meth c Q g nL cs ss N f (pc + 3) lv st) : V p l e R s m args below meth c Q g nL cs ss N f pc lv (.int x :: st) :=
  fun H locs ls hP hS hl => lv_if_ge X.1 X.2.1 d ht (fun h => kt (by first | exact h | simpa using h) H locs ls hP hS hl) (fun h => kf (by first | exact h | exact Int32.not_lt.mp h | exact Int32.not_le.mp h | simpa using h) H locs ls hP hS hl)
theorem v_icmp_ge (X : Cx p args s m meth c g cc nL own rt N0) {x y : Int32} {off : Int} {tgt : Nat} (d : decode cc pc = .ok (.if_icmp .ge off, 3)) (ht : (pc : Int) + off = (tgt : Int)) (kt : y ≤ x → V p l e R s m args below meth c Q g nL cs ss N f tgt lv st) (kf : x < y → V p l e R s m args below meth c Q g nL cs ss N f (pc + 3) lv st) : V p l e R s m args below meth c Q g nL cs ss N f pc lv (.int y :: .int x :: st) :=
  fun H locs ls hP hS hl => lv_icmp_ge X.1 X.2.1 d ht (fun h => kt (by first | exact h | simpa using h) H locs ls hP hS hl) (fun h => kf (by first | exact h | exact Int32.not_lt.mp h | exact Int32.not_le.mp h | simpa using h) H locs ls hP hS hl)
theorem v_if_gt (X : Cx p args s m meth c g cc nL own rt N0) {x : Int32} {off : Int} {tgt : Nat} (d : decode cc pc = .ok (.ifCond .gt off, 3)) (ht : (pc : Int) + off = (tgt : Int)) (kt : 0 < x → V p l e R s m args below meth c Q g nL cs ss N f tgt lv st) (kf : x ≤ 0 → V p l e R s m args below meth c Q g nL cs ss N f (pc + 3) lv st) : V p l e R s m args below meth c Q g nL cs ss N f pc lv (.int x :: st) :=
  fun H locs ls hP hS hl => lv_if_gt X.1 X.2.1 d ht (fun h => kt (by first | exact h | simpa using h) H locs ls hP hS hl) (fun h => kf (by first | exact h | exact Int32.not_lt.mp h | exact Int32.not_le.mp h | simpa using h) H locs ls hP hS hl)
theorem v_icmp_gt (X : Cx p args s m meth c g cc nL own rt N0) {x y : Int32} {off : Int} {tgt : Nat} (d : decode cc pc = .ok (.if_icmp .gt off, 3)) (ht : (pc : Int) + off = (tgt : Int)) (kt : y < x → V p l e R s m args below meth c Q g nL cs ss N f tgt lv st) (kf : x ≤ y → V p l e R s m args below meth c Q g nL cs ss N f (pc + 3) lv st) : V p l e R s m args below meth c Q g nL cs ss N f pc lv (.int y :: .int x :: st) :=
  fun H locs ls hP hS hl => lv_icmp_gt X.1 X.2.1 d ht (fun h => kt (by first | exact h | simpa using h) H locs ls hP hS hl) (fun h => kf (by first | exact h | exact Int32.not_lt.mp h | exact Int32.not_le.mp h | simpa using h) H locs ls hP hS hl)
theorem v_if_le (X : Cx p args s m meth c g cc nL own rt N0) {x : Int32} {off : Int} {tgt : Nat} (d : decode cc pc = .ok (.ifCond .le off, 3)) (ht : (pc : Int) + off = (tgt : Int)) (kt : x ≤ 0 → V p l e R s m args below meth c Q g nL cs ss N f tgt lv st) (kf : 0 < x → V p l e R s m args below meth c Q g nL cs ss N f (pc + 3) lv st) : V p l e R s m args below meth c Q g nL cs ss N f pc lv (.int x :: st) :=
  fun H locs ls hP hS hl => lv_if_le X.1 X.2.1 d ht (fun h => kt (by first | exact h | simpa using h) H locs ls hP hS hl) (fun h => kf (by first | exact h | exact Int32.not_lt.mp h | exact Int32.not_le.mp h | simpa using h) H locs ls hP hS hl)
theorem v_icmp_le (X : Cx p args s m meth c g cc nL own rt N0) {x y : Int32} {off : Int} {tgt : Nat} (d : decode cc pc = .ok (.if_icmp .le off, 3)) (ht : (pc : Int) + off = (tgt : Int)) (kt : x ≤ y → V p l e R s m args below meth c Q g nL cs ss N f tgt lv st) (kf : y < x → V p l e R s m args below meth c Q g nL cs ss N f (pc + 3) lv st) : V p l e R s m args below meth c Q g nL cs ss N f pc lv (.int y :: .int x :: st) :=
  fun H locs ls hP hS hl => lv_icmp_le X.1 X.2.1 d ht (fun h => kt (by first | exact h | simpa using h) H locs ls hP hS hl) (fun h => kf (by first | exact h | exact Int32.not_lt.mp h | exact Int32.not_le.mp h | simpa using h) H locs ls hP hS hl)
def bI (P : Prop) [Decidable P] : Int32 := if P then 1 else 0
theorem bI_t {P : Prop} [Decidable P] (h : P) : bI P = 1 := if_pos h
theorem bI_f {P : Prop} [Decidable P] (h : ¬ P) : bI P = 0 := if_neg h
theorem bI_0 {P : Prop} [Decidable P] : bI P = 0 ↔ ¬ P := by
  by_cases h : P
  · rw [bI_t h]; exact ⟨fun q => absurd q (by decide), fun q => absurd h q⟩
  · rw [bI_f h]; exact ⟨fun _ => h, fun _ => rfl⟩
theorem bI_n {P : Prop} [Decidable P] : ¬ bI P = 0 ↔ P := by rw [bI_0]; exact Decidable.not_not
theorem bI_c {P P' : Prop} [Decidable P] [Decidable P'] (h : P ↔ P') : bI P = bI P' := by
  by_cases q : P
  · rw [bI_t q, bI_t (h.mp q)]
  · rw [bI_f q, bI_f (fun z => q (h.mpr z))]
theorem nar_b {P : Prop} [Decidable P] : narrow .boolean (.int (bI P)) = .int (bI P) := by
  by_cases h : P
  · rw [bI_t h]; rfl
  · rw [bI_f h]; rfl
theorem v_if_eqB (X : Cx p args s m meth c g cc nL own rt N0) {P : Prop} [Decidable P] {off : Int} {tgt : Nat} (d : decode cc pc = .ok (.ifCond .eq off, 3)) (ht : (pc : Int) + off = (tgt : Int)) (kt : ¬ P → V p l e R s m args below meth c Q g nL cs ss N f tgt lv st) (kf : P → V p l e R s m args below meth c Q g nL cs ss N f (pc + 3) lv st) : V p l e R s m args below meth c Q g nL cs ss N f pc lv (.int (bI P) :: st) :=
  v_if_eq X d ht (fun h => kt (bI_0.mp h)) (fun h => kf (bI_n.mp h))
theorem v_if_neB (X : Cx p args s m meth c g cc nL own rt N0) {P : Prop} [Decidable P] {off : Int} {tgt : Nat} (d : decode cc pc = .ok (.ifCond .ne off, 3)) (ht : (pc : Int) + off = (tgt : Int)) (kt : P → V p l e R s m args below meth c Q g nL cs ss N f tgt lv st) (kf : ¬ P → V p l e R s m args below meth c Q g nL cs ss N f (pc + 3) lv st) : V p l e R s m args below meth c Q g nL cs ss N f pc lv (.int (bI P) :: st) :=
  v_if_ne X d ht (fun h => kt (bI_n.mp h)) (fun h => kf (bI_0.mp h))
theorem v_tabIn (X : Cx p args s m meth c g cc nL own rt N0) {dflt lo hi : Int} {offs : Array Int} {len : Nat} {x : Int32} {off : Int} {tgt : Nat} (d : decode cc pc = .ok (.tableswitch dflt lo hi offs, len)) (h1 : ¬ x.toInt < lo) (h2 : ¬ hi < x.toInt) (ho : offs[(x.toInt - lo).toNat]? = some off) (ht : (pc : Int) + off = (tgt : Int)) (k : V p l e R s m args below meth c Q g nL cs ss N f tgt lv st) : V p l e R s m args below meth c Q g nL cs ss N f pc lv (.int x :: st) :=
  fun H locs ls hP hS hl => lv_tableIn X.1 X.2.1 d h1 h2 ho ht (k H locs ls hP hS hl)
theorem v_tabOut (X : Cx p args s m meth c g cc nL own rt N0) {dflt lo hi : Int} {offs : Array Int} {len : Nat} {x : Int32} {tgt : Nat} (d : decode cc pc = .ok (.tableswitch dflt lo hi offs, len)) (h : x.toInt < lo ∨ hi < x.toInt) (ht : (pc : Int) + dflt = (tgt : Int)) (k : V p l e R s m args below meth c Q g nL cs ss N f tgt lv st) : V p l e R s m args below meth c Q g nL cs ss N f pc lv (.int x :: st) :=
  fun H locs ls hP hS hl => lv_tableOut X.1 X.2.1 d h ht (k H locs ls hP hS hl)
end V1
