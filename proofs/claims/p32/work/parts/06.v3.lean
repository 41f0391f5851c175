section V2
variable {p : Program} {l : Launch} {e : Env} {R : Room} {s : State} {m : MethodId} {args : Array Value} {below : List Frame} {meth : Method} {c : Code} {Q : State → Prop}
variable {g : Ge} {cc : ByteArray} {nL : Nat} {own : String} {rt : Option FieldType} {N0 cs ss N : Nat} {f : Pic} {pc : Nat} {lv : List (Option Value)} {st : List Value} {o nB : Nat} {L L' : List va_E}
def CF (ci : Nat) (C : String) (T : u_T) (n : Nat) (ty : Nat → FieldType) : Prop := vwCl[ci]? = some (C, T, n) ∧ (∀ w ∈ u_ws C T n, w ∈ gT) ∧ (∀ k, k < n → parseFieldDescriptor (T k).2.2.1 = some (ty k)) ∧ (∀ a, a < n → ∀ b, b < n → a ≠ b → (T a).2.1 ≠ (T b).2.1) ∧ (∀ k, k < n → (T k).1 = C)
theorem getE_lt {α : Type} {l : List α} {j : Nat} {x : α} (h : l[j]? = some x) : j < l.length := (List.getElem?_eq_some_iff.mp h).1
theorem HP_lo {H : Heap} (h0 : g.2.2 ≤ H.size) (h : HP g N f H) : g.2.2 + N ≤ H.size := by
  cases N with
  | zero => exact h0
  | succ n =>
    have h1 := (h n _ (wl_get (Nat.lt_succ_self n))).lt
    have h2 : g.2.2 + n < H.size := h1
    omega
theorem Cx.size (X : Cx p args s m meth c g cc nL own rt N0) (hz : N = N0 + cs) {T : State} {H : Heap} {locs : List Loc} (hT : T.heap = H) (hP : HP g N f H) (S : Stand p l e R s m args below meth c T locs cs ss) : H.size = g.2.2 + N := by
  have h1 := S.heapSize
  have h2 : s.heap.size ≤ T.heap.size := S.same.2.1
  have h3 := X.2.2.2.2.2.2.2.2
  rw [hT] at h1 h2
  have h4 := HP_lo (by omega) hP
  omega
theorem v_get (X : Cx p args s m meth c g cc nL own rt N0) {ci idx a : Nat} {C : String} {T : u_T} {n : Nat} {ty : Nat → FieldType} {fs : List Value} {v : Value} (cf : CF ci C T n ty) (k : Nat) (hk : k < n) (hl : Cond.fieldLink own idx C (T k).2.1 (T k).2.2.1 ∈ gT) (d : decode cc pc = .ok (.getfield idx, 3)) (ha : g.2.2 ≤ a ∧ a < g.2.2 + N) (hc : f a = .inr (ci, fs)) (hv : fs[k]? = some v) (kk : V p l e R s m args below meth c Q g nL cs ss N f (pc + 3) lv (v :: st)) : V p l e R s m args below meth c Q g nL cs ss N f pc lv (.ref a :: st) :=
  fun H locs ls hP hS hl' => va_get X.1 X.2.1 X.2.2.2.2.1 cf.2.1 X.2.2.2.1 X.kk hP (a - g.2.2) (wl_atE ha.1 ha.2 hc) cf.1 k hk (X.wd hl) (by rw [cf.2.2.2.2 k hk]; exact fun _ h => h) hv d (kk H locs ls hP hS hl')
theorem v_getB (X : Cx p args s m meth c g cc nL own rt N0) {ci idx : Nat} {C : String} {T : u_T} {n : Nat} {ty : Nat → FieldType} {fs : List Value} {v : Value} (hB : BB g N o nB) (cf : CF ci C T n ty) (k : Nat) (hk : k < n) (hl : Cond.fieldLink own idx C (T k).2.1 (T k).2.2.1 ∈ gT) (d : decode cc pc = .ok (.getfield idx, 3)) (j : Nat) (hjn : j < nB) (hj : L[j]? = some (.inr (ci, fs))) (hv : fs[k]? = some v) (kk : V p l e R s m args below meth c Q g nL cs ss N (ovr f o L) (pc + 3) lv (v :: st)) : V p l e R s m args below meth c Q g nL cs ss N (ovr f o L) pc lv (.ref (o + j) :: st) :=
  v_get X cf k hk hl d ⟨hB.lo, hB.hi hjn⟩ (ovr_at hj) hv kk
theorem v_put (X : Cx p args s m meth c g cc nL own rt N0) {ci idx a : Nat} {C : String} {T : u_T} {n : Nat} {ty : Nat → FieldType} {fs : List Value} {v : Value} (cf : CF ci C T n ty) (k : Nat) (hk : k < n) (hfin : (T k).2.2.2 = false) (hl : Cond.fieldLink own idx C (T k).2.1 (T k).2.2.1 ∈ gT) (d : decode cc pc = .ok (.putfield idx, 3)) (ha : g.2.2 ≤ a ∧ a < g.2.2 + N) (hc : f a = .inr (ci, fs)) (hn : narrow (ty k) v = v) (hfit : fits (ty k) v = true) (hlen : k < fs.length) (kk : V p l e R s m args below meth c Q g nL cs ss N (upP f a (.inr (ci, fs.set k v))) (pc + 3) lv st) : V p l e R s m args below meth c Q g nL cs ss N f pc lv (v :: .ref a :: st) := by
  intro H locs ls hP hS hl'
  refine va_put (D := g.1) X.1 X.2.1 X.2.2.2.2.1 cf.2.1 ty cf.2.2.1 cf.2.2.2.1 X.2.2.2.1 X.kk hP (wl_D g N f) hS (a - g.2.2) (wl_atE ha.1 ha.2 hc) cf.1 k hk (X.wd hl) (by rw [cf.2.2.2.2 k hk]; exact fun _ h => h) hfin (cf.2.2.1 k hk) hn hfit hlen d (fun H1 locs1 hP1 hD1 hS1 => ?_)
  rw [wl_set ha.1 ha.2] at hP1
  exact kk H1 locs1 ls hP1 hS1 hl'
theorem v_putB (X : Cx p args s m meth c g cc nL own rt N0) {ci idx : Nat} {C : String} {T : u_T} {n : Nat} {ty : Nat → FieldType} {fs : List Value} {v : Value} (hB : BB g N o nB) (cf : CF ci C T n ty) (k : Nat) (hk : k < n) (hfin : (T k).2.2.2 = false) (hl : Cond.fieldLink own idx C (T k).2.1 (T k).2.2.1 ∈ gT) (d : decode cc pc = .ok (.putfield idx, 3)) (j : Nat) (hjn : j < nB) (hj : L[j]? = some (.inr (ci, fs))) (hn : narrow (ty k) v = v) (hfit : fits (ty k) v = true) (hlen : k < fs.length) (hL : L.set j (.inr (ci, fs.set k v)) = L') (kk : V p l e R s m args below meth c Q g nL cs ss N (ovr f o L') (pc + 3) lv st) : V p l e R s m args below meth c Q g nL cs ss N (ovr f o L) pc lv (v :: .ref (o + j) :: st) := by
  refine v_put X cf k hk hfin hl d ⟨hB.lo, hB.hi hjn⟩ (ovr_at hj) hn hfit hlen ?_
  rw [ovr_up (getE_lt hj), hL]
  exact kk
theorem v_putF (X : Cx p args s m meth c g cc nL own rt N0) {ci idx a : Nat} {C : String} {T : u_T} {n : Nat} {ty : Nat → FieldType} {fs : List Value} {v : Value} (cf : CF ci C T n ty) (k : Nat) (hk : k < n) (hfin : (T k).2.2.2 = true) (hin : meth.name = "<init>") (hown : C = own) (hl : Cond.fieldLink own idx C (T k).2.1 (T k).2.2.1 ∈ gT) (d : decode cc pc = .ok (.putfield idx, 3)) (ha : g.2.2 ≤ a ∧ a < g.2.2 + N) (hc : f a = .inr (ci, fs)) (hn : narrow (ty k) v = v) (hfit : fits (ty k) v = true) (hlen : k < fs.length) (kk : V p l e R s m args below meth c Q g nL cs ss N (upP f a (.inr (ci, fs.set k v))) (pc + 3) lv st) : V p l e R s m args below meth c Q g nL cs ss N f pc lv (v :: .ref a :: st) := by
  intro H locs ls hP hS hl'
  refine va_putF (D := g.1) X.1 X.2.1 X.2.2.2.2.1 cf.2.1 ty cf.2.2.1 cf.2.2.2.1 X.2.2.2.1 X.kk hP (wl_D g N f) hS (a - g.2.2) (wl_atE ha.1 ha.2 hc) cf.1 k hk (X.wd hl) (by rw [cf.2.2.2.2 k hk]; exact fun _ h => h) hfin hin ((cf.2.2.2.2 k hk).trans hown) (cf.2.2.1 k hk) hn hfit hlen d (fun H1 locs1 hP1 hD1 hS1 => ?_)
  rw [wl_set ha.1 ha.2] at hP1
  exact kk H1 locs1 ls hP1 hS1 hl'
theorem v_putFB (X : Cx p args s m meth c g cc nL own rt N0) {ci idx : Nat} {C : String} {T : u_T} {n : Nat} {ty : Nat → FieldType} {fs : List Value} {v : Value} (hB : BB g N o nB) (cf : CF ci C T n ty) (k : Nat) (hk : k < n) (hfin : (T k).2.2.2 = true) (hin : meth.name = "<init>") (hown : C = own) (hl : Cond.fieldLink own idx C (T k).2.1 (T k).2.2.1 ∈ gT) (d : decode cc pc = .ok (.putfield idx, 3)) (j : Nat) (hjn : j < nB) (hj : L[j]? = some (.inr (ci, fs))) (hn : narrow (ty k) v = v) (hfit : fits (ty k) v = true) (hlen : k < fs.length) (hL : L.set j (.inr (ci, fs.set k v)) = L') (kk : V p l e R s m args below meth c Q g nL cs ss N (ovr f o L') (pc + 3) lv st) : V p l e R s m args below meth c Q g nL cs ss N (ovr f o L) pc lv (v :: .ref (o + j) :: st) := by
  refine v_putF X cf k hk hfin hin hown hl d ⟨hB.lo, hB.hi hjn⟩ (ovr_at hj) hn hfit hlen ?_
  rw [ovr_up (getE_lt hj), hL]
  exact kk
theorem nI_use {i : Int32} {k n : Nat} (hi : i = nI k) (hk : k < n) (hn : n < 2 ^ 31) : vp_in i n ∧ i.toNatClampNeg = k := by
  subst hi
  exact ⟨vp_in_nI hk hn, nI_clamp (Nat.lt_trans hk hn)⟩
theorem v_iald (X : Cx p args s m meth c g cc nL own rt N0) {a n k : Nat} {i : Int32} {row : Nat → Int32} (d : decode cc pc = .ok (.iaload, 1)) (ha : g.2.2 ≤ a ∧ a < g.2.2 + N) (hc : f a = .inl (g.2.1.1, n, .inl row)) (hi : i = nI k) (hk : k < n) (hn : n < 2 ^ 31) (kk : V p l e R s m args below meth c Q g nL cs ss N f (pc + 1) lv (.int (row k) :: st)) : V p l e R s m args below meth c Q g nL cs ss N f pc lv (.int i :: .ref a :: st) := by
  intro H locs ls hP hS hl'
  obtain ⟨h1, h2⟩ := nI_use hi hk hn
  refine va_iald X.1 X.2.1 X.kk hP (a - g.2.2) 0 (wl_atE ha.1 ha.2 hc) rfl h1 d ?_
  rw [h2]
  exact kk H locs ls hP hS hl'
theorem v_ialdB (X : Cx p args s m meth c g cc nL own rt N0) {n : Nat} {i : Int32} {row : Nat → Int32} (hB : BB g N o nB) (d : decode cc pc = .ok (.iaload, 1)) (j : Nat) (hjn : j < nB) (hj : L[j]? = some (.inl (g.2.1.1, n, .inl row))) (k : Nat) (hi : i = nI k) (hk : k < n) (hn : n < 2 ^ 31) (kk : V p l e R s m args below meth c Q g nL cs ss N (ovr f o L) (pc + 1) lv (.int (row k) :: st)) : V p l e R s m args below meth c Q g nL cs ss N (ovr f o L) pc lv (.int i :: .ref (o + j) :: st) :=
  v_iald X d ⟨hB.lo, hB.hi hjn⟩ (ovr_at hj) hi hk hn kk
theorem v_iast (X : Cx p args s m meth c g cc nL own rt N0) {a n k : Nat} {i x : Int32} {row : Nat → Int32} (d : decode cc pc = .ok (.iastore, 1)) (ha : g.2.2 ≤ a ∧ a < g.2.2 + N) (hc : f a = .inl (g.2.1.1, n, .inl row)) (hi : i = nI k) (hk : k < n) (hn : n < 2 ^ 31) (kk : V p l e R s m args below meth c Q g nL cs ss N (upP f a (.inl (g.2.1.1, n, .inl (upd row k x)))) (pc + 1) lv st) : V p l e R s m args below meth c Q g nL cs ss N f pc lv (.int x :: .int i :: .ref a :: st) := by
  intro H locs ls hP hS hl'
  obtain ⟨h1, h2⟩ := nI_use hi hk hn
  refine va_iast X.1 X.2.1 X.kk hP (wl_D g N f) hS (a - g.2.2) 0 (wl_atE ha.1 ha.2 hc) rfl h1 d (fun H1 locs1 hP1 hD1 hS1 => ?_)
  rw [wl_set ha.1 ha.2, h2] at hP1
  exact kk H1 locs1 ls hP1 hS1 hl'
theorem v_iastB (X : Cx p args s m meth c g cc nL own rt N0) {n : Nat} {i x : Int32} {row : Nat → Int32} (hB : BB g N o nB) (d : decode cc pc = .ok (.iastore, 1)) (j : Nat) (hjn : j < nB) (hj : L[j]? = some (.inl (g.2.1.1, n, .inl row))) (k : Nat) (hi : i = nI k) (hk : k < n) (hn : n < 2 ^ 31) (hL : L.set j (.inl (g.2.1.1, n, .inl (upd row k x))) = L') (kk : V p l e R s m args below meth c Q g nL cs ss N (ovr f o L') (pc + 1) lv st) : V p l e R s m args below meth c Q g nL cs ss N (ovr f o L) pc lv (.int x :: .int i :: .ref (o + j) :: st) := by
  refine v_iast X d ⟨hB.lo, hB.hi hjn⟩ (ovr_at hj) hi hk hn ?_
  rw [ovr_up (getE_lt hj), hL]
  exact kk
theorem v_cald (X : Cx p args s m meth c g cc nL own rt N0) {a n k : Nat} {i : Int32} {row : Nat → Int32} (d : decode cc pc = .ok (.caload, 1)) (ha : g.2.2 ≤ a ∧ a < g.2.2 + N) (hc : f a = .inl (g.2.1.2.1, n, .inl row)) (hi : i = nI k) (hk : k < n) (hn : n < 2 ^ 31) (kk : V p l e R s m args below meth c Q g nL cs ss N f (pc + 1) lv (.int (row k) :: st)) : V p l e R s m args below meth c Q g nL cs ss N f pc lv (.int i :: .ref a :: st) := by
  intro H locs ls hP hS hl'
  obtain ⟨h1, h2⟩ := nI_use hi hk hn
  refine va_cald X.1 X.2.1 X.kk hP (a - g.2.2) 1 (wl_atE ha.1 ha.2 hc) rfl h1 d ?_
  rw [h2]
  exact kk H locs ls hP hS hl'
theorem v_caldB (X : Cx p args s m meth c g cc nL own rt N0) {n : Nat} {i : Int32} {row : Nat → Int32} (hB : BB g N o nB) (d : decode cc pc = .ok (.caload, 1)) (j : Nat) (hjn : j < nB) (hj : L[j]? = some (.inl (g.2.1.2.1, n, .inl row))) (k : Nat) (hi : i = nI k) (hk : k < n) (hn : n < 2 ^ 31) (kk : V p l e R s m args below meth c Q g nL cs ss N (ovr f o L) (pc + 1) lv (.int (row k) :: st)) : V p l e R s m args below meth c Q g nL cs ss N (ovr f o L) pc lv (.int i :: .ref (o + j) :: st) :=
  v_cald X d ⟨hB.lo, hB.hi hjn⟩ (ovr_at hj) hi hk hn kk
theorem v_cast (X : Cx p args s m meth c g cc nL own rt N0) {a n k : Nat} {i x : Int32} {row : Nat → Int32} (d : decode cc pc = .ok (.castore, 1)) (ha : g.2.2 ≤ a ∧ a < g.2.2 + N) (hc : f a = .inl (g.2.1.2.1, n, .inl row)) (hi : i = nI k) (hk : k < n) (hn : n < 2 ^ 31) (kk : V p l e R s m args below meth c Q g nL cs ss N (upP f a (.inl (g.2.1.2.1, n, .inl (upd row k (vp_nar .char x))))) (pc + 1) lv st) : V p l e R s m args below meth c Q g nL cs ss N f pc lv (.int x :: .int i :: .ref a :: st) := by
  intro H locs ls hP hS hl'
  obtain ⟨h1, h2⟩ := nI_use hi hk hn
  refine va_cast X.1 X.2.1 X.kk hP (wl_D g N f) hS (a - g.2.2) 1 (wl_atE ha.1 ha.2 hc) rfl h1 d (fun H1 locs1 hP1 hD1 hS1 => ?_)
  rw [wl_set ha.1 ha.2, h2] at hP1
  exact kk H1 locs1 ls hP1 hS1 hl'
theorem v_castB (X : Cx p args s m meth c g cc nL own rt N0) {n : Nat} {i x : Int32} {row : Nat → Int32} (hB : BB g N o nB) (d : decode cc pc = .ok (.castore, 1)) (j : Nat) (hjn : j < nB) (hj : L[j]? = some (.inl (g.2.1.2.1, n, .inl row))) (k : Nat) (hi : i = nI k) (hk : k < n) (hn : n < 2 ^ 31) (hL : L.set j (.inl (g.2.1.2.1, n, .inl (upd row k (vp_nar .char x)))) = L') (kk : V p l e R s m args below meth c Q g nL cs ss N (ovr f o L') (pc + 1) lv st) : V p l e R s m args below meth c Q g nL cs ss N (ovr f o L) pc lv (.int x :: .int i :: .ref (o + j) :: st) := by
  refine v_cast X d ⟨hB.lo, hB.hi hjn⟩ (ovr_at hj) hi hk hn ?_
  rw [ovr_up (getE_lt hj), hL]
  exact kk
theorem v_iald_vw (X : Cx p args s m meth c g cc nL own rt N0) {n b s' : Nat} {i : Int32} {σ : Nat → Int32} (hB : BB g N o nB) (d : decode cc pc = .ok (.iaload, 1)) (j : Nat) (hjn : j < nB) (hj : L[j]? = some (.inl (g.2.1.1, n, .inl (fun i => if i < n then σ (b + s' * i) else 0)))) (k : Nat) (hi : i = nI k) (hk : k < n) (hn : n < 2 ^ 31) (kk : V p l e R s m args below meth c Q g nL cs ss N (ovr f o L) (pc + 1) lv (.int (σ (b + s' * k)) :: st)) : V p l e R s m args below meth c Q g nL cs ss N (ovr f o L) pc lv (.int i :: .ref (o + j) :: st) := by
  refine v_ialdB X hB d j hjn hj k hi hk hn ?_
  rw [if_pos hk]
  exact kk
theorem v_aald (X : Cx p args s m meth c g cc nL own rt N0) {a n k : Nat} {i : Int32} {row : Nat → Option Nat} {v : Value} (d : decode cc pc = .ok (.aaload, 1)) (ha : g.2.2 ≤ a ∧ a < g.2.2 + N) (hc : f a = .inl (g.2.1.2.2, n, .inr (.inr (.inr (.inr row))))) (hi : i = nI k) (hk : k < n) (hn : n < 2 ^ 31) (hv : va_rf (row k) = v) (kk : V p l e R s m args below meth c Q g nL cs ss N f (pc + 1) lv (v :: st)) : V p l e R s m args below meth c Q g nL cs ss N f pc lv (.int i :: .ref a :: st) := by
  intro H locs ls hP hS hl'
  obtain ⟨h1, h2⟩ := nI_use hi hk hn
  refine va_aldq X.1 X.2.1 X.kk hP (a - g.2.2) 2 (wl_atE ha.1 ha.2 hc) rfl h1 d ?_
  rw [h2, hv]
  exact kk H locs ls hP hS hl'
theorem v_aast (X : Cx p args s m meth c g cc nL own rt N0) {a n k v : Nat} {i : Int32} {row : Nat → Option Nat} {fs : List Value} (d : decode cc pc = .ok (.aastore, 1)) (ha : g.2.2 ≤ a ∧ a < g.2.2 + N) (hc : f a = .inl (g.2.1.2.2, n, .inr (.inr (.inr (.inr row))))) (hv : g.2.2 ≤ v ∧ v < g.2.2 + N) (hcv : f v = .inr (4, fs)) (hi : i = nI k) (hk : k < n) (hn : n < 2 ^ 31) (kk : V p l e R s m args below meth c Q g nL cs ss N (upP f a (.inl (g.2.1.2.2, n, .inr (.inr (.inr (.inr (va_up row k (some v)))))))) (pc + 1) lv st) : V p l e R s m args below meth c Q g nL cs ss N f pc lv (.ref v :: .int i :: .ref a :: st) := by
  intro H locs ls hP hS hl'
  obtain ⟨h1, h2⟩ := nI_use hi hk hn
  refine va_astq X.1 X.2.1 X.kk hP (wl_D g N f) hS (a - g.2.2) 2 (v - g.2.2) 4 (r := (RX4, TX4, 7)) (wl_atE ha.1 ha.2 hc) rfl (wl_atE hv.1 hv.2 hcv) rfl h1 d (fun H1 locs1 hP1 hD1 hS1 => ?_)
  rw [wl_set ha.1 ha.2, h2] at hP1
  exact kk H1 locs1 ls hP1 hS1 hl'
theorem HP_push {H H1 : Heap} {e0 : va_E} (hP : HP g N f H) (hk : ∀ q : Nat, q < H.size → H1[q]? = H[q]?) (he : va_at g.1 vwCl (g.2.2 + N, e0) H1) : HP g (N + 1) (upP f (g.2.2 + N) e0) H1 := by
  unfold HP
  rw [← wl_push]
  refine (hP.kept fun k q h => hk q.1 ((hP k q h).lt)).app fun k q h => ?_
  have hz : k < 1 := (List.getElem?_eq_some_iff.mp h).1
  rw [show k = 0 by omega] at h
  cases h
  exact he
theorem S_push {A : Nat → Prop} {H0 H H1 : Heap} {locs : List Loc} (hS : va_S A H0 H locs) (hz : H.size ≤ H1.size) (hk : ∀ q : Nat, q < H.size → H1[q]? = H[q]?) : va_S A H0 H1 locs :=
  ⟨Nat.le_trans hS.1 hz, fun x h1 h2 => (hk x (Nat.lt_of_lt_of_le h1 hS.1)).trans (hS.2.1 x h1 h2), hS.2.2⟩
theorem v_new (X : Cx p args s m meth c g cc nL own rt N0) {ci idx : Nat} {C : String} {T : u_T} {n : Nat} {ty : Nat → FieldType} {fs : List Value} (hz : N = N0 + cs) (cf : CF ci C T n ty) (hcl : Cond.classLink own idx C ∈ gT) (hin : Cond.instantiable C n ∈ gT) (hini : Cond.initialized C ∈ gT) (hfs : ∀ j, j < n → defaultValue (ty j) = vp_V fs j) (hR : cs + 1 ≤ R.cells ∧ ss + n ≤ R.slots) (d : decode cc pc = .ok (.new idx, 3)) (kk : V p l e R s m args below meth c Q g nL (cs + 1) (ss + n) (N + 1) (upP f (g.2.2 + N) (.inr (ci, fs))) (pc + 3) lv (.ref (g.2.2 + N) :: st)) : V p l e R s m args below meth c Q g nL cs ss N f pc lv st := by
  intro H locs ls hP hS hl' T hT St
  have hsz := X.size hz hT hP St
  have hKn := X.kk.1 ci _ cf.1
  suffices hW : W p l e R s m args below meth c H locs cs ss Q (F0 m pc ls st) from hW T hT St
  refine W.newcK (g := F0 m pc ls st) X.1 X.2.1 X.2.2.2.1 (X.wd hcl) (X.wd hin) (X.wd hini) rfl d hR.1 hR.2 hKn.2.1 hsz (fun H1 kC hkC e1 z1 o1 => ?_)
  exact kk H1 locs ls (HP_push hP (fun q hq => o1 q (by omega)) ⟨_, cf.1, (u_born ty X.2.2.2.2.1 cf.2.1 hKn hkC e1 cf.2.2.1).to hfs⟩) (S_push hS (by omega) (fun q hq => o1 q (by omega))) hl'
theorem v_newa_i (X : Cx p args s m meth c g cc nL own rt N0) {n : Int32} {n' : Nat} (hz : N = N0 + cs) (hw : Cond.arrayClass .int ∈ gT) (hn : n = nI n') (hn' : n' ≤ 100000) (hR : cs + 1 ≤ R.cells ∧ ss + n' ≤ R.slots) (d : decode cc pc = .ok (.newarray .int, 2)) (kk : V p l e R s m args below meth c Q g nL (cs + 1) (ss + n') (N + 1) (upP f (g.2.2 + N) (.inl (g.2.1.1, n', .inl (fun _ => 0)))) (pc + 2) lv (.ref (g.2.2 + N) :: st)) : V p l e R s m args below meth c Q g nL cs ss N f pc lv (.int n :: st) := by
  intro H locs ls hP hS hl' T hT St
  have hsz := X.size hz hT hP St
  subst hn
  suffices hW : W p l e R s m args below meth c H locs cs ss Q (F0 m pc ls (.int (nI n') :: st)) from hW T hT St
  refine va_newaK (g := F0 m pc ls (.int (nI n') :: st)) X.1 X.2.1 (atype := .int) (X.wd hw) rfl d rfl (nI_pos (by omega)) (nI_clamp (by omega)) ?_ hR.1 hR.2 hsz (fun H1 cA e1 z1 o1 hAr hNm => ?_)
  · show n' * componentBytes .int ≤ _
    have : componentBytes .int ≤ 8 := by decide
    calc n' * componentBytes .int ≤ n' * 8 := Nat.mul_le_mul_left _ this
      _ ≤ _ := by omega
  · have hcA : g.2.1.1 = cA := by
      have h1 := (X.kk.2 0 _ rfl).2
      exact Option.some.inj (h1.symm.trans hNm)
    subst hcA
    exact kk H1 locs ls (HP_push hP (fun q hq => o1 q (by omega)) e1) (S_push hS (by omega) (fun q hq => o1 q (by omega))) hl'
theorem v_newa_c (X : Cx p args s m meth c g cc nL own rt N0) {n : Int32} {n' : Nat} (hz : N = N0 + cs) (hw : Cond.arrayClass .char ∈ gT) (hn : n = nI n') (hn' : n' ≤ 100000) (hR : cs + 1 ≤ R.cells ∧ ss + n' ≤ R.slots) (d : decode cc pc = .ok (.newarray .char, 2)) (kk : V p l e R s m args below meth c Q g nL (cs + 1) (ss + n') (N + 1) (upP f (g.2.2 + N) (.inl (g.2.1.2.1, n', .inl (fun _ => 0)))) (pc + 2) lv (.ref (g.2.2 + N) :: st)) : V p l e R s m args below meth c Q g nL cs ss N f pc lv (.int n :: st) := by
  intro H locs ls hP hS hl' T hT St
  have hsz := X.size hz hT hP St
  subst hn
  suffices hW : W p l e R s m args below meth c H locs cs ss Q (F0 m pc ls (.int (nI n') :: st)) from hW T hT St
  refine va_newaK (g := F0 m pc ls (.int (nI n') :: st)) X.1 X.2.1 (atype := .char) (X.wd hw) rfl d rfl (nI_pos (by omega)) (nI_clamp (by omega)) ?_ hR.1 hR.2 hsz (fun H1 cA e1 z1 o1 hAr hNm => ?_)
  · show n' * componentBytes .char ≤ _
    have : componentBytes .char ≤ 8 := by decide
    calc n' * componentBytes .char ≤ n' * 8 := Nat.mul_le_mul_left _ this
      _ ≤ _ := by omega
  · have hcA : g.2.1.2.1 = cA := by
      have h1 := (X.kk.2 1 _ rfl).2
      exact Option.some.inj (h1.symm.trans hNm)
    subst hcA
    exact kk H1 locs ls (HP_push hP (fun q hq => o1 q (by omega)) e1) (S_push hS (by omega) (fun q hq => o1 q (by omega))) hl'
theorem v_newq (X : Cx p args s m meth c g cc nL own rt N0) {n : Int32} {n' idx : Nat} (hz : N = N0 + cs) (hcl : Cond.classLink own idx RX4 ∈ gT) (hn : n = nI n') (hn' : n' ≤ 100000) (hR : cs + 1 ≤ R.cells ∧ ss + n' ≤ R.slots) (d : decode cc pc = .ok (.anewarray idx, 3)) (kk : V p l e R s m args below meth c Q g nL (cs + 1) (ss + n') (N + 1) (upP f (g.2.2 + N) (.inl (g.2.1.2.2, n', .inr (.inr (.inr (.inr (fun _ => none))))))) (pc + 3) lv (.ref (g.2.2 + N) :: st)) : V p l e R s m args below meth c Q g nL cs ss N f pc lv (.int n :: st) := by
  intro H locs ls hP hS hl' T hT St
  have hsz := X.size hz hT hP St
  subst hn
  have hcl' : (nI n').toNatClampNeg = n' := nI_clamp (by omega)
  suffices hW : W p l e R s m args below meth c H locs cs ss Q (F0 m pc ls (.int (nI n') :: st)) from hW T hT St
  refine W.anew (g := F0 m pc ls (.int (nI n') :: st)) X.1 X.2.1 X.2.2.2.1 (X.wd hcl) (va_AO.use X.2.2.2.2.2.2.2.1.2.2) rfl d rfl (nI_pos (by omega)) (by rw [hcl']; omega) hR.1 (by rw [hcl']; exact hR.2) (fun cA kA comp f1 f2 f3 f4 => ?_)
  rw [hcl']
  have hcA : g.2.1.2.2 = cA := by
    obtain ⟨_, _, _, _, _, h1⟩ := (X.kk.2 2 _ rfl).2
    exact Option.some.inj (h1.symm.trans f1)
  subst hcA
  rw [hsz]
  generalize hH1 : H.push ({ cls := g.2.1.2.2, slots := Array.replicate n' .null, vm := .none } : Cell) = H1
  have z1 : H1.size = H.size + 1 := by rw [← hH1, Array.size_push]
  have e1 : H1[g.2.2 + N]? = some (arrV g.2.1.2.2 n' (fun _ => .null)) := by rw [← hH1, ← hsz, Array.getElem?_push_size, ← arrV_new]
  have o1 : ∀ q : Nat, q < H.size → H1[q]? = H[q]? := fun q hq => by rw [← hH1, Array.getElem?_push, if_neg (Nat.ne_of_lt hq)]
  exact kk H1 locs ls (HP_push hP o1 e1) (S_push hS (by omega) o1) hl'
end V2
