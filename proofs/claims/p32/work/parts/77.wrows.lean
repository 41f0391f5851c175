/-! weaving in the law: arrays outside the block, and what its loops do to its own arrays -/
theorem ovr_upP {f : Pic} {o a : Nat} {L : List va_E} {e : va_E} (h : a < o ∨ o + L.length ≤ a) : upP (ovr f o L) a e = ovr (upP f a e) o L := by
  funext i
  by_cases ei : i = a
  · subst ei
    rw [ovr_out h, upP, if_pos rfl, upP, if_pos rfl]
  · have e1 : upP f a e i = f i := if_neg ei
    rw [upP, if_neg ei]
    unfold ovr
    rw [e1]
section W9
variable {p : Program} {l : Launch} {e : Env} {R : Room} {s : State} {m : MethodId} {args : Array Value} {below : List Frame} {meth : Method} {c : Code} {Q : State → Prop}
variable {g : Ge} {cc : ByteArray} {nL : Nat} {own : String} {rt : Option FieldType} {N0 cs ss N : Nat} {f : Pic} {pc : Nat} {lv : List (Option Value)} {st : List Value} {o nB A : Nat} {L LW LW' : List va_E}
theorem v_newaW (X : Cx p args s m meth c g cc nL own rt N0) {n : Int32} {n' : Nat} (j : Nat) (hA : g.2.2 + N = A + j) (hj : LW.length = j) (hln : L.length = nB) (hd : o + nB ≤ A) (hz : N = N0 + cs) (hw : Cond.arrayClass .int ∈ gT) (hn : n = nI n') (hn' : n' ≤ 100000) (hR : cs + 1 ≤ R.cells ∧ ss + n' ≤ R.slots) (d : decode cc pc = .ok (.newarray .int, 2)) (hL : LW ++ [.inl (g.2.1.1, n', .inl (fun _ => 0))] = LW') (kk : V p l e R s m args below meth c Q g nL (cs + 1) (ss + n') (N + 1) (ovr (ovr f A LW') o L) (pc + 2) lv (.ref (A + j) :: st)) : V p l e R s m args below meth c Q g nL cs ss N (ovr (ovr f A LW) o L) pc lv (.int n :: st) := by
  refine v_newa_i X hz hw hn hn' hR d ?_
  rw [hA, ovr_upP (Or.inr (by omega)), ovr_push (by rw [hj]), hL]
  exact kk
theorem v_ialdW (X : Cx p args s m meth c g cc nL own rt N0) {n : Nat} {i : Int32} {row : Nat → Int32} (hA : g.2.2 ≤ A ∧ A + LW.length ≤ g.2.2 + N) (hln : L.length = nB) (hd : o + nB ≤ A) (d : decode cc pc = .ok (.iaload, 1)) (j : Nat) (hj : LW[j]? = some (.inl (g.2.1.1, n, .inl row))) (k : Nat) (hi : i = nI k) (hk : k < n) (hn : n < 2 ^ 31) (kk : V p l e R s m args below meth c Q g nL cs ss N (ovr (ovr f A LW) o L) (pc + 1) lv (.int (row k) :: st)) : V p l e R s m args below meth c Q g nL cs ss N (ovr (ovr f A LW) o L) pc lv (.int i :: .ref (A + j) :: st) :=
  v_iald X d ⟨by omega, by have := getE_lt hj; omega⟩ (by rw [ovr_out (Or.inr (by omega))]; exact ovr_at hj) hi hk hn kk
theorem v_iastW (X : Cx p args s m meth c g cc nL own rt N0) {n : Nat} {i x : Int32} {row : Nat → Int32} (hA : g.2.2 ≤ A ∧ A + LW.length ≤ g.2.2 + N) (hln : L.length = nB) (hd : o + nB ≤ A) (d : decode cc pc = .ok (.iastore, 1)) (j : Nat) (hj : LW[j]? = some (.inl (g.2.1.1, n, .inl row))) (k : Nat) (hi : i = nI k) (hk : k < n) (hn : n < 2 ^ 31) (hL : LW.set j (.inl (g.2.1.1, n, .inl (upd row k x))) = LW') (kk : V p l e R s m args below meth c Q g nL cs ss N (ovr (ovr f A LW') o L) (pc + 1) lv st) : V p l e R s m args below meth c Q g nL cs ss N (ovr (ovr f A LW) o L) pc lv (.int x :: .int i :: .ref (A + j) :: st) := by
  refine v_iast X d ⟨by omega, by have := getE_lt hj; omega⟩ (by rw [ovr_out (Or.inr (by omega))]; exact ovr_at hj) hi hk hn ?_
  rw [ovr_upP (Or.inr (by omega)), ovr_up (getE_lt hj), hL]
  exact kk
theorem v_nilW (A : Nat) (k : V p l e R s m args below meth c Q g nL cs ss N (ovr (ovr f A []) o L) pc lv st) : V p l e R s m args below meth c Q g nL cs ss N (ovr f o L) pc lv st := by
  rw [ovr_nil] at k
  exact k
end W9
/-- an array six places to the front, as far as element m -/
def bsh (b : Nat → Int32) (m : Nat) : Nat → Int32 := fun i => if i < m then b (i + 6) else b i
theorem bsh_0 {b : Nat → Int32} : bsh b 0 = b := by funext i; rw [bsh, if_neg (by omega)]
theorem bsh_s {b : Nat → Int32} {m : Nat} : upd (bsh b m) m (bsh b m (m + 6)) = bsh b (m + 1) := by
  funext i
  by_cases e : i = m
  · subst e; rw [pk_us, bsh, if_neg (by omega), bsh, if_pos (by omega)]
  · rw [pk_un e, bsh, bsh]
    by_cases z : i < m
    · rw [if_pos z, if_pos (by omega)]
    · rw [if_neg z, if_neg (by omega)]
/-- m numbers of v from place 6 * n on -/
def enS (b : Nat → Int32) (n : Nat) (v : Nat → Int32) (m : Nat) : Nat → Int32 := fun i => if 6 * n ≤ i ∧ i < 6 * n + m then v (i - 6 * n) else b i
theorem enS_0 {b v : Nat → Int32} {n : Nat} : enS b n v 0 = b := by funext i; rw [enS, if_neg (by omega)]
theorem enS_s {b v : Nat → Int32} {n m : Nat} : upd (enS b n v m) (6 * n + m) (v m) = enS b n v (m + 1) := by
  funext i
  by_cases e : i = 6 * n + m
  · subst e; rw [pk_us, enS, if_pos (by omega)]; exact congrArg v (by omega)
  · rw [pk_un e, enS, enS]
    by_cases z : 6 * n ≤ i ∧ i < 6 * n + m
    · rw [if_pos z, if_pos (by omega)]
    · rw [if_neg z, if_neg (by omega)]
/-- what is kept of a pick: the numbers ahead of it, and where the shuttles are -/
def waF (q : Nat → Int32) (m : Nat) : Nat → Int32 := fun i => if i < m then (if i = 0 then q 1 else q (2 + i)) else 0
theorem waF_0 {q : Nat → Int32} : waF q 0 = fun _ => 0 := by funext i; rw [waF, if_neg (by omega)]
theorem waF_z {q : Nat → Int32} {m : Nat} (h : m = 0) : upd (waF q m) m (q 1) = waF q (m + 1) := by
  subst h
  funext i
  by_cases e : i = 0
  · subst e; rw [pk_us, waF, if_pos (by omega), if_pos rfl]
  · rw [pk_un e, waF, waF, if_neg (by omega), if_neg (by omega)]
theorem waF_n {q : Nat → Int32} {m : Nat} (h : ¬ m = 0) : upd (waF q m) m (q (2 + m)) = waF q (m + 1) := by
  funext i
  by_cases e : i = m
  · subst e; rw [pk_us, waF, if_pos (by omega), if_neg h]
  · rw [pk_un e, waF, waF]
    by_cases z : i < m
    · rw [if_pos z, if_pos (show i < m + 1 by omega)]
    · rw [if_neg z, if_neg (show ¬ i < m + 1 by omega)]
def beF (h : Nat → Int32) (m : Nat) : Nat → Int32 := fun i => if i < m then h (3 * i + 2) else 0
theorem beF_0 {h : Nat → Int32} : beF h 0 = fun _ => 0 := by funext i; rw [beF, if_neg (by omega)]
theorem beF_s {h : Nat → Int32} {m : Nat} : upd (beF h m) m (h (3 * m + 2)) = beF h (m + 1) := by
  funext i
  by_cases e : i = m
  · subst e; rw [pk_us, beF, if_pos (by omega)]
  · rw [pk_un e, beF, beF]
    by_cases z : i < m
    · rw [if_pos z, if_pos (show i < m + 1 by omega)]
    · rw [if_neg z, if_neg (show ¬ i < m + 1 by omega)]
def enV (q h : Nat → Int32) (k : Nat) : Nat → Int32 := upd (upd (waF q 4) 4 (nI k)) 5 (beF h 5 k)
theorem enV_v {q h : Nat → Int32} {k : Nat} (hk : k < 5) : enV q h k 0 = q 1 ∧ enV q h k 1 = q 3 ∧ enV q h k 2 = q 4 ∧ enV q h k 3 = q 5 ∧ enV q h k 4 = nI k ∧ enV q h k 5 = h (3 * k + 2) := by
  refine ⟨rfl, rfl, rfl, rfl, rfl, ?_⟩
  rw [enV, pk_us, beF, if_pos hk]
/-- the entries behind a pick -/
def EOP (b b2 b1 b3 : Nat → Int32) (B : Nat) : Prop := ∀ x, x < (if B < 20 then B else 19) → ∀ i, i < 6 → enB b1 b3 x i = enB b b2 (if B < 20 then x else x + 1) i
def ENP (b1 b3 v : Nat → Int32) (B : Nat) : Prop := ∀ j, j < 6 → enB b1 b3 (if B < 20 then B else 19) j = v j
theorem en_A1 {b b2 v : Nat → Int32} {B : Nat} (h : B < 10) : EOP b b2 (enS b B v 6) b2 B ∧ ENP (enS b B v 6) b2 v B := by
  refine ⟨fun x hx i hi => ?_, fun j hj => ?_⟩
  · rw [if_pos (show B < 20 by omega)] at hx ⊢
    rw [enB, enB, if_pos (show x < 10 by omega), if_pos (show x < 10 by omega), enS, if_neg (by omega)]
  · rw [if_pos (show B < 20 by omega), enB, if_pos h, enS, if_pos (by omega)]
    exact congrArg v (by omega)
theorem en_A2 {b b2 v : Nat → Int32} {B : Nat} (h : 10 ≤ B) (h2 : B < 20) : EOP b b2 b (enS b2 (B - 10) v 6) B ∧ ENP b (enS b2 (B - 10) v 6) v B := by
  refine ⟨fun x hx i hi => ?_, fun j hj => ?_⟩
  · rw [if_pos h2] at hx ⊢
    rw [enB, enB]
    by_cases z : x < 10
    · rw [if_pos z, if_pos z]
    · rw [if_neg z, if_neg z, enS, if_neg (by omega)]
  · rw [if_pos h2, enB, if_neg (by omega), enS, if_pos (by omega)]
    exact congrArg v (by omega)
theorem en_B {b b2 v : Nat → Int32} : EOP b b2 (enS (bsh b 54) 9 b2 6) (enS (bsh b2 54) 9 v 6) 20 ∧ ENP (enS (bsh b 54) 9 b2 6) (enS (bsh b2 54) 9 v 6) v 20 := by
  refine ⟨fun x hx i hi => ?_, fun j hj => ?_⟩
  · rw [if_neg (show ¬ 20 < 20 by omega)] at hx ⊢
    rw [enB, enB]
    by_cases z : x < 9
    · rw [if_pos (show x < 10 by omega), if_pos (show x + 1 < 10 by omega), enS, if_neg (by omega), bsh, if_pos (by omega)]
      exact congrArg b (by omega)
    · by_cases z9 : x = 9
      · subst z9
        rw [if_pos (show 9 < 10 by omega), if_neg (show ¬ 9 + 1 < 10 by omega), enS, if_pos (by omega)]
        exact congrArg b2 (by omega)
      · rw [if_neg (show ¬ x < 10 by omega), if_neg (show ¬ x + 1 < 10 by omega), enS, if_neg (by omega), bsh, if_pos (by omega)]
        exact congrArg b2 (by omega)
  · rw [if_neg (show ¬ 20 < 20 by omega), enB, if_neg (show ¬ 19 < 10 by omega), enS, if_pos (by omega)]
    exact congrArg v (by omega)
/-- the cloth one row to the front, as far as element m -/
def wsh (w : Nat → Int32) (m : Nat) : Nat → Int32 := fun i => if i < m then w (i + 2) else w i
theorem wsh_0 {w : Nat → Int32} : wsh w 0 = w := by funext i; rw [wsh, if_neg (by omega)]
theorem wsh_s {w : Nat → Int32} {m : Nat} : upd (wsh w m) m (wsh w m (m + 2)) = wsh w (m + 1) := by
  funext i
  by_cases e : i = m
  · subst e; rw [pk_us, wsh, if_neg (by omega), wsh, if_pos (by omega)]
  · rw [pk_un e, wsh, wsh]
    by_cases z : i < m
    · rw [if_pos z, if_pos (by omega)]
    · rw [if_neg z, if_neg (by omega)]
def WOP (w w1 : Nat → Int32) (R : Nat) : Prop := ∀ r, r + 1 < (if R < 20 then R + 1 else 20) → w1 (2 * r) = w (2 * (if R < 20 then r else r + 1)) ∧ w1 (2 * r + 1) = w (2 * (if R < 20 then r else r + 1) + 1)
def WNP (w1 : Nat → Int32) (x y : Int32) (R : Nat) : Prop := w1 (2 * (if R < 20 then R else 19)) = x ∧ w1 (2 * (if R < 20 then R else 19) + 1) = y
theorem wo_A {w : Nat → Int32} {x y : Int32} {R : Nat} (h : R < 20) : WOP w (upd (upd w (2 * R) x) (2 * R + 1) y) R ∧ WNP (upd (upd w (2 * R) x) (2 * R + 1) y) x y R := by
  refine ⟨fun r hr => ?_, ?_, ?_⟩
  · rw [if_pos h] at hr ⊢
    rw [pk_un (by omega), pk_un (by omega), pk_un (by omega), pk_un (by omega)]
    exact ⟨rfl, rfl⟩
  · rw [if_pos h, pk_un (by omega), pk_us]
  · rw [if_pos h, pk_us]
theorem wo_B {w : Nat → Int32} {x y : Int32} : WOP w (upd (upd (wsh w 38) 38 x) 39 y) 20 ∧ WNP (upd (upd (wsh w 38) 38 x) 39 y) x y 20 := by
  refine ⟨fun r hr => ?_, ?_, ?_⟩
  · rw [if_neg (show ¬ 20 < 20 by omega)] at hr ⊢
    refine ⟨?_, ?_⟩
    · rw [pk_un (by omega), pk_un (by omega), wsh, if_pos (by omega)]; exact congrArg w (by omega)
    · rw [pk_un (by omega), pk_un (by omega), wsh, if_pos (by omega)]; exact congrArg w (by omega)
  · rw [if_neg (show ¬ 20 < 20 by omega), pk_un (by omega), pk_us]
  · rw [if_neg (show ¬ 20 < 20 by omega), pk_us]
/-- the law's pick does not read how many picks can be taken back -/
theorem pkQ3_o {q q1 c : Nat → Int32} {P : Nat} (h : ∀ i, i ≠ 8 → q1 i = q i) {i : Nat} (hi : i ≠ 8) : pkQ3 q1 c P i = pkQ3 q c P i := by
  unfold pkQ3
  by_cases e5 : i = 5
  · subst e5; rw [pk_us, pk_us]
  rw [pk_un e5, pk_un e5]
  by_cases e4 : i = 4
  · subst e4; rw [pk_us, pk_us]
  rw [pk_un e4, pk_un e4]
  by_cases e3 : i = 3
  · subst e3; rw [pk_us, pk_us]
  rw [pk_un e3, pk_un e3]
  exact h i hi
theorem pkQ_o {q q1 c : Nat → Int32} {P : Nat} (h : ∀ i, i ≠ 8 → q1 i = q i) {i : Nat} (hi : i ≠ 8) : pkQ q1 c P i = pkQ q c P i := by
  unfold pkQ
  rw [pkQ3_o h (by omega : (1 : Nat) ≠ 8), pkQ3_o h (by omega : (0 : Nat) ≠ 8)]
  by_cases e1 : i = 1
  · subst e1; rw [pk_us, pk_us]
  rw [pk_un e1, pk_un e1]
  exact pkQ3_o h hi
theorem pkQ_8 {q c : Nat → Int32} {P i : Nat} (h1 : i ≠ 1) (h3 : i ≠ 3) (h4 : i ≠ 4) (h5 : i ≠ 5) : pkQ q c P i = q i := by
  rw [pkQ, pk_un h1, pkQ3, pk_un h5, pk_un h4, pk_un h3]
theorem pkQ_5 {q c : Nat → Int32} {P : Nat} : pkQ q c P 5 = c (3 * P) := by
  rw [pkQ, pk_un (by omega), pkQ3, pk_us]
theorem pkT_q {q q1 c t : Nat → Int32} {P : Nat} (h : q1 5 = q 5) : ∀ n, pkT q1 c P t n = pkT q c P t n
  | 0 => rfl
  | n + 1 => by rw [pkT, pkT, pkT_q h n, h]
theorem pkH_co {h c : Nat → Int32} {P k : Nat} : pkH h c P k (3 * k) = h (3 * k) := by
  rw [pkH, pk_un (by omega), pkH2, pk_un (by omega)]
