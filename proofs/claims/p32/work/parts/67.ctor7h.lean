/-! the constructors of the model and of the class -/
def sJ (n : Nat) : Nat → Int32 := fun i => if i < n then sI i else 0
theorem sJ_in {n i : Nat} (h : i < n) : sJ n i = sI i := if_pos h
theorem sJ_out {n i : Nat} (h : ¬ i < n) : sJ n i = 0 := if_neg h
theorem sJ_0 : upd (upd zI 2 1) 10 (-6) = sJ 12 := by
  funext i
  by_cases e : i = 10
  · subst e; rw [pk_us]; decide
  rw [pk_un e]
  by_cases e2 : i = 2
  · subst e2; rw [pk_us]; decide
  rw [pk_un e2]
  by_cases h : i < 12
  · rw [sJ_in h, sI, if_neg e2, if_neg e, if_neg (by omega), if_neg (by omega)]; rfl
  · rw [sJ_out h]; rfl
theorem sJ_sh {k : Nat} (hk : k < 5) : upd (upd (upd (upd (sJ (12 + 4 * k)) (12 + 4 * k) (nI k)) (13 + 4 * k) 20) (14 + 4 * k) (-6)) (15 + 4 * k) (-6) = sJ (12 + 4 * (k + 1)) := by
  obtain ⟨h1, h2, h3, h4⟩ := sI_sh hk
  funext i
  by_cases e1 : i = 15 + 4 * k
  · subst e1; rw [pk_us, sJ_in (by omega), h4]
  rw [pk_un e1]
  by_cases e2 : i = 14 + 4 * k
  · subst e2; rw [pk_us, sJ_in (by omega), h3]
  rw [pk_un e2]
  by_cases e3 : i = 13 + 4 * k
  · subst e3; rw [pk_us, sJ_in (by omega), h2]
  rw [pk_un e3]
  by_cases e4 : i = 12 + 4 * k
  · subst e4; rw [pk_us, sJ_in (by omega), h1]
  rw [pk_un e4]
  by_cases h : i < 12 + 4 * k
  · rw [sJ_in h, sJ_in (by omega)]
  · rw [sJ_out h, sJ_out (by omega)]
theorem sJ_th {k : Nat} (hk : k < 12) : upd (upd (sJ (32 + 2 * k)) (32 + 2 * k) (nI (k % 6))) (33 + 2 * k) 60 = sJ (32 + 2 * (k + 1)) := by
  obtain ⟨h1, h2⟩ := sI_th hk
  funext i
  by_cases e3 : i = 33 + 2 * k
  · subst e3; rw [pk_us, sJ_in (by omega), h2]
  rw [pk_un e3]
  by_cases e4 : i = 32 + 2 * k
  · subst e4; rw [pk_us, sJ_in (by omega), h1]
  rw [pk_un e4]
  by_cases h : i < 32 + 2 * k
  · rw [sJ_in h, sJ_in (by omega)]
  · rw [sJ_out h, sJ_out (by omega)]
theorem sJ_56 : sJ 56 = sI := by
  funext i
  by_cases h : i < 56
  · exact sJ_in h
  · rw [sJ_out h, sI, if_neg (by omega), if_neg (by omega), if_neg (by omega), if_neg (by omega)]
theorem sv_6 {o : Nat} : va_up (va_up (va_up (va_up (va_up (va_up (fun _ => none) 0 (some (o + 41))) 1 (some (o + 64))) 2 (some (o + 87))) 3 (some (o + 110))) 4 (some (o + 133))) 5 (some (o + 156)) = svR o := by
  funext i
  by_cases h : i < 6
  · rcases lt6 h with rfl | rfl | rfl | rfl | rfl | rfl <;> rfl
  · rw [svR, if_neg h]
    unfold va_up
    rw [if_neg (by omega), if_neg (by omega), if_neg (by omega), if_neg (by omega), if_neg (by omega), if_neg (by omega)]
section V8
variable {p : Program} {l : Launch} {e : Env} {R : Room} {s : State} {m : MethodId} {args : Array Value} {below : List Frame} {meth : Method} {c : Code} {Q : State → Prop}
variable {g : Ge} {cc : ByteArray} {nL : Nat} {own : String} {rt : Option FieldType} {N0 cs ss N : Nat} {f : Pic} {pc : Nat} {lv : List (Option Value)} {st : List Value} {o nB : Nat} {L L' : List va_E}
theorem v_aastB (X : Cx p args s m meth c g cc nL own rt N0) {n : Nat} {i : Int32} {row : Nat → Option Nat} {fs : List Value} (hB : BB g N o nB) (d : decode cc pc = .ok (.aastore, 1)) (j jv : Nat) (hjn : j < nB) (hjv : jv < nB) (hj : L[j]? = some (.inl (g.2.1.2.2, n, .inr (.inr (.inr (.inr row)))))) (hv : L[jv]? = some (.inr (4, fs))) (k : Nat) (hi : i = nI k) (hk : k < n) (hn : n < 2 ^ 31) (hL : L.set j (.inl (g.2.1.2.2, n, .inr (.inr (.inr (.inr (va_up row k (some (o + jv)))))))) = L') (kk : V p l e R s m args below meth c Q g nL cs ss N (ovr f o L') (pc + 1) lv st) : V p l e R s m args below meth c Q g nL cs ss N (ovr f o L) pc lv (.ref (o + jv) :: .int i :: .ref (o + j) :: st) := by
  refine v_aast X d ⟨hB.lo, hB.hi hjn⟩ (ovr_at hj) ⟨hB.lo, hB.hi hjv⟩ (ovr_at hv) hi hk hn ?_
  rw [ovr_up (getE_lt hj), hL]
  exact kk
end V8
