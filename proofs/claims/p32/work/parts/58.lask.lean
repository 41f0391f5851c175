/-! what the class answers, against the law's arrays -/
theorem le_nI {k n : Nat} (hk : k ≤ n) (hn : n < 2 ^ 31) : (0 : Int32) ≤ nI k ∧ nI k ≤ nI n := ⟨(nI_leI (a := 0) (by omega) (by omega)).mpr (Nat.zero_le _), (nI_leI (by omega) (by omega)).mpr hk⟩
theorem cn_k {σ : Nat → Int32} {k : Nat} (hk : k < 12) : cnF σ (nI k) = σ k := by
  rw [cnF, if_pos (show (0 : Int32) ≤ nI k ∧ nI k ≤ 11 from le_nI (n := 11) (by omega) (by omega)), nt_nI (by omega)]
theorem sh_j {σ : Nat → Int32} {k : Nat} (j : Nat) (hk : k < 5) (hj : j < 4) : shF σ (nI k) (nI j) = σ (12 + 4 * k + j) := by
  rw [shF, if_pos (show (0 : Int32) ≤ nI k ∧ nI k ≤ 4 from le_nI (n := 4) (by omega) (by omega)), if_pos (show (0 : Int32) ≤ nI j ∧ nI j ≤ 3 from le_nI (n := 3) (by omega) (by omega)), nt_nI (by omega), nt_nI (by omega)]
theorem ib_0 {σ : Nat → Int32} {k : Nat} (hk : k < 4) : ibF σ 0 (nI k) = fndF σ 0 (nI k) 5 0 := by
  rw [ibF, if_pos (Or.inl ⟨rfl, le_nI (n := 3) (by omega) (by omega)⟩)]; rfl
theorem ib_1 {σ : Nat → Int32} {k : Nat} (hk : k < 2) : ibF σ 1 (nI k) = fndF σ 1 (nI k) 5 0 := by
  rw [ibF, if_pos (Or.inr ⟨rfl, le_nI (n := 1) (by omega) (by omega)⟩)]; rfl
theorem th_0 {σ : Nat → Int32} {k : Nat} (hk : k < 12) : thF σ (nI k) 0 = σ (32 + 2 * k) := by
  rw [thF, if_pos (show (0 : Int32) ≤ nI k ∧ nI k ≤ 11 from le_nI (n := 11) (by omega) (by omega)), if_pos rfl, nt_nI (by omega)]
theorem th_1 {σ : Nat → Int32} {k : Nat} (hk : k < 12) : thF σ (nI k) 1 = σ (33 + 2 * k) := by
  rw [thF, if_pos (show (0 : Int32) ≤ nI k ∧ nI k ≤ 11 from le_nI (n := 11) (by omega) (by omega)), if_neg (by decide), if_pos rfl, nt_nI (by omega)]
theorem th_2 {σ : Nat → Int32} {k : Nat} (hk : k < 12) : thF σ (nI k) 2 = (σ 5 >>> (σ (32 + 2 * k) &&& 31)) &&& 1 := by
  rw [thF, if_pos (show (0 : Int32) ≤ nI k ∧ nI k ≤ 11 from le_nI (n := 11) (by omega) (by omega)), if_neg (by decide), if_neg (by decide), if_pos rfl, nt_nI (by omega), lfB_eq]
theorem cd_p {σ : Nat → Int32} {C k : Nat} (h0 : σ 0 = nI C) (hC : C ≤ 16) (hk : k < C) : (0 : Int32) ≤ nI k ∧ nI k < σ 0 ∧ nI k < 16 := by
  rw [h0]
  exact ⟨(nI_leI (a := 0) (by omega) (by omega)).mpr (Nat.zero_le _), (nI_ltI (by omega) (by omega)).mpr hk, (nI_ltI (b := 16) (by omega) (by omega)).mpr (by omega)⟩
theorem cd_i {σ : Nat → Int32} {C k i : Nat} (h0 : σ 0 = nI C) (hC : C ≤ 16) (hk : k < C) (hi : i < 3) : cdF σ (nI k) (nI i) = σ (56 + (3 * k + i)) := by
  rw [cdF, if_pos (cd_p h0 hC hk), nt_nI (by omega)]
  have e : i = 0 ∨ i = 1 ∨ i = 2 := by omega
  rcases e with rfl | rfl | rfl
  · rw [if_pos (show nI 0 = 0 from rfl)]; exact congrArg σ (by omega)
  · rw [if_neg (show ¬ nI 1 = 0 by decide), if_pos (show nI 1 = 1 from rfl), bxS_0]; exact congrArg σ (by omega)
  · rw [if_neg (show ¬ nI 2 = 0 by decide), if_neg (show ¬ nI 2 = 1 by decide), if_pos (show nI 2 = 2 from rfl), bxS_1]; exact congrArg σ (by omega)
theorem cd_3 {σ : Nat → Int32} {C k : Nat} (h0 : σ 0 = nI C) (hC : C ≤ 16) (hk : k < C) : cdF σ (nI k) 3 = thS σ (σ (56 + 3 * k)) 12 := by
  rw [cdF, if_pos (cd_p h0 hC hk), nt_nI (by omega), if_neg (by decide), if_neg (by decide), if_neg (by decide), if_pos rfl]
theorem cd_n {σ : Nat → Int32} {v w : Int32} (h : v = σ 0) : cdF σ v w = -1 := by
  rw [cdF, if_neg (fun z => absurd z.2.1 (by rw [h]; exact fun u => Int32.lt_irrefl u))]
theorem cl_n {σ ρ : Nat → Int32} {lt : Nat} {v t : Int32} (h : v = σ 7) : clF σ ρ lt v t = -1 := by
  rw [clF, if_neg (fun z => absurd z.2 (by rw [h]; exact fun u => Int32.lt_irrefl u))]
theorem cl_k {σ ρ q w : Nat → Int32} {R lt r k : Nat} (h7 : σ 7 = nI R) (hq : q 7 = nI R) (hC : RC R lt ρ w) (hR : R ≤ 20) (hr : r < R) (hk : k < 12) : clF σ ρ lt (q 7 - 1 - nI r) (nI k) = if (w (2 * r + 1) >>> (nI k &&& 31)) &&& 1 = 1 then 100 + nI k else w (2 * r) := by
  have e : q 7 - 1 - nI r = nI (R - 1 - r) := by
    rw [hq, show nI R - 1 = nI (R - 1) from pk_sub (b := 1) (by omega)]
    exact pk_sub (by omega)
  rw [e, clF, if_pos (by rw [h7]; exact ⟨(le_nI (n := R) (by omega) (by omega)).1, (nI_ltI (by omega) (by omega)).mpr (by omega)⟩), if_pos (show (0 : Int32) ≤ nI k ∧ nI k ≤ 11 from le_nI (n := 11) (by omega) (by omega)), nt_nI (by omega), (hC r hr).1, (hC r hr).2]
theorem lg_k {ρ w : Nat → Int32} {R lt k : Nat} (hC : RC R lt ρ w) (hR : R ≤ 20) (hk : k < 12) : lgF ρ lt R (nI k) = nI (rnX (wbt w k) R) := by
  rw [lgF, if_pos (show (0 : Int32) ≤ nI k ∧ nI k ≤ 11 from le_nI (n := 11) (by omega) (by omega)), lf_law hC hR]
/-! the law's whole block -/
def yaL (g : Ge) (o : Nat) (σ ρ : Nat → Int32) (S P : Nat → Nat → Int32) (φ κ τ π q h t c w b b2 : Nat → Int32) : List va_E := xL g o σ ρ S P φ κ τ π ++ [iA g 12 q, iA g 15 h, iA g 24 t, iA g 48 c, iA g 42 w, iA g 60 b, iA g 60 b2]
theorem RO.of {g : Ge} {N o j nB : Nat} {f : Pic} {L M : List va_E} (hB : BB g N o nB) (hj : j + M.length ≤ nB) (hs : sbl L j M.length = M) : RO g N (ovr f o L) (o + j) M := by
  refine ⟨hB.sub hj, fun i c hi => ?_⟩
  have h1 := (List.getElem?_eq_some_iff.mp hi).1
  have e : L[j + i]? = some c := by
    rw [← hs] at hi
    unfold sbl at hi
    rw [List.getElem?_take, if_pos h1, List.getElem?_drop] at hi
    exact hi
  rw [Nat.add_assoc]
  exact ovr_at e
section L1
variable {p : Program} {l : Launch} {e : Env} {R : Room} {s : State} {m : MethodId} {args : Array Value} {below : List Frame} {meth : Method} {c : Code} {Q : State → Prop}
variable {g : Ge} {cc : ByteArray} {nL : Nat} {own : String} {rt : Option FieldType} {N0 cs ss N : Nat} {f : Pic} {pc : Nat} {lv : List (Option Value)} {st : List Value} {o nB : Nat} {L L3 : List va_E}
theorem v_csT (X : Cx p args s m meth c g cc nL own rt N0) {y : MethodName} {bytes : ByteArray} {maxL idx d mc ms : Nat} {ret : Option FieldType} {As : List Value} {r : Option Value} {st0 st' : List Value} (hz : N = N0 + cs) {n : Nat} (hy : YS y bytes maxL ret n) (hml : Cond.methodLink own idx y ∈ gT) (hC : Ct l g y (.code y bytes maxL ret) d As N (ovr f o L) r (N + mc) (ovr (ovr f o L) (g.2.2 + N) L3) mc ms) (hB : BB g N o nB) (hL : L.length = nB) (hst0 : st0 = As.reverse ++ st) (hlen : As.length = n) (hcat : (st.map fun v => v.category).sum ≤ 8) (hR : d + 1 ≤ R.frames ∧ 8 + (maxL + 11) + 35 * d ≤ R.locals) (hf : cs + mc ≤ R.cells ∧ ss + ms ≤ R.slots) (dd : decode cc pc = .ok (.invokestatic idx, 3)) (hst : r.toList ++ st = st') (kk : V p l e R s m args below meth c Q g nL (cs + mc) (ss + ms) (N + mc) (ovr (ovr f (g.2.2 + N) L3) o L) (pc + 3) lv st') : V p l e R s m args below meth c Q g nL cs ss N (ovr f o L) pc lv st0 := by
  have h2 := hB.2
  have hs := ovr_swap (f := f) (o1 := o) (o2 := g.2.2 + N) (L1 := L) (L2 := L3) (Or.inl (by rw [hL]; exact h2))
  rw [hs] at hC
  exact v_callS X hz hy hml hC hst0 hlen hcat hR hf dd hst kk
end L1
