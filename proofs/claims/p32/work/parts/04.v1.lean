/-! geometry: the whole heap that the claim makes is one interval of cells from n0 on; a picture f says what each of them holds -/
abbrev Ge : Type := va_G × (ClassId × ClassId × ClassId) × Nat
abbrev Pic : Type := Nat → va_E
def tyG (g : Ge) : List (ClassId × FieldType) := [(g.2.1.1, .int), (g.2.1.2.1, .char), (g.2.1.2.2, .object RX4)]
def gA (g : Ge) : Nat → Prop := fun q => g.2.2 ≤ q
def wl (n0 N : Nat) (f : Pic) : va_W := (List.range N).map (fun k => (n0 + k, f (n0 + k)))
def HP (g : Ge) (N : Nat) (f : Pic) (H : Heap) : Prop := va_P g.1 vwCl (wl g.2.2 N f) H
def KK (g : Ge) (U : State) : Prop := va_K g.1 vwCl (tyG g) U ∧ (∀ q ∈ gN, va_Nw (.methodLinkNest q.1 q.2.1 q.2.2.1 q.2.2.2) U) ∧ va_AO RX4 U
theorem KK.warm {g : Ge} {s U : State} (hW : s.WarmedH U.vm) (h : KK g s) : KK g U := ⟨va_K.moved hW.alike h.1, fun q hq => va_Nw.warmM hW (h.2.1 q hq), va_AO.moved hW.alike h.2.2⟩
theorem KK.calling {g : Ge} {U : State} {g' : JFrame} {mk : MethodId} {a : Array Value} (h : KK g U) : KK g (U.calling g' mk a) := ⟨va_K.moved (u := U) (U := U.calling g' mk a) (Vm.Alike.refl U.vm) h.1, fun q hq => va_Nw.same (u := U) (U := U.calling g' mk a) rfl rfl (h.2.1 q hq), va_AO.moved (u := U) (U := U.calling g' mk a) (Vm.Alike.refl U.vm) h.2.2⟩
def upP (f : Pic) (a : Nat) (e : va_E) : Pic := fun b => if b = a then e else f b
theorem wl_len (n0 N : Nat) (f : Pic) : (wl n0 N f).length = N := by simp [wl]
theorem wl_get {n0 N k : Nat} {f : Pic} (h : k < N) : (wl n0 N f)[k]? = some (n0 + k, f (n0 + k)) := by simp [wl, h]
theorem wl_inv {n0 N k : Nat} {f : Pic} {q : Nat × va_E} (h : (wl n0 N f)[k]? = some q) : k < N ∧ q = (n0 + k, f (n0 + k)) := by
  have hk : k < N := by
    have := (List.getElem?_eq_some_iff.mp h).1
    rwa [wl_len] at this
  rw [wl_get hk] at h
  exact ⟨hk, (Option.some.inj h).symm⟩
theorem wl_at {n0 N a : Nat} {f : Pic} (h1 : n0 ≤ a) (h2 : a < n0 + N) : (wl n0 N f)[a - n0]? = some (a, f a) := by
  have e : n0 + (a - n0) = a := by omega
  rw [wl_get (by omega), e]
theorem wl_atE {n0 N a : Nat} {f : Pic} {c : va_E} (h1 : n0 ≤ a) (h2 : a < n0 + N) (h : f a = c) : (wl n0 N f)[a - n0]? = some (a, c) := by
  rw [wl_at h1 h2, h]
theorem wl_set {n0 N a : Nat} {f : Pic} {e : va_E} (h1 : n0 ≤ a) (h2 : a < n0 + N) : (wl n0 N f).set (a - n0) (a, e) = wl n0 N (upP f a e) := by
  apply List.ext_getElem?
  intro k
  by_cases hk : k < N
  · rw [wl_get hk]
    by_cases e1 : a - n0 = k
    · subst e1
      rw [List.getElem?_set_self (by rw [wl_len]; exact hk)]
      have e : n0 + (a - n0) = a := by omega
      simp [upP, e]
    · rw [List.getElem?_set_ne e1, wl_get hk]
      have : n0 + k ≠ a := by omega
      simp [upP, this]
  · rw [List.getElem?_eq_none (by rw [List.length_set, wl_len]; omega), List.getElem?_eq_none (by rw [wl_len]; omega)]
theorem wl_push (n0 N : Nat) (f : Pic) (e : va_E) : wl n0 N f ++ [(n0 + N, e)] = wl n0 (N + 1) (upP f (n0 + N) e) := by
  apply List.ext_getElem?
  intro k
  by_cases hk : k < N
  · rw [List.getElem?_append_left (by rw [wl_len]; exact hk), wl_get hk, wl_get (by omega)]
    have : n0 + k ≠ n0 + N := by omega
    simp only [upP, this, if_false]
  · rw [List.getElem?_append_right (by rw [wl_len]; omega), wl_len]
    by_cases e1 : k = N
    · subst e1
      rw [wl_get (by omega)]
      simp [upP]
    · rw [List.getElem?_eq_none (by simp; omega), List.getElem?_eq_none (by rw [wl_len]; omega)]
theorem wl_D (g : Ge) (N : Nat) (f : Pic) : va_D (gA g) (wl g.2.2 N f) := by
  refine ⟨fun i j p q hi hj hpq => ?_, fun k q hk => ?_⟩
  · obtain ⟨-, rfl⟩ := wl_inv hi
    obtain ⟨-, rfl⟩ := wl_inv hj
    have : g.2.2 + i = g.2.2 + j := hpq
    omega
  · obtain ⟨-, rfl⟩ := wl_inv hk
    exact Nat.le_add_right _ _
/-! a block: the cells L from o on -/
def ovr (f : Pic) (o : Nat) (L : List va_E) : Pic := fun a => if o ≤ a then (match L[a - o]? with | some e => e | none => f a) else f a
def spl (L : List va_E) (j : Nat) (M : List va_E) : List va_E := L.take j ++ (M ++ L.drop (j + M.length))
def sbl (L : List va_E) (j n : Nat) : List va_E := (L.drop j).take n
theorem ovr_at {f : Pic} {o j : Nat} {L : List va_E} {c : va_E} (h : L[j]? = some c) : ovr f o L (o + j) = c := by simp [ovr, h]
theorem ovr_lo {f : Pic} {o a : Nat} {L : List va_E} (h : a < o) : ovr f o L a = f a := by
  have : ¬ o ≤ a := by omega
  simp [ovr, this]
theorem ovr_hi {f : Pic} {o a : Nat} {L : List va_E} (h : o + L.length ≤ a) : ovr f o L a = f a := by
  have h1 : o ≤ a := by omega
  have h2 : L[a - o]? = none := List.getElem?_eq_none (by omega)
  simp [ovr, h1, h2]
theorem ovr_out {f : Pic} {o a : Nat} {L : List va_E} (h : a < o ∨ o + L.length ≤ a) : ovr f o L a = f a := by
  rcases h with h | h
  · exact ovr_lo h
  · exact ovr_hi h
theorem ovr_nil (f : Pic) (o : Nat) : ovr f o [] = f := by
  funext a
  exact ovr_out (by simp; omega)
theorem ovr_up {f : Pic} {o j : Nat} {L : List va_E} {e : va_E} (h : j < L.length) : upP (ovr f o L) (o + j) e = ovr f o (L.set j e) := by
  funext a
  by_cases h1 : a < o
  · have : a ≠ o + j := by omega
    simp only [upP, this, if_false, ovr_lo h1]
  · obtain ⟨i, rfl⟩ : ∃ i, a = o + i := ⟨a - o, by omega⟩
    by_cases hij : i = j
    · subst hij
      have e1 : ovr f o (L.set i e) (o + i) = e := ovr_at (List.getElem?_set_self h)
      rw [e1]; simp [upP]
    · have h2 : o + i ≠ o + j := by omega
      simp only [upP, h2, if_false]
      simp only [ovr, Nat.le_add_right, if_true, Nat.add_sub_cancel_left]
      rw [List.getElem?_set_ne (Ne.symm hij)]
theorem spl_len {L M : List va_E} {j : Nat} (h : j + M.length ≤ L.length) : (spl L j M).length = L.length := by
  simp [spl]; omega
theorem spl_get {L M : List va_E} {j i : Nat} (h : j + M.length ≤ L.length) : (spl L j M)[i]? = if j ≤ i ∧ i < j + M.length then M[i - j]? else L[i]? := by
  unfold spl
  have hl : (L.take j).length = j := by rw [List.length_take]; omega
  by_cases h1 : i < j
  · rw [List.getElem?_append_left (by omega), List.getElem?_take, if_pos h1, if_neg (by omega)]
  · rw [List.getElem?_append_right (by omega), hl]
    by_cases h2 : i < j + M.length
    · rw [List.getElem?_append_left (by omega), if_pos ⟨by omega, h2⟩]
    · rw [List.getElem?_append_right (by omega), List.getElem?_drop, if_neg (by omega)]
      congr 1; omega
theorem ovr_spl {f : Pic} {o j : Nat} {L M : List va_E} (h : j + M.length ≤ L.length) : ovr (ovr f o L) (o + j) M = ovr f o (spl L j M) := by
  funext a
  by_cases h1 : a < o
  · rw [ovr_lo (by omega), ovr_lo h1, ovr_lo h1]
  · obtain ⟨i, rfl⟩ : ∃ i, a = o + i := ⟨a - o, by omega⟩
    by_cases h2 : j ≤ i ∧ i < j + M.length
    · obtain ⟨c, hc⟩ : ∃ c, M[i - j]? = some c := ⟨_, List.getElem?_eq_getElem (by omega)⟩
      rw [ovr_at (o := o) (j := i) (c := c) (by rw [spl_get h, if_pos h2]; exact hc)]
      have e : o + i = (o + j) + (i - j) := by omega
      rw [e, ovr_at hc]
    · rw [ovr_out (o := o + j) (by omega)]
      simp only [ovr, Nat.le_add_right, if_true, Nat.add_sub_cancel_left]
      rw [spl_get h, if_neg h2]
theorem ovr_foc {f : Pic} {o j : Nat} {L M : List va_E} (h : j + M.length ≤ L.length) (hs : sbl L j M.length = M) : ovr (ovr f o L) (o + j) M = ovr f o L := by
  rw [ovr_spl h]
  congr 1
  apply List.ext_getElem?
  intro i
  rw [spl_get h]
  by_cases h2 : j ≤ i ∧ i < j + M.length
  · rw [if_pos h2]
    conv => lhs; rw [← hs]
    unfold sbl
    rw [List.getElem?_take, if_pos (by omega), List.getElem?_drop]
    congr 1; omega
  · rw [if_neg h2]
theorem ovr_swap {f : Pic} {o1 o2 : Nat} {L1 L2 : List va_E} (h : o1 + L1.length ≤ o2 ∨ o2 + L2.length ≤ o1) : ovr (ovr f o1 L1) o2 L2 = ovr (ovr f o2 L2) o1 L1 := by
  funext a
  by_cases h1 : o1 ≤ a ∧ a < o1 + L1.length
  · rw [ovr_out (o := o2) (by omega)]
    obtain ⟨i, rfl⟩ : ∃ i, a = o1 + i := ⟨a - o1, by omega⟩
    obtain ⟨c, hc⟩ : ∃ c, L1[i]? = some c := ⟨_, List.getElem?_eq_getElem (by omega)⟩
    rw [ovr_at hc, ovr_at hc]
  · rw [ovr_out (o := o1) (a := a) (by omega)]
    by_cases h2 : o2 ≤ a ∧ a < o2 + L2.length
    · obtain ⟨i, rfl⟩ : ∃ i, a = o2 + i := ⟨a - o2, by omega⟩
      obtain ⟨c, hc⟩ : ∃ c, L2[i]? = some c := ⟨_, List.getElem?_eq_getElem (by omega)⟩
      rw [ovr_at hc, ovr_at hc]
    · rw [ovr_out (o := o2) (by omega), ovr_out (o := o1) (by omega), ovr_out (o := o2) (by omega)]
theorem ovr_ovr {f : Pic} {o : Nat} {L M : List va_E} (h : L.length = M.length) : ovr (ovr f o L) o M = ovr f o M := by
  funext a
  by_cases h1 : o ≤ a ∧ a < o + M.length
  · obtain ⟨i, rfl⟩ : ∃ i, a = o + i := ⟨a - o, by omega⟩
    obtain ⟨c, hc⟩ : ∃ c, M[i]? = some c := ⟨_, List.getElem?_eq_getElem (by omega)⟩
    rw [ovr_at hc, ovr_at hc]
  · rw [ovr_out (by omega), ovr_out (by omega), ovr_out (by omega)]
/-- a block lies in the heap -/
def BB (g : Ge) (N o n : Nat) : Prop := g.2.2 ≤ o ∧ o + n ≤ g.2.2 + N
theorem BB.lo {g : Ge} {N o n j : Nat} (h : BB g N o n) : g.2.2 ≤ o + j := Nat.le_trans h.1 (Nat.le_add_right _ _)
theorem BB.hi {g : Ge} {N o n j : Nat} (h : BB g N o n) (hj : j < n) : o + j < g.2.2 + N := by have := h.2; omega
theorem BB.sub {g : Ge} {N o n j k : Nat} (h : BB g N o n) (hj : j + k ≤ n) : BB g N (o + j) k := ⟨h.lo, by have := h.2; omega⟩
/-! locals: none where nothing is known -/
def lvp : Nat → List (Option Value) → List (Nat × Value)
  | _, [] => []
  | i, some v :: t => (i, v) :: lvp (i + 1) t
  | i, none :: t => lvp (i + 1) t
theorem lvp_mem : ∀ (l : List (Option Value)) (i : Nat) (q : Nat × Value), q ∈ lvp i l ↔ ∃ k, l[k]? = some (some q.2) ∧ q.1 = i + k
  | [], i, q => by simp [lvp]
  | some v :: t, i, q => by
    rw [show lvp i (some v :: t) = (i, v) :: lvp (i + 1) t from rfl, List.mem_cons, lvp_mem t (i + 1) q]
    constructor
    · rintro (h | ⟨k, h1, h2⟩)
      · exact ⟨0, by rw [h]; rfl, by rw [h]; rfl⟩
      · exact ⟨k + 1, by simpa using h1, by omega⟩
    · rintro ⟨k, h1, h2⟩
      cases k with
      | zero =>
        left
        have : v = q.2 := by simpa using h1
        rw [this]
        exact Prod.ext (by simpa using h2) rfl
      | succ k => exact Or.inr ⟨k, by simpa using h1, by omega⟩
  | none :: t, i, q => by
    rw [show lvp i (none :: t) = lvp (i + 1) t from rfl, lvp_mem t (i + 1) q]
    constructor
    · rintro ⟨k, h1, h2⟩
      exact ⟨k + 1, by simpa using h1, by omega⟩
    · rintro ⟨k, h1, h2⟩
      cases k with
      | zero => simp at h1
      | succ k => exact ⟨k, by simpa using h1, by omega⟩
theorem lvp_at {ls : Array Slot} {nL : Nat} {lv : List (Option Value)} (h : lv_has ls nL (lvp 0 lv)) {i : Nat} {v : Value} (hi : lv[i]? = some (some v)) : ls[i]? = some (.val v) :=
  h.2.2 (i, v) ((lvp_mem lv 0 (i, v)).mpr ⟨i, hi, by simp⟩)
/-- no long below place i -/
def lvok (lv : List (Option Value)) : Nat → Bool
  | 0 => true
  | i + 1 => match lv[i]? with
    | some (some v) => v.category != 2
    | _ => true
theorem lv_weak {ls : Array Slot} {nL : Nat} {l l' : List (Nat × Value)} (h : lv_has ls nL l) (hs : ∀ q ∈ l', q ∈ l) : lv_has ls nL l' := ⟨h.1, h.2.1, fun q hq => h.2.2 q (hs q hq)⟩
theorem lvp_set1 {ls : Array Slot} {nL : Nat} {lv : List (Option Value)} {i : Nat} {v : Value} (hok : lvok lv i = true) (h : lv_has ls nL ((i, v) :: (lvp 0 lv).filter (fun q => !(q.1 == i) && !(q.1 + 1 == i && q.2.category == 2)))) : lv_has ls nL (lvp 0 (lv.set i (some v))) := by
  refine lv_weak h fun q hq => ?_
  obtain ⟨k, h1, h2⟩ := (lvp_mem _ _ _).mp hq
  have hk : q.1 = k := by omega
  by_cases e : i = k
  · subst e
    have hl : i < lv.length := by
      have := (List.getElem?_eq_some_iff.mp h1).1
      simpa using this
    rw [List.getElem?_set_self hl] at h1
    have : v = q.2 := by simpa using h1
    rw [List.mem_cons]
    left
    exact Prod.ext hk this.symm
  · rw [List.getElem?_set_ne e] at h1
    rw [List.mem_cons]
    right
    refine List.mem_filter.mpr ⟨(lvp_mem _ _ _).mpr ⟨k, h1, h2⟩, ?_⟩
    have e1 : (q.1 == i) = false := by rw [hk]; simp; omega
    have e2 : (q.1 + 1 == i && q.2.category == 2) = false := by
      cases i with
      | zero => simp
      | succ i =>
        by_cases hi : k = i
        · subst hi
          simp only [lvok, h1] at hok
          simp only [bne_iff_ne, ne_eq] at hok
          simp [hok]
        · have : ¬ (q.1 + 1 = i + 1) := by omega
          simp; omega
    rw [e1, e2]; rfl
theorem lvp_set2 {ls : Array Slot} {nL : Nat} {lv : List (Option Value)} {i : Nat} {v : Value} (hok : lvok lv i = true) (h : lv_has ls nL ((i, v) :: (lvp 0 lv).filter (fun q => !(q.1 == i) && (!(q.1 == i + 1) && !(q.1 + 1 == i && q.2.category == 2))))) : lv_has ls nL (lvp 0 ((lv.set i (some v)).set (i + 1) none)) := by
  refine lv_weak h fun q hq => ?_
  obtain ⟨k, h1, h2⟩ := (lvp_mem _ _ _).mp hq
  have hk : q.1 = k := by omega
  by_cases e0 : i + 1 = k
  · subst e0
    by_cases hl : i + 1 < (lv.set i (some v)).length
    · rw [List.getElem?_set_self hl] at h1
      simp at h1
    · rw [List.getElem?_eq_none (by rw [List.length_set]; omega)] at h1
      simp at h1
  rw [List.getElem?_set_ne e0] at h1
  by_cases e : i = k
  · subst e
    have hl : i < lv.length := by
      have := (List.getElem?_eq_some_iff.mp h1).1
      simpa using this
    rw [List.getElem?_set_self hl] at h1
    have : v = q.2 := by simpa using h1
    rw [List.mem_cons]
    left
    exact Prod.ext hk this.symm
  · rw [List.getElem?_set_ne e] at h1
    rw [List.mem_cons]
    right
    refine List.mem_filter.mpr ⟨(lvp_mem _ _ _).mpr ⟨k, h1, h2⟩, ?_⟩
    have e1 : (q.1 == i) = false := by rw [hk]; simp; omega
    have e3 : (q.1 == i + 1) = false := by rw [hk]; simp; omega
    have e2 : (q.1 + 1 == i && q.2.category == 2) = false := by
      cases i with
      | zero => simp
      | succ i =>
        by_cases hi : k = i
        · subst hi
          simp only [lvok, h1] at hok
          simp only [bne_iff_ne, ne_eq] at hok
          simp [hok]
        · have : ¬ (q.1 + 1 = i + 1) := by omega
          simp; omega
    rw [e1, e2, e3]; rfl
