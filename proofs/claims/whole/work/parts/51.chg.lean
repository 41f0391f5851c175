/-! the changes, on both sides -/
theorem ch1 {p : Prop} [Decidable p] {c x : Int32} (h : (if ¬ p then c else x) = 0) (hc : ¬ c = 0) : p ∧ x = 0 := by
  by_cases q : p
  · rw [if_neg (not_not_intro q)] at h; exact ⟨q, h⟩
  · rw [if_pos q] at h; exact absurd h hc
theorem ch2 {p : Prop} [Decidable p] {c x : Int32} (h : (if p then c else x) = 0) (hc : ¬ c = 0) : ¬ p ∧ x = 0 := by
  by_cases q : p
  · rw [if_pos q] at h; exact absurd h hc
  · rw [if_neg q] at h; exact ⟨q, h⟩
theorem eA_g {C : Nat} {a b : Nat → Int32} (h : ∀ i, i < 56 + 3 * C → a i = b i) : EqG C a b := fun i h1 _ => h i h1
theorem up_A {C k : Nat} {a b : Nat → Int32} {x y : Int32} (h : ∀ i, i < 56 + 3 * C → a i = b i) (e : x = y) : ∀ i, i < 56 + 3 * C → upd a k x i = upd b k y i := by
  intro i hi
  by_cases z : i = k
  · subst z; rw [pk_us, pk_us, e]
  · rw [pk_un z, pk_un z]; exact h i hi
theorem GC_up {C P k : Nat} {a : Nat → Int32} {x : Int32} (g : GC C P a) (h0 : 0 ≠ k) (h1 : 1 ≠ k) : GC C P (upd a k x) := ⟨(pk_un h0).trans g.1, (pk_un h1).trans g.2.1, g.2.2⟩
theorem UN_p {a b : Nat → Int32} (h : ∀ j, j < 5 → a (14 + 4 * j) = b (14 + 4 * j) ∧ a (15 + 4 * j) = b (15 + 4 * j)) (hU : UN a) : UN b := by
  intro i j hi hj h1 h2 h3
  rw [← (h i hi).1] at h1 h3
  rw [← (h j hj).1] at h1
  rw [← (h i hi).2, ← (h j hj).2] at h2
  exact hU i j hi hj h1 h2 h3
theorem YB_p {a b : Nat → Int32} (h : ∀ j, j < 5 → a (13 + 4 * j) = b (13 + 4 * j)) (hY : YB a) : YB b := fun j hj => by rw [← h j hj]; exact hY j hj
theorem op_putIn {σ ρ μ : Nat → Int32} {v a b : Int32} (hR : Rl σ ρ μ) : piE σ v a b = piE μ v a b ∧ (piE σ v a b = 0 → nbx (upd (upd (c8 σ) (14 + 4 * nt v) a) (15 + 4 * nt v) b) 5 = nbx (upd (upd (c8 μ) (14 + 4 * nt v) a) (15 + 4 * nt v) b) 5 ∧ Rl (upd (upd (c8 σ) (14 + 4 * nt v) a) (15 + 4 * nt v) b) ρ (upd (upd (c8 μ) (14 + 4 * nt v) a) (15 + 4 * nt v) b)) := by
  obtain ⟨C, P, R, lt, B, g, hA, h7, hl, hW, hB, hC, hU, hY⟩ := id hR
  by_cases hv : (0 : Int32) ≤ v ∧ v ≤ (4 : Int32)
  · obtain ⟨k, hk, rfl⟩ := nI_cases (n := 4) (by omega) hv.1 hv.2
    have hkk : nt (nI k) = k := nt_nI (by omega)
    have hE : piE σ (nI k) a b = piE μ (nI k) a b := by
      rw [piE, piE, hkk, hA (14 + 4 * k) (by omega), fnd_g (eA_g hA)]
    refine ⟨hE, fun z => ?_⟩
    rw [hE, piE, hkk] at z
    rw [hkk]
    obtain ⟨-, z⟩ := ch1 z (by decide)
    obtain ⟨c2, z⟩ := ch1 z (by decide)
    obtain ⟨c3, z⟩ := ch1 z (by decide)
    obtain ⟨c4, z⟩ := ch1 z (by decide)
    have hA' := up_A (k := 15 + 4 * k) (x := b) (up_A (k := 14 + 4 * k) (x := a) (up_A (k := 8) (x := 0) hA rfl) rfl) rfl
    refine ⟨nbx_g (eA_g hA') 5 (Nat.le_refl _), Rl_ch hR (GC_up (GC_up (GC_up g (by omega) (by omega)) (by omega) (by omega)) (by omega) (by omega)) hA' ?_ ?_ (fun i hi => ?_) ?_ ?_⟩
    · rw [pk_un (by omega), pk_un (by omega), c8, pk_un (by omega)]
    · rw [pk_un (by omega), pk_un (by omega), c8, pk_us]
    · rw [pk_un (by omega), pk_un (by omega), c8, pk_un (by omega)]
    · have hs : ∀ j, j < 5 → upd (upd (c8 μ) (14 + 4 * k) a) (15 + 4 * k) b (14 + 4 * j) = (if j = k then a else μ (14 + 4 * j)) ∧ upd (upd (c8 μ) (14 + 4 * k) a) (15 + 4 * k) b (15 + 4 * j) = (if j = k then b else μ (15 + 4 * j)) := by
        intro j hj
        by_cases e : j = k
        · subst e; rw [if_pos rfl, if_pos rfl, pk_un (by omega), pk_us, pk_us]; exact ⟨rfl, rfl⟩
        · rw [if_neg e, if_neg e, pk_un (by omega), pk_un (by omega), pk_un (by omega), pk_un (by omega), c8, pk_un (by omega), pk_un (by omega)]; exact ⟨rfl, rfl⟩
      intro i j hi hj h1 h2 h3
      rw [(hs i hi).1] at h1 h3
      rw [(hs j hj).1] at h1
      rw [(hs i hi).2, (hs j hj).2] at h2
      by_cases ei : i = k
      · by_cases ej : j = k
        · rw [ei, ej]
        · rw [if_pos ei, if_neg ej] at h1 h2
          exact absurd ⟨h1.symm, h2.symm⟩ (fnd_none c4 j hj)
      · by_cases ej : j = k
        · rw [if_neg ei, if_pos ej] at h1 h2
          exact absurd ⟨h1, h2⟩ (fnd_none c4 i hi)
        · rw [if_neg ei] at h1 h2 h3
          rw [if_neg ej] at h1 h2
          exact hU i j hi hj h1 h2 h3
    · refine YB_p (fun j hj => ?_) hY
      rw [pk_un (by omega), pk_un (by omega), c8, pk_un (by omega)]
  · have e : ∀ θ : Nat → Int32, piE θ v a b = -1 := fun θ => by rw [piE, if_pos hv]
    exact ⟨(e σ).trans (e μ).symm, fun z => absurd ((e σ).symm.trans z) (by decide)⟩
theorem op_takeOut {σ ρ μ : Nat → Int32} {v : Int32} (hR : Rl σ ρ μ) : toE σ v = toE μ v ∧ (toE σ v = 0 → (10 : Int32) * c8 σ (14 + 4 * nt v) + c8 σ (15 + 4 * nt v) = (10 : Int32) * c8 μ (14 + 4 * nt v) + c8 μ (15 + 4 * nt v) ∧ Rl (upd (upd (c8 σ) (14 + 4 * nt v) (-6)) (15 + 4 * nt v) (-6)) ρ (upd (upd (c8 μ) (14 + 4 * nt v) (-6)) (15 + 4 * nt v) (-6))) := by
  obtain ⟨C, P, R, lt, B, g, hA, h7, hl, hW, hB, hC, hU, hY⟩ := id hR
  by_cases hv : (0 : Int32) ≤ v ∧ v ≤ (4 : Int32)
  · obtain ⟨k, hk, rfl⟩ := nI_cases (n := 4) (by omega) hv.1 hv.2
    have hkk : nt (nI k) = k := nt_nI (by omega)
    have hE : toE σ (nI k) = toE μ (nI k) := by rw [toE, toE, hkk, hA (14 + 4 * k) (by omega)]
    refine ⟨hE, fun _ => ?_⟩
    rw [hkk]
    have hA' := up_A (k := 15 + 4 * k) (x := -6) (up_A (k := 14 + 4 * k) (x := -6) (up_A (k := 8) (x := 0) hA rfl) rfl) rfl
    refine ⟨by rw [c8_o (by omega), c8_o (by omega), c8_o (by omega), c8_o (by omega), hA (14 + 4 * k) (by omega), hA (15 + 4 * k) (by omega)], Rl_ch hR (GC_up (GC_up (GC_up g (by omega) (by omega)) (by omega) (by omega)) (by omega) (by omega)) hA' ?_ ?_ (fun i hi => ?_) ?_ ?_⟩
    · rw [pk_un (by omega), pk_un (by omega), c8, pk_un (by omega)]
    · rw [pk_un (by omega), pk_un (by omega), c8, pk_us]
    · rw [pk_un (by omega), pk_un (by omega), c8, pk_un (by omega)]
    · have hs : ∀ j, j < 5 → upd (upd (c8 μ) (14 + 4 * k) (-6)) (15 + 4 * k) (-6) (14 + 4 * j) = (if j = k then -6 else μ (14 + 4 * j)) ∧ upd (upd (c8 μ) (14 + 4 * k) (-6)) (15 + 4 * k) (-6) (15 + 4 * j) = (if j = k then -6 else μ (15 + 4 * j)) := by
        intro j hj
        by_cases e : j = k
        · subst e; rw [if_pos rfl, if_pos rfl, pk_un (by omega), pk_us, pk_us]; exact ⟨rfl, rfl⟩
        · rw [if_neg e, if_neg e, pk_un (by omega), pk_un (by omega), pk_un (by omega), pk_un (by omega), c8, pk_un (by omega), pk_un (by omega)]; exact ⟨rfl, rfl⟩
      intro i j hi hj h1 h2 h3
      rw [(hs i hi).1] at h1 h3
      rw [(hs j hj).1] at h1
      rw [(hs i hi).2, (hs j hj).2] at h2
      by_cases ei : i = k
      · rw [if_pos ei] at h3; exact absurd rfl h3
      · rw [if_neg ei] at h1 h2 h3
        by_cases ej : j = k
        · rw [if_pos ej] at h1; exact absurd h1 h3
        · rw [if_neg ej] at h1 h2
          exact hU i j hi hj h1 h2 h3
    · refine YB_p (fun j hj => ?_) hY
      rw [pk_un (by omega), pk_un (by omega), c8, pk_un (by omega)]
  · have e : ∀ θ : Nat → Int32, toE θ v = -1 := fun θ => by rw [toE, if_pos hv]
    exact ⟨(e σ).trans (e μ).symm, fun z => absurd ((e σ).symm.trans z) (by decide)⟩
theorem op_wind {σ ρ μ : Nat → Int32} {v a b : Int32} (hR : Rl σ ρ μ) : wiE σ v a b = wiE μ v a b ∧ (wiE σ v a b = 0 → c8 σ (13 + 4 * nt v) = c8 μ (13 + 4 * nt v) ∧ Rl (upd (upd (c8 σ) (12 + 4 * nt v) a) (13 + 4 * nt v) b) ρ (upd (upd (c8 μ) (12 + 4 * nt v) a) (13 + 4 * nt v) b)) := by
  obtain ⟨C, P, R, lt, B, g, hA, h7, hl, hW, hB, hC, hU, hY⟩ := id hR
  by_cases hv : (0 : Int32) ≤ v ∧ v ≤ (4 : Int32)
  · obtain ⟨k, hk, rfl⟩ := nI_cases (n := 4) (by omega) hv.1 hv.2
    have hkk : nt (nI k) = k := nt_nI (by omega)
    have hE : wiE σ (nI k) a b = wiE μ (nI k) a b := by rw [wiE, wiE, hkk, hA (14 + 4 * k) (by omega)]
    refine ⟨hE, fun z => ?_⟩
    rw [wiE] at z
    obtain ⟨-, z⟩ := ch1 z (by decide)
    obtain ⟨-, z⟩ := ch1 z (by decide)
    obtain ⟨c3, z⟩ := ch1 z (by decide)
    rw [hkk]
    have hA' := up_A (k := 13 + 4 * k) (x := b) (up_A (k := 12 + 4 * k) (x := a) (up_A (k := 8) (x := 0) hA rfl) rfl) rfl
    refine ⟨by rw [c8_o (by omega), c8_o (by omega), hA (13 + 4 * k) (by omega)], Rl_ch hR (GC_up (GC_up (GC_up g (by omega) (by omega)) (by omega) (by omega)) (by omega) (by omega)) hA' ?_ ?_ (fun i hi => ?_) ?_ ?_⟩
    · rw [pk_un (by omega), pk_un (by omega), c8, pk_un (by omega)]
    · rw [pk_un (by omega), pk_un (by omega), c8, pk_us]
    · rw [pk_un (by omega), pk_un (by omega), c8, pk_un (by omega)]
    · refine UN_p (fun j hj => ?_) hU
      rw [pk_un (by omega), pk_un (by omega), pk_un (by omega), pk_un (by omega), c8, pk_un (by omega), pk_un (by omega)]
      exact ⟨rfl, rfl⟩
    · intro j hj
      by_cases e : j = k
      · subst e; rw [pk_us]; exact c3
      · rw [pk_un (by omega), pk_un (by omega), c8, pk_un (by omega)]; exact hY j hj
  · have e : ∀ θ : Nat → Int32, wiE θ v a b = -1 := fun θ => by rw [wiE, if_pos hv]
    exact ⟨(e σ).trans (e μ).symm, fun z => absurd ((e σ).symm.trans z) (by decide)⟩
/-- one cell of the gear is set, no shuttle's -/
theorem op_set {σ ρ μ : Nat → Int32} {a : Int32} (k : Nat) (hR : Rl σ ρ μ) (hk : (2 ≤ k ∧ k < 6) ∨ (32 ≤ k ∧ k < 56)) : c8 σ k = c8 μ k ∧ Rl (upd (c8 σ) k a) ρ (upd (c8 μ) k a) := by
  obtain ⟨C, P, R, lt, B, g, hA, h7, hl, hW, hB, hC, hU, hY⟩ := id hR
  have hA' := up_A (k := k) (x := a) (up_A (k := 8) (x := 0) hA rfl) rfl
  refine ⟨by rw [c8_o (by omega), c8_o (by omega), hA k (by omega)], Rl_ch hR (GC_up (GC_up g (by omega) (by omega)) (by omega) (by omega)) hA' ?_ ?_ (fun i hi => ?_) ?_ ?_⟩
  · rw [pk_un (by omega), c8, pk_un (by omega)]
  · rw [pk_un (by omega), c8, pk_us]
  · rw [pk_un (by omega), c8, pk_un (by omega)]
  · refine UN_p (fun j hj => ?_) hU
    rw [pk_un (by omega), pk_un (by omega), c8, pk_un (by omega), pk_un (by omega)]
    exact ⟨rfl, rfl⟩
  · refine YB_p (fun j hj => ?_) hY
    rw [pk_un (by omega), c8, pk_un (by omega)]
theorem op_moveBoxes {σ ρ μ : Nat → Int32} {a b : Int32} (hR : Rl σ ρ μ) (z : mbE a b = 0) : c8 σ (3 + 1 * nt a) = c8 μ (3 + 1 * nt a) ∧ Rl (upd (c8 σ) (3 + 1 * nt a) b) ρ (upd (c8 μ) (3 + 1 * nt a) b) := by
  rw [mbE] at z
  obtain ⟨c, -⟩ := ch1 z (by decide)
  have hk : nt a < 2 := by
    rcases c with q | q
    · rw [q.1]; decide
    · rw [q.1]; decide
  exact op_set (3 + 1 * nt a) hR (by omega)
theorem op_draw {σ ρ μ : Nat → Int32} {v a : Int32} (hR : Rl σ ρ μ) (z : drE v a = 0) : c8 σ (32 + 2 * nt v) = c8 μ (32 + 2 * nt v) ∧ Rl (upd (c8 σ) (32 + 2 * nt v) a) ρ (upd (c8 μ) (32 + 2 * nt v) a) := by
  rw [drE] at z
  obtain ⟨c, -⟩ := ch1 z (by decide)
  obtain ⟨k, hk, rfl⟩ := nI_cases (n := 11) (by omega) c.1 c.2
  have hkk : nt (nI k) = k := nt_nI (by omega)
  exact op_set (32 + 2 * nt (nI k)) hR (by omega)
theorem op_mend {σ ρ μ : Nat → Int32} {v a : Int32} (hR : Rl σ ρ μ) (z : meE v a = 0) : c8 σ (33 + 2 * nt v) = c8 μ (33 + 2 * nt v) ∧ Rl (upd (c8 σ) (33 + 2 * nt v) a) ρ (upd (c8 μ) (33 + 2 * nt v) a) := by
  rw [meE] at z
  obtain ⟨c, -⟩ := ch1 z (by decide)
  obtain ⟨k, hk, rfl⟩ := nI_cases (n := 11) (by omega) c.1 c.2
  have hkk : nt (nI k) = k := nt_nI (by omega)
  exact op_set (33 + 2 * nt (nI k)) hR (by omega)
theorem op_setSpeed {σ ρ μ : Nat → Int32} {v : Int32} (hR : Rl σ ρ μ) : c8 σ 2 = c8 μ 2 ∧ Rl (upd (c8 σ) 2 v) ρ (upd (c8 μ) 2 v) := op_set 2 hR (by omega)
theorem up_B {a b : Nat → Int32} {k i : Nat} {x : Int32} (h : i ≠ k → a i = b i) : upd a k x i = upd b k x i := by
  by_cases e : i = k
  · subst e; rw [pk_us, pk_us]
  · rw [pk_un e, pk_un e]; exact h e
theorem apS_A {C : Nat} {a b : Nat → Int32} {x y z : Int32} (h : ∀ i, i < 56 + 3 * C → a i = b i) : ∀ i, i < 56 + 3 * (C + 1) → apS a C x y z i = apS b C x y z i := by
  intro i hi
  unfold apS
  exact up_B (fun e0 => up_B (fun e1 => up_B (fun e2 => up_B (fun e3 => h i (by omega)))))
theorem apS_o {C i : Nat} {a : Nat → Int32} {x y z : Int32} (h0 : i ≠ 0) (h : i < 56 + 3 * C ∨ 59 + 3 * C ≤ i) : apS a C x y z i = a i := by
  unfold apS
  rw [pk_un h0, pk_un (by omega), pk_un (by omega), pk_un (by omega)]
theorem apS_GC {C P : Nat} {a : Nat → Int32} {x y z : Int32} (g : GC C P a) (h : C < 16) : GC (C + 1) P (apS a C x y z) := by
  refine ⟨by rw [apS, pk_us], by rw [apS_o (by omega) (by omega)]; exact g.2.1, Or.inl ?_, by omega⟩
  have := g.2.2.1
  omega
theorem op_addCard {σ ρ μ : Nat → Int32} {C : Nat} {v a b : Int32} (hR : Rl σ ρ μ) (hC : σ 0 = nI C) (hC16 : C ≤ 16) (z : acE C v a b = 0) : apS (c8 σ) C v a b 0 - 1 = apS (c8 μ) C v a b 0 - 1 ∧ Rl (apS (c8 σ) C v a b) ρ (apS (c8 μ) C v a b) := by
  obtain ⟨C', P, R, lt, B, g, hA, h7, hl, hW, hB, hCh, hU, hY⟩ := id hR
  have hg16 := g.2.2.2
  have e : C' = C := by
    have := g.1.symm.trans hC
    exact (nI_eq (by omega) (by omega)).mp this
  subst e
  rw [acE] at z
  obtain ⟨-, z⟩ := ch1 z (by decide)
  obtain ⟨-, z⟩ := ch1 z (by decide)
  obtain ⟨-, z⟩ := ch1 z (by decide)
  obtain ⟨c4, -⟩ := ch2 z (by decide)
  refine ⟨by rw [apS, apS, pk_us, pk_us], Rl_ch hR (apS_GC (GC_up g (by omega) (by omega)) (by omega)) (apS_A (up_A (k := 8) (x := 0) hA rfl)) ?_ ?_ (fun i hi => ?_) ?_ ?_⟩
  · rw [apS_o (by omega) (by omega), c8, pk_un (by omega)]
  · rw [apS_o (by omega) (by omega), c8, pk_us]
  · rw [apS_o (by omega) (by omega), c8, pk_un (by omega)]
  · refine UN_p (fun j hj => ?_) hU
    rw [apS_o (by omega) (by omega), apS_o (by omega) (by omega), c8, pk_un (by omega), pk_un (by omega)]
    exact ⟨rfl, rfl⟩
  · refine YB_p (fun j hj => ?_) hY
    rw [apS_o (by omega) (by omega), c8, pk_un (by omega)]
theorem rcE_m {σ μ : Nat → Int32} {v : Int32} (h : σ 0 = μ 0) : rcE σ v = rcE μ v := by rw [rcE, rcE, h]
theorem op_turnTo {σ ρ μ : Nat → Int32} {v : Int32} (hR : Rl σ ρ μ) (z : rcE σ v = 0) : c8 σ 1 = c8 μ 1 ∧ Rl (upd (c8 σ) 1 v) ρ (upd (c8 μ) 1 v) := by
  obtain ⟨C, P, R, lt, B, g, hA, h7, hl, hW, hB, hCh, hU, hY⟩ := id hR
  rw [rcE] at z
  obtain ⟨c, -⟩ := ch1 z (by decide)
  obtain ⟨k, hk, rfl⟩ := of_has g.1 g.2.2.2 c
  refine ⟨by rw [c8_o (by omega), c8_o (by omega), hA 1 (by omega)], Rl_ch (C' := C) (P' := k) hR ⟨by rw [pk_un (by omega), c8_o (by omega)]; exact g.1, pk_us, Or.inl hk, g.2.2.2⟩ (up_A (up_A (k := 8) (x := 0) hA rfl) rfl) ?_ ?_ (fun i hi => ?_) ?_ ?_⟩
  · rw [pk_un (by omega), c8, pk_un (by omega)]
  · rw [pk_un (by omega), c8, pk_us]
  · rw [pk_un (by omega), c8, pk_un (by omega)]
  · refine UN_p (fun j hj => ?_) hU
    rw [pk_un (by omega), pk_un (by omega), c8, pk_un (by omega), pk_un (by omega)]
    exact ⟨rfl, rfl⟩
  · refine YB_p (fun j hj => ?_) hY
    rw [pk_un (by omega), c8, pk_un (by omega)]
theorem op_removeCard {σ ρ μ : Nat → Int32} {C P : Nat} {v : Int32} (hR : Rl σ ρ μ) (g : GC C P σ) (z : rcE σ v = 0) : rmS (c8 σ) (nt v) P C 0 = nI (C - 1) ∧ Rl (rmS (c8 σ) (nt v) P C) ρ (rmM μ (nt v) P C) := by
  obtain ⟨C', P', R, lt, B, g', hA, h7, hl, hW, hB, hCh, hU, hY⟩ := id hR
  have e1 : C' = C := (nI_eq (by have := g'.2.2.2; omega) (by have := g.2.2.2; omega)).mp (g'.1.symm.trans g.1)
  subst e1
  rw [rcE] at z
  obtain ⟨c, -⟩ := ch1 z (by decide)
  obtain ⟨k, hk, rfl⟩ := of_has g.1 g.2.2.2 c
  have hkk : nt (nI k) = k := nt_nI (by have := g.2.2.2; omega)
  have hC16 := g.2.2.2
  have hPC := g.2.2.1
  rw [hkk]
  have hrp : rmP k P C' < C' - 1 ∨ (C' - 1 = 0 ∧ rmP k P C' = 0) := by
    unfold rmP
    by_cases q1 : k < P
    · rw [if_pos q1]; split <;> omega
    · rw [if_neg q1]; split <;> omega
  have hA' : ∀ i, i < 56 + 3 * (C' - 1) → rmS (c8 σ) k P C' i = rmM μ k P C' i := by
    intro i hi
    unfold rmS rmM
    by_cases e1 : i = 1
    · subst e1; rw [pk_us, pk_us]
    rw [pk_un e1, pk_un e1]
    by_cases e0 : i = 0
    · subst e0; rw [pk_us, rm2_0]
    rw [pk_un e0, rm2, zrJ_lo (by omega), shK, shJ]
    by_cases q : 56 + 3 * k ≤ i ∧ i < 56 + 3 * (C' - 1)
    · rw [if_pos q, if_pos q, c8_o (by omega), rm1, pk_un (by omega), c8_o (by omega)]
      exact hA _ (by omega)
    · rw [if_neg q, if_neg q, rm1, pk_un e0]
      by_cases e8 : i = 8
      · subst e8; rw [c8, c8, pk_us, pk_us]
      · rw [c8_o e8, c8_o e8]; exact hA i (by omega)
  have hlo : ∀ i, 1 < i → i < 56 → rmM μ k P C' i = c8 μ i := by
    intro i h1 h2
    rw [rmM, pk_un (by omega), rm2, zrJ_lo (by omega), shJ_lo (by omega), rm1, pk_un (by omega)]
  refine ⟨by rw [rmS, pk_un (by omega), pk_us], Rl_ch (C' := C' - 1) (P' := rmP k P C') hR ⟨by rw [rmS, pk_un (by omega), pk_us], by rw [rmS, pk_us], hrp, by omega⟩ hA' ?_ ?_ (fun i hi => ?_) ?_ ?_⟩
  · rw [rmS, pk_un (by omega), pk_un (by omega), shK_lo (by omega), c8_o (by omega)]
  · rw [rmS, pk_un (by omega), pk_un (by omega), shK_lo (by omega), c8, pk_us]
  · rw [rmM, pk_un (by omega), rm2, zrJ, if_neg (by omega), shJ, if_neg (by omega), rm1, pk_un (by omega), c8_o (by omega)]
  · refine UN_p (fun j hj => ?_) hU
    rw [hlo _ (by omega) (by omega), hlo _ (by omega) (by omega), c8_o (by omega), c8_o (by omega)]
    exact ⟨rfl, rfl⟩
  · refine YB_p (fun j hj => ?_) hY
    rw [hlo _ (by omega) (by omega), c8_o (by omega)]
