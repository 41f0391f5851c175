/-! what a pick keeps: one shuttle in a box, yarn not negative -/
theorem nI_n6 {k : Nat} (hk : k < 5) : ¬ nI k = -6 := by
  have e : k = 0 ∨ k = 1 ∨ k = 2 ∨ k = 3 ∨ k = 4 := by omega
  rcases e with rfl | rfl | rfl | rfl | rfl <;> decide
theorem fndF_none {μ : Nat → Int32} {a b : Int32} : ∀ n i, n + i = 5 → fndF μ a b n i = -6 → ∀ j, i ≤ j → j < 5 → ¬ (μ (14 + 4 * j) = a ∧ μ (15 + 4 * j) = b)
  | 0, i, h5, _, j, h1, h2 => absurd h1 (by omega)
  | n + 1, i, h5, h, j, h1, h2 => by
    rw [fndF] at h
    by_cases q : μ (14 + 4 * i) = a ∧ μ (15 + 4 * i) = b
    · rw [if_pos q] at h; exact absurd h (nI_n6 (by omega))
    · rw [if_neg q] at h
      rcases Nat.eq_or_lt_of_le h1 with z | z
      · subst z; exact q
      · exact fndF_none n (i + 1) (by omega) h j z h2
theorem fnd_none {μ : Nat → Int32} {a b : Int32} (h : fnd μ a b = -6) (j : Nat) (hj : j < 5) : ¬ (μ (14 + 4 * j) = a ∧ μ (15 + 4 * j) = b) := fndF_none 5 0 rfl h j (Nat.zero_le _) hj
theorem fndF_at {μ : Nat → Int32} {a b : Int32} {k : Nat} (hk : k < 5) : ∀ n i, n + i = 5 → fndF μ a b n i = nI k → μ (14 + 4 * k) = a ∧ μ (15 + 4 * k) = b
  | 0, i, h5, h => absurd h.symm (nI_n6 hk)
  | n + 1, i, h5, h => by
    rw [fndF] at h
    by_cases q : μ (14 + 4 * i) = a ∧ μ (15 + 4 * i) = b
    · rw [if_pos q] at h
      have := (nI_eq (by omega) (by omega)).mp h
      subst this; exact q
    · rw [if_neg q] at h
      exact fndF_at hk n (i + 1) (by omega) h
theorem fnd_at {μ : Nat → Int32} {a b : Int32} {k : Nat} (hk : k < 5) (h : fnd μ a b = nI k) : μ (14 + 4 * k) = a ∧ μ (15 + 4 * k) = b := fndF_at hk 5 0 rfl h
theorem mv3_3 {μ : Nat → Int32} {P : Nat} : mvS3 μ P 3 = bxS μ P 0 := by rw [mvS3, pk_un (by omega), mvS2, wrK_out (by omega), mvS1, pk_un (by omega), pk_us]
theorem mv3_4 {μ : Nat → Int32} {P : Nat} : mvS3 μ P 4 = bxS μ P 1 := by rw [mvS3, pk_un (by omega), mvS2, wrK_out (by omega), mvS1, pk_us]
theorem mv_sd {μ : Nat → Int32} {C P k j : Nat} (hk : k < 5) (hj : j < 5) : mvS μ C P k (14 + 4 * j) = if j = k then (if μ (14 + 4 * k) = 0 then 1 else 0) else μ (14 + 4 * j) := by
  rw [mvS, pk_un (by omega), mvS4, flS, mvS3_o (i := 14 + 4 * k) (by omega) (by omega)]
  by_cases q : μ (14 + 4 * k) = 0
  · rw [if_pos q, if_pos q, pk_un (by omega), pk_un (by omega)]
    by_cases e : j = k
    · subst e; rw [if_pos rfl, pk_us]
    · rw [if_neg e, pk_un (by omega), mvS3_o (by omega) (by omega)]
  · rw [if_neg q, if_neg q, pk_un (by omega), pk_un (by omega)]
    by_cases e : j = k
    · subst e; rw [if_pos rfl, pk_us]
    · rw [if_neg e, pk_un (by omega), mvS3_o (by omega) (by omega)]
theorem mv_bx {μ : Nat → Int32} {C P k j : Nat} (hk : k < 5) (hj : j < 5) : mvS μ C P k (15 + 4 * j) = if j = k then (if μ (14 + 4 * k) = 0 then bxS μ P 1 else bxS μ P 0) else μ (15 + 4 * j) := by
  rw [mvS, pk_un (by omega), mvS4, flS, mvS3_o (i := 14 + 4 * k) (by omega) (by omega), mv3_3, mv3_4]
  by_cases q : μ (14 + 4 * k) = 0
  · rw [if_pos q, if_pos q, pk_un (by omega)]
    by_cases e : j = k
    · subst e; rw [if_pos rfl, pk_us]
    · rw [if_neg e, pk_un (by omega), pk_un (by omega), mvS3_o (by omega) (by omega)]
  · rw [if_neg q, if_neg q, pk_un (by omega)]
    by_cases e : j = k
    · subst e; rw [if_pos rfl, pk_us]
    · rw [if_neg e, pk_un (by omega), pk_un (by omega), mvS3_o (by omega) (by omega)]
theorem mv_yn {μ : Nat → Int32} {C P k j : Nat} (hk : k < 5) (hj : j < 5) : mvS μ C P k (13 + 4 * j) = if j = k then μ (13 + 4 * k) + -1 else μ (13 + 4 * j) := by
  rw [mvS, pk_un (by omega), mvS4, flS, mvS3_o (i := 14 + 4 * k) (by omega) (by omega), mvS3_o (i := 13 + 4 * k) (by omega) (by omega)]
  by_cases q : μ (14 + 4 * k) = 0
  · rw [if_pos q]
    by_cases e : j = k
    · subst e; rw [if_pos rfl, pk_us]
    · rw [if_neg e, pk_un (by omega), pk_un (by omega), pk_un (by omega), mvS3_o (by omega) (by omega)]
  · rw [if_neg q]
    by_cases e : j = k
    · subst e; rw [if_pos rfl, pk_us]
    · rw [if_neg e, pk_un (by omega), pk_un (by omega), pk_un (by omega), mvS3_o (by omega) (by omega)]
/-- what the flying shuttle of a pick that isn't stopped knows: its side, its box, and that the box it flies to is empty -/
theorem fly_sd {μ : Nat → Int32} {C P k : Nat} (h : rsC μ C P = 0) (hk : k < 5) (hf : flyN μ P = nI k) : (μ (14 + 4 * k) = 0 ∧ fnd μ 1 (bxS μ P 1) = -6) ∨ (μ (14 + 4 * k) = 1 ∧ fnd μ 0 (bxS μ P 0) = -6) := by
  unfold rsC at h
  by_cases h1 : C = 0
  · rw [if_pos h1] at h; exact absurd h (by decide)
  rw [if_neg h1] at h
  by_cases h2 : ¬ onS μ P 0 = -6 ∧ ¬ onS μ P 1 = -6
  · rw [if_pos h2] at h; exact absurd h (by decide)
  rw [flyN] at hf
  by_cases q : onS μ P 0 = -6
  · rw [if_pos q] at hf
    exact Or.inr ⟨(fnd_at hk hf).1, q⟩
  · rw [if_neg q] at hf
    refine Or.inl ⟨(fnd_at hk hf).1, ?_⟩
    by_cases q1 : onS μ P 1 = -6
    · exact q1
    · exact absurd ⟨q, q1⟩ h2
theorem UN_mv {μ : Nat → Int32} {C P k : Nat} (hU : UN μ) (h : rsC μ C P = 0) (hk : k < 5) (hf : flyN μ P = nI k) : UN (mvS μ C P k) := by
  have hd : ∀ j, j < 5 → ¬ (μ (14 + 4 * j) = (if μ (14 + 4 * k) = 0 then 1 else 0) ∧ μ (15 + 4 * j) = (if μ (14 + 4 * k) = 0 then bxS μ P 1 else bxS μ P 0)) := by
    rcases fly_sd h hk hf with q | q
    · intro j hj z
      rw [if_pos q.1, if_pos q.1] at z
      exact fnd_none q.2 j hj z
    · intro j hj z
      rw [if_neg (by rw [q.1]; decide), if_neg (by rw [q.1]; decide)] at z
      exact fnd_none q.2 j hj z
  intro i j hi hj h1 h2 h3
  rw [mv_sd hk hi] at h1 h3
  rw [mv_sd hk hj] at h1
  rw [mv_bx hk hi, mv_bx hk hj] at h2
  by_cases ei : i = k
  · by_cases ej : j = k
    · rw [ei, ej]
    · rw [if_pos ei, if_neg ej] at h1 h2
      exact absurd ⟨h1.symm, h2.symm⟩ (hd j hj)
  · by_cases ej : j = k
    · rw [if_neg ei, if_pos ej] at h1 h2
      exact absurd ⟨h1, h2⟩ (hd i hi)
    · rw [if_neg ei] at h1 h2 h3
      rw [if_neg ej] at h1 h2
      exact hU i j hi hj h1 h2 h3
