/-! yarn after a pick -/
theorem sub1 (x : Int32) : x - 1 = x + (-1) := Int32.sub_eq_add_neg x 1
theorem nI_all {x : Int32} (h : 0 ≤ x) : ∃ k : Nat, k < 2 ^ 31 ∧ x = nI k := by
  obtain ⟨k, hk, e⟩ := nI_cases (n := 2147483647) (by omega) h (by
    rw [Int32.le_iff_toInt_le, nI_toInt (by omega)]
    have := Int32.toInt_lt x
    omega)
  exact ⟨k, by omega, e⟩
theorem dec_nn {x : Int32} (h : 0 < x) : 0 ≤ x + -1 := by
  obtain ⟨k, hk, e⟩ := nI_all (Int32.le_of_lt h)
  subst e
  rcases Nat.eq_zero_or_pos k with z | z
  · subst z; exact absurd h (by decide)
  · rw [← sub1, show nI k - 1 = nI (k - 1) from pk_sub (b := 1) (by omega)]
    exact (nI_leI (a := 0) (by omega) (by omega)).mpr (Nat.zero_le _)
theorem rsC_y {μ : Nat → Int32} {C P k : Nat} (h : rsC μ C P = 0) (hk : k < 5) (hf : flyN μ P = nI k) : 0 < μ (13 + 4 * k) := by
  unfold rsC at h
  by_cases h1 : C = 0
  · rw [if_pos h1] at h; exact absurd h (by decide)
  rw [if_neg h1] at h
  by_cases h2 : ¬ onS μ P 0 = -6 ∧ ¬ onS μ P 1 = -6
  · rw [if_pos h2] at h; exact absurd h (by decide)
  rw [if_neg h2] at h
  by_cases h3 : onS μ P 0 = -6 ∧ onS μ P 1 = -6
  · rw [if_pos h3] at h; exact absurd h (by decide)
  rw [if_neg h3, hf, show (nI k).toNatClampNeg = k from nI_clamp (by omega)] at h
  by_cases h4 : 0 < μ (13 + 4 * k)
  · exact h4
  · rw [if_neg h4] at h; exact absurd h (by decide)
theorem YN_mv {μ : Nat → Int32} {C P k : Nat} (hY : YN μ) (h : rsC μ C P = 0) (hk : k < 5) (hf : flyN μ P = nI k) : YN (mvS μ C P k) := by
  intro j hj
  rw [mv_yn hk hj]
  by_cases e : j = k
  · rw [if_pos e]; exact dec_nn (rsC_y h hk hf)
  · rw [if_neg e]; exact hY j hj
