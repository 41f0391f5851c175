/-! a pick is taken back, on both sides -/
theorem t7_o {μ : Nat → Int32} {k i : Nat} (h1 : i ≠ 1) (h3 : i ≠ 3) (h4 : i ≠ 4) (h5 : i ≠ 5) (h13 : i ≠ 13 + 4 * k) (h14 : i ≠ 14 + 4 * k) (h15 : i ≠ 15 + 4 * k) : tb7 μ k i = μ i := by
  rw [tb7, pk_un h13, tb6, pk_un h15, tb5, pk_un h14, tb4, pk_un h5, tb3, pk_un h4, tb2, pk_un h3, tb1, pk_un h1]
theorem t7_v {μ : Nat → Int32} {k : Nat} (hk : k < 5) : tb7 μ k 1 = μ 106 ∧ tb7 μ k 3 = μ 107 ∧ tb7 μ k 4 = μ 108 ∧ tb7 μ k 5 = μ 109 ∧ tb7 μ k (14 + 4 * k) = μ 111 ∧ tb7 μ k (15 + 4 * k) = μ 112 ∧ tb7 μ k (13 + 4 * k) = μ (13 + 4 * k) + 1 := by
  refine ⟨?_, ?_, ?_, ?_, ?_, ?_, ?_⟩
  · rw [tb7, pk_un (by omega), tb6, pk_un (by omega), tb5, pk_un (by omega), tb4, pk_un (by omega), tb3, pk_un (by omega), tb2, pk_un (by omega), tb1, pk_us]
  · rw [tb7, pk_un (by omega), tb6, pk_un (by omega), tb5, pk_un (by omega), tb4, pk_un (by omega), tb3, pk_un (by omega), tb2, pk_us, tb1, pk_un (by omega)]
  · rw [tb7, pk_un (by omega), tb6, pk_un (by omega), tb5, pk_un (by omega), tb4, pk_un (by omega), tb3, pk_us, tb2, pk_un (by omega), tb1, pk_un (by omega)]
  · rw [tb7, pk_un (by omega), tb6, pk_un (by omega), tb5, pk_un (by omega), tb4, pk_us, tb3, pk_un (by omega), tb2, pk_un (by omega), tb1, pk_un (by omega)]
  · rw [tb7, pk_un (by omega), tb6, pk_un (by omega), tb5, pk_us, tb4, pk_un (by omega), tb3, pk_un (by omega), tb2, pk_un (by omega), tb1, pk_un (by omega)]
  · rw [tb7, pk_un (by omega), tb6, pk_us, tb5, pk_un (by omega), tb4, pk_un (by omega), tb3, pk_un (by omega), tb2, pk_un (by omega), tb1, pk_un (by omega)]
  · rw [tb7, pk_us, tb6, pk_un (by omega), tb5, pk_un (by omega), tb4, pk_un (by omega), tb3, pk_un (by omega), tb2, pk_un (by omega), tb1, pk_un (by omega)]
theorem t11_o {μ : Nat → Int32} {k i : Nat} (h : i < 104) (h6 : i ≠ 6) (h7 : i ≠ 7) (h8 : i ≠ 8) : tb11 μ k i = tb7 μ k i := by
  rw [tb11, pk_un h6, tb10, pk_un h8, tb9, pk_un h7, tb8, zrJ_lo (by omega), shJ_lo (by omega)]
theorem t11_v {μ : Nat → Int32} {k : Nat} : tb11 μ k 6 = μ 6 - 1 ∧ tb11 μ k 7 = μ 7 - 1 ∧ tb11 μ k 8 = μ 8 - 1 := by
  refine ⟨?_, ?_, ?_⟩
  · rw [tb11, pk_us, tb10, pk_un (by omega), tb9, pk_un (by omega), tb8, zrJ_lo (by omega), shJ_lo (by omega), t7_o (by omega) (by omega) (by omega) (by omega) (by omega) (by omega) (by omega)]
  · rw [tb11, pk_un (by omega), tb10, pk_un (by omega), tb9, pk_us, tb8, zrJ_lo (by omega), shJ_lo (by omega), t7_o (by omega) (by omega) (by omega) (by omega) (by omega) (by omega) (by omega)]
  · rw [tb11, pk_un (by omega), tb10, pk_us, tb9, pk_un (by omega), tb8, zrJ_lo (by omega), shJ_lo (by omega), t7_o (by omega) (by omega) (by omega) (by omega) (by omega) (by omega) (by omega)]
theorem t11_row {μ : Nat → Int32} {k r w : Nat} (hk : k < 5) (hw : w < 9) (hr : r < 19) : tb11 μ k (104 + w + 9 * r) = μ (104 + w + 9 * (r + 1)) := by
  rw [tb11, pk_un (by omega), tb10, pk_un (by omega), tb9, pk_un (by omega), tb8, zrJ_lo (by omega), shJ, if_pos (by omega), t7_o (by omega) (by omega) (by omega) (by omega) (by omega) (by omega) (by omega)]
  exact congrArg μ (by omega)
theorem ts_o {σ ρ : Nat → Int32} {lt k i : Nat} (h1 : i ≠ 1) (h3 : i ≠ 3) (h4 : i ≠ 4) (h5 : i ≠ 5) (h6 : i ≠ 6) (h7 : i ≠ 7) (h8 : i ≠ 8) : ltS σ ρ lt k i = flS σ k 1 i := by
  rw [ltS, pk_un h8, pk_un h6, trS, pk_un h7, pk_un h1, pk_un h5, pk_un h4, pk_un h3]
theorem ts_v {σ ρ : Nat → Int32} {lt k : Nat} (hk : k < 5) : ltS σ ρ lt k 1 = ρ (3 + 7 * lt) ∧ ltS σ ρ lt k 3 = ρ (5 + 7 * lt) ∧ ltS σ ρ lt k 4 = ρ (6 + 7 * lt) ∧ ltS σ ρ lt k 5 = ρ (4 + 7 * lt) ∧ ltS σ ρ lt k 6 = σ 6 - 1 ∧ ltS σ ρ lt k 7 = σ 7 - 1 ∧ ltS σ ρ lt k 8 = σ 8 - 1 := by
  refine ⟨?_, ?_, ?_, ?_, ?_, ?_, ?_⟩
  · rw [ltS, pk_un (by omega), pk_un (by omega), trS, pk_un (by omega), pk_us]
  · rw [ltS, pk_un (by omega), pk_un (by omega), trS, pk_un (by omega), pk_un (by omega), pk_un (by omega), pk_un (by omega), pk_us]
  · rw [ltS, pk_un (by omega), pk_un (by omega), trS, pk_un (by omega), pk_un (by omega), pk_un (by omega), pk_us]
  · rw [ltS, pk_un (by omega), pk_un (by omega), trS, pk_un (by omega), pk_un (by omega), pk_us]
  · rw [ltS, pk_un (by omega), pk_us, trS, pk_un (by omega), pk_un (by omega), pk_un (by omega), pk_un (by omega), pk_un (by omega), flS_out hk (by omega)]
  · rw [ltS, pk_un (by omega), pk_un (by omega), trS, pk_us, flS_out hk (by omega)]
  · rw [ltS, pk_us, trS, pk_un (by omega), pk_un (by omega), pk_un (by omega), pk_un (by omega), pk_un (by omega), flS_out hk (by omega)]
theorem fl_0 {σ : Nat → Int32} {k : Nat} (h : σ (14 + 4 * k) = 0) : flS σ k 1 (14 + 4 * k) = 1 ∧ flS σ k 1 (15 + 4 * k) = σ 4 ∧ flS σ k 1 (13 + 4 * k) = σ (13 + 4 * k) + 1 := by
  rw [flS, if_pos h]
  refine ⟨?_, ?_, ?_⟩
  · rw [pk_un (by omega), pk_un (by omega), pk_us]
  · rw [pk_un (by omega), pk_us]
  · rw [pk_us]
theorem fl_1 {σ : Nat → Int32} {k : Nat} (h : ¬ σ (14 + 4 * k) = 0) : flS σ k 1 (14 + 4 * k) = 0 ∧ flS σ k 1 (15 + 4 * k) = σ 3 ∧ flS σ k 1 (13 + 4 * k) = σ (13 + 4 * k) + 1 := by
  rw [flS, if_neg h]
  refine ⟨?_, ?_, ?_⟩
  · rw [pk_un (by omega), pk_un (by omega), pk_us]
  · rw [pk_un (by omega), pk_us]
  · rw [pk_us]
theorem fl_o {σ : Nat → Int32} {k i : Nat} (h13 : i ≠ 13 + 4 * k) (h14 : i ≠ 14 + 4 * k) (h15 : i ≠ 15 + 4 * k) : flS σ k 1 i = σ i := by
  unfold flS
  split <;> rw [pk_un h13, pk_un h15, pk_un h14]
theorem op_back {σ ρ μ : Nat → Int32} {C P R lt B k : Nat} (g : GC C P σ) (hA : ∀ i, i < 56 + 3 * C → σ i = μ i) (h7 : σ 7 = nI R) (hR20 : R ≤ 20) (hlt : ρ 140 = nI lt) (hlt20 : lt < 20) (hW : ∀ r, r < R → RW ρ μ (sl lt r) r) (h8 : σ 8 = nI B) (hBR : B ≤ R) (hC : CH C μ B 0 μ) (hB : 0 < B) (hk : k < 5) (hf : μ 110 = nI k) : ltS σ ρ lt k 1 = tb11 μ k 1 ∧ Rl (ltS σ ρ lt k) (upd ρ 140 (nI ((lt + 19) % 20))) (tb11 μ k) := by
  have hC16 := g.2.2.2
  obtain ⟨B1, rfl⟩ : ∃ B1, B = B1 + 1 := ⟨B - 1, by omega⟩
  obtain ⟨k', hk', c1, ⟨p, hp, c2⟩, c3, c4, c5, c6⟩ := hC
  have ek : k' = k := (nI_eq (by omega) (by omega)).mp (c1.symm.trans hf)
  subst ek
  obtain ⟨w0, w1, w2, w3, w4, w5, w6⟩ := hW 0 (by omega)
  rw [sl_0 hlt20] at w0 w1 w2 w3 w4 w5 w6
  obtain ⟨u1, u3, u4, u5, u14, u15, u13⟩ := t7_v (μ := μ) hk'
  obtain ⟨u6, u7, u8⟩ := t11_v (μ := μ) (k := k')
  obtain ⟨s1, s3, s4, s5, s6, s7, s8⟩ := ts_v (σ := σ) (ρ := ρ) (lt := lt) hk'
  have m1 : tb11 μ k' 1 = μ 106 := (t11_o (by omega) (by omega) (by omega) (by omega)).trans u1
  have m3 : tb11 μ k' 3 = μ 107 := (t11_o (by omega) (by omega) (by omega) (by omega)).trans u3
  have m4 : tb11 μ k' 4 = μ 108 := (t11_o (by omega) (by omega) (by omega) (by omega)).trans u4
  have m5 : tb11 μ k' 5 = μ 109 := (t11_o (by omega) (by omega) (by omega) (by omega)).trans u5
  have m14 : tb11 μ k' (14 + 4 * k') = μ 111 := (t11_o (by omega) (by omega) (by omega) (by omega)).trans u14
  have m15 : tb11 μ k' (15 + 4 * k') = μ 112 := (t11_o (by omega) (by omega) (by omega) (by omega)).trans u15
  have m13 : tb11 μ k' (13 + 4 * k') = μ (13 + 4 * k') + 1 := (t11_o (by omega) (by omega) (by omega) (by omega)).trans u13
  have mo : ∀ i, i < 104 → i ≠ 1 → i ≠ 3 → i ≠ 4 → i ≠ 5 → i ≠ 6 → i ≠ 7 → i ≠ 8 → i ≠ 13 + 4 * k' → i ≠ 14 + 4 * k' → i ≠ 15 + 4 * k' → tb11 μ k' i = μ i := fun i h h1 h3 h4 h5 h6 h7 h8 h13 h14 h15 => (t11_o h h6 h7 h8).trans (t7_o h1 h3 h4 h5 h13 h14 h15)
  have fv : flS σ k' 1 (14 + 4 * k') = μ 111 ∧ flS σ k' 1 (15 + 4 * k') = μ 112 ∧ flS σ k' 1 (13 + 4 * k') = μ (13 + 4 * k') + 1 := by
    rcases c3 with ⟨a1, a2, a3⟩ | ⟨a1, a2, a3⟩
    · have hs : ¬ σ (14 + 4 * k') = 0 := by rw [hA _ (by omega), a2]; decide
      obtain ⟨f1, f2, f3⟩ := fl_1 hs
      exact ⟨f1.trans (show μ 111 = 0 from a1).symm, (f2.trans (hA 3 (by omega))).trans (show μ 112 = μ 3 from a3).symm, f3.trans (by rw [hA _ (by omega)])⟩
    · have hs : σ (14 + 4 * k') = 0 := by rw [hA _ (by omega), a2]
      obtain ⟨f1, f2, f3⟩ := fl_0 hs
      exact ⟨f1.trans (show μ 111 = 1 from a1).symm, (f2.trans (hA 4 (by omega))).trans (show μ 112 = μ 4 from a3).symm, f3.trans (by rw [hA _ (by omega)])⟩
  have p106 : ρ (3 + 7 * lt) = nI p := w2.symm.trans c2
  have hE : EqT (tk μ 0 k' μ) (tb11 μ k') := by
    refine ⟨by rw [tk_3, m3], by rw [tk_4, m4], fun j hj => ⟨?_, ?_, ?_⟩⟩
    · rw [tk_sd]
      by_cases q : j = k'
      · subst q; rw [if_pos rfl, m14]
      · rw [if_neg q, mo _ (by omega) (by omega) (by omega) (by omega) (by omega) (by omega) (by omega) (by omega) (by omega) (by omega) (by omega)]
    · rw [tk_bx]
      by_cases q : j = k'
      · subst q; rw [if_pos rfl, m15]
      · rw [if_neg q, mo _ (by omega) (by omega) (by omega) (by omega) (by omega) (by omega) (by omega) (by omega) (by omega) (by omega) (by omega)]
    · rw [tk_yn]
      by_cases q : j = k'
      · subst q; rw [if_pos rfl, m13]
      · rw [if_neg q, mo _ (by omega) (by omega) (by omega) (by omega) (by omega) (by omega) (by omega) (by omega) (by omega) (by omega) (by omega)]
  refine ⟨(s1.trans w2.symm).trans m1.symm, C, p, R - 1, (lt + 19) % 20, B1, ⟨?_, s1.trans p106, Or.inl hp, hC16⟩, fun i hi => ?_, ⟨?_, by omega⟩, ⟨pk_us, Nat.mod_lt _ (by decide)⟩, fun r hr => ?_, ⟨?_, by omega⟩, ?_, UN_t hE c4, YB_t hE c5⟩
  · rw [ts_o (by omega) (by omega) (by omega) (by omega) (by omega) (by omega) (by omega), flS_out hk' (by omega)]; exact g.1
  · by_cases e1 : i = 1
    · subst e1; rw [s1, m1]; exact w2.symm
    by_cases e3 : i = 3
    · subst e3; rw [s3, m3]; exact w3.symm
    by_cases e4 : i = 4
    · subst e4; rw [s4, m4]; exact w4.symm
    by_cases e5 : i = 5
    · subst e5; rw [s5, m5]; exact w5.symm
    by_cases e6 : i = 6
    · subst e6; rw [s6, u6, hA 6 (by omega)]
    by_cases e7 : i = 7
    · subst e7; rw [s7, u7, hA 7 (by omega)]
    by_cases e8 : i = 8
    · subst e8; rw [s8, u8, hA 8 (by omega)]
    rw [ts_o e1 e3 e4 e5 e6 e7 e8]
    by_cases e13 : i = 13 + 4 * k'
    · subst e13; rw [fv.2.2, m13]
    by_cases e14 : i = 14 + 4 * k'
    · subst e14; rw [fv.1, m14]
    by_cases e15 : i = 15 + 4 * k'
    · subst e15; rw [fv.2.1, m15]
    rw [fl_o e13 e14 e15, mo i (by omega) e1 e3 e4 e5 e6 e7 e8 e13 e14 e15]
    exact hA i hi
  · rw [s7, h7, show nI R - 1 = nI (R - 1) from pk_sub (b := 1) (by omega)]
  · obtain ⟨x0, x1, x2, x3, x4, x5, x6⟩ := hW (r + 1) (by omega)
    have hsl := sl_lt lt (r + 1)
    rw [sl_b hlt20 (by omega)]
    refine ⟨?_, ?_, ?_, ?_, ?_, ?_, ?_⟩
    · rw [pk_un (by omega)]; exact (t11_row (w := 0) hk' (by omega) (by omega)).trans x0
    · rw [pk_un (by omega)]; exact (t11_row (w := 1) hk' (by omega) (by omega)).trans x1
    · rw [pk_un (by omega)]; exact (t11_row (w := 2) hk' (by omega) (by omega)).trans x2
    · rw [pk_un (by omega)]; exact (t11_row (w := 3) hk' (by omega) (by omega)).trans x3
    · rw [pk_un (by omega)]; exact (t11_row (w := 4) hk' (by omega) (by omega)).trans x4
    · rw [pk_un (by omega)]; exact (t11_row (w := 5) hk' (by omega) (by omega)).trans x5
    · rw [pk_un (by omega)]; exact (t11_row (w := 6) hk' (by omega) (by omega)).trans x6
  · rw [s8, h8, show nI (B1 + 1) - 1 = nI (B1 + 1 - 1) from pk_sub (b := 1) (by omega)]
    rfl
  · refine CH_c B1 (0 + 1) 0 _ _ hE (fun j w hj hw => ?_) c6
    rw [show 0 + j = j by omega, show 0 + 1 + j = j + 1 by omega]
    exact t11_row hk' hw (by omega)
/-- the shuttle that flies back -/
theorem bk_k {ρ μ : Nat → Int32} {C R lt B : Nat} (hlt20 : lt < 20) (hW : ∀ r, r < R → RW ρ μ (sl lt r) r) (hBR : B ≤ R) (hC : CH C μ B 0 μ) : ∃ k, k < 5 ∧ (0 < B → ρ (2 + 7 * lt) = nI k) ∧ (0 < B → μ 110 = nI k) := by
  cases B with
  | zero => exact ⟨0, by omega, fun h => absurd h (by omega), fun h => absurd h (by omega)⟩
  | succ B1 =>
    obtain ⟨k', hk', c1, -⟩ := hC
    obtain ⟨w0, w1, w2, w3, w4, w5, w6⟩ := hW 0 (by omega)
    rw [sl_0 hlt20] at w6
    exact ⟨k', hk', fun _ => w6.symm.trans c1, fun _ => c1⟩
