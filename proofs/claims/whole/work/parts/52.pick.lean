/-! a pick, a stop and a pick taken back, on both sides -/
theorem a2_o {μ : Nat → Int32} {P k i : Nat} (h : i < 104) : a2 μ P k i = μ i := by rw [a2, pk_un (by omega), a1_o h]
theorem a3_o {μ : Nat → Int32} {P k i : Nat} (h : i < 104) : a3 μ P k i = μ i := by rw [a3, pk_un (by omega), a2_o h]
theorem a4_o {μ : Nat → Int32} {P k i : Nat} (h : i < 104) : a4 μ P k i = μ i := by rw [a4, pk_un (by omega), a3_o h]
theorem a5_o {μ : Nat → Int32} {P k i : Nat} (h : i < 104) : a5 μ P k i = μ i := by rw [a5, pk_un (by omega), a4_o h]
theorem a6_o {μ : Nat → Int32} {P k i : Nat} (h : i < 104) : a6 μ P k i = μ i := by rw [a6, pk_un (by omega), a5_o h]
theorem a7_o {μ : Nat → Int32} {P k i : Nat} (h : i < 104) : a7 μ P k i = μ i := by rw [a7, pk_un (by omega), a6_o h]
theorem a8_o {μ : Nat → Int32} {P k i : Nat} (h : i < 104) : a8 μ P k i = μ i := by rw [a8, pk_un (by omega), a7_o h]
theorem a9_o {μ : Nat → Int32} {P k i : Nat} (h : i < 104) : a9 μ P k i = μ i := by rw [a9, pk_un (by omega), a8_o h]
theorem ad_104 {μ : Nat → Int32} {P k : Nat} (hk : k < 5) : adM μ P k 104 = μ (12 + 4 * k) := by rw [adM, pk_un (by omega), a11, pk_un (by omega), a10, pk_un (by omega), a9, pk_un (by omega), a8, pk_un (by omega), a7, pk_un (by omega), a6, pk_un (by omega), a5, pk_un (by omega), a4, pk_un (by omega), a3, pk_un (by omega), a2, pk_un (by omega), a1, pk_us, sR, if_neg (by omega)]
theorem ad_105 {μ : Nat → Int32} {P k : Nat} (hk : k < 5) : adM μ P k 105 = thS (a1 μ k) (a1 μ k (56 + 3 * P)) 12 := by rw [adM, pk_un (by omega), a11, pk_un (by omega), a10, pk_un (by omega), a9, pk_un (by omega), a8, pk_un (by omega), a7, pk_un (by omega), a6, pk_un (by omega), a5, pk_un (by omega), a4, pk_un (by omega), a3, pk_un (by omega), a2, pk_us]
theorem ad_106 {μ : Nat → Int32} {P k : Nat} (hk : k < 5) : adM μ P k 106 = μ 1 := by rw [adM, pk_un (by omega), a11, pk_un (by omega), a10, pk_un (by omega), a9, pk_un (by omega), a8, pk_un (by omega), a7, pk_un (by omega), a6, pk_un (by omega), a5, pk_un (by omega), a4, pk_un (by omega), a3, pk_us, a2_o (by omega)]
theorem ad_107 {μ : Nat → Int32} {P k : Nat} (hk : k < 5) : adM μ P k 107 = μ 3 := by rw [adM, pk_un (by omega), a11, pk_un (by omega), a10, pk_un (by omega), a9, pk_un (by omega), a8, pk_un (by omega), a7, pk_un (by omega), a6, pk_un (by omega), a5, pk_un (by omega), a4, pk_us, a3_o (by omega)]
theorem ad_108 {μ : Nat → Int32} {P k : Nat} (hk : k < 5) : adM μ P k 108 = μ 4 := by rw [adM, pk_un (by omega), a11, pk_un (by omega), a10, pk_un (by omega), a9, pk_un (by omega), a8, pk_un (by omega), a7, pk_un (by omega), a6, pk_un (by omega), a5, pk_us, a4_o (by omega)]
theorem ad_109 {μ : Nat → Int32} {P k : Nat} (hk : k < 5) : adM μ P k 109 = μ 5 := by rw [adM, pk_un (by omega), a11, pk_un (by omega), a10, pk_un (by omega), a9, pk_un (by omega), a8, pk_un (by omega), a7, pk_un (by omega), a6, pk_us, a5_o (by omega)]
theorem ad_110 {μ : Nat → Int32} {P k : Nat} (hk : k < 5) : adM μ P k 110 = nI k := by rw [adM, pk_un (by omega), a11, pk_un (by omega), a10, pk_un (by omega), a9, pk_un (by omega), a8, pk_un (by omega), a7, pk_us]
theorem ad_111 {μ : Nat → Int32} {P k : Nat} (hk : k < 5) : adM μ P k 111 = μ (14 + 4 * k) := by rw [adM, pk_un (by omega), a11, pk_un (by omega), a10, pk_un (by omega), a9, pk_un (by omega), a8, pk_us, a7_o (by omega)]
theorem ad_112 {μ : Nat → Int32} {P k : Nat} (hk : k < 5) : adM μ P k 112 = μ (15 + 4 * k) := by rw [adM, pk_un (by omega), a11, pk_un (by omega), a10, pk_un (by omega), a9, pk_us, a8_o (by omega)]
theorem ad_6 {μ : Nat → Int32} {P k : Nat} : adM μ P k 6 = μ 6 + 1 := by rw [adM, pk_us, a11, pk_un (by omega), a10, pk_un (by omega), a9_o (by omega)]
theorem ad_7 {μ : Nat → Int32} {P k : Nat} : adM μ P k 7 = μ 7 + (if μ 7 < 20 then 1 else 0) := by rw [adM, pk_un (by omega), a11, pk_un (by omega), a10, pk_us, a9_o (by omega)]
theorem ad_8 {μ : Nat → Int32} {P k : Nat} : adM μ P k 8 = μ 8 + (if μ 8 < 20 then 1 else 0) := by rw [adM, pk_un (by omega), a11, pk_us, a10, pk_un (by omega), a9_o (by omega)]
theorem ad_row {μ : Nat → Int32} {P k r w : Nat} (hw : w < 9) (hr : r < 19) : adM μ P k (104 + w + 9 * (r + 1)) = μ (104 + w + 9 * r) := by
  rw [adM, pk_un (by omega), a11, pk_un (by omega), a10, pk_un (by omega), a9, pk_un (by omega), a8, pk_un (by omega), a7, pk_un (by omega), a6, pk_un (by omega), a5, pk_un (by omega), a4, pk_un (by omega), a3, pk_un (by omega), a2, pk_un (by omega), a1, pk_un (by omega), sR, if_pos (by omega)]
  exact congrArg μ (by omega)
theorem mvS_3 {σ : Nat → Int32} {C P k : Nat} (hk : k < 5) : mvS σ C P k 3 = bxS σ P 0 := by rw [mvS, pk_un (by omega), mvS4, flS_out hk (by omega), mv3_3]
theorem mvS_4 {σ : Nat → Int32} {C P k : Nat} (hk : k < 5) : mvS σ C P k 4 = bxS σ P 1 := by rw [mvS, pk_un (by omega), mvS4, flS_out hk (by omega), mv3_4]
/-- side and box of the shuttle that flies -/
theorem fly_bx {μ : Nat → Int32} {P k : Nat} (hk : k < 5) (hf : flyN μ P = nI k) : (μ (14 + 4 * k) = 0 ∧ μ (15 + 4 * k) = bxS μ P 0) ∨ (μ (14 + 4 * k) = 1 ∧ μ (15 + 4 * k) = bxS μ P 1) := by
  rw [flyN] at hf
  by_cases q : onS μ P 0 = -6
  · rw [if_pos q] at hf; exact Or.inr (fnd_at hk hf)
  · rw [if_neg q] at hf; exact Or.inl (fnd_at hk hf)
theorem sl_0 {lt : Nat} (h : lt < 20) : sl lt 0 = lt := by unfold sl; omega
theorem sl_n {lt r : Nat} (h : lt < 20) (hr : r < 20) : sl ((lt + 1) % 20) (r + 1) = sl lt r := by unfold sl; omega
theorem sl_b {lt r : Nat} (h : lt < 20) (hr : r < 19) : sl ((lt + 19) % 20) r = sl lt (r + 1) := by unfold sl; omega
theorem sl_ne {lt r : Nat} (h : lt < 20) (hr : r < 19) : sl lt r ≠ (lt + 1) % 20 := by unfold sl; omega
theorem arR_o {σ ρ : Nat → Int32} {n P k m j : Nat} (hn : n < 20) (hm : m < 20) (hj : j < 7) (h : m ≠ n) : arR σ ρ n P k (j + 7 * m) = ρ (j + 7 * m) := by
  unfold arR
  rw [pk_un (by omega), pk_un (by omega), pk_un (by omega), pk_un (by omega), pk_un (by omega), pk_un (by omega), pk_un (by omega), pk_un (by omega)]
theorem ar_v {σ ρ : Nat → Int32} {n P k : Nat} (hn : n < 20) : arR σ ρ n P k (0 + 7 * n) = σ (12 + 4 * k) ∧ arR σ ρ n P k (1 + 7 * n) = thS σ (σ (56 + 3 * P)) 12 ∧ arR σ ρ n P k (2 + 7 * n) = nI k ∧ arR σ ρ n P k (3 + 7 * n) = σ 1 ∧ arR σ ρ n P k (4 + 7 * n) = σ 5 ∧ arR σ ρ n P k (5 + 7 * n) = σ 3 ∧ arR σ ρ n P k (6 + 7 * n) = σ 4 ∧ arR σ ρ n P k 140 = nI n := by
  unfold arR
  refine ⟨?_, ?_, ?_, ?_, ?_, ?_, ?_, ?_⟩
  · rw [pk_un (by omega), pk_un (by omega), pk_un (by omega), pk_un (by omega), pk_un (by omega), pk_us]
  · rw [pk_un (by omega), pk_un (by omega), pk_un (by omega), pk_un (by omega), pk_us]
  · rw [pk_un (by omega), pk_un (by omega), pk_un (by omega), pk_un (by omega), pk_un (by omega), pk_un (by omega), pk_us]
  · rw [pk_un (by omega), pk_un (by omega), pk_un (by omega), pk_us]
  · rw [pk_un (by omega), pk_un (by omega), pk_us]
  · rw [pk_un (by omega), pk_us]
  · rw [pk_us]
  · rw [pk_un (by omega), pk_un (by omega), pk_un (by omega), pk_un (by omega), pk_un (by omega), pk_un (by omega), pk_un (by omega), pk_us]
theorem n20 {B : Nat} (hB : B ≤ 20) : (if (20 : Int32) < nI B + 1 then (20 : Int32) else nI B + 1) = nI (if B < 20 then B + 1 else 20) ∧ nI B + (if nI B < 20 then 1 else 0) = nI (if B < 20 then B + 1 else 20) := by
  have h : ∀ b, b < 21 → (if (20 : Int32) < nI b + 1 then (20 : Int32) else nI b + 1) = nI (if b < 20 then b + 1 else 20) ∧ nI b + (if nI b < 20 then 1 else 0) = nI (if b < 20 then b + 1 else 20) := by decide +kernel
  exact h B (by omega)
theorem lm_o {σ : Nat → Int32} {C P k R i : Nat} (h6 : i ≠ 6) (h8 : i ≠ 8) : lmS σ C P k R i = mvS (arR2 σ R) C P k i := by rw [lmS, pk_un h8, pk_un h6]
theorem Rl_pick {σ ρ μ : Nat → Int32} (hR : Rl σ ρ μ) (z : rsG' σ = 0) : Rl (lmS' σ) (lmR' σ ρ) (pkM μ) := by
  obtain ⟨C, P, R, lt, B, g, hA, ⟨h7, hR20⟩, ⟨hlt, hlt20⟩, hW, ⟨h8, hBR⟩, hC, hU, hY⟩ := hR
  have hC16 := g.2.2.2
  have hg : EqG C σ μ := eA_g hA
  have g' : GC C P μ := GC_g hg g
  have h0 := rsG'_0 g z
  obtain ⟨-, k, hk, hf⟩ := rsC_0 h0
  have hP : P < C := by
    have := (rsC_0 h0).1
    have := g.2.2.1
    omega
  have hfμ : flyN μ P = nI k := (flyN_g hg hP).symm.trans hf
  have h0μ : rsC μ C P = 0 := (rsC_g hg g.2.2.1).symm.trans h0
  rw [lmS'_eq g.1 g.2.1 hC16 hP hk hf h7 hR20, lmR'_eq g.2.1 hC16 hP hk hf hlt hlt20, pkM_eq g' hk hfμ]
  have hn20 : (lt + 1) % 20 < 20 := Nat.mod_lt _ (by decide)
  obtain ⟨n, hn⟩ : ∃ n, (lt + 1) % 20 = n := ⟨_, rfl⟩
  rw [hn] at hn20 ⊢
  have hga : EqG C (adM μ P k) μ := adM_g hC16
  have gr2 : EqG C (arR2 σ R) σ := fun i h1 h2 => arR2_o (by omega)
  have hmg : EqG C (mvS (arR2 σ R) C P k) (mvS (adM μ P k) C P k) := mvS_g (eg_tr gr2 (eg_tr hg (eg_symm hga))) hP hk
  have h7μ : μ 7 = nI R := (hA 7 (by omega)).symm.trans h7
  have h8μ : μ 8 = nI B := (hA 8 (by omega)).symm.trans h8
  have b8 : mvS (arR2 σ R) C P k 8 = nI B := by rw [mvS_o hk (by omega) (by omega), arR2_o (by omega), h8]
  have c7 : lmS σ C P k R 7 = nI (if R < 20 then R + 1 else 20) := by
    rw [lm_o (by omega) (by omega), mvS_o hk (by omega) (by omega), arR2]
    by_cases q : R < 20
    · rw [if_pos q, if_pos q, pk_us]
    · rw [if_neg q, if_neg q, h7, show R = 20 by omega]
  have c8' : lmS σ C P k R 8 = nI (if B < 20 then B + 1 else 20) := by rw [lmS, pk_us, b8, (n20 (by omega)).1]
  have hUa : UN (adM μ P k) := UN_g (eg_symm hga) hU
  have h0a : rsC (adM μ P k) C P = 0 := (rsC_g hga g.2.2.1).trans h0μ
  have hfa : flyN (adM μ P k) P = nI k := (flyN_g hga hP).trans hfμ
  have hsd : ∀ j, j < 5 → mvS (adM μ P k) C P k (14 + 4 * j) = if j = k then (if μ (14 + 4 * k) = 0 then 1 else 0) else μ (14 + 4 * j) := fun j hj => by rw [mv_sd hk hj, adM_o (by omega) (by omega) (by omega) (by omega), adM_o (by omega) (by omega) (by omega) (by omega)]
  have hbx : ∀ j, j < 5 → mvS (adM μ P k) C P k (15 + 4 * j) = if j = k then (if μ (14 + 4 * k) = 0 then bxS μ P 1 else bxS μ P 0) else μ (15 + 4 * j) := fun j hj => by rw [mv_bx hk hj, adM_o (by omega) (by omega) (by omega) (by omega), adM_o (by omega) (by omega) (by omega) (by omega), bxS_g hga hP, bxS_g hga hP]
  have hyn : ∀ j, j < 5 → mvS (adM μ P k) C P k (13 + 4 * j) = if j = k then μ (13 + 4 * k) + -1 else μ (13 + 4 * j) := fun j hj => by rw [mv_yn hk hj, adM_o (by omega) (by omega) (by omega) (by omega), adM_o (by omega) (by omega) (by omega) (by omega)]
  have hhi : ∀ i, 104 ≤ i → mvS (adM μ P k) C P k i = adM μ P k i := fun i hi => mvS_o hk (by omega) (by omega)
  have hrow : ∀ r w, w < 9 → r < 19 → mvS (adM μ P k) C P k (104 + w + 9 * (r + 1)) = μ (104 + w + 9 * r) := fun r w hw hr => by rw [hhi _ (by omega), ad_row hw hr]
  have hthS : thS (a1 μ k) (a1 μ k (56 + 3 * P)) 12 = thS σ (σ (56 + 3 * P)) 12 := by
    have e : EqG C (a1 μ k) σ := fun i h1 h2 => by rw [a1_o (by omega), hA i h1]
    rw [e (56 + 3 * P) (by omega) (by omega), thS_g e 12 (Nat.le_refl _)]
  refine ⟨C, goP P C, (if R < 20 then R + 1 else 20), n, (if B < 20 then B + 1 else 20), ⟨?_, ?_, Or.inl (goP_lt hP), hC16⟩, fun i hi => ?_, ⟨c7, by split <;> omega⟩, ⟨(ar_v hn20).2.2.2.2.2.2.2, hn20⟩, fun r hr => ?_, ⟨c8', by split <;> split <;> omega⟩, ?_, UN_mv hUa h0a hk hfa, ?_⟩
  · rw [lm_o (by omega) (by omega), mvS_0 hk, arR2_o (by omega)]; exact g.1
  · rw [lm_o (by omega) (by omega), mvS_1]
  · by_cases e6 : i = 6
    · subst e6
      rw [lmS, pk_un (by omega), pk_us, mvS_o hk (by omega) (by omega), mvS_o hk (by omega) (by omega), arR2_o (by omega), ad_6, hA 6 (by omega)]
    by_cases e7 : i = 7
    · subst e7
      rw [c7, mvS_o hk (by omega) (by omega), ad_7, h7μ, (n20 hR20).2]
    by_cases e8 : i = 8
    · subst e8
      rw [c8', mvS_o hk (by omega) (by omega), ad_8, h8μ, (n20 (by omega)).2]
    rw [lm_o e6 e8]
    by_cases e9 : i < 6 ∨ 12 ≤ i
    · exact hmg i hi e9
    · rw [mvS_o hk (by omega) (by omega), mvS_o hk (by omega) (by omega), arR2_o e7, adM_o (by omega) e6 e7 e8, hA i hi]
  · cases r with
    | zero =>
      rw [sl_0 hn20]
      obtain ⟨v0, v1, v2, v3, v4, v5, v6, -⟩ := ar_v (σ := σ) (ρ := ρ) (P := P) (k := k) hn20
      refine ⟨?_, ?_, ?_, ?_, ?_, ?_, ?_⟩
      · rw [v0, hhi _ (by omega)]; exact (ad_104 hk).trans (hA _ (by omega)).symm
      · rw [v1, hhi _ (by omega)]; exact (ad_105 hk).trans hthS
      · rw [v3, hhi _ (by omega)]; exact (ad_106 hk).trans (hA _ (by omega)).symm
      · rw [v5, hhi _ (by omega)]; exact (ad_107 hk).trans (hA _ (by omega)).symm
      · rw [v6, hhi _ (by omega)]; exact (ad_108 hk).trans (hA _ (by omega)).symm
      · rw [v4, hhi _ (by omega)]; exact (ad_109 hk).trans (hA _ (by omega)).symm
      · rw [v2, hhi _ (by omega)]; exact ad_110 hk
    | succ r1 =>
      have hr1 : r1 < R ∧ r1 < 19 := by
        by_cases q : R < 20
        · rw [if_pos q] at hr; omega
        · rw [if_neg q] at hr; omega
      obtain ⟨w0, w1, w2, w3, w4, w5, w6⟩ := hW r1 hr1.1
      have hsl := sl_lt lt r1
      have hne : sl lt r1 ≠ n := by rw [← hn]; exact sl_ne hlt20 hr1.2
      rw [show sl n (r1 + 1) = sl lt r1 by rw [← hn]; exact sl_n hlt20 (by omega)]
      refine ⟨?_, ?_, ?_, ?_, ?_, ?_, ?_⟩
      · rw [arR_o hn20 hsl (by omega) hne]; exact (hrow r1 0 (by omega) hr1.2).trans w0
      · rw [arR_o hn20 hsl (by omega) hne]; exact (hrow r1 1 (by omega) hr1.2).trans w1
      · rw [arR_o hn20 hsl (by omega) hne]; exact (hrow r1 2 (by omega) hr1.2).trans w2
      · rw [arR_o hn20 hsl (by omega) hne]; exact (hrow r1 3 (by omega) hr1.2).trans w3
      · rw [arR_o hn20 hsl (by omega) hne]; exact (hrow r1 4 (by omega) hr1.2).trans w4
      · rw [arR_o hn20 hsl (by omega) hne]; exact (hrow r1 5 (by omega) hr1.2).trans w5
      · rw [arR_o hn20 hsl (by omega) hne]; exact (hrow r1 6 (by omega) hr1.2).trans w6
  · have k110 : mvS (adM μ P k) C P k (110 + 9 * 0) = nI k := (hhi 110 (by omega)).trans (ad_110 hk)
    have k106 : mvS (adM μ P k) C P k (106 + 9 * 0) = nI P := ((hhi 106 (by omega)).trans (ad_106 hk)).trans g'.2.1
    have k107 : mvS (adM μ P k) C P k (107 + 9 * 0) = μ 3 := (hhi 107 (by omega)).trans (ad_107 hk)
    have k108 : mvS (adM μ P k) C P k (108 + 9 * 0) = μ 4 := (hhi 108 (by omega)).trans (ad_108 hk)
    have k111 : mvS (adM μ P k) C P k (111 + 9 * 0) = μ (14 + 4 * k) := (hhi 111 (by omega)).trans (ad_111 hk)
    have k112 : mvS (adM μ P k) C P k (112 + 9 * 0) = μ (15 + 4 * k) := (hhi 112 (by omega)).trans (ad_112 hk)
    have hE : EqT μ (tk (mvS (adM μ P k) C P k) 0 k (mvS (adM μ P k) C P k)) := by
      refine ⟨by rw [tk_3, k107], by rw [tk_4, k108], fun j hj => ⟨?_, ?_, ?_⟩⟩
      · rw [tk_sd, k111, hsd j hj]
        by_cases q : j = k
        · subst q; rw [if_pos rfl]
        · rw [if_neg q, if_neg q]
      · rw [tk_bx, k112, hbx j hj]
        by_cases q : j = k
        · subst q; rw [if_pos rfl]
        · rw [if_neg q, if_neg q]
      · rw [tk_yn, hyn j hj, hyn k hk, if_pos rfl]
        by_cases q : j = k
        · subst q; rw [if_pos rfl, Int32.add_assoc, show (-1 : Int32) + 1 = 0 by decide, Int32.add_zero]
        · rw [if_neg q, if_neg q]
    obtain ⟨b1, hb1, hb2, hb3⟩ : ∃ b1, (if B < 20 then B + 1 else 20) = b1 + 1 ∧ b1 ≤ B ∧ b1 ≤ 19 := by
      by_cases q : B < 20
      · exact ⟨B, by rw [if_pos q], by omega, by omega⟩
      · exact ⟨19, by rw [if_neg q], by omega, by omega⟩
    rw [hb1]
    refine ⟨k, hk, k110, ⟨P, hP, k106⟩, ?_, UN_t hE hU, YB_t hE hY, ?_⟩
    · rw [k111, k112, hsd k hk, if_pos rfl, mvS_3 hk, mvS_4 hk, bxS_g hga hP, bxS_g hga hP]
      rcases fly_bx hk hfμ with q | q
      · exact Or.inl ⟨q.1, by rw [if_pos q.1], q.2⟩
      · exact Or.inr ⟨q.1, by rw [if_neg (by rw [q.1]; decide)], q.2⟩
    · refine CH_c b1 0 (0 + 1) _ _ hE (fun j w hj hw => ?_) (CH_le b1 B 0 _ hb2 hC)
      rw [show 0 + 1 + j = j + 1 by omega, show 0 + j = j by omega]
      exact hrow j w hw (by omega)
  · intro j hj
    rw [hyn j hj]
    by_cases q : j = k
    · rw [if_pos q]
      have hy := rsC_y h0μ hk hfμ
      refine ⟨dec_nn hy, ?_⟩
      obtain ⟨m, hm, e⟩ := nI_cases (n := 99) (by omega) (hY k hk).1 (hY k hk).2
      rw [e] at hy ⊢
      have hm0 : 0 < m := by
        rcases Nat.eq_zero_or_pos m with z0 | z0
        · subst z0; exact absurd hy (by decide)
        · exact z0
      rw [← sub1, show nI m - 1 = nI (m - 1) from pk_sub (b := 1) (by omega)]
      exact (nI_leI (b := 99) (by omega) (by omega)).mpr (by omega)
    · rw [if_neg q]; exact hY j hj
/-- only the numbers of a stop change -/
theorem Rl_lo {σ ρ μ σ' μ' : Nat → Int32} (h : Rl σ ρ μ) (hs : ∀ i, i ≠ 9 → i ≠ 10 → i ≠ 11 → σ' i = σ i) (hm : ∀ i, i ≠ 9 → i ≠ 10 → i ≠ 11 → μ' i = μ i) (h9 : σ' 9 = μ' 9) (h10 : σ' 10 = μ' 10) (h11 : σ' 11 = μ' 11) : Rl σ' ρ μ' := by
  obtain ⟨C, P, R, lt, B, g, hA, ⟨h7, hR20⟩, hl, hW, ⟨h8, hBR⟩, hC, hU, hY⟩ := h
  have ht : EqT μ μ' := ⟨(hm _ (by omega) (by omega) (by omega)).symm, (hm _ (by omega) (by omega) (by omega)).symm, fun j hj => ⟨(hm _ (by omega) (by omega) (by omega)).symm, (hm _ (by omega) (by omega) (by omega)).symm, (hm _ (by omega) (by omega) (by omega)).symm⟩⟩
  refine ⟨C, P, R, lt, B, ⟨(hs 0 (by omega) (by omega) (by omega)).trans g.1, (hs 1 (by omega) (by omega) (by omega)).trans g.2.1, g.2.2⟩, fun i hi => ?_, ⟨(hs 7 (by omega) (by omega) (by omega)).trans h7, hR20⟩, hl, fun r hr => ?_, ⟨(hs 8 (by omega) (by omega) (by omega)).trans h8, hBR⟩, CH_c B 0 0 _ _ ht (fun j w hj hw => hm _ (by omega) (by omega) (by omega)) hC, UN_t ht hU, YB_t ht hY⟩
  · by_cases e9 : i = 9
    · subst e9; exact h9
    by_cases e10 : i = 10
    · subst e10; exact h10
    by_cases e11 : i = 11
    · subst e11; exact h11
    rw [hs i e9 e10 e11, hm i e9 e10 e11]; exact hA i hi
  · obtain ⟨w0, w1, w2, w3, w4, w5, w6⟩ := hW r hr
    exact ⟨(hm _ (by omega) (by omega) (by omega)).trans w0, (hm _ (by omega) (by omega) (by omega)).trans w1, (hm _ (by omega) (by omega) (by omega)).trans w2, (hm _ (by omega) (by omega) (by omega)).trans w3, (hm _ (by omega) (by omega) (by omega)).trans w4, (hm _ (by omega) (by omega) (by omega)).trans w5, (hm _ (by omega) (by omega) (by omega)).trans w6⟩
theorem Rl_stop {σ ρ μ : Nat → Int32} (hR : Rl σ ρ μ) (z : ¬ rsG' σ = 0) : Rl (nsS' σ (rsG' σ)) ρ (stM μ (rsG' μ) (rnM' μ)) := by
  obtain ⟨C, P, R, lt, B, g, hA, h7, hl, hW, h8, hC, hU, hY⟩ := id hR
  have hC16 := g.2.2.2
  have hg : EqG C σ μ := eA_g hA
  have g' : GC C P μ := GC_g hg g
  have hr := rsG'_g hg g
  have hP1 : nt (σ 1) = P := nt_of g.2.1 (by have := g.2.2; omega)
  have hP2 : nt (μ 1) = P := nt_of g'.2.1 (by have := g.2.2; omega)
  have hn : nTold (upd σ 9 (rsG' σ)) P (rsG' σ) = rnM' μ := by
    rw [rnM', hP2, rnM, ← hr, if_neg z]
    by_cases h0 : C = 0
    · have e1 : rsG' σ = 1 := by rw [rsG'_c g, rsG, if_pos h0]
      rw [e1, nTold, nTold, if_neg (by decide), if_neg (by decide), if_neg (by decide), if_neg (by decide), if_neg (by decide), if_neg (by decide), if_neg (by decide), if_neg (by decide)]
    · exact nTold_g (C := C) (eg_updL hg (by omega)) (by have := g.2.2.1; omega)
  rw [nsS', nsS, hP1, hn, stM, ← hr]
  refine Rl_lo hR (fun i h9 h10 h11 => by rw [pk_un h11, pk_un h10, pk_un h9]) (fun i h9 h10 h11 => by rw [pk_un h11, pk_un h10, pk_un h9]) ?_ ?_ ?_
  · rw [pk_un (by omega), pk_un (by omega), pk_us, pk_un (by omega), pk_un (by omega), pk_us]
  · rw [pk_un (by omega), pk_us, pk_un (by omega), pk_us]
  · rw [pk_us, pk_us, pk_un (by omega), pk_un (by omega), hA 11 (by omega)]
theorem Rl_weave : ∀ n m (σ ρ μ : Nat → Int32), Rl σ ρ μ → wvC n m σ = wmC n m μ ∧ Rl (wvS n σ) (wvR n σ ρ) (wmS n μ)
  | 0, m, σ, ρ, μ, h => ⟨rfl, h⟩
  | n + 1, m, σ, ρ, μ, h => by
    have hr : rsG' σ = rsG' μ := by
      obtain ⟨C, P, R, lt, B, g, hA, -⟩ := h
      exact rsG'_g (eA_g hA) g
    rw [wvC, wmC, wvS, wvR, wmS]
    by_cases z : rsG' σ = 0
    · rw [if_pos z, if_pos (hr.symm.trans z), if_pos z, if_pos z, if_pos (hr.symm.trans z)]
      exact Rl_weave n (m + 1) _ _ _ (Rl_pick h z)
    · rw [if_neg z, if_neg (fun q => z (hr.trans q)), if_neg z, if_neg z, if_neg (fun q => z (hr.trans q))]
      exact ⟨rfl, Rl_stop h z⟩
