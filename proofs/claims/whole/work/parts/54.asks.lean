/-! the answers, on both sides -/
theorem rg_nI {k n : Nat} {b : Int32} (hb : b = nI n) (hn : n < 2 ^ 31) (h : k ≤ n) : (0 : Int32) ≤ nI k ∧ nI k ≤ b := by
  subst hb
  exact ⟨(nI_leI (a := 0) (by omega) (by omega)).mpr (by omega), (nI_leI (by omega) hn).mpr h⟩
theorem cnF_m {σ μ : Nat → Int32} {v : Int32} (h : ∀ i, i < 56 → σ i = μ i) : cnF σ v = cnF μ v := by
  rw [cnF, cnF]
  by_cases hv : (0 : Int32) ≤ v ∧ v ≤ (11 : Int32)
  · obtain ⟨k, hk, rfl⟩ := nI_cases (n := 11) (by omega) hv.1 hv.2
    rw [if_pos hv, if_pos hv, nt_nI (by omega), h k (by omega)]
  · rw [if_neg hv, if_neg hv]
theorem shF_m {σ μ : Nat → Int32} {v w : Int32} (h : ∀ i, i < 56 → σ i = μ i) : shF σ v w = shF μ v w := by
  rw [shF, shF]
  by_cases hv : (0 : Int32) ≤ v ∧ v ≤ (4 : Int32)
  · obtain ⟨k, hk, rfl⟩ := nI_cases (n := 4) (by omega) hv.1 hv.2
    rw [if_pos hv, if_pos hv, nt_nI (by omega)]
    by_cases hw : (0 : Int32) ≤ w ∧ w ≤ (3 : Int32)
    · obtain ⟨j, hj, rfl⟩ := nI_cases (n := 3) (by omega) hw.1 hw.2
      rw [if_pos hw, if_pos hw, nt_nI (by omega), h _ (by omega)]
    · rw [if_neg hw, if_neg hw]
  · rw [if_neg hv, if_neg hv]
theorem ibF_m {C : Nat} {σ μ : Nat → Int32} {a b : Int32} (h : EqG C σ μ) : ibF σ a b = ibF μ a b := by
  rw [ibF, ibF, fnd_g h]
theorem lfB_m {x y : Int32} {σ : Nat → Int32} (h : σ 5 = y) : lfB σ x = (y >>> (x &&& 31)) &&& 1 := by
  rw [lfB, h]
  rcases bit01 (y >>> (x &&& 31)) with q | q
  · rw [q, if_neg (by decide)]
  · rw [q, if_pos rfl]
theorem thF_n {σ μ : Nat → Int32} {k : Nat} (h : ∀ i, i < 56 → σ i = μ i) (hk : k < 12) : σ (32 + 2 * k) = ofT μ k 0 ∧ σ (33 + 2 * k) = ofT μ k 1 ∧ lfB σ (σ (32 + 2 * k)) = ofT μ k 2 := by
  refine ⟨?_, ?_, ?_⟩
  · rw [ofT, if_pos (by decide)]; exact h _ (by omega)
  · rw [ofT, if_pos (by decide)]; exact h _ (by omega)
  · rw [ofT, if_neg (by decide), lfB_m (h 5 (by omega)), h (32 + 2 * k) (by omega)]
theorem thF_m {σ μ : Nat → Int32} {v w : Int32} (h : ∀ i, i < 56 → σ i = μ i) : thF σ v w = thM μ v w := by
  rw [thF, thM]
  by_cases hv : (0 : Int32) ≤ v ∧ v ≤ (11 : Int32)
  · obtain ⟨k, hk, rfl⟩ := nI_cases (n := 11) (by omega) hv.1 hv.2
    obtain ⟨t0, t1, t2⟩ := thF_n h (show k < 12 by omega)
    rw [if_pos hv, if_pos hv, nt_nI (by omega)]
    rcases sw02 w with rfl | rfl | rfl | q
    · rw [if_pos rfl, if_pos (by decide), t0]; rfl
    · rw [if_neg (by decide), if_pos rfl, if_pos (by decide), t1]; rfl
    · rw [if_neg (by decide), if_neg (by decide), if_pos rfl, if_pos (by decide), t2]; rfl
    · rw [if_neg (show ¬ w = 0 from fun e => by rw [e] at q; exact absurd q (by decide)), if_neg (show ¬ w = 1 from fun e => by rw [e] at q; exact absurd q (by decide)), if_neg (show ¬ w = 2 from fun e => by rw [e] at q; exact absurd q (by decide)), if_neg (nin (by decide) q)]
  · rw [if_neg hv, if_neg hv]
theorem cdF_n {σ μ : Nat → Int32} {C k : Nat} (h : ∀ i, i < 56 + 3 * C → σ i = μ i) (hk : k < C) : σ (56 + 3 * k) = ofC μ k 0 ∧ bxS σ k 0 = ofC μ k 1 ∧ bxS σ k 1 = ofC μ k 2 ∧ thS σ (σ (56 + 3 * k)) 12 = ofC μ k 3 := by
  refine ⟨?_, ?_, ?_, ?_⟩
  · rw [ofC, if_pos (by decide)]; exact h _ (by omega)
  · rw [ofC, if_pos (by decide), bxS_0]; exact h _ (by omega)
  · rw [ofC, if_pos (by decide), bxS_1]; exact h _ (by omega)
  · rw [ofC, if_neg (by decide), h (56 + 3 * k) (by omega), thS_g (eA_g h) 12 (Nat.le_refl _)]
theorem cdF_m {σ μ : Nat → Int32} {C : Nat} {v w : Int32} (h : ∀ i, i < 56 + 3 * C → σ i = μ i) (hC : σ 0 = nI C) (hC16 : C ≤ 16) : cdF σ v w = cdM μ v w := by
  rw [cdF, cdM, ← h 0 (by omega)]
  by_cases hv : (0 : Int32) ≤ v ∧ v < σ 0 ∧ v < 16
  · obtain ⟨k, hk, rfl⟩ := of_has hC hC16 hv
    obtain ⟨t0, t1, t2, t3⟩ := cdF_n h hk
    rw [if_pos hv, if_pos hv, nt_nI (by omega)]
    rcases sw03 w with rfl | rfl | rfl | rfl | q
    · rw [if_pos rfl, if_pos (by decide), t0]; rfl
    · rw [if_neg (by decide), if_pos rfl, if_pos (by decide), t1]; rfl
    · rw [if_neg (by decide), if_neg (by decide), if_pos rfl, if_pos (by decide), t2]; rfl
    · rw [if_neg (by decide), if_neg (by decide), if_neg (by decide), if_pos rfl, if_pos (by decide), t3]; rfl
    · rw [if_neg (show ¬ w = 0 from fun e => by rw [e] at q; exact absurd q (by decide)), if_neg (show ¬ w = 1 from fun e => by rw [e] at q; exact absurd q (by decide)), if_neg (show ¬ w = 2 from fun e => by rw [e] at q; exact absurd q (by decide)), if_neg (show ¬ w = 3 from fun e => by rw [e] at q; exact absurd q (by decide)), if_neg (nin (by decide) q)]
  · rw [if_neg hv, if_neg hv]
theorem clF_n {ρ μ : Nat → Int32} {lt r : Nat} {t : Int32} (hW : RW ρ μ (sl lt r) r) : (if (ρ (1 + 7 * sl lt r) >>> (t &&& 31)) &&& 1 = 1 then 100 + t else ρ (0 + 7 * sl lt r)) = shM μ r t := by
  rw [shM, hW.1, hW.2.1]
theorem row_i {v : Int32} {R : Nat} (hR20 : R ≤ 20) : ((0 : Int32) ≤ v ∧ v < nI R) ↔ ((0 : Int32) ≤ v ∧ v ≤ nI R - 1) := by
  have e1 : (nI R - 1).toInt = (R : Int) - 1 := by
    rcases Nat.eq_zero_or_pos R with z | z
    · subst z; decide
    · rw [show nI R - 1 = nI (R - 1) from pk_sub (b := 1) (by omega), nI_toInt (by omega)]; omega
  have e2 : (nI R).toInt = R := nI_toInt (by omega)
  simp only [Int32.le_iff_toInt_le, Int32.lt_iff_toInt_lt, e1, e2]
  omega
theorem clF_m {σ ρ μ : Nat → Int32} {lt R : Nat} {v t : Int32} (h7 : σ 7 = nI R) (h7μ : μ 7 = nI R) (hR20 : R ≤ 20) (hW : ∀ r, r < R → RW ρ μ (sl lt r) r) : clF σ ρ lt v t = clM μ v t := by
  rw [clF, clM, h7, h7μ]
  by_cases hv : (0 : Int32) ≤ v ∧ v < nI R
  · rw [if_pos hv, if_pos ((row_i hR20).mp hv)]
    obtain ⟨r, hr, e⟩ := nI_cases (n := R) (by omega) hv.1 (Int32.le_of_lt hv.2)
    have hr2 : r < R := lt_of_nI (by omega) (by omega) (by rw [← e]; exact hv.2)
    rw [e, nt_nI (by omega), clF_n (hW r hr2)]
  · rw [if_neg hv, if_neg (fun q => hv ((row_i hR20).mpr q))]
theorem lfb_m {ρ μ : Nat → Int32} {lt r : Nat} {t : Int32} (hW : RW ρ μ (sl lt r) r) : lfb ρ lt t r = mbit μ t r := by
  rw [lfb, mbit, hW.2.1]
  rcases bit01 (ρ (1 + 7 * sl lt r) >>> (t &&& 31)) with q | q
  · rw [q, bI_f (by decide)]
  · rw [q, bI_t rfl]
theorem lfN_m {ρ μ : Nat → Int32} {lt R : Nat} {t : Int32} (hW : ∀ r, r < R → RW ρ μ (sl lt r) r) : ∀ k, k ≤ R → lfN ρ lt t k = mfN μ t k
  | 0, _ => rfl
  | k + 1, hk => by
    rw [lfN, mfN, lfN_m hW k (by omega), lfb_m (hW k (by omega)), lfb_m (hW (k - 1) (by omega))]
theorem lfM_m {ρ μ : Nat → Int32} {lt R : Nat} {t : Int32} (hW : ∀ r, r < R → RW ρ μ (sl lt r) r) : ∀ k, k ≤ R → lfM ρ lt t k = mfM μ t k
  | 0, _ => rfl
  | k + 1, hk => by rw [lfM, mfM, lfM_m hW k (by omega), lfN_m hW (k + 1) hk]
theorem lgF_m {ρ μ : Nat → Int32} {lt R : Nat} {t : Int32} (hW : ∀ r, r < R → RW ρ μ (sl lt r) r) : lgF ρ lt R t = lgM μ R t := by
  rw [lgF, lgM, lfM_m hW R (Nat.le_refl _)]
theorem rp_m {C P : Nat} {σ μ : Nat → Int32} (h : EqG C σ μ) (g : GC C P σ) : (if C = 0 then (0 : Int32) else rpC C (upd σ 1 0) σ) = rpA μ C := by
  rw [rpA]
  by_cases q : C = 0
  · rw [if_pos q, if_pos q]
  · rw [if_neg q, if_neg q]
    exact rpC_g h C 0 _ _ ⟨(pk_un (by omega)).trans g.1, pk_us, by omega, g.2.2.2⟩ (eg_upd h rfl)
theorem hsA_c {h h' : Int64} {f f' : Nat → Int32} (e : h = h') : ∀ n, (∀ i, i < n → f i = f' i) → hsA h f n = hsA h' f' n
  | 0, _ => e
  | n + 1, hf => by rw [hsA, hsA, hsA_c e n (fun i hi => hf i (by omega)), hf n (by omega)]
theorem hoS_m {σ μ : Nat → Int32} {h h' : Int64} (hA : ∀ i, i < 56 → σ i = μ i) (e : h = h') : ∀ s, s ≤ 5 → hoS σ h s = hqS μ h' s
  | 0, _ => e
  | s + 1, hs => by
    rw [hoS, hqS]
    refine hsA_c (hoS_m hA e s (by omega)) 4 (fun w hw => ?_)
    rw [shF, if_pos (rg_nI (k := s) (b := 4) (n := 4) rfl (by omega) (by omega)), if_pos (rg_nI (k := w) (b := 3) (n := 3) rfl (by omega) (by omega)), nt_nI (by omega), nt_nI (by omega), hA _ (by omega)]
    exact congrArg μ (by omega)
theorem hoT_m {σ ρ μ : Nat → Int32} {lt R : Nat} {h h' : Int64} (hA : ∀ i, i < 56 → σ i = μ i) (hW : ∀ r, r < R → RW ρ μ (sl lt r) r) (e : h = h') : ∀ s, s ≤ 12 → hoT σ ρ lt R h s = hqT μ R h' s
  | 0, _ => e
  | s + 1, hs => by
    have h1 : hsA (hoT σ ρ lt R h s) (fun w => thF σ (nI s) (nI w)) 3 = hsA (hqT μ R h' s) (fun w => ofT μ s w) 3 := by
      refine hsA_c (hoT_m hA hW e s (by omega)) 3 (fun w hw => ?_)
      rw [thF_m hA, thM, if_pos (rg_nI (k := s) (b := 11) (n := 11) rfl (by omega) (by omega)), if_pos (rg_nI (k := w) (b := 2) (n := 2) rfl (by omega) (by omega)), nt_nI (by omega), nt_nI (by omega)]
    have h2 : lgF ρ lt R (nI s) = mfM μ (nI s) R := by rw [lgF_m hW, lgM, if_pos (rg_nI (k := s) (b := 11) (n := 11) rfl (by omega) (by omega))]
    rw [hoT, hqT, h1, h2]
theorem hoC_m {σ μ : Nat → Int32} {C : Nat} {h h' : Int64} (hA : ∀ i, i < 56 + 3 * C → σ i = μ i) (hC : σ 0 = nI C) (hC16 : C ≤ 16) (e : h = h') : ∀ s, s ≤ C → hoC σ h s = hqC μ h' s
  | 0, _ => e
  | s + 1, hs => by
    rw [hoC, hqC]
    refine hsA_c (hoC_m hA hC hC16 e s (by omega)) 4 (fun w hw => ?_)
    have hv := has_nI hC (show s < C by omega) hC16
    rw [cdF_m hA hC hC16, cdM, ← hA 0 (by omega), if_pos hv, if_pos (rg_nI (k := w) (b := 3) (n := 3) rfl (by omega) (by omega)), nt_nI (by omega), nt_nI (by omega)]
theorem hoL_m {σ ρ μ : Nat → Int32} {lt R : Nat} {h h' : Int64} (h7 : σ 7 = nI R) (h7μ : μ 7 = nI R) (hR20 : R ≤ 20) (hW : ∀ r, r < R → RW ρ μ (sl lt r) r) (e : h = h') : ∀ s, s ≤ R → hoL σ ρ lt h s = hqL μ h' s
  | 0, _ => e
  | s + 1, hs => by
    rw [hoL, hqL]
    refine hsA_c (hoL_m h7 h7μ hR20 hW e s (by omega)) 12 (fun t ht => ?_)
    have hv : (0 : Int32) ≤ nI s ∧ nI s < nI R := ⟨(nI_leI (a := 0) (by omega) (by omega)).mpr (by omega), (nI_ltI (by omega) (by omega)).mpr (by omega)⟩
    rw [clF_m h7 h7μ hR20 hW, clM, h7μ, if_pos ((row_i hR20).mp hv), if_pos (rg_nI (k := t) (b := 11) (n := 11) rfl (by omega) (by omega)), nt_nI (by omega)]
theorem dg_m {σ ρ μ : Nat → Int32} {C P R lt : Nat} (g : GC C P σ) (hA : ∀ i, i < 56 + 3 * C → σ i = μ i) (h7 : σ 7 = nI R) (hR20 : R ≤ 20) (hW : ∀ r, r < R → RW ρ μ (sl lt r) r) : dgF σ ρ lt R C P = dgM μ R C P := by
  have hA56 : ∀ i, i < 56 → σ i = μ i := fun i hi => hA i (by omega)
  have h7μ : μ 7 = nI R := (hA 7 (by omega)).symm.trans h7
  have h1 : hsA 334 (fun w => cnF σ (nI w)) 12 = hsA 334 (fun w => μ w) 12 := by
    refine hsA_c rfl 12 (fun w hw => ?_)
    rw [cnF, if_pos (rg_nI (k := w) (b := 11) (n := 11) rfl (by omega) (by omega)), nt_nI (by omega), hA _ (by omega)]
  have h5 := hoL_m h7 h7μ hR20 hW (hoC_m hA g.1 g.2.2.2 (hoT_m hA56 hW (hoS_m hA56 h1 5 (Nat.le_refl _)) 12 (Nat.le_refl _)) C (Nat.le_refl _)) R (Nat.le_refl _)
  rw [dgF, dgM, h5, rsG_g (eA_g hA) g.2.2.1, plC_g 200 0 P σ μ g (eA_g hA), feC_g 999 P σ μ g (eA_g hA), rp_m (eA_g hA) g]
