/-! a pick of the law's arrays is a pick of the class's gear -/
theorem and_1 (x : Int32) : x &&& 1 = 0 ∨ x &&& 1 = 1 := by
  have h : x.toBitVec &&& 1#32 = 0#32 ∨ x.toBitVec &&& 1#32 = 1#32 := by
    have e : x.toBitVec &&& 1#32 = BitVec.ofNat 32 (x.toBitVec.toNat % 2) := by
      apply BitVec.eq_of_toNat_eq
      rw [BitVec.toNat_and, BitVec.toNat_ofNat, BitVec.toNat_ofNat, show 1 % 2 ^ 32 = 1 from rfl, Nat.and_one_is_mod]
      omega
    rcases Nat.mod_two_eq_zero_or_one x.toBitVec.toNat with q | q
    · left; rw [e, q]
    · right; rw [e, q]
  rcases h with h | h
  · exact Or.inl (Int32.toBitVec_inj.mp h)
  · exact Or.inr (Int32.toBitVec_inj.mp h)
theorem xor_and1 (x y : Int32) : (x ^^^ y) &&& 1 = (x &&& 1) ^^^ (y &&& 1) := by
  apply Int32.toBitVec_inj.mp
  rw [Int32.toBitVec_and, Int32.toBitVec_xor, Int32.toBitVec_xor, Int32.toBitVec_and, Int32.toBitVec_and]
  ext i
  simp only [BitVec.getElem_and, BitVec.getElem_xor]
  cases x.toBitVec[i] <;> cases y.toBitVec[i] <;> simp
theorem xor_bit (a b s : Int32) : ((a ^^^ b) >>> s) &&& 1 = 1 ↔ ¬ (a >>> s) &&& 1 = (b >>> s) &&& 1 := by
  rw [Int32.shiftRight_xor, xor_and1]
  rcases and_1 (a >>> s) with p | p <;> rcases and_1 (b >>> s) with q | q <;> rw [p, q] <;> decide
theorem xor_bit0 (a b s : Int32) : ((a ^^^ b) >>> s) &&& 1 = 0 ↔ (a >>> s) &&& 1 = (b >>> s) &&& 1 := by
  rw [Int32.shiftRight_xor, xor_and1]
  rcases and_1 (a >>> s) with p | p <;> rcases and_1 (b >>> s) with q | q <;> rw [p, q] <;> decide
theorem fl_eq {C P : Nat} {σ q h t c : Nat → Int32} (hA : RA C σ q h t c) (hV : VR C σ) (hP : P < C) : flA h c P = flyN σ P := by
  rw [flA, on_0 hA hV hP, on_1 hA hV hP, flyN]
  by_cases z : onS σ P 0 < 0
  · rw [if_pos z, if_pos (lt0_6 z)]
  · rw [if_neg z, if_neg (ge0_k (Int32.not_lt.mp z))]
theorem fly_on {σ : Nat → Int32} {P k : Nat} (hk : k < 5) (h : flyN σ P = nI k) : (¬ onS σ P 0 < 0 ∧ σ (14 + 4 * k) = 0) ∨ (onS σ P 0 < 0 ∧ σ (14 + 4 * k) = 1) := by
  unfold flyN at h
  by_cases q : onS σ P 0 = -6
  · rw [if_pos q] at h
    exact Or.inr ⟨by rw [q]; decide, (fnd_at hk h).1⟩
  · rw [if_neg q] at h
    exact Or.inl ⟨fun z => q (lt0_6 z), (fnd_at hk h).1⟩
theorem pkT_ev {q c : Nat → Int32} {P : Nat} {t : Nat → Int32} {j : Nat} : ∀ n, pkT q c P t n (2 * j) = t (2 * j)
  | 0 => rfl
  | n + 1 => by rw [pkT, pk_un (by omega), pkT_ev n]
theorem pkT_od {q c : Nat → Int32} {P : Nat} {t : Nat → Int32} {j : Nat} : ∀ n, pkT q c P t n (2 * j + 1) = if j < n then t (2 * j + 1) - (if (q 5 >>> (t (2 * j) &&& 31)) &&& 1 = (c (3 * P) >>> (t (2 * j) &&& 31)) &&& 1 then 0 else 1) else t (2 * j + 1)
  | 0 => (if_neg (Nat.not_lt_zero _)).symm
  | n + 1 => by
    rw [pkT]
    by_cases e : j = n
    · subst e
      rw [pk_us, pkT_ev j, pkT_od j, if_neg (Nat.lt_irrefl _), if_pos (Nat.lt_succ_self _)]
    · rw [pk_un (by omega), pkT_od n]
      by_cases h : j < n
      · rw [if_pos h, if_pos (show j < n + 1 by omega)]
      · rw [if_neg h, if_neg (show ¬ j < n + 1 by omega)]
theorem mv_t {σ : Nat → Int32} {C P k i : Nat} (hk : k < 5) (h1 : 32 ≤ i) (h2 : i < 56) : mvS σ C P k i = mvS2 σ P i := by
  rw [mvS, pk_un (by omega), mvS4, flS_out hk (by omega), mvS3, pk_un (by omega)]
theorem mv_fr {σ : Nat → Int32} {C P k j : Nat} (hk : k < 5) (hj : j < 12) : mvS σ C P k (32 + 2 * j) = σ (32 + 2 * j) := by
  rw [mv_t hk (by omega) (by omega), mvS2, wrK_ev, mvS1_o (by omega)]
theorem mv_st {σ : Nat → Int32} {C P k j : Nat} (hk : k < 5) (hj : j < 12) : mvS σ C P k (33 + 2 * j) = σ (33 + 2 * j) - (if (σ 5 >>> (σ (32 + 2 * j) &&& 31)) &&& 1 = (σ (56 + 3 * P) >>> (σ (32 + 2 * j) &&& 31)) &&& 1 then 0 else 1) := by
  rw [mv_t hk (by omega) (by omega), mvS2, wrK, mvS1_o (i := 5) (by omega), mvS1_o (i := 56 + 3 * P) (by omega), show 33 + 2 * j - 1 = 32 + 2 * j by omega, mvS1_o (i := 32 + 2 * j) (by omega), mvS1_o (i := 33 + 2 * j) (by omega)]
  by_cases z : (σ 5 >>> (σ (32 + 2 * j) &&& 31)) &&& 1 = (σ (56 + 3 * P) >>> (σ (32 + 2 * j) &&& 31)) &&& 1
  · rw [if_pos z, if_neg (fun w => (xor_bit _ _ _).mp w.2 z), Int32.sub_zero]
  · rw [if_neg z, if_pos ⟨⟨by omega, by omega, by omega⟩, (xor_bit _ _ _).mpr z⟩]
theorem mv_co {σ : Nat → Int32} {C P k j : Nat} (hk : k < 5) (hj : j < 5) : mvS σ C P k (12 + 4 * j) = σ (12 + 4 * j) := by
  rw [mvS, pk_un (by omega), mvS4, flS]
  split <;> rw [pk_un (by omega), pk_un (by omega), pk_un (by omega), mvS3_o (by omega) (by omega)]
theorem mv_3 {σ : Nat → Int32} {C P k : Nat} (hk : k < 5) : mvS σ C P k 3 = σ (57 + 3 * P) := by
  rw [mvS, pk_un (by omega), mvS4, flS_out hk (by omega), mv3_3]; exact if_pos rfl
theorem mv_4 {σ : Nat → Int32} {C P k : Nat} (hk : k < 5) : mvS σ C P k 4 = σ (58 + 3 * P) := by
  rw [mvS, pk_un (by omega), mvS4, flS_out hk (by omega), mv3_4]; exact if_neg (by decide)
theorem mv_5 {σ : Nat → Int32} {C P k : Nat} (hk : k < 5) : mvS σ C P k 5 = σ (56 + 3 * P) := by
  rw [mvS, pk_un (by omega), mvS4, flS_out hk (by omega), mvS3, pk_us, mvS2_o (by omega) (by omega)]
theorem goP_mod {P C : Nat} (h : P < C) : (P + 1) % C = goP P C := by
  unfold goP
  by_cases e : C ≤ P + 1
  · rw [if_pos e, show P + 1 = C by omega, Nat.mod_self]
  · rw [if_neg e, Nat.mod_eq_of_lt (by omega)]
theorem RA_mv {C P k : Nat} {σ q h t c : Nat → Int32} (hA : RA C σ q h t c) (g9 : GC C P σ) (hV : VR C σ) (hP : P < C) (hk : k < 5) (hf : flyN σ P = nI k) : RA C (mvS σ C P k) (pkQ q c P) (pkH h c P k) (pkT q c P t 12) c := by
  have c0 : c (3 * P) = σ (56 + 3 * P) := hA.2.2.2 _ (by omega)
  have c1 : c (3 * P + 1) = σ (57 + 3 * P) := (hA.2.2.2 _ (by omega)).trans (congrArg σ (by omega))
  have c2 : c (3 * P + 2) = σ (58 + 3 * P) := (hA.2.2.2 _ (by omega)).trans (congrArg σ (by omega))
  have hC16 := g9.2.2.2
  refine ⟨fun i hi => ?_, fun j hj => ?_, fun i hi => ?_, fun i hi => ?_⟩
  · unfold pkQ pkQ3
    by_cases e1 : i = 1
    · subst e1
      rw [pk_us, pk_un (by omega), pk_un (by omega), pk_un (by omega), pk_un (by omega), pk_un (by omega), pk_un (by omega), hA.1 1 (by omega), hA.1 0 (by omega), g9.1, g9.2.1, show nI P + 1 = nI (P + 1) from nI_add P 1, pk_rem (by omega) (by omega) (by omega), goP_mod hP, mvS_1]
    rw [pk_un e1]
    by_cases e5 : i = 5
    · subst e5; rw [pk_us, mv_5 hk, c0]
    rw [pk_un e5]
    by_cases e4 : i = 4
    · subst e4; rw [pk_us, mv_4 hk, c2]
    rw [pk_un e4]
    by_cases e3 : i = 3
    · subst e3; rw [pk_us, mv_3 hk, c1]
    rw [pk_un e3, hA.1 i hi, mvS_o hk (by omega) (by omega)]
  · obtain ⟨h1, h2, h3⟩ := hA.2.1 j hj
    unfold pkH pkH2
    refine ⟨?_, ?_, ?_⟩
    · rw [pk_un (by omega), pk_un (by omega), h1, mv_co hk hj]
    · rw [mv_yn hk hj]
      by_cases e : j = k
      · subst e; rw [pk_us, if_pos rfl, pk_un (by omega), h2, sub1]
      · rw [pk_un (by omega), pk_un (by omega), if_neg e, h2]
    · rw [pk_un (by omega), wh, mv_sd hk hj, mv_bx hk hj]
      by_cases e : j = k
      · subst e
        rw [pk_us, if_pos rfl, if_pos rfl, on_0 hA hV hP, c1, c2]
        rcases fly_on hk hf with ⟨z, w⟩ | ⟨z, w⟩
        · rw [if_neg z, if_pos w, if_neg (by decide), if_pos w, bxS_1, show 10 * (1 : Int32) = 10 from rfl]
        · rw [if_pos z, w, if_neg (by decide), if_neg (by decide), if_neg (by decide), bxS_0, show 10 * (0 : Int32) = 0 from rfl, Int32.zero_add]
      · rw [pk_un (by omega), if_neg e, if_neg e, h3, wh]
  · obtain ⟨j, e⟩ : ∃ j, i = 2 * j ∨ i = 2 * j + 1 := ⟨i / 2, by omega⟩
    rcases e with e | e
    · subst e
      rw [pkT_ev 12, hA.2.2.1 _ hi, mv_fr hk (by omega)]
    · subst e
      have t0 : t (2 * j) = σ (32 + 2 * j) := hA.2.2.1 _ (by omega)
      have t1 : t (2 * j + 1) = σ (33 + 2 * j) := (hA.2.2.1 _ hi).trans (congrArg σ (by omega))
      rw [pkT_od 12, if_pos (by omega), show 32 + (2 * j + 1) = 33 + 2 * j by omega, mv_st hk (by omega), t0, t1, c0, hA.1 5 (by omega)]
  · rw [hA.2.2.2 i hi, mvS_o hk (by omega) (by omega)]
theorem VR_mv {C P k : Nat} {σ : Nat → Int32} (hV : VR C σ) (hP : P < C) (hC16 : C ≤ 16) (hk : k < 5) : VR C (mvS σ C P k) := by
  obtain ⟨v1, v2, v3, v4, v5⟩ := hV
  obtain ⟨⟨a, ha, e1⟩, b, hb, e2⟩ := v5 P hP
  refine ⟨fun j hj => ?_, ?_, ⟨a, ha, (mv_3 hk).trans e1⟩, ⟨b, by omega, (mv_4 hk).trans e2⟩, fun p hp => ?_⟩
  · rw [mv_sd hk hj, mv_bx hk hj]
    by_cases e : j = k
    · rw [if_pos e, if_pos e]
      by_cases z : σ (14 + 4 * k) = 0
      · rw [if_pos z, if_pos z, bxS_1]; exact Or.inr (Or.inr ⟨rfl, b, hb, e2⟩)
      · rw [if_neg z, if_neg z, bxS_0]; exact Or.inr (Or.inl ⟨rfl, a, ha, e1⟩)
    · rw [if_neg e, if_neg e]; exact v1 j hj
  · rw [mvS_o hk (by omega) (by omega)]; exact v2
  · rw [mvS_o hk (by omega) (by omega), mvS_o hk (by omega) (by omega)]; exact v5 p hp
