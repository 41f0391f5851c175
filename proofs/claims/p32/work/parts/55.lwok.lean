/-! the reason and its number, as the law packs them -/
def WOK (r n : Int32) : Prop := ((r = 0 ∨ r = 1 ∨ r = 5) ∧ n = -6) ∨ ((r = 2 ∨ r = 3 ∨ r = 4 ∨ r = 6) ∧ ∃ k, k < 12 ∧ n = nI k)
theorem wy_fin : ∀ k, k < 12 → ∀ j, j < 7 → 2 ≤ j → (rsn (100 * nI j + nI k + 6) = nI j ∧ nbr (100 * nI j + nI k + 6) = nI k ∧ ¬ 100 * nI j + nI k + 6 = 0) := by decide +kernel
theorem wyV_4 {r n : Int32} (h0 : ¬ r = 0) (h1 : ¬ r = 1) (h5 : ¬ r = 5) : wyV r n = 100 * r + n + 6 := by
  rw [wyV, if_neg h0, if_neg h1, if_neg h5]
theorem wok_j {j k : Nat} {r : Int32} (e : r = nI j) (h2 : 2 ≤ j) (h7 : j < 7) (h5 : ¬ j = 5) (hk : k < 12) : (wyV r (nI k) = 0 ↔ r = 0) ∧ rsn (wyV r (nI k)) = r ∧ nbr (wyV r (nI k)) = nI k := by
  subst e
  have n0 : ¬ nI j = 0 := nI_ne0 (by omega) (by omega)
  have n1 : ¬ nI j = 1 := fun q => absurd ((nI_eq (b := 1) (by omega) (by omega)).mp q) (by omega)
  have n5 : ¬ nI j = 5 := fun q => absurd ((nI_eq (b := 5) (by omega) (by omega)).mp q) h5
  rw [wyV_4 n0 n1 n5]
  obtain ⟨a, b, c⟩ := wy_fin k hk j h7 h2
  exact ⟨⟨fun q => absurd q c, fun q => absurd q n0⟩, a, b⟩
theorem wok_v {r n : Int32} (h : WOK r n) : (wyV r n = 0 ↔ r = 0) ∧ rsn (wyV r n) = r ∧ nbr (wyV r n) = n := by
  rcases h with ⟨rfl | rfl | rfl, rfl⟩ | ⟨rfl | rfl | rfl | rfl, k, hk, rfl⟩
  · decide
  · decide
  · decide
  · exact wok_j (j := 2) rfl (by omega) (by omega) (by omega) hk
  · exact wok_j (j := 3) rfl (by omega) (by omega) (by omega) hk
  · exact wok_j (j := 4) rfl (by omega) (by omega) (by omega) hk
  · exact wok_j (j := 6) rfl (by omega) (by omega) (by omega) hk
theorem nT_n {σ : Nat → Int32} {P : Nat} {r : Int32} (h : r = 0 ∨ r = 1 ∨ r = 5) : nTold σ P r = -6 := by
  rcases h with rfl | rfl | rfl <;> rw [nTold, if_neg (by decide), if_neg (by decide), if_neg (by decide), if_neg (by decide)]
theorem nT_2 {σ : Nat → Int32} {P : Nat} : nTold σ P 2 = fbF σ 12 0 := by rw [nTold, if_pos rfl]
theorem nT_3 {σ : Nat → Int32} {P : Nat} : nTold σ P 3 = stf σ P := by rw [nTold, if_neg (by decide), if_pos rfl]
theorem nT_4 {σ : Nat → Int32} {P : Nat} : nTold σ P 4 = onS σ P 0 := by rw [nTold, if_neg (by decide), if_neg (by decide), if_pos rfl]
theorem nT_6 {σ : Nat → Int32} {P : Nat} : nTold σ P 6 = flyN σ P := by rw [nTold, if_neg (by decide), if_neg (by decide), if_neg (by decide), if_pos rfl]
theorem fbF_k {σ : Nat → Int32} : ∀ n k, n + k = 12 → ¬ fbF σ n k = -6 → ∃ j, j < 12 ∧ fbF σ n k = nI j
  | 0, _, _, h => absurd (by rw [fbF]) h
  | n + 1, k, hk, h => by
    rw [fbF] at h ⊢
    by_cases q : σ (33 + 2 * k) = 0
    · rw [if_pos q]; exact ⟨k, by omega, rfl⟩
    · rw [if_neg q] at h ⊢; exact fbF_k n (k + 1) (by omega) h
theorem wok_C (σ : Nat → Int32) (C P : Nat) : WOK (rsC σ C P) (nTold σ P (rsC σ C P)) := by
  by_cases h1 : C = 0
  · have e : rsC σ C P = 1 := by rw [rsC, if_pos h1]
    rw [e]; exact Or.inl ⟨Or.inr (Or.inl rfl), nT_n (Or.inr (Or.inl rfl))⟩
  by_cases h2 : ¬ onS σ P 0 = -6 ∧ ¬ onS σ P 1 = -6
  · have e : rsC σ C P = 4 := by rw [rsC, if_neg h1, if_pos h2]
    obtain ⟨k, hk, ek⟩ := onS_nI h2.1
    rw [e]; exact Or.inr ⟨Or.inr (Or.inr (Or.inl rfl)), k, by omega, by rw [nT_4, ek]⟩
  by_cases h3 : onS σ P 0 = -6 ∧ onS σ P 1 = -6
  · have e : rsC σ C P = 5 := by rw [rsC, if_neg h1, if_neg h2, if_pos h3]
    rw [e]; exact Or.inl ⟨Or.inr (Or.inr rfl), nT_n (Or.inr (Or.inr rfl))⟩
  by_cases h4 : 0 < σ (13 + 4 * (flyN σ P).toNatClampNeg)
  · have e : rsC σ C P = 0 := by rw [rsC, if_neg h1, if_neg h2, if_neg h3, if_pos h4]
    rw [e]; exact Or.inl ⟨Or.inl rfl, nT_n (Or.inl rfl)⟩
  · have e : rsC σ C P = 6 := by rw [rsC, if_neg h1, if_neg h2, if_neg h3, if_neg h4]
    rw [e]
    refine Or.inr ⟨Or.inr (Or.inr (Or.inr rfl)), ?_⟩
    rw [nT_6, flyN]
    by_cases q : onS σ P 0 = -6
    · rw [if_pos q]
      obtain ⟨k, hk, ek⟩ := onS_nI (fun z => h3 ⟨q, z⟩)
      exact ⟨k, by omega, ek⟩
    · rw [if_neg q]
      obtain ⟨k, hk, ek⟩ := onS_nI q
      exact ⟨k, by omega, ek⟩
theorem wok_G (σ : Nat → Int32) (C P : Nat) : WOK (rsG σ C P) (nTold σ P (rsG σ C P)) := by
  by_cases h1 : C = 0
  · have e : rsG σ C P = 1 := by rw [rsG, if_pos h1]
    rw [e]; exact Or.inl ⟨Or.inr (Or.inl rfl), nT_n (Or.inr (Or.inl rfl))⟩
  by_cases h2 : ¬ fbF σ 12 0 = -6
  · have e : rsG σ C P = 2 := by rw [rsG, if_neg h1, if_pos h2]
    obtain ⟨k, hk, ek⟩ := fbF_k 12 0 rfl h2
    rw [e]; exact Or.inr ⟨Or.inl rfl, k, hk, by rw [nT_2, ek]⟩
  by_cases h3 : ¬ stf σ P = -6
  · have e : rsG σ C P = 3 := by rw [rsG, if_neg h1, if_neg h2, if_pos h3]
    rw [e]
    refine Or.inr ⟨Or.inr (Or.inl rfl), ?_⟩
    rw [nT_3]
    unfold stf at h3 ⊢
    by_cases q : 4 - σ 2 < farV σ P 0 0
    · rw [if_pos q]; exact ⟨0, by omega, rfl⟩
    · rw [if_neg q] at h3 ⊢
      by_cases q2 : 4 - σ 2 < farV σ P 1 1
      · rw [if_pos q2]; exact ⟨1, by omega, rfl⟩
      · rw [if_neg q2] at h3; exact absurd rfl h3
  have e : rsG σ C P = rsC σ C P := by rw [rsG, if_neg h1, if_neg h2, if_neg h3]
  rw [e]; exact wok_C σ C P
/-- picks of the law's arrays, one after another -/
def pkA (c : Nat → Int32) (A : (Nat → Int32) × (Nat → Int32) × (Nat → Int32)) : (Nat → Int32) × (Nat → Int32) × (Nat → Int32) := (pkQ A.1 c (nt (A.1 1)), pkH A.2.1 c (nt (A.1 1)) (nt (flA A.2.1 c (nt (A.1 1)))), pkT A.1 c (nt (A.1 1)) A.2.2 12)
def itA (c : Nat → Int32) : Nat → (Nat → Int32) × (Nat → Int32) × (Nat → Int32) → (Nat → Int32) × (Nat → Int32) × (Nat → Int32)
  | 0, A => A
  | n + 1, A => itA c n (pkA c A)
def cG : Nat → (Nat → Int32) → Nat
  | 0, _ => 0
  | n + 1, σ => if rsG' σ = 0 then cG n (mvS' σ) + 1 else 0
def cC : Nat → (Nat → Int32) → Nat
  | 0, _ => 0
  | n + 1, σ => if rsC' σ = 0 then cC n (mvS' σ) + 1 else 0
theorem pkA_eq {C P k : Nat} {σ q h t c : Nat → Int32} (hA : RA C σ q h t c) (g9 : GC C P σ) (hV : VR C σ) (hP : P < C) (hk : k < 5) (hf : flyN σ P = nI k) : pkA c (q, h, t) = (pkQ q c P, pkH h c P k, pkT q c P t 12) := by
  have hC16 := g9.2.2.2
  have e1 : nt (q 1) = P := nt_of ((hA.1 1 (by omega)).trans g9.2.1) (by omega)
  have e2 : nt (flA h c P) = k := nt_of ((fl_eq hA hV hP).trans hf) (by omega)
  unfold pkA
  show (pkQ q c (nt (q 1)), pkH h c (nt (q 1)) (nt (flA h c (nt (q 1)))), pkT q c (nt (q 1)) t 12) = _
  rw [e1, e2]
/-- a copy, k elements done of n -/
def cpM (f : Nat → Int32) (n k : Nat) : Nat → Int32 := fun i => if i < k ∧ i < n then f i else 0
theorem cpM_0 {f : Nat → Int32} {n : Nat} : cpM f n 0 = fun _ => 0 := by
  funext i; rw [cpM, if_neg (by omega)]
theorem cpM_in {f : Nat → Int32} {n k : Nat} (h : k < n) : cpM f n (k + 1) = upd (cpM f n k) k (f k) := by
  funext i
  by_cases e : i = k
  · subst e; rw [pk_us, cpM, if_pos ⟨by omega, h⟩]
  · rw [pk_un e, cpM, cpM]
    by_cases z : i < k ∧ i < n
    · rw [if_pos z, if_pos (by omega)]
    · rw [if_neg z, if_neg (by omega)]
theorem cpM_out {f : Nat → Int32} {n k : Nat} (h : n ≤ k) : cpM f n (k + 1) = cpM f n k := by
  funext i
  rw [cpM, cpM]
  by_cases z : i < k ∧ i < n
  · rw [if_pos z, if_pos (by omega)]
  · rw [if_neg z, if_neg (by omega)]
theorem cpM_at {f : Nat → Int32} {n k i : Nat} (h1 : i < k) (h2 : i < n) : cpM f n k i = f i := if_pos ⟨h1, h2⟩
theorem RA_cp {C : Nat} {σ q h t c : Nat → Int32} (hA : RA C σ q h t c) : RA C σ (cpM q 12 24) (cpM h 15 24) (cpM t 24 24) c := by
  refine ⟨fun i hi => ?_, fun k hk => ?_, fun i hi => ?_, hA.2.2.2⟩
  · rw [cpM_at (by omega) hi]; exact hA.1 i hi
  · rw [cpM_at (by omega) (by omega), cpM_at (by omega) (by omega), cpM_at (by omega) (by omega)]; exact hA.2.1 k hk
  · rw [cpM_at hi hi]; exact hA.2.2.1 i hi
theorem RA_q1 {C : Nat} {σ q h t c : Nat → Int32} (hA : RA C σ q h t c) : RA C (upd σ 1 0) (upd q 1 0) h t c := by
  refine ⟨fun i hi => ?_, fun k hk => ?_, fun i hi => ?_, fun i hi => ?_⟩
  · by_cases e : i = 1
    · subst e; rw [pk_us, pk_us]
    · rw [pk_un e, pk_un e]; exact hA.1 i hi
  · rw [wh, pk_un (by omega), pk_un (by omega), pk_un (by omega), pk_un (by omega)]; exact hA.2.1 k hk
  · rw [pk_un (by omega)]; exact hA.2.2.1 i hi
  · rw [pk_un (by omega)]; exact hA.2.2.2 i hi
theorem GC_q1 {C P : Nat} {σ : Nat → Int32} (g : GC C P σ) : GC C 0 (upd σ 1 0) := ⟨(pk_un (by omega)).trans g.1, pk_us, by omega, g.2.2.2⟩
theorem VR_q1 {C : Nat} {σ : Nat → Int32} (h : VR C σ) : VR C (upd σ 1 0) := by
  refine ⟨fun k hk => ?_, ?_, ?_, ?_, fun p hp => ?_⟩
  · rw [pk_un (by omega), pk_un (by omega)]; exact h.1 k hk
  · rw [pk_un (by omega)]; exact h.2.1
  · rw [pk_un (by omega)]; exact h.2.2.1
  · rw [pk_un (by omega)]; exact h.2.2.2.1
  · rw [pk_un (by omega), pk_un (by omega)]; exact h.2.2.2.2 p hp
theorem YN_q1 {σ : Nat → Int32} (h : YN σ) : YN (upd σ 1 0) := fun k hk => by rw [pk_un (by omega)]; exact h k hk
theorem wh_fin : ∀ a, a < 4 → ∀ b, b < 4 → ((10 * (0 : Int32) + nI a = 10 * 0 + nI b ↔ nI a = nI b) ∧ (10 * (1 : Int32) + nI a = 10 * 1 + nI b ↔ nI a = nI b) ∧ ¬ 10 * (1 : Int32) + nI a = 10 * 0 + nI b ∧ ¬ 10 * (0 : Int32) + nI a = 10 * 1 + nI b ∧ ¬ (-1 : Int32) = 10 * 0 + nI b ∧ ¬ (-1 : Int32) = 10 * 1 + nI b ) := by decide +kernel
theorem wh_inj {C : Nat} {σ φ : Nat → Int32} (h1 : VR C σ) (h2 : VR C φ) {k : Nat} (hk : k < 5) : wh σ k = wh φ k ↔ (σ (14 + 4 * k) = φ (14 + 4 * k) ∧ σ (15 + 4 * k) = φ (15 + 4 * k)) := by
  have f := wh_fin
  rcases h1.1 k hk with ⟨a1, a2⟩ | ⟨a1, a, ha, a2⟩ | ⟨a1, a, ha, a2⟩ <;> rcases h2.1 k hk with ⟨b1, b2⟩ | ⟨b1, b, hb, b2⟩ | ⟨b1, b, hb, b2⟩
  · rw [wh_d a1, wh_d b1, a1, b1, a2, b2]; exact ⟨fun _ => ⟨rfl, rfl⟩, fun _ => rfl⟩
  · rw [wh_d a1, wh_0 b1, a1, b1, b2]; exact ⟨fun q => absurd q (f 0 (by omega) b hb).2.2.2.2.1, fun q => absurd q.1 (by decide)⟩
  · rw [wh_d a1, wh_1 b1, a1, b1, b2]; exact ⟨fun q => absurd q (f 0 (by omega) b (by omega)).2.2.2.2.2, fun q => absurd q.1 (by decide)⟩
  · rw [wh_0 a1, wh_d b1, a1, b1, a2]; exact ⟨fun q => absurd q.symm (f 0 (by omega) a ha).2.2.2.2.1, fun q => absurd q.1 (by decide)⟩
  · rw [wh_0 a1, wh_0 b1, a1, b1, a2, b2]; exact ⟨fun q => ⟨rfl, (f a ha b hb).1.mp q⟩, fun q => (f a ha b hb).1.mpr q.2⟩
  · rw [wh_0 a1, wh_1 b1, a1, b1, a2, b2]; exact ⟨fun q => absurd q (f a ha b (by omega)).2.2.2.1, fun q => absurd q.1 (by decide)⟩
  · rw [wh_1 a1, wh_d b1, a1, b1, a2]; exact ⟨fun q => absurd q.symm (f 0 (by omega) a (by omega)).2.2.2.2.2, fun q => absurd q.1 (by decide)⟩
  · rw [wh_1 a1, wh_0 b1, a1, b1, a2, b2]; exact ⟨fun q => absurd q (f a (by omega) b hb).2.2.1, fun q => absurd q.1 (by decide)⟩
  · rw [wh_1 a1, wh_1 b1, a1, b1, a2, b2]; exact ⟨fun q => ⟨rfl, (f a (by omega) b (by omega)).2.1.mp q⟩, fun q => (f a (by omega) b (by omega)).2.1.mpr q.2⟩
theorem std_wh {C : Nat} {σ φ q h t c q2 h2 t2 : Nat → Int32} (hA : RA C σ q h t c) (hB : RA C φ q2 h2 t2 c) (hV : VR C σ) (hW : VR C φ) : (∀ x, x < 5 → h2 (3 * x + 2) = h (3 * x + 2)) ↔ stdB φ σ 5 = true := by
  rw [stdB_iff]
  constructor
  · intro z x hx
    have := z x hx
    rw [(hA.2.1 x hx).2.2, (hB.2.1 x hx).2.2] at this
    exact (wh_inj hW hV hx).mp this
  · intro z x hx
    rw [(hA.2.1 x hx).2.2, (hB.2.1 x hx).2.2]
    exact (wh_inj hW hV hx).mpr (z x hx)
