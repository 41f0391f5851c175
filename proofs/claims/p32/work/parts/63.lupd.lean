/-! the relation under single changes -/
theorem RA_q {C i : Nat} {σ q h t c : Nat → Int32} {x : Int32} (hA : RA C σ q h t c) (hi : i < 12) : RA C (upd σ i x) (upd q i x) h t c := by
  refine ⟨fun j hj => ?_, fun k hk => ?_, fun j hj => ?_, fun j hj => ?_⟩
  · by_cases e : j = i
    · subst e; rw [pk_us, pk_us]
    · rw [pk_un e, pk_un e]; exact hA.1 j hj
  · rw [wh, pk_un (by omega), pk_un (by omega), pk_un (by omega), pk_un (by omega)]; exact hA.2.1 k hk
  · rw [pk_un (by omega)]; exact hA.2.2.1 j hj
  · rw [pk_un (by omega)]; exact hA.2.2.2 j hj
theorem RA_t {C i : Nat} {σ q h t c : Nat → Int32} {x : Int32} (hA : RA C σ q h t c) (hi : i < 24) : RA C (upd σ (32 + i) x) q h (upd t i x) c := by
  refine ⟨fun j hj => ?_, fun k hk => ?_, fun j hj => ?_, fun j hj => ?_⟩
  · rw [pk_un (by omega)]; exact hA.1 j hj
  · rw [wh, pk_un (by omega), pk_un (by omega), pk_un (by omega), pk_un (by omega)]; exact hA.2.1 k hk
  · by_cases e : j = i
    · subst e; rw [pk_us, pk_us]
    · rw [pk_un e, pk_un (by omega)]; exact hA.2.2.1 j hj
  · rw [pk_un (by omega)]; exact hA.2.2.2 j hj
theorem RA_co {C k : Nat} {σ q h t c : Nat → Int32} {x : Int32} (hA : RA C σ q h t c) (hk : k < 5) : RA C (upd σ (12 + 4 * k) x) q (upd h (3 * k) x) t c := by
  refine ⟨fun j hj => ?_, fun j hj => ?_, fun j hj => ?_, fun j hj => ?_⟩
  · rw [pk_un (by omega)]; exact hA.1 j hj
  · obtain ⟨h1, h2, h3⟩ := hA.2.1 j hj
    refine ⟨?_, ?_, ?_⟩
    · by_cases e : j = k
      · subst e; rw [pk_us, pk_us]
      · rw [pk_un (by omega), pk_un (by omega)]; exact h1
    · rw [pk_un (by omega), pk_un (by omega)]; exact h2
    · rw [wh, pk_un (by omega), pk_un (by omega), pk_un (by omega)]; exact h3
  · rw [pk_un (by omega)]; exact hA.2.2.1 j hj
  · rw [pk_un (by omega)]; exact hA.2.2.2 j hj
theorem RA_yn {C k : Nat} {σ q h t c : Nat → Int32} {x : Int32} (hA : RA C σ q h t c) (hk : k < 5) : RA C (upd σ (13 + 4 * k) x) q (upd h (3 * k + 1) x) t c := by
  refine ⟨fun j hj => ?_, fun j hj => ?_, fun j hj => ?_, fun j hj => ?_⟩
  · rw [pk_un (by omega)]; exact hA.1 j hj
  · obtain ⟨h1, h2, h3⟩ := hA.2.1 j hj
    refine ⟨?_, ?_, ?_⟩
    · rw [pk_un (by omega), pk_un (by omega)]; exact h1
    · by_cases e : j = k
      · subst e; rw [pk_us, pk_us]
      · rw [pk_un (by omega), pk_un (by omega)]; exact h2
    · rw [wh, pk_un (by omega), pk_un (by omega), pk_un (by omega)]; exact h3
  · rw [pk_un (by omega)]; exact hA.2.2.1 j hj
  · rw [pk_un (by omega)]; exact hA.2.2.2 j hj
theorem RA_pl {C k : Nat} {σ q h t c : Nat → Int32} {a x v : Int32} (hA : RA C σ q h t c) (hk : k < 5) (hv : v = if a = -6 then -1 else 10 * a + x) : RA C (upd (upd σ (14 + 4 * k) a) (15 + 4 * k) x) q (upd h (3 * k + 2) v) t c := by
  refine ⟨fun j hj => ?_, fun j hj => ?_, fun j hj => ?_, fun j hj => ?_⟩
  · rw [pk_un (by omega), pk_un (by omega)]; exact hA.1 j hj
  · obtain ⟨h1, h2, h3⟩ := hA.2.1 j hj
    refine ⟨?_, ?_, ?_⟩
    · rw [pk_un (by omega), pk_un (by omega), pk_un (by omega)]; exact h1
    · rw [pk_un (by omega), pk_un (by omega), pk_un (by omega)]; exact h2
    · rw [wh]
      by_cases e : j = k
      · subst e; rw [pk_us, pk_us, pk_un (f := upd σ (14 + 4 * j) a) (by omega), pk_us]; exact hv
      · rw [pk_un (by omega), pk_un (by omega), pk_un (by omega), pk_un (by omega), pk_un (by omega)]; exact h3
  · rw [pk_un (by omega), pk_un (by omega)]; exact hA.2.2.1 j hj
  · rw [pk_un (by omega), pk_un (by omega)]; exact hA.2.2.2 j hj
/-- a state that agrees where the ranges look -/
theorem VR_of {C : Nat} {σ σ' : Nat → Int32} (h : VR C σ) (e : ∀ i, (i = 2 ∨ i = 3 ∨ i = 4 ∨ (12 ≤ i ∧ i < 32 ∧ (i % 4 = 2 ∨ i % 4 = 3)) ∨ 56 ≤ i) → σ' i = σ i) : VR C σ' := by
  refine ⟨fun k hk => ?_, ?_, ?_, ?_, fun p hp => ?_⟩
  · rw [e (14 + 4 * k) (by omega), e (15 + 4 * k) (by omega)]; exact h.1 k hk
  · rw [e 2 (by omega)]; exact h.2.1
  · rw [e 3 (by omega)]; exact h.2.2.1
  · rw [e 4 (by omega)]; exact h.2.2.2.1
  · rw [e (57 + 3 * p) (by omega), e (58 + 3 * p) (by omega)]; exact h.2.2.2.2 p hp
theorem FR_of {σ σ' : Nat → Int32} (h : FR σ) (e : ∀ k, k < 12 → σ' (32 + 2 * k) = σ (32 + 2 * k)) : FR σ' := fun k hk => by rw [e k hk]; exact h k hk
theorem YB_of {σ σ' : Nat → Int32} (h : YB σ) (e : ∀ k, k < 5 → σ' (13 + 4 * k) = σ (13 + 4 * k)) : YB σ' := fun k hk => by rw [e k hk]; exact h k hk
/-- everything that holds of one loom and the arrays -/
def RQ (C P R lt B : Nat) (σ ρ q h t c w b b2 : Nat → Int32) : Prop := GC C P σ ∧ RA C σ q h t c ∧ VR C σ ∧ FR σ ∧ YB σ ∧ (σ 7 = nI R ∧ R ≤ 20) ∧ (ρ 140 = nI lt ∧ lt < 20) ∧ RC R lt ρ w ∧ (σ 8 = nI B ∧ B ≤ R) ∧ KH C ρ lt (enB b b2) B 0 σ
/-- after a change nothing can be taken back -/
theorem RQ_ch {C P R lt B C' P' : Nat} {σ ρ q h t c w b b2 σ' q' h' t' c' : Nat → Int32} (H : RQ C P R lt B σ ρ q h t c w b b2) (g' : GC C' P' σ') (hA : RA C' σ' q' h' t' c') (hV : VR C' σ') (hF : FR σ') (hY : YB σ') (h7 : σ' 7 = σ 7) (h8 : σ' 8 = 0) : RQ C' P' R lt 0 σ' ρ q' h' t' c' w b b2 := by
  obtain ⟨-, -, -, -, -, ⟨r1, r2⟩, l1, rc, -, -⟩ := H
  exact ⟨g', hA, hV, hF, hY, ⟨h7.trans r1, r2⟩, l1, rc, ⟨h8, Nat.zero_le _⟩, trivial⟩
theorem GC_c8 {C P : Nat} {σ : Nat → Int32} (g : GC C P σ) {i : Nat} {x : Int32} (h0 : i ≠ 0) (h1 : i ≠ 1) : GC C P (upd σ i x) := ⟨(pk_un h0.symm).trans g.1, (pk_un h1.symm).trans g.2.1, g.2.2⟩
/-- colour and yarn of a shuttle, its place -/
theorem RQ_wind {C P R lt B k y : Nat} {σ ρ q h t c w b b2 : Nat → Int32} {x v : Int32} (H : RQ C P R lt B σ ρ q h t c w b b2) (hk : k < 5) (hy : y < 100) (hv : v = nI y) : RQ C P R lt 0 (upd (upd (c8 σ) (12 + 4 * k) x) (13 + 4 * k) v) ρ (upd q 8 0) (upd (upd h (3 * k) x) (3 * k + 1) v) t c w b b2 := by
  subst hv
  have g9 := H.1
  refine RQ_ch H (GC_c8 (GC_c8 (GC_c8 g9 (by omega) (by omega)) (by omega) (by omega)) (by omega) (by omega)) (RA_yn (RA_co (RA_q H.2.1 (by omega)) hk) hk) (VR_of H.2.2.1 fun i hi => ?_) (FR_of H.2.2.2.1 fun j hj => ?_) (fun j hj => ?_) ?_ ?_
  · rw [pk_un (by omega), pk_un (by omega), c8, pk_un (by omega)]
  · rw [pk_un (by omega), pk_un (by omega), c8, pk_un (by omega)]
  · by_cases e : j = k
    · subst e; rw [pk_us]; exact le_nI (n := 99) (by omega) (by omega)
    · rw [pk_un (by omega), pk_un (by omega), c8, pk_un (by omega)]; exact H.2.2.2.2.1 j hj
  · rw [pk_un (by omega), pk_un (by omega), c8, pk_un (by omega)]
  · rw [pk_un (by omega), pk_un (by omega), c8, pk_us]
theorem RQ_place {C P R lt B k : Nat} {σ ρ q h t c w b b2 : Nat → Int32} {a x v : Int32} (H : RQ C P R lt B σ ρ q h t c w b b2) (hk : k < 5) (ha : (a = -6 ∧ x = -6) ∨ (a = 0 ∧ ∃ z, z < 4 ∧ x = nI z) ∨ (a = 1 ∧ ∃ z, z < 2 ∧ x = nI z)) (hv : v = if a = -6 then -1 else 10 * a + x) : RQ C P R lt 0 (upd (upd (c8 σ) (14 + 4 * k) a) (15 + 4 * k) x) ρ (upd q 8 0) (upd h (3 * k + 2) v) t c w b b2 := by
  have g9 := H.1
  have hV := H.2.2.1
  refine RQ_ch H (GC_c8 (GC_c8 (GC_c8 g9 (by omega) (by omega)) (by omega) (by omega)) (by omega) (by omega)) (RA_pl (RA_q H.2.1 (by omega)) hk hv) ⟨fun j hj => ?_, ?_, ?_, ?_, fun p hp => ?_⟩ (FR_of H.2.2.2.1 fun j hj => ?_) (YB_of H.2.2.2.2.1 fun j hj => ?_) ?_ ?_
  · by_cases e : j = k
    · subst e; rw [pk_us, pk_un (by omega), pk_us]; exact ha
    · rw [pk_un (by omega), pk_un (by omega), pk_un (by omega), pk_un (by omega), c8, pk_un (by omega), pk_un (by omega)]; exact hV.1 j hj
  · rw [pk_un (by omega), pk_un (by omega), c8, pk_un (by omega)]; exact hV.2.1
  · rw [pk_un (by omega), pk_un (by omega), c8, pk_un (by omega)]; exact hV.2.2.1
  · rw [pk_un (by omega), pk_un (by omega), c8, pk_un (by omega)]; exact hV.2.2.2.1
  · rw [pk_un (by omega), pk_un (by omega), c8, pk_un (by omega), pk_un (by omega), pk_un (by omega), pk_un (by omega)]; exact hV.2.2.2.2 p hp
  · rw [pk_un (by omega), pk_un (by omega), c8, pk_un (by omega)]
  · rw [pk_un (by omega), pk_un (by omega), c8, pk_un (by omega)]
  · rw [pk_un (by omega), pk_un (by omega), c8, pk_un (by omega)]
  · rw [pk_un (by omega), pk_un (by omega), c8, pk_us]
