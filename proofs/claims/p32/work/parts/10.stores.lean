theorem ix_add {a b : Int32} {x y : Nat} (ha : a = nI x) (hb : b = nI y) : a + b = nI (x + y) := by rw [ha, hb, nI_add]
theorem ix_mul {a b : Int32} {x y : Nat} (ha : a = nI x) (hb : b = nI y) : a * b = nI (x * y) := by rw [ha, hb, pk_mul]
theorem ix_inc {a : Int32} {x : Nat} (ha : a = nI x) : a + Int32.ofInt 1 = nI (x + 1) := by rw [ha, nI_succ]; rfl
theorem ix_dec {a : Int32} {x : Nat} (ha : a = nI (x + 1)) : a + Int32.ofInt (-1) = nI x := by rw [ha]; exact pk_m1 x
theorem nI_cases {x : Int32} {n : Nat} (hn : n < 2 ^ 31) (h0 : 0 ≤ x) (h1 : x ≤ nI n) : ∃ k : Nat, k < n + 1 ∧ x = nI k := by
  have h : ¬ x < 0 := by
    intro h
    exact absurd h0 (Int32.not_le.mpr h)
  obtain ⟨j, hj, e⟩ := nI_of h
  refine ⟨j, ?_, e⟩
  rw [e] at h1
  have := (nI_leI hj hn).mp h1
  omega
theorem w_sh_1 {g : Ge} {o k : Nat} {σ : Nat → Int32} {v : Int32} (h : k < 5) : (shL g o σ).set 1 (iA g 5 (upd (vw σ 12 4 5) k v)) = shL g o (upd σ (12 + 4 * k) v) := s_sh1 h
theorem w_sh_2 {g : Ge} {o k : Nat} {σ : Nat → Int32} {v : Int32} (h : k < 5) : (shL g o σ).set 2 (iA g 5 (upd (vw σ 13 4 5) k v)) = shL g o (upd σ (13 + 4 * k) v) := s_sh2 h
theorem w_sh_3 {g : Ge} {o k : Nat} {σ : Nat → Int32} {v : Int32} (h : k < 5) : (shL g o σ).set 3 (iA g 5 (upd (vw σ 14 4 5) k v)) = shL g o (upd σ (14 + 4 * k) v) := s_sh3 h
theorem w_sh_4 {g : Ge} {o k : Nat} {σ : Nat → Int32} {v : Int32} (h : k < 5) : (shL g o σ).set 4 (iA g 5 (upd (vw σ 15 4 5) k v)) = shL g o (upd σ (15 + 4 * k) v) := s_sh4 h
theorem w_th_1 {g : Ge} {o k : Nat} {σ : Nat → Int32} {v : Int32} (h : k < 12) : (thL g o σ).set 1 (iA g 12 (upd (vw σ 32 2 12) k v)) = thL g o (upd σ (32 + 2 * k) v) := s_th1 h
theorem w_th_2 {g : Ge} {o k : Nat} {σ : Nat → Int32} {v : Int32} (h : k < 12) : (thL g o σ).set 2 (iA g 12 (upd (vw σ 33 2 12) k v)) = thL g o (upd σ (33 + 2 * k) v) := s_th2 h
theorem w_ch_1 {g : Ge} {o k : Nat} {σ : Nat → Int32} {v : Int32} (h : k < 16) : (chL g o σ).set 1 (iA g 16 (upd (vw σ 56 3 16) k v)) = chL g o (upd σ (56 + 3 * k) v) := s_ch1 h
theorem w_ch_2 {g : Ge} {o k : Nat} {σ : Nat → Int32} {v : Int32} (h : k < 16) : (chL g o σ).set 2 (iA g 16 (upd (vw σ 57 3 16) k v)) = chL g o (upd σ (57 + 3 * k) v) := s_ch2 h
theorem w_ch_3 {g : Ge} {o k : Nat} {σ : Nat → Int32} {v : Int32} (h : k < 16) : (chL g o σ).set 3 (iA g 16 (upd (vw σ 58 3 16) k v)) = chL g o (upd σ (58 + 3 * k) v) := s_ch3 h
theorem w_ch_0_cards {g : Ge} {o : Nat} {σ : Nat → Int32} {v : Int32} : (chL g o σ).set 0 (.inr (1, [.ref (o + 1), .ref (o + 2), .ref (o + 3), .int (v), .int (σ 1)])) = chL g o (upd σ 0 v) := s_ch_cards
theorem w_ch_0_place {g : Ge} {o : Nat} {σ : Nat → Int32} {v : Int32} : (chL g o σ).set 0 (.inr (1, [.ref (o + 1), .ref (o + 2), .ref (o + 3), .int (σ 0), .int (v)])) = chL g o (upd σ 1 v) := s_ch_place
theorem w_ge_0_speed {g : Ge} {o : Nat} {σ : Nat → Int32} {v : Int32} : (geL g o σ).set 0 (.inr (3, [.ref (o + 1), .ref (o + 6), .ref (o + 9), .ref (o + 13), .int (v), .int (σ 5)])) = geL g o (upd σ 2 v) := s_ge_speed
theorem w_ge_0_lifted {g : Ge} {o : Nat} {σ : Nat → Int32} {v : Int32} : (geL g o σ).set 0 (.inr (3, [.ref (o + 1), .ref (o + 6), .ref (o + 9), .ref (o + 13), .int (σ 2), .int (v)])) = geL g o (upd σ 5 v) := s_ge_lifted
theorem w_ge_13 {g : Ge} {o k : Nat} {σ : Nat → Int32} {v : Int32} (h : k < 2) : (geL g o σ).set 13 (iA g 2 (upd (vw σ 3 1 2) k v)) = geL g o (upd σ (3 + 1 * k) v) := s_ge_race h
theorem w_ge_2 {g : Ge} {o k : Nat} {σ : Nat → Int32} {v : Int32} (h : k < 5) : (geL g o σ).set 2 (iA g 5 (upd (vw σ 12 4 5) k v)) = geL g o (upd σ (12 + 4 * k) v) := by
  have e : (geL g o σ).set 2 (iA g 5 (upd (vw σ 12 4 5) k v)) = spl (geL g o σ) 1 ((shL g (o + 1) σ).set 1 (iA g 5 (upd (vw σ 12 4 5) k v))) := rfl
  rw [e, w_sh_1 h]
  exact geL_sh (fun i hi => pk_un (by omega))
theorem w_ge_3 {g : Ge} {o k : Nat} {σ : Nat → Int32} {v : Int32} (h : k < 5) : (geL g o σ).set 3 (iA g 5 (upd (vw σ 13 4 5) k v)) = geL g o (upd σ (13 + 4 * k) v) := by
  have e : (geL g o σ).set 3 (iA g 5 (upd (vw σ 13 4 5) k v)) = spl (geL g o σ) 1 ((shL g (o + 1) σ).set 2 (iA g 5 (upd (vw σ 13 4 5) k v))) := rfl
  rw [e, w_sh_2 h]
  exact geL_sh (fun i hi => pk_un (by omega))
theorem w_ge_4 {g : Ge} {o k : Nat} {σ : Nat → Int32} {v : Int32} (h : k < 5) : (geL g o σ).set 4 (iA g 5 (upd (vw σ 14 4 5) k v)) = geL g o (upd σ (14 + 4 * k) v) := by
  have e : (geL g o σ).set 4 (iA g 5 (upd (vw σ 14 4 5) k v)) = spl (geL g o σ) 1 ((shL g (o + 1) σ).set 3 (iA g 5 (upd (vw σ 14 4 5) k v))) := rfl
  rw [e, w_sh_3 h]
  exact geL_sh (fun i hi => pk_un (by omega))
theorem w_ge_5 {g : Ge} {o k : Nat} {σ : Nat → Int32} {v : Int32} (h : k < 5) : (geL g o σ).set 5 (iA g 5 (upd (vw σ 15 4 5) k v)) = geL g o (upd σ (15 + 4 * k) v) := by
  have e : (geL g o σ).set 5 (iA g 5 (upd (vw σ 15 4 5) k v)) = spl (geL g o σ) 1 ((shL g (o + 1) σ).set 4 (iA g 5 (upd (vw σ 15 4 5) k v))) := rfl
  rw [e, w_sh_4 h]
  exact geL_sh (fun i hi => pk_un (by omega))
theorem w_ge_7 {g : Ge} {o k : Nat} {σ : Nat → Int32} {v : Int32} (h : k < 12) : (geL g o σ).set 7 (iA g 12 (upd (vw σ 32 2 12) k v)) = geL g o (upd σ (32 + 2 * k) v) := by
  have e : (geL g o σ).set 7 (iA g 12 (upd (vw σ 32 2 12) k v)) = spl (geL g o σ) 6 ((thL g (o + 6) σ).set 1 (iA g 12 (upd (vw σ 32 2 12) k v))) := rfl
  rw [e, w_th_1 h]
  exact geL_th (fun i hi => pk_un (by omega))
theorem w_ge_8 {g : Ge} {o k : Nat} {σ : Nat → Int32} {v : Int32} (h : k < 12) : (geL g o σ).set 8 (iA g 12 (upd (vw σ 33 2 12) k v)) = geL g o (upd σ (33 + 2 * k) v) := by
  have e : (geL g o σ).set 8 (iA g 12 (upd (vw σ 33 2 12) k v)) = spl (geL g o σ) 6 ((thL g (o + 6) σ).set 2 (iA g 12 (upd (vw σ 33 2 12) k v))) := rfl
  rw [e, w_th_2 h]
  exact geL_th (fun i hi => pk_un (by omega))
theorem w_ge_10 {g : Ge} {o k : Nat} {σ : Nat → Int32} {v : Int32} (h : k < 16) : (geL g o σ).set 10 (iA g 16 (upd (vw σ 56 3 16) k v)) = geL g o (upd σ (56 + 3 * k) v) := by
  have e : (geL g o σ).set 10 (iA g 16 (upd (vw σ 56 3 16) k v)) = spl (geL g o σ) 9 ((chL g (o + 9) σ).set 1 (iA g 16 (upd (vw σ 56 3 16) k v))) := rfl
  rw [e, w_ch_1 h]
  exact geL_ch (fun i hi => pk_un (by omega))
theorem w_ge_11 {g : Ge} {o k : Nat} {σ : Nat → Int32} {v : Int32} (h : k < 16) : (geL g o σ).set 11 (iA g 16 (upd (vw σ 57 3 16) k v)) = geL g o (upd σ (57 + 3 * k) v) := by
  have e : (geL g o σ).set 11 (iA g 16 (upd (vw σ 57 3 16) k v)) = spl (geL g o σ) 9 ((chL g (o + 9) σ).set 2 (iA g 16 (upd (vw σ 57 3 16) k v))) := rfl
  rw [e, w_ch_2 h]
  exact geL_ch (fun i hi => pk_un (by omega))
theorem w_ge_12 {g : Ge} {o k : Nat} {σ : Nat → Int32} {v : Int32} (h : k < 16) : (geL g o σ).set 12 (iA g 16 (upd (vw σ 58 3 16) k v)) = geL g o (upd σ (58 + 3 * k) v) := by
  have e : (geL g o σ).set 12 (iA g 16 (upd (vw σ 58 3 16) k v)) = spl (geL g o σ) 9 ((chL g (o + 9) σ).set 3 (iA g 16 (upd (vw σ 58 3 16) k v))) := rfl
  rw [e, w_ch_3 h]
  exact geL_ch (fun i hi => pk_un (by omega))
theorem w_ge_9_cards {g : Ge} {o : Nat} {σ : Nat → Int32} {v : Int32} : (geL g o σ).set 9 (.inr (1, [.ref (o + 9 + 1), .ref (o + 9 + 2), .ref (o + 9 + 3), .int (v), .int (σ 1)])) = geL g o (upd σ 0 v) := by
  have e : (geL g o σ).set 9 (.inr (1, [.ref (o + 9 + 1), .ref (o + 9 + 2), .ref (o + 9 + 3), .int (v), .int (σ 1)])) = spl (geL g o σ) 9 ((chL g (o + 9) σ).set 0 (.inr (1, [.ref (o + 9 + 1), .ref (o + 9 + 2), .ref (o + 9 + 3), .int (v), .int (σ 1)]))) := rfl
  rw [e, w_ch_0_cards]
  exact geL_ch (fun i hi => pk_un (by omega))
theorem w_ge_9_place {g : Ge} {o : Nat} {σ : Nat → Int32} {v : Int32} : (geL g o σ).set 9 (.inr (1, [.ref (o + 9 + 1), .ref (o + 9 + 2), .ref (o + 9 + 3), .int (σ 0), .int (v)])) = geL g o (upd σ 1 v) := by
  have e : (geL g o σ).set 9 (.inr (1, [.ref (o + 9 + 1), .ref (o + 9 + 2), .ref (o + 9 + 3), .int (σ 0), .int (v)])) = spl (geL g o σ) 9 ((chL g (o + 9) σ).set 0 (.inr (1, [.ref (o + 9 + 1), .ref (o + 9 + 2), .ref (o + 9 + 3), .int (σ 0), .int (v)]))) := rfl
  rw [e, w_ch_0_place]
  exact geL_ch (fun i hi => pk_un (by omega))
theorem w_lo_3 {g : Ge} {o k : Nat} {σ ρ : Nat → Int32} {v : Int32} (h : k < 5) : (loL g o σ ρ).set 3 (iA g 5 (upd (vw σ 12 4 5) k v)) = loL g o (upd σ (12 + 4 * k) v) ρ := by
  have e : (loL g o σ ρ).set 3 (iA g 5 (upd (vw σ 12 4 5) k v)) = spl (loL g o σ ρ) 1 ((geL g (o + 1) σ).set 2 (iA g 5 (upd (vw σ 12 4 5) k v))) := rfl
  rw [e, w_ge_2 h]
  exact loL_ge (fun i hi => pk_un (by omega))
theorem w_lo_4 {g : Ge} {o k : Nat} {σ ρ : Nat → Int32} {v : Int32} (h : k < 5) : (loL g o σ ρ).set 4 (iA g 5 (upd (vw σ 13 4 5) k v)) = loL g o (upd σ (13 + 4 * k) v) ρ := by
  have e : (loL g o σ ρ).set 4 (iA g 5 (upd (vw σ 13 4 5) k v)) = spl (loL g o σ ρ) 1 ((geL g (o + 1) σ).set 3 (iA g 5 (upd (vw σ 13 4 5) k v))) := rfl
  rw [e, w_ge_3 h]
  exact loL_ge (fun i hi => pk_un (by omega))
theorem w_lo_5 {g : Ge} {o k : Nat} {σ ρ : Nat → Int32} {v : Int32} (h : k < 5) : (loL g o σ ρ).set 5 (iA g 5 (upd (vw σ 14 4 5) k v)) = loL g o (upd σ (14 + 4 * k) v) ρ := by
  have e : (loL g o σ ρ).set 5 (iA g 5 (upd (vw σ 14 4 5) k v)) = spl (loL g o σ ρ) 1 ((geL g (o + 1) σ).set 4 (iA g 5 (upd (vw σ 14 4 5) k v))) := rfl
  rw [e, w_ge_4 h]
  exact loL_ge (fun i hi => pk_un (by omega))
theorem w_lo_6 {g : Ge} {o k : Nat} {σ ρ : Nat → Int32} {v : Int32} (h : k < 5) : (loL g o σ ρ).set 6 (iA g 5 (upd (vw σ 15 4 5) k v)) = loL g o (upd σ (15 + 4 * k) v) ρ := by
  have e : (loL g o σ ρ).set 6 (iA g 5 (upd (vw σ 15 4 5) k v)) = spl (loL g o σ ρ) 1 ((geL g (o + 1) σ).set 5 (iA g 5 (upd (vw σ 15 4 5) k v))) := rfl
  rw [e, w_ge_5 h]
  exact loL_ge (fun i hi => pk_un (by omega))
theorem w_lo_8 {g : Ge} {o k : Nat} {σ ρ : Nat → Int32} {v : Int32} (h : k < 12) : (loL g o σ ρ).set 8 (iA g 12 (upd (vw σ 32 2 12) k v)) = loL g o (upd σ (32 + 2 * k) v) ρ := by
  have e : (loL g o σ ρ).set 8 (iA g 12 (upd (vw σ 32 2 12) k v)) = spl (loL g o σ ρ) 1 ((geL g (o + 1) σ).set 7 (iA g 12 (upd (vw σ 32 2 12) k v))) := rfl
  rw [e, w_ge_7 h]
  exact loL_ge (fun i hi => pk_un (by omega))
theorem w_lo_9 {g : Ge} {o k : Nat} {σ ρ : Nat → Int32} {v : Int32} (h : k < 12) : (loL g o σ ρ).set 9 (iA g 12 (upd (vw σ 33 2 12) k v)) = loL g o (upd σ (33 + 2 * k) v) ρ := by
  have e : (loL g o σ ρ).set 9 (iA g 12 (upd (vw σ 33 2 12) k v)) = spl (loL g o σ ρ) 1 ((geL g (o + 1) σ).set 8 (iA g 12 (upd (vw σ 33 2 12) k v))) := rfl
  rw [e, w_ge_8 h]
  exact loL_ge (fun i hi => pk_un (by omega))
theorem w_lo_11 {g : Ge} {o k : Nat} {σ ρ : Nat → Int32} {v : Int32} (h : k < 16) : (loL g o σ ρ).set 11 (iA g 16 (upd (vw σ 56 3 16) k v)) = loL g o (upd σ (56 + 3 * k) v) ρ := by
  have e : (loL g o σ ρ).set 11 (iA g 16 (upd (vw σ 56 3 16) k v)) = spl (loL g o σ ρ) 1 ((geL g (o + 1) σ).set 10 (iA g 16 (upd (vw σ 56 3 16) k v))) := rfl
  rw [e, w_ge_10 h]
  exact loL_ge (fun i hi => pk_un (by omega))
theorem w_lo_12 {g : Ge} {o k : Nat} {σ ρ : Nat → Int32} {v : Int32} (h : k < 16) : (loL g o σ ρ).set 12 (iA g 16 (upd (vw σ 57 3 16) k v)) = loL g o (upd σ (57 + 3 * k) v) ρ := by
  have e : (loL g o σ ρ).set 12 (iA g 16 (upd (vw σ 57 3 16) k v)) = spl (loL g o σ ρ) 1 ((geL g (o + 1) σ).set 11 (iA g 16 (upd (vw σ 57 3 16) k v))) := rfl
  rw [e, w_ge_11 h]
  exact loL_ge (fun i hi => pk_un (by omega))
theorem w_lo_13 {g : Ge} {o k : Nat} {σ ρ : Nat → Int32} {v : Int32} (h : k < 16) : (loL g o σ ρ).set 13 (iA g 16 (upd (vw σ 58 3 16) k v)) = loL g o (upd σ (58 + 3 * k) v) ρ := by
  have e : (loL g o σ ρ).set 13 (iA g 16 (upd (vw σ 58 3 16) k v)) = spl (loL g o σ ρ) 1 ((geL g (o + 1) σ).set 12 (iA g 16 (upd (vw σ 58 3 16) k v))) := rfl
  rw [e, w_ge_12 h]
  exact loL_ge (fun i hi => pk_un (by omega))
theorem w_lo_14 {g : Ge} {o k : Nat} {σ ρ : Nat → Int32} {v : Int32} (h : k < 2) : (loL g o σ ρ).set 14 (iA g 2 (upd (vw σ 3 1 2) k v)) = loL g o (upd σ (3 + 1 * k) v) ρ := by
  have e : (loL g o σ ρ).set 14 (iA g 2 (upd (vw σ 3 1 2) k v)) = spl (loL g o σ ρ) 1 ((geL g (o + 1) σ).set 13 (iA g 2 (upd (vw σ 3 1 2) k v))) := rfl
  rw [e, w_ge_13 h]
  exact loL_ge (fun i hi => pk_un (by omega))
theorem w_lo_1_speed {g : Ge} {o : Nat} {σ ρ : Nat → Int32} {v : Int32} : (loL g o σ ρ).set 1 (.inr (3, [.ref (o + 1 + 1), .ref (o + 1 + 6), .ref (o + 1 + 9), .ref (o + 1 + 13), .int (v), .int (σ 5)])) = loL g o (upd σ 2 v) ρ := by
  have e : (loL g o σ ρ).set 1 (.inr (3, [.ref (o + 1 + 1), .ref (o + 1 + 6), .ref (o + 1 + 9), .ref (o + 1 + 13), .int (v), .int (σ 5)])) = spl (loL g o σ ρ) 1 ((geL g (o + 1) σ).set 0 (.inr (3, [.ref (o + 1 + 1), .ref (o + 1 + 6), .ref (o + 1 + 9), .ref (o + 1 + 13), .int (v), .int (σ 5)]))) := rfl
  rw [e, w_ge_0_speed]
  exact loL_ge (fun i hi => pk_un (by omega))
theorem w_lo_1_lifted {g : Ge} {o : Nat} {σ ρ : Nat → Int32} {v : Int32} : (loL g o σ ρ).set 1 (.inr (3, [.ref (o + 1 + 1), .ref (o + 1 + 6), .ref (o + 1 + 9), .ref (o + 1 + 13), .int (σ 2), .int (v)])) = loL g o (upd σ 5 v) ρ := by
  have e : (loL g o σ ρ).set 1 (.inr (3, [.ref (o + 1 + 1), .ref (o + 1 + 6), .ref (o + 1 + 9), .ref (o + 1 + 13), .int (σ 2), .int (v)])) = spl (loL g o σ ρ) 1 ((geL g (o + 1) σ).set 0 (.inr (3, [.ref (o + 1 + 1), .ref (o + 1 + 6), .ref (o + 1 + 9), .ref (o + 1 + 13), .int (σ 2), .int (v)]))) := rfl
  rw [e, w_ge_0_lifted]
  exact loL_ge (fun i hi => pk_un (by omega))
theorem w_lo_10_cards {g : Ge} {o : Nat} {σ ρ : Nat → Int32} {v : Int32} : (loL g o σ ρ).set 10 (.inr (1, [.ref (o + 1 + 9 + 1), .ref (o + 1 + 9 + 2), .ref (o + 1 + 9 + 3), .int (v), .int (σ 1)])) = loL g o (upd σ 0 v) ρ := by
  have e : (loL g o σ ρ).set 10 (.inr (1, [.ref (o + 1 + 9 + 1), .ref (o + 1 + 9 + 2), .ref (o + 1 + 9 + 3), .int (v), .int (σ 1)])) = spl (loL g o σ ρ) 1 ((geL g (o + 1) σ).set 9 (.inr (1, [.ref (o + 1 + 9 + 1), .ref (o + 1 + 9 + 2), .ref (o + 1 + 9 + 3), .int (v), .int (σ 1)]))) := rfl
  rw [e, w_ge_9_cards]
  exact loL_ge (fun i hi => pk_un (by omega))
theorem w_lo_10_place {g : Ge} {o : Nat} {σ ρ : Nat → Int32} {v : Int32} : (loL g o σ ρ).set 10 (.inr (1, [.ref (o + 1 + 9 + 1), .ref (o + 1 + 9 + 2), .ref (o + 1 + 9 + 3), .int (σ 0), .int (v)])) = loL g o (upd σ 1 v) ρ := by
  have e : (loL g o σ ρ).set 10 (.inr (1, [.ref (o + 1 + 9 + 1), .ref (o + 1 + 9 + 2), .ref (o + 1 + 9 + 3), .int (σ 0), .int (v)])) = spl (loL g o σ ρ) 1 ((geL g (o + 1) σ).set 9 (.inr (1, [.ref (o + 1 + 9 + 1), .ref (o + 1 + 9 + 2), .ref (o + 1 + 9 + 3), .int (σ 0), .int (v)]))) := rfl
  rw [e, w_ge_9_place]
  exact loL_ge (fun i hi => pk_un (by omega))
theorem w_lo_0_picks {g : Ge} {o : Nat} {σ ρ : Nat → Int32} {v : Int32} : (loL g o σ ρ).set 0 (.inr (4, [.ref (o + 1), .ref (o + 15), .int (v), .int (σ 8), .int (σ 9), .int (σ 10), .int (σ 11)])) = loL g o (upd σ 6 v) ρ := s_lo6
theorem w_lo_0_takeable {g : Ge} {o : Nat} {σ ρ : Nat → Int32} {v : Int32} : (loL g o σ ρ).set 0 (.inr (4, [.ref (o + 1), .ref (o + 15), .int (σ 6), .int (v), .int (σ 9), .int (σ 10), .int (σ 11)])) = loL g o (upd σ 8 v) ρ := s_lo8
theorem w_lo_0_stopReason {g : Ge} {o : Nat} {σ ρ : Nat → Int32} {v : Int32} : (loL g o σ ρ).set 0 (.inr (4, [.ref (o + 1), .ref (o + 15), .int (σ 6), .int (σ 8), .int (v), .int (σ 10), .int (σ 11)])) = loL g o (upd σ 9 v) ρ := s_lo9
theorem w_lo_0_stopNumber {g : Ge} {o : Nat} {σ ρ : Nat → Int32} {v : Int32} : (loL g o σ ρ).set 0 (.inr (4, [.ref (o + 1), .ref (o + 15), .int (σ 6), .int (σ 8), .int (σ 9), .int (v), .int (σ 11)])) = loL g o (upd σ 10 v) ρ := s_lo10
theorem w_lo_0_stops {g : Ge} {o : Nat} {σ ρ : Nat → Int32} {v : Int32} : (loL g o σ ρ).set 0 (.inr (4, [.ref (o + 1), .ref (o + 15), .int (σ 6), .int (σ 8), .int (σ 9), .int (σ 10), .int (v)])) = loL g o (upd σ 11 v) ρ := s_lo11
theorem w_lo_16 {g : Ge} {o k : Nat} {σ ρ : Nat → Int32} {v : Int32} (h : k < 20) : (loL g o σ ρ).set 16 (iA g 20 (upd (vw ρ 0 7 20) k v)) = loL g o σ (upd ρ (0 + 7 * k) v) := by
  have e : (loL g o σ ρ).set 16 (iA g 20 (upd (vw ρ 0 7 20) k v)) = spl (loL g o σ ρ) 15 ((clL g (o + 15) σ ρ).set 1 (iA g 20 (upd (vw ρ 0 7 20) k v))) := rfl
  rw [e, s_cl1 h]
  exact loL_cl (fun _ _ _ => rfl)
theorem w_lo_17 {g : Ge} {o k : Nat} {σ ρ : Nat → Int32} {v : Int32} (h : k < 20) : (loL g o σ ρ).set 17 (iA g 20 (upd (vw ρ 1 7 20) k v)) = loL g o σ (upd ρ (1 + 7 * k) v) := by
  have e : (loL g o σ ρ).set 17 (iA g 20 (upd (vw ρ 1 7 20) k v)) = spl (loL g o σ ρ) 15 ((clL g (o + 15) σ ρ).set 2 (iA g 20 (upd (vw ρ 1 7 20) k v))) := rfl
  rw [e, s_cl2 h]
  exact loL_cl (fun _ _ _ => rfl)
theorem w_lo_18 {g : Ge} {o k : Nat} {σ ρ : Nat → Int32} {v : Int32} (h : k < 20) : (loL g o σ ρ).set 18 (iA g 20 (upd (vw ρ 2 7 20) k v)) = loL g o σ (upd ρ (2 + 7 * k) v) := by
  have e : (loL g o σ ρ).set 18 (iA g 20 (upd (vw ρ 2 7 20) k v)) = spl (loL g o σ ρ) 15 ((clL g (o + 15) σ ρ).set 3 (iA g 20 (upd (vw ρ 2 7 20) k v))) := rfl
  rw [e, s_cl3 h]
  exact loL_cl (fun _ _ _ => rfl)
theorem w_lo_19 {g : Ge} {o k : Nat} {σ ρ : Nat → Int32} {v : Int32} (h : k < 20) : (loL g o σ ρ).set 19 (iA g 20 (upd (vw ρ 3 7 20) k v)) = loL g o σ (upd ρ (3 + 7 * k) v) := by
  have e : (loL g o σ ρ).set 19 (iA g 20 (upd (vw ρ 3 7 20) k v)) = spl (loL g o σ ρ) 15 ((clL g (o + 15) σ ρ).set 4 (iA g 20 (upd (vw ρ 3 7 20) k v))) := rfl
  rw [e, s_cl4 h]
  exact loL_cl (fun _ _ _ => rfl)
theorem w_lo_20 {g : Ge} {o k : Nat} {σ ρ : Nat → Int32} {v : Int32} (h : k < 20) : (loL g o σ ρ).set 20 (iA g 20 (upd (vw ρ 4 7 20) k v)) = loL g o σ (upd ρ (4 + 7 * k) v) := by
  have e : (loL g o σ ρ).set 20 (iA g 20 (upd (vw ρ 4 7 20) k v)) = spl (loL g o σ ρ) 15 ((clL g (o + 15) σ ρ).set 5 (iA g 20 (upd (vw ρ 4 7 20) k v))) := rfl
  rw [e, s_cl5 h]
  exact loL_cl (fun _ _ _ => rfl)
theorem w_lo_21 {g : Ge} {o k : Nat} {σ ρ : Nat → Int32} {v : Int32} (h : k < 20) : (loL g o σ ρ).set 21 (iA g 20 (upd (vw ρ 5 7 20) k v)) = loL g o σ (upd ρ (5 + 7 * k) v) := by
  have e : (loL g o σ ρ).set 21 (iA g 20 (upd (vw ρ 5 7 20) k v)) = spl (loL g o σ ρ) 15 ((clL g (o + 15) σ ρ).set 6 (iA g 20 (upd (vw ρ 5 7 20) k v))) := rfl
  rw [e, s_cl6 h]
  exact loL_cl (fun _ _ _ => rfl)
theorem w_lo_22 {g : Ge} {o k : Nat} {σ ρ : Nat → Int32} {v : Int32} (h : k < 20) : (loL g o σ ρ).set 22 (iA g 20 (upd (vw ρ 6 7 20) k v)) = loL g o σ (upd ρ (6 + 7 * k) v) := by
  have e : (loL g o σ ρ).set 22 (iA g 20 (upd (vw ρ 6 7 20) k v)) = spl (loL g o σ ρ) 15 ((clL g (o + 15) σ ρ).set 7 (iA g 20 (upd (vw ρ 6 7 20) k v))) := rfl
  rw [e, s_cl7 h]
  exact loL_cl (fun _ _ _ => rfl)
theorem w_lo_15_rows {g : Ge} {o : Nat} {σ ρ : Nat → Int32} {v : Int32} : (loL g o σ ρ).set 15 (.inr (2, [.ref (o + 15 + 1), .ref (o + 15 + 2), .ref (o + 15 + 3), .ref (o + 15 + 4), .ref (o + 15 + 5), .ref (o + 15 + 6), .ref (o + 15 + 7), .int (v), .int (ρ 140)])) = loL g o (upd σ 7 v) ρ := by
  have e : (loL g o σ ρ).set 15 (.inr (2, [.ref (o + 15 + 1), .ref (o + 15 + 2), .ref (o + 15 + 3), .ref (o + 15 + 4), .ref (o + 15 + 5), .ref (o + 15 + 6), .ref (o + 15 + 7), .int (v), .int (ρ 140)])) = spl (loL g o σ ρ) 15 ((clL g (o + 15) σ ρ).set 0 (.inr (2, [.ref (o + 15 + 1), .ref (o + 15 + 2), .ref (o + 15 + 3), .ref (o + 15 + 4), .ref (o + 15 + 5), .ref (o + 15 + 6), .ref (o + 15 + 7), .int (v), .int (ρ 140)]))) := rfl
  rw [e, s_cl_rows]
  exact loL_cl (fun i hi _ => pk_un hi)
theorem w_lo_15_latest {g : Ge} {o : Nat} {σ ρ : Nat → Int32} {v : Int32} : (loL g o σ ρ).set 15 (.inr (2, [.ref (o + 15 + 1), .ref (o + 15 + 2), .ref (o + 15 + 3), .ref (o + 15 + 4), .ref (o + 15 + 5), .ref (o + 15 + 6), .ref (o + 15 + 7), .int (σ 7), .int (v)])) = loL g o σ (upd ρ 140 v) := by
  have e : (loL g o σ ρ).set 15 (.inr (2, [.ref (o + 15 + 1), .ref (o + 15 + 2), .ref (o + 15 + 3), .ref (o + 15 + 4), .ref (o + 15 + 5), .ref (o + 15 + 6), .ref (o + 15 + 7), .int (σ 7), .int (v)])) = spl (loL g o σ ρ) 15 ((clL g (o + 15) σ ρ).set 0 (.inr (2, [.ref (o + 15 + 1), .ref (o + 15 + 2), .ref (o + 15 + 3), .ref (o + 15 + 4), .ref (o + 15 + 5), .ref (o + 15 + 6), .ref (o + 15 + 7), .int (σ 7), .int (v)]))) := rfl
  rw [e, s_cl_latest]
  exact loL_cl (fun _ _ _ => rfl)
theorem w_x_4 {g : Ge} {o k : Nat} {σ ρ : Nat → Int32} {S P : Nat → Nat → Int32} {φ κ τ π : Nat → Int32} {v : Int32} (h : k < 5) : (xL g o σ ρ S P φ κ τ π).set 4 (iA g 5 (upd (vw σ 12 4 5) k v)) = xL g o (upd σ (12 + 4 * k) v) ρ S P φ κ τ π := by
  have e : (xL g o σ ρ S P φ κ τ π).set 4 (iA g 5 (upd (vw σ 12 4 5) k v)) = spl (xL g o σ ρ S P φ κ τ π) 1 ((loL g (o + 1) σ ρ).set 3 (iA g 5 (upd (vw σ 12 4 5) k v))) := rfl
  rw [e, w_lo_3 h]; rfl
theorem w_x_5 {g : Ge} {o k : Nat} {σ ρ : Nat → Int32} {S P : Nat → Nat → Int32} {φ κ τ π : Nat → Int32} {v : Int32} (h : k < 5) : (xL g o σ ρ S P φ κ τ π).set 5 (iA g 5 (upd (vw σ 13 4 5) k v)) = xL g o (upd σ (13 + 4 * k) v) ρ S P φ κ τ π := by
  have e : (xL g o σ ρ S P φ κ τ π).set 5 (iA g 5 (upd (vw σ 13 4 5) k v)) = spl (xL g o σ ρ S P φ κ τ π) 1 ((loL g (o + 1) σ ρ).set 4 (iA g 5 (upd (vw σ 13 4 5) k v))) := rfl
  rw [e, w_lo_4 h]; rfl
theorem w_x_6 {g : Ge} {o k : Nat} {σ ρ : Nat → Int32} {S P : Nat → Nat → Int32} {φ κ τ π : Nat → Int32} {v : Int32} (h : k < 5) : (xL g o σ ρ S P φ κ τ π).set 6 (iA g 5 (upd (vw σ 14 4 5) k v)) = xL g o (upd σ (14 + 4 * k) v) ρ S P φ κ τ π := by
  have e : (xL g o σ ρ S P φ κ τ π).set 6 (iA g 5 (upd (vw σ 14 4 5) k v)) = spl (xL g o σ ρ S P φ κ τ π) 1 ((loL g (o + 1) σ ρ).set 5 (iA g 5 (upd (vw σ 14 4 5) k v))) := rfl
  rw [e, w_lo_5 h]; rfl
theorem w_x_7 {g : Ge} {o k : Nat} {σ ρ : Nat → Int32} {S P : Nat → Nat → Int32} {φ κ τ π : Nat → Int32} {v : Int32} (h : k < 5) : (xL g o σ ρ S P φ κ τ π).set 7 (iA g 5 (upd (vw σ 15 4 5) k v)) = xL g o (upd σ (15 + 4 * k) v) ρ S P φ κ τ π := by
  have e : (xL g o σ ρ S P φ κ τ π).set 7 (iA g 5 (upd (vw σ 15 4 5) k v)) = spl (xL g o σ ρ S P φ κ τ π) 1 ((loL g (o + 1) σ ρ).set 6 (iA g 5 (upd (vw σ 15 4 5) k v))) := rfl
  rw [e, w_lo_6 h]; rfl
theorem w_x_9 {g : Ge} {o k : Nat} {σ ρ : Nat → Int32} {S P : Nat → Nat → Int32} {φ κ τ π : Nat → Int32} {v : Int32} (h : k < 12) : (xL g o σ ρ S P φ κ τ π).set 9 (iA g 12 (upd (vw σ 32 2 12) k v)) = xL g o (upd σ (32 + 2 * k) v) ρ S P φ κ τ π := by
  have e : (xL g o σ ρ S P φ κ τ π).set 9 (iA g 12 (upd (vw σ 32 2 12) k v)) = spl (xL g o σ ρ S P φ κ τ π) 1 ((loL g (o + 1) σ ρ).set 8 (iA g 12 (upd (vw σ 32 2 12) k v))) := rfl
  rw [e, w_lo_8 h]; rfl
theorem w_x_10 {g : Ge} {o k : Nat} {σ ρ : Nat → Int32} {S P : Nat → Nat → Int32} {φ κ τ π : Nat → Int32} {v : Int32} (h : k < 12) : (xL g o σ ρ S P φ κ τ π).set 10 (iA g 12 (upd (vw σ 33 2 12) k v)) = xL g o (upd σ (33 + 2 * k) v) ρ S P φ κ τ π := by
  have e : (xL g o σ ρ S P φ κ τ π).set 10 (iA g 12 (upd (vw σ 33 2 12) k v)) = spl (xL g o σ ρ S P φ κ τ π) 1 ((loL g (o + 1) σ ρ).set 9 (iA g 12 (upd (vw σ 33 2 12) k v))) := rfl
  rw [e, w_lo_9 h]; rfl
theorem w_x_12 {g : Ge} {o k : Nat} {σ ρ : Nat → Int32} {S P : Nat → Nat → Int32} {φ κ τ π : Nat → Int32} {v : Int32} (h : k < 16) : (xL g o σ ρ S P φ κ τ π).set 12 (iA g 16 (upd (vw σ 56 3 16) k v)) = xL g o (upd σ (56 + 3 * k) v) ρ S P φ κ τ π := by
  have e : (xL g o σ ρ S P φ κ τ π).set 12 (iA g 16 (upd (vw σ 56 3 16) k v)) = spl (xL g o σ ρ S P φ κ τ π) 1 ((loL g (o + 1) σ ρ).set 11 (iA g 16 (upd (vw σ 56 3 16) k v))) := rfl
  rw [e, w_lo_11 h]; rfl
theorem w_x_13 {g : Ge} {o k : Nat} {σ ρ : Nat → Int32} {S P : Nat → Nat → Int32} {φ κ τ π : Nat → Int32} {v : Int32} (h : k < 16) : (xL g o σ ρ S P φ κ τ π).set 13 (iA g 16 (upd (vw σ 57 3 16) k v)) = xL g o (upd σ (57 + 3 * k) v) ρ S P φ κ τ π := by
  have e : (xL g o σ ρ S P φ κ τ π).set 13 (iA g 16 (upd (vw σ 57 3 16) k v)) = spl (xL g o σ ρ S P φ κ τ π) 1 ((loL g (o + 1) σ ρ).set 12 (iA g 16 (upd (vw σ 57 3 16) k v))) := rfl
  rw [e, w_lo_12 h]; rfl
theorem w_x_14 {g : Ge} {o k : Nat} {σ ρ : Nat → Int32} {S P : Nat → Nat → Int32} {φ κ τ π : Nat → Int32} {v : Int32} (h : k < 16) : (xL g o σ ρ S P φ κ τ π).set 14 (iA g 16 (upd (vw σ 58 3 16) k v)) = xL g o (upd σ (58 + 3 * k) v) ρ S P φ κ τ π := by
  have e : (xL g o σ ρ S P φ κ τ π).set 14 (iA g 16 (upd (vw σ 58 3 16) k v)) = spl (xL g o σ ρ S P φ κ τ π) 1 ((loL g (o + 1) σ ρ).set 13 (iA g 16 (upd (vw σ 58 3 16) k v))) := rfl
  rw [e, w_lo_13 h]; rfl
theorem w_x_15 {g : Ge} {o k : Nat} {σ ρ : Nat → Int32} {S P : Nat → Nat → Int32} {φ κ τ π : Nat → Int32} {v : Int32} (h : k < 2) : (xL g o σ ρ S P φ κ τ π).set 15 (iA g 2 (upd (vw σ 3 1 2) k v)) = xL g o (upd σ (3 + 1 * k) v) ρ S P φ κ τ π := by
  have e : (xL g o σ ρ S P φ κ τ π).set 15 (iA g 2 (upd (vw σ 3 1 2) k v)) = spl (xL g o σ ρ S P φ κ τ π) 1 ((loL g (o + 1) σ ρ).set 14 (iA g 2 (upd (vw σ 3 1 2) k v))) := rfl
  rw [e, w_lo_14 h]; rfl
theorem w_x_2_speed {g : Ge} {o : Nat} {σ ρ : Nat → Int32} {S P : Nat → Nat → Int32} {φ κ τ π : Nat → Int32} {v : Int32} : (xL g o σ ρ S P φ κ τ π).set 2 (.inr (3, [.ref (o + 1 + 1 + 1), .ref (o + 1 + 1 + 6), .ref (o + 1 + 1 + 9), .ref (o + 1 + 1 + 13), .int (v), .int (σ 5)])) = xL g o (upd σ 2 v) ρ S P φ κ τ π := by
  have e : (xL g o σ ρ S P φ κ τ π).set 2 (.inr (3, [.ref (o + 1 + 1 + 1), .ref (o + 1 + 1 + 6), .ref (o + 1 + 1 + 9), .ref (o + 1 + 1 + 13), .int (v), .int (σ 5)])) = spl (xL g o σ ρ S P φ κ τ π) 1 ((loL g (o + 1) σ ρ).set 1 (.inr (3, [.ref (o + 1 + 1 + 1), .ref (o + 1 + 1 + 6), .ref (o + 1 + 1 + 9), .ref (o + 1 + 1 + 13), .int (v), .int (σ 5)]))) := rfl
  rw [e, w_lo_1_speed]; rfl
theorem w_x_2_lifted {g : Ge} {o : Nat} {σ ρ : Nat → Int32} {S P : Nat → Nat → Int32} {φ κ τ π : Nat → Int32} {v : Int32} : (xL g o σ ρ S P φ κ τ π).set 2 (.inr (3, [.ref (o + 1 + 1 + 1), .ref (o + 1 + 1 + 6), .ref (o + 1 + 1 + 9), .ref (o + 1 + 1 + 13), .int (σ 2), .int (v)])) = xL g o (upd σ 5 v) ρ S P φ κ τ π := by
  have e : (xL g o σ ρ S P φ κ τ π).set 2 (.inr (3, [.ref (o + 1 + 1 + 1), .ref (o + 1 + 1 + 6), .ref (o + 1 + 1 + 9), .ref (o + 1 + 1 + 13), .int (σ 2), .int (v)])) = spl (xL g o σ ρ S P φ κ τ π) 1 ((loL g (o + 1) σ ρ).set 1 (.inr (3, [.ref (o + 1 + 1 + 1), .ref (o + 1 + 1 + 6), .ref (o + 1 + 1 + 9), .ref (o + 1 + 1 + 13), .int (σ 2), .int (v)]))) := rfl
  rw [e, w_lo_1_lifted]; rfl
theorem w_x_11_cards {g : Ge} {o : Nat} {σ ρ : Nat → Int32} {S P : Nat → Nat → Int32} {φ κ τ π : Nat → Int32} {v : Int32} : (xL g o σ ρ S P φ κ τ π).set 11 (.inr (1, [.ref (o + 1 + 1 + 9 + 1), .ref (o + 1 + 1 + 9 + 2), .ref (o + 1 + 1 + 9 + 3), .int (v), .int (σ 1)])) = xL g o (upd σ 0 v) ρ S P φ κ τ π := by
  have e : (xL g o σ ρ S P φ κ τ π).set 11 (.inr (1, [.ref (o + 1 + 1 + 9 + 1), .ref (o + 1 + 1 + 9 + 2), .ref (o + 1 + 1 + 9 + 3), .int (v), .int (σ 1)])) = spl (xL g o σ ρ S P φ κ τ π) 1 ((loL g (o + 1) σ ρ).set 10 (.inr (1, [.ref (o + 1 + 1 + 9 + 1), .ref (o + 1 + 1 + 9 + 2), .ref (o + 1 + 1 + 9 + 3), .int (v), .int (σ 1)]))) := rfl
  rw [e, w_lo_10_cards]; rfl
theorem w_x_11_place {g : Ge} {o : Nat} {σ ρ : Nat → Int32} {S P : Nat → Nat → Int32} {φ κ τ π : Nat → Int32} {v : Int32} : (xL g o σ ρ S P φ κ τ π).set 11 (.inr (1, [.ref (o + 1 + 1 + 9 + 1), .ref (o + 1 + 1 + 9 + 2), .ref (o + 1 + 1 + 9 + 3), .int (σ 0), .int (v)])) = xL g o (upd σ 1 v) ρ S P φ κ τ π := by
  have e : (xL g o σ ρ S P φ κ τ π).set 11 (.inr (1, [.ref (o + 1 + 1 + 9 + 1), .ref (o + 1 + 1 + 9 + 2), .ref (o + 1 + 1 + 9 + 3), .int (σ 0), .int (v)])) = spl (xL g o σ ρ S P φ κ τ π) 1 ((loL g (o + 1) σ ρ).set 10 (.inr (1, [.ref (o + 1 + 1 + 9 + 1), .ref (o + 1 + 1 + 9 + 2), .ref (o + 1 + 1 + 9 + 3), .int (σ 0), .int (v)]))) := rfl
  rw [e, w_lo_10_place]; rfl
theorem w_x_1_picks {g : Ge} {o : Nat} {σ ρ : Nat → Int32} {S P : Nat → Nat → Int32} {φ κ τ π : Nat → Int32} {v : Int32} : (xL g o σ ρ S P φ κ τ π).set 1 (.inr (4, [.ref (o + 1 + 1), .ref (o + 1 + 15), .int (v), .int (σ 8), .int (σ 9), .int (σ 10), .int (σ 11)])) = xL g o (upd σ 6 v) ρ S P φ κ τ π := by
  have e : (xL g o σ ρ S P φ κ τ π).set 1 (.inr (4, [.ref (o + 1 + 1), .ref (o + 1 + 15), .int (v), .int (σ 8), .int (σ 9), .int (σ 10), .int (σ 11)])) = spl (xL g o σ ρ S P φ κ τ π) 1 ((loL g (o + 1) σ ρ).set 0 (.inr (4, [.ref (o + 1 + 1), .ref (o + 1 + 15), .int (v), .int (σ 8), .int (σ 9), .int (σ 10), .int (σ 11)]))) := rfl
  rw [e, w_lo_0_picks]; rfl
theorem w_x_1_takeable {g : Ge} {o : Nat} {σ ρ : Nat → Int32} {S P : Nat → Nat → Int32} {φ κ τ π : Nat → Int32} {v : Int32} : (xL g o σ ρ S P φ κ τ π).set 1 (.inr (4, [.ref (o + 1 + 1), .ref (o + 1 + 15), .int (σ 6), .int (v), .int (σ 9), .int (σ 10), .int (σ 11)])) = xL g o (upd σ 8 v) ρ S P φ κ τ π := by
  have e : (xL g o σ ρ S P φ κ τ π).set 1 (.inr (4, [.ref (o + 1 + 1), .ref (o + 1 + 15), .int (σ 6), .int (v), .int (σ 9), .int (σ 10), .int (σ 11)])) = spl (xL g o σ ρ S P φ κ τ π) 1 ((loL g (o + 1) σ ρ).set 0 (.inr (4, [.ref (o + 1 + 1), .ref (o + 1 + 15), .int (σ 6), .int (v), .int (σ 9), .int (σ 10), .int (σ 11)]))) := rfl
  rw [e, w_lo_0_takeable]; rfl
theorem w_x_1_stopReason {g : Ge} {o : Nat} {σ ρ : Nat → Int32} {S P : Nat → Nat → Int32} {φ κ τ π : Nat → Int32} {v : Int32} : (xL g o σ ρ S P φ κ τ π).set 1 (.inr (4, [.ref (o + 1 + 1), .ref (o + 1 + 15), .int (σ 6), .int (σ 8), .int (v), .int (σ 10), .int (σ 11)])) = xL g o (upd σ 9 v) ρ S P φ κ τ π := by
  have e : (xL g o σ ρ S P φ κ τ π).set 1 (.inr (4, [.ref (o + 1 + 1), .ref (o + 1 + 15), .int (σ 6), .int (σ 8), .int (v), .int (σ 10), .int (σ 11)])) = spl (xL g o σ ρ S P φ κ τ π) 1 ((loL g (o + 1) σ ρ).set 0 (.inr (4, [.ref (o + 1 + 1), .ref (o + 1 + 15), .int (σ 6), .int (σ 8), .int (v), .int (σ 10), .int (σ 11)]))) := rfl
  rw [e, w_lo_0_stopReason]; rfl
theorem w_x_1_stopNumber {g : Ge} {o : Nat} {σ ρ : Nat → Int32} {S P : Nat → Nat → Int32} {φ κ τ π : Nat → Int32} {v : Int32} : (xL g o σ ρ S P φ κ τ π).set 1 (.inr (4, [.ref (o + 1 + 1), .ref (o + 1 + 15), .int (σ 6), .int (σ 8), .int (σ 9), .int (v), .int (σ 11)])) = xL g o (upd σ 10 v) ρ S P φ κ τ π := by
  have e : (xL g o σ ρ S P φ κ τ π).set 1 (.inr (4, [.ref (o + 1 + 1), .ref (o + 1 + 15), .int (σ 6), .int (σ 8), .int (σ 9), .int (v), .int (σ 11)])) = spl (xL g o σ ρ S P φ κ τ π) 1 ((loL g (o + 1) σ ρ).set 0 (.inr (4, [.ref (o + 1 + 1), .ref (o + 1 + 15), .int (σ 6), .int (σ 8), .int (σ 9), .int (v), .int (σ 11)]))) := rfl
  rw [e, w_lo_0_stopNumber]; rfl
theorem w_x_1_stops {g : Ge} {o : Nat} {σ ρ : Nat → Int32} {S P : Nat → Nat → Int32} {φ κ τ π : Nat → Int32} {v : Int32} : (xL g o σ ρ S P φ κ τ π).set 1 (.inr (4, [.ref (o + 1 + 1), .ref (o + 1 + 15), .int (σ 6), .int (σ 8), .int (σ 9), .int (σ 10), .int (v)])) = xL g o (upd σ 11 v) ρ S P φ κ τ π := by
  have e : (xL g o σ ρ S P φ κ τ π).set 1 (.inr (4, [.ref (o + 1 + 1), .ref (o + 1 + 15), .int (σ 6), .int (σ 8), .int (σ 9), .int (σ 10), .int (v)])) = spl (xL g o σ ρ S P φ κ τ π) 1 ((loL g (o + 1) σ ρ).set 0 (.inr (4, [.ref (o + 1 + 1), .ref (o + 1 + 15), .int (σ 6), .int (σ 8), .int (σ 9), .int (σ 10), .int (v)]))) := rfl
  rw [e, w_lo_0_stops]; rfl
theorem w_x_34_place {g : Ge} {o : Nat} {σ ρ : Nat → Int32} {S P : Nat → Nat → Int32} {φ κ τ π : Nat → Int32} {v : Int32} : (xL g o σ ρ S P φ κ τ π).set 34 (.inr (1, [.ref (o + 25 + 9 + 1), .ref (o + 25 + 9 + 2), .ref (o + 25 + 9 + 3), .int (φ 0), .int (v)])) = xL g o σ ρ S P (upd φ 1 v) κ τ π := by
  have e : (xL g o σ ρ S P φ κ τ π).set 34 (.inr (1, [.ref (o + 25 + 9 + 1), .ref (o + 25 + 9 + 2), .ref (o + 25 + 9 + 3), .int (φ 0), .int (v)])) = spl (xL g o σ ρ S P φ κ τ π) 25 ((geL g (o + 25) φ).set 9 (.inr (1, [.ref (o + 25 + 9 + 1), .ref (o + 25 + 9 + 2), .ref (o + 25 + 9 + 3), .int (φ 0), .int (v)]))) := rfl
  rw [e, w_ge_9_place]; rfl
theorem w_x_0_savedStates {g : Ge} {o : Nat} {σ ρ : Nat → Int32} {S P : Nat → Nat → Int32} {φ κ τ π : Nat → Int32} {v : Int32} : (xL g o σ ρ S P φ κ τ π).set 0 (.inr (7, [.ref (o + 1), .ref (o + 24), .int (v), .int (π 1), .ref (o + 25), .ref (o + 39), .ref (o + 40), .int (π 2)])) = xL g o σ ρ S P φ κ τ (upd π 0 v) := rfl
theorem w_x_0_latestSaved {g : Ge} {o : Nat} {σ ρ : Nat → Int32} {S P : Nat → Nat → Int32} {φ κ τ π : Nat → Int32} {v : Int32} : (xL g o σ ρ S P φ κ τ π).set 0 (.inr (7, [.ref (o + 1), .ref (o + 24), .int (π 0), .int (v), .ref (o + 25), .ref (o + 39), .ref (o + 40), .int (π 2)])) = xL g o σ ρ S P φ κ τ (upd π 1 v) := rfl
theorem w_x_0_textLength {g : Ge} {o : Nat} {σ ρ : Nat → Int32} {S P : Nat → Nat → Int32} {φ κ τ π : Nat → Int32} {v : Int32} : (xL g o σ ρ S P φ κ τ π).set 0 (.inr (7, [.ref (o + 1), .ref (o + 24), .int (π 0), .int (π 1), .ref (o + 25), .ref (o + 39), .ref (o + 40), .int (v)])) = xL g o σ ρ S P φ κ τ (upd π 2 v) := rfl
theorem w_x_40 {g : Ge} {o k : Nat} {σ ρ : Nat → Int32} {S P : Nat → Nat → Int32} {φ κ τ π : Nat → Int32} {v : Int32} : (xL g o σ ρ S P φ κ τ π).set 40 (.inl (g.2.1.2.1, 80, .inl (upd τ k v))) = xL g o σ ρ S P φ κ (upd τ k v) π := rfl
theorem w_rd_0_frames {κ : Nat → Int32} {v : Int32} : (rdL κ).set 0 (.inr (0, [.int v, .int (κ 1), .int (κ 2), .int (κ 3), .int (κ 4)])) = rdL (upd κ 0 v) := rfl
theorem w_rd_0_left {κ : Nat → Int32} {v : Int32} : (rdL κ).set 0 (.inr (0, [.int (κ 0), .int v, .int (κ 2), .int (κ 3), .int (κ 4)])) = rdL (upd κ 1 v) := rfl
theorem w_rd_0_right {κ : Nat → Int32} {v : Int32} : (rdL κ).set 0 (.inr (0, [.int (κ 0), .int (κ 1), .int v, .int (κ 3), .int (κ 4)])) = rdL (upd κ 2 v) := rfl
theorem w_rd_0_step {κ : Nat → Int32} {v : Int32} : (rdL κ).set 0 (.inr (0, [.int (κ 0), .int (κ 1), .int (κ 2), .int v, .int (κ 4)])) = rdL (upd κ 3 v) := rfl
theorem w_rd_0_lowestFrame {κ : Nat → Int32} {v : Int32} : (rdL κ).set 0 (.inr (0, [.int (κ 0), .int (κ 1), .int (κ 2), .int (κ 3), .int v])) = rdL (upd κ 4 v) := rfl
theorem w_md_0_recorded {g : Ge} {o : Nat} {μ kp hs tx ι : Nat → Int32} {v : Int32} : (mdL g o μ kp hs tx ι).set 0 (.inr (8, [.ref (o + 1), .ref (o + 2), .ref (o + 3), .int (v), .ref (o + 4), .int (ι 1), .int (ι 2), .int (ι 3), .int (ι 4), .int (ι 5), .int (ι 6), .int (ι 7)])) = mdL g o μ kp hs tx (upd ι 0 v) := rfl
theorem w_md_0_textLength {g : Ge} {o : Nat} {μ kp hs tx ι : Nat → Int32} {v : Int32} : (mdL g o μ kp hs tx ι).set 0 (.inr (8, [.ref (o + 1), .ref (o + 2), .ref (o + 3), .int (ι 0), .ref (o + 4), .int (v), .int (ι 2), .int (ι 3), .int (ι 4), .int (ι 5), .int (ι 6), .int (ι 7)])) = mdL g o μ kp hs tx (upd ι 1 v) := rfl
theorem w_md_0_reason {g : Ge} {o : Nat} {μ kp hs tx ι : Nat → Int32} {v : Int32} : (mdL g o μ kp hs tx ι).set 0 (.inr (8, [.ref (o + 1), .ref (o + 2), .ref (o + 3), .int (ι 0), .ref (o + 4), .int (ι 1), .int (v), .int (ι 3), .int (ι 4), .int (ι 5), .int (ι 6), .int (ι 7)])) = mdL g o μ kp hs tx (upd ι 2 v) := rfl
theorem w_md_0_reasonNumber {g : Ge} {o : Nat} {μ kp hs tx ι : Nat → Int32} {v : Int32} : (mdL g o μ kp hs tx ι).set 0 (.inr (8, [.ref (o + 1), .ref (o + 2), .ref (o + 3), .int (ι 0), .ref (o + 4), .int (ι 1), .int (ι 2), .int (v), .int (ι 4), .int (ι 5), .int (ι 6), .int (ι 7)])) = mdL g o μ kp hs tx (upd ι 3 v) := rfl
theorem w_md_0_at {g : Ge} {o : Nat} {μ kp hs tx ι : Nat → Int32} {v : Int32} : (mdL g o μ kp hs tx ι).set 0 (.inr (8, [.ref (o + 1), .ref (o + 2), .ref (o + 3), .int (ι 0), .ref (o + 4), .int (ι 1), .int (ι 2), .int (ι 3), .int (v), .int (ι 5), .int (ι 6), .int (ι 7)])) = mdL g o μ kp hs tx (upd ι 4 v) := rfl
theorem w_md_0_framesRead {g : Ge} {o : Nat} {μ kp hs tx ι : Nat → Int32} {v : Int32} : (mdL g o μ kp hs tx ι).set 0 (.inr (8, [.ref (o + 1), .ref (o + 2), .ref (o + 3), .int (ι 0), .ref (o + 4), .int (ι 1), .int (ι 2), .int (ι 3), .int (ι 4), .int (v), .int (ι 6), .int (ι 7)])) = mdL g o μ kp hs tx (upd ι 5 v) := rfl
theorem w_md_0_leftRead {g : Ge} {o : Nat} {μ kp hs tx ι : Nat → Int32} {v : Int32} : (mdL g o μ kp hs tx ι).set 0 (.inr (8, [.ref (o + 1), .ref (o + 2), .ref (o + 3), .int (ι 0), .ref (o + 4), .int (ι 1), .int (ι 2), .int (ι 3), .int (ι 4), .int (ι 5), .int (v), .int (ι 7)])) = mdL g o μ kp hs tx (upd ι 6 v) := rfl
theorem w_md_0_rightRead {g : Ge} {o : Nat} {μ kp hs tx ι : Nat → Int32} {v : Int32} : (mdL g o μ kp hs tx ι).set 0 (.inr (8, [.ref (o + 1), .ref (o + 2), .ref (o + 3), .int (ι 0), .ref (o + 4), .int (ι 1), .int (ι 2), .int (ι 3), .int (ι 4), .int (ι 5), .int (ι 6), .int (v)])) = mdL g o μ kp hs tx (upd ι 7 v) := rfl
theorem f_lo_sh_2 {g : Ge} {o : Nat} {σ σ' ρ : Nat → Int32} (h : ∀ i, ¬ (12 ≤ i ∧ i < 32) → σ' i = σ i) : spl (loL g o σ ρ) 2 (shL g (o + 2) σ') = loL g o σ' ρ := by
  have e : spl (loL g o σ ρ) 2 (shL g (o + 2) σ') = spl (loL g o σ ρ) 1 (spl (geL g (o + 1) σ) 1 (shL g (o + 1 + 1) σ')) := rfl
  rw [e, geL_sh h]
  exact loL_ge (fun i hi => h i (by omega))
theorem f_x_sh_3 {g : Ge} {o : Nat} {σ σ' ρ : Nat → Int32} {S P : Nat → Nat → Int32} {φ κ τ π : Nat → Int32} (h : ∀ i, ¬ (12 ≤ i ∧ i < 32) → σ' i = σ i) : spl (xL g o σ ρ S P φ κ τ π) 3 (shL g (o + 3) σ') = xL g o σ' ρ S P φ κ τ π := by
  have e : spl (xL g o σ ρ S P φ κ τ π) 3 (shL g (o + 3) σ') = spl (xL g o σ ρ S P φ κ τ π) 1 (spl (loL g (o + 1) σ ρ) 2 (shL g (o + 1 + 2) σ')) := rfl
  rw [e, f_lo_sh_2 h]; rfl
theorem f_lo_ch_10 {g : Ge} {o : Nat} {σ σ' ρ : Nat → Int32} (h : ∀ i, ¬ (i < 2 ∨ 56 ≤ i) → σ' i = σ i) : spl (loL g o σ ρ) 10 (chL g (o + 10) σ') = loL g o σ' ρ := by
  have e : spl (loL g o σ ρ) 10 (chL g (o + 10) σ') = spl (loL g o σ ρ) 1 (spl (geL g (o + 1) σ) 9 (chL g (o + 1 + 9) σ')) := rfl
  rw [e, geL_ch h]
  exact loL_ge (fun i hi => h i (by omega))
theorem f_x_ch_11 {g : Ge} {o : Nat} {σ σ' ρ : Nat → Int32} {S P : Nat → Nat → Int32} {φ κ τ π : Nat → Int32} (h : ∀ i, ¬ (i < 2 ∨ 56 ≤ i) → σ' i = σ i) : spl (xL g o σ ρ S P φ κ τ π) 11 (chL g (o + 11) σ') = xL g o σ' ρ S P φ κ τ π := by
  have e : spl (xL g o σ ρ S P φ κ τ π) 11 (chL g (o + 11) σ') = spl (xL g o σ ρ S P φ κ τ π) 1 (spl (loL g (o + 1) σ ρ) 10 (chL g (o + 1 + 10) σ')) := rfl
  rw [e, f_lo_ch_10 h]; rfl
