/-! the class's state and the model's -/
/-- a slot of the cloth's ring and a row of the model -/
def RW (ρ μ : Nat → Int32) (n r : Nat) : Prop := μ (104 + 9 * r) = ρ (0 + 7 * n) ∧ μ (105 + 9 * r) = ρ (1 + 7 * n) ∧ μ (106 + 9 * r) = ρ (3 + 7 * n) ∧ μ (107 + 9 * r) = ρ (5 + 7 * n) ∧ μ (108 + 9 * r) = ρ (6 + 7 * n) ∧ μ (109 + 9 * r) = ρ (4 + 7 * n) ∧ μ (110 + 9 * r) = ρ (2 + 7 * n)
/-- sides, boxes and races when the pick of row r is taken back -/
def tk (μ : Nat → Int32) (r k : Nat) (θ : Nat → Int32) : Nat → Int32 := upd (upd (upd (upd (upd θ (13 + 4 * k) (θ (13 + 4 * k) + 1)) 3 (μ (107 + 9 * r))) 4 (μ (108 + 9 * r))) (14 + 4 * k) (μ (111 + 9 * r))) (15 + 4 * k) (μ (112 + 9 * r))
/-- a shuttle's yarn is in its bounds -/
def YB (μ : Nat → Int32) : Prop := ∀ k, k < 5 → 0 ≤ μ (13 + 4 * k) ∧ μ (13 + 4 * k) ≤ 99
theorem YB_n {μ : Nat → Int32} (h : YB μ) : YN μ := fun k hk => (h k hk).1
/-- n picks can be taken back, the first one that of row r -/
def CH (C : Nat) (μ : Nat → Int32) : Nat → Nat → (Nat → Int32) → Prop
  | 0, _, _ => True
  | n + 1, r, θ => ∃ k, k < 5 ∧ μ (110 + 9 * r) = nI k ∧ (∃ p, p < C ∧ μ (106 + 9 * r) = nI p) ∧ ((μ (111 + 9 * r) = 0 ∧ θ (14 + 4 * k) = 1 ∧ μ (112 + 9 * r) = θ 3) ∨ (μ (111 + 9 * r) = 1 ∧ θ (14 + 4 * k) = 0 ∧ μ (112 + 9 * r) = θ 4)) ∧ UN (tk μ r k θ) ∧ YB (tk μ r k θ) ∧ CH C μ n (r + 1) (tk μ r k θ)
def EqT (a b : Nat → Int32) : Prop := a 3 = b 3 ∧ a 4 = b 4 ∧ ∀ j, j < 5 → a (14 + 4 * j) = b (14 + 4 * j) ∧ a (15 + 4 * j) = b (15 + 4 * j) ∧ a (13 + 4 * j) = b (13 + 4 * j)
theorem tk_3 {μ θ : Nat → Int32} {r k : Nat} : tk μ r k θ 3 = μ (107 + 9 * r) := by rw [tk, pk_un (by omega), pk_un (by omega), pk_un (by omega), pk_us]
theorem tk_4 {μ θ : Nat → Int32} {r k : Nat} : tk μ r k θ 4 = μ (108 + 9 * r) := by rw [tk, pk_un (by omega), pk_un (by omega), pk_us]
theorem tk_sd {μ θ : Nat → Int32} {r k j : Nat} : tk μ r k θ (14 + 4 * j) = if j = k then μ (111 + 9 * r) else θ (14 + 4 * j) := by
  rw [tk, pk_un (by omega)]
  by_cases e : j = k
  · subst e; rw [pk_us, if_pos rfl]
  · rw [pk_un (by omega), pk_un (by omega), pk_un (by omega), pk_un (by omega), if_neg e]
theorem tk_bx {μ θ : Nat → Int32} {r k j : Nat} : tk μ r k θ (15 + 4 * j) = if j = k then μ (112 + 9 * r) else θ (15 + 4 * j) := by
  rw [tk]
  by_cases e : j = k
  · subst e; rw [pk_us, if_pos rfl]
  · rw [pk_un (by omega), pk_un (by omega), pk_un (by omega), pk_un (by omega), pk_un (by omega), if_neg e]
theorem tk_yn {μ θ : Nat → Int32} {r k j : Nat} : tk μ r k θ (13 + 4 * j) = if j = k then θ (13 + 4 * k) + 1 else θ (13 + 4 * j) := by
  rw [tk, pk_un (by omega), pk_un (by omega), pk_un (by omega), pk_un (by omega)]
  by_cases e : j = k
  · subst e; rw [pk_us, if_pos rfl]
  · rw [pk_un (by omega), if_neg e]
theorem YB_t {a b : Nat → Int32} (h : EqT a b) (hY : YB a) : YB b := fun j hj => by rw [← (h.2.2 j hj).2.2]; exact hY j hj
theorem UN_t {a b : Nat → Int32} (h : EqT a b) (hU : UN a) : UN b := by
  intro i j hi hj h1 h2 h3
  rw [← (h.2.2 i hi).1] at h1 h3
  rw [← (h.2.2 j hj).1] at h1
  rw [← (h.2.2 i hi).2.1, ← (h.2.2 j hj).2.1] at h2
  exact hU i j hi hj h1 h2 h3
theorem et_symm {a b : Nat → Int32} (h : EqT a b) : EqT b a := ⟨h.1.symm, h.2.1.symm, fun j hj => ⟨(h.2.2 j hj).1.symm, (h.2.2 j hj).2.1.symm, (h.2.2 j hj).2.2.symm⟩⟩
theorem et_tr {a b c : Nat → Int32} (h : EqT a b) (h' : EqT b c) : EqT a c := ⟨h.1.trans h'.1, h.2.1.trans h'.2.1, fun j hj => ⟨(h.2.2 j hj).1.trans (h'.2.2 j hj).1, (h.2.2 j hj).2.1.trans (h'.2.2 j hj).2.1, (h.2.2 j hj).2.2.trans (h'.2.2 j hj).2.2⟩⟩
theorem tk_t {μ μ' a b : Nat → Int32} {r r' k : Nat} (h : EqT a b) (e : ∀ w, w < 9 → μ' (104 + w + 9 * r') = μ (104 + w + 9 * r)) : EqT (tk μ r k a) (tk μ' r' k b) := by
  refine ⟨?_, ?_, fun j hj => ⟨?_, ?_, ?_⟩⟩
  · rw [tk_3, tk_3]; exact (e 3 (by omega)).symm
  · rw [tk_4, tk_4]; exact (e 4 (by omega)).symm
  · rw [tk_sd, tk_sd, (h.2.2 j hj).1, show μ' (111 + 9 * r') = μ (111 + 9 * r) from e 7 (by omega)]
  · rw [tk_bx, tk_bx, (h.2.2 j hj).2.1, show μ' (112 + 9 * r') = μ (112 + 9 * r) from e 8 (by omega)]
  · rw [tk_yn, tk_yn, (h.2.2 j hj).2.2]
    by_cases q : j = k
    · subst q; rw [if_pos rfl, if_pos rfl, (h.2.2 j hj).2.2]
    · rw [if_neg q, if_neg q]
theorem CH_c {C : Nat} {μ μ' : Nat → Int32} : ∀ n r r' (a b : Nat → Int32), EqT a b → (∀ j w, j < n → w < 9 → μ' (104 + w + 9 * (r' + j)) = μ (104 + w + 9 * (r + j))) → CH C μ n r a → CH C μ' n r' b
  | 0, _, _, _, _, _, _, _ => trivial
  | n + 1, r, r', a, b, h, e, ⟨k, hk, h1, ⟨p, hp, h2⟩, h3, h4, hy, h5⟩ => by
    have e0 : ∀ w, w < 9 → μ' (104 + w + 9 * r') = μ (104 + w + 9 * r) := fun w hw => e 0 w (by omega) hw
    have ht := tk_t (k := k) h e0
    refine ⟨k, hk, (e0 6 (by omega)).trans h1, ⟨p, hp, (e0 2 (by omega)).trans h2⟩, ?_, UN_t ht h4, YB_t ht hy, ?_⟩
    · rw [show μ' (111 + 9 * r') = μ (111 + 9 * r) from e0 7 (by omega), show μ' (112 + 9 * r') = μ (112 + 9 * r) from e0 8 (by omega), ← (h.2.2 k hk).1, ← h.1, ← h.2.1]
      exact h3
    · refine CH_c n (r + 1) (r' + 1) _ _ ht (fun j w hj hw => ?_) h5
      have := e (j + 1) w (by omega) hw
      rw [show r' + 1 + j = r' + (j + 1) by omega, show r + 1 + j = r + (j + 1) by omega]
      exact this
theorem CH_le {C : Nat} {μ : Nat → Int32} : ∀ m n r (a : Nat → Int32), m ≤ n → CH C μ n r a → CH C μ m r a
  | 0, _, _, _, _, _ => trivial
  | m + 1, 0, _, _, h, _ => absurd h (by omega)
  | m + 1, n + 1, r, a, h, ⟨k, hk, h1, h2, h3, h4, hy, h5⟩ => ⟨k, hk, h1, h2, h3, h4, hy, CH_le m n (r + 1) _ (by omega) h5⟩
/-- the class's loom and the model's state are one -/
def Rl (σ ρ μ : Nat → Int32) : Prop := ∃ C P R lt B : Nat, GC C P σ ∧ (∀ i, i < 56 + 3 * C → σ i = μ i) ∧ (σ 7 = nI R ∧ R ≤ 20) ∧ (ρ 140 = nI lt ∧ lt < 20) ∧ (∀ r, r < R → RW ρ μ (sl lt r) r) ∧ (σ 8 = nI B ∧ B ≤ R) ∧ CH C μ B 0 μ ∧ UN μ ∧ YB μ
theorem Rl_new : Rl sI zI sI := by
  refine ⟨0, 0, 0, 0, 0, ⟨by decide, by decide, Or.inr ⟨rfl, rfl⟩, by omega⟩, fun _ _ => rfl, ⟨by decide, by omega⟩, ⟨rfl, by omega⟩, fun r hr => absurd hr (by omega), ⟨by decide, by omega⟩, trivial, ?_, ?_⟩
  · intro i j hi hj h1 h2 h3
    exact absurd (sI_sh hi).2.2.1 h3
  · intro j hj
    rw [(sI_sh hj).2.1]; decide
theorem Rl_mu {σ ρ μ μ' : Nat → Int32} (h : ∀ i, i < 284 → μ' i = μ i) : Rl σ ρ μ → Rl σ ρ μ' := by
  rintro ⟨C, P, R, lt, B, g, hA, ⟨hR, hR20⟩, hl, hW, ⟨hB, hBR⟩, hC, hU, hY⟩
  have hC16 := g.2.2.2
  have ht : EqT μ μ' := ⟨(h _ (by omega)).symm, (h _ (by omega)).symm, fun j hj => ⟨(h _ (by omega)).symm, (h _ (by omega)).symm, (h _ (by omega)).symm⟩⟩
  refine ⟨C, P, R, lt, B, g, fun i hi => (hA i hi).trans (h i (by omega)).symm, ⟨hR, hR20⟩, hl, fun r hr => ?_, ⟨hB, hBR⟩, ?_, UN_t ht hU, ?_⟩
  · obtain ⟨h1, h2, h3, h4, h5, h6, h7⟩ := hW r hr
    exact ⟨(h _ (by omega)).trans h1, (h _ (by omega)).trans h2, (h _ (by omega)).trans h3, (h _ (by omega)).trans h4, (h _ (by omega)).trans h5, (h _ (by omega)).trans h6, (h _ (by omega)).trans h7⟩
  · exact CH_c B 0 0 _ _ ht (fun j w hj hw => h _ (by omega)) hC
  · intro j hj
    rw [h _ (by omega)]; exact hY j hj
/-- a change by which picks can't be taken back any more -/
theorem Rl_ch {σ ρ μ σ' μ' : Nat → Int32} {C' P' : Nat} (h : Rl σ ρ μ) (g' : GC C' P' σ') (hA : ∀ i, i < 56 + 3 * C' → σ' i = μ' i) (h7 : σ' 7 = σ 7) (h8 : σ' 8 = 0) (hr : ∀ i, 104 ≤ i → μ' i = μ i) (hU : UN μ') (hY : YB μ') : Rl σ' ρ μ' := by
  obtain ⟨C, P, R, lt, B, g, -, ⟨hR, hR20⟩, hl, hW, -, -, -, -⟩ := h
  refine ⟨C', P', R, lt, 0, g', hA, ⟨h7.trans hR, hR20⟩, hl, fun r hr' => ?_, ⟨h8, by omega⟩, trivial, hU, hY⟩
  obtain ⟨h1, h2, h3, h4, h5, h6, h7⟩ := hW r hr'
  exact ⟨(hr _ (by omega)).trans h1, (hr _ (by omega)).trans h2, (hr _ (by omega)).trans h3, (hr _ (by omega)).trans h4, (hr _ (by omega)).trans h5, (hr _ (by omega)).trans h6, (hr _ (by omega)).trans h7⟩
/-! the saved states and the text -/
def slt (q n m : Nat) : Nat := (q + 7 + m - n) % 6
def hb (hs : Nat → Int32) (m : Nat) : Nat → Int32 := fun i => hs (m * 284 + i)
def Sv (S P : Nat → Nat → Int32) (π hs ι : Nat → Int32) : Prop := ∃ q n, (π 1 = nI q ∧ q < 6) ∧ (π 0 = nI n ∧ n ≤ 6) ∧ ι 0 = nI n ∧ ∀ m, m < n → Rl (S (slt q n m)) (P (slt q n m)) (hb hs m)
def Tx (τ π tx ι : Nat → Int32) : Prop := ∃ len, π 2 = nI len ∧ len ≤ 80 ∧ ι 1 = nI len ∧ ∀ i, i < len → τ i = tx i ∧ (33 : Int32) ≤ tx i ∧ tx i ≤ (126 : Int32)
theorem Sv_pi {S P : Nat → Nat → Int32} {π hs ι π' ι' : Nat → Int32} (h : Sv S P π hs ι) (h0 : π' 0 = π 0) (h1 : π' 1 = π 1) (hi : ι' 0 = ι 0) : Sv S P π' hs ι' := by
  obtain ⟨q, n, ⟨h2, h3⟩, ⟨h4, h5⟩, h6, h7⟩ := h
  exact ⟨q, n, ⟨h1.trans h2, h3⟩, ⟨h0.trans h4, h5⟩, hi.trans h6, h7⟩
theorem Tx_pi {τ π tx ι π' ι' : Nat → Int32} (h : Tx τ π tx ι) (h0 : π' 2 = π 2) (hi : ι' 1 = ι 1) : Tx τ π' tx ι' := by
  obtain ⟨len, h1, h2, h3, h4⟩ := h
  exact ⟨len, h0.trans h1, h2, hi.trans h3, h4⟩
theorem Sv_rec {S P : Nat → Nat → Int32} {π hs ι σ ρ μ : Nat → Int32} {q n : Nat} (hq : π 1 = nI q) (hq6 : q < 6) (hn6 : n ≤ 6) (h : ∀ m, m < n → Rl (S (slt q n m)) (P (slt q n m)) (hb hs m)) (hR : Rl σ ρ μ) : Sv (upS S ((q + 1) % 6) σ) (upS P ((q + 1) % 6) ρ) (upd (upd π 1 (nI ((q + 1) % 6))) 0 (nI (svN n))) (rcH hs n μ) (rcI ι n) := by
  have hm6 : (q + 1) % 6 < 6 := Nat.mod_lt _ (by decide)
  by_cases e : n = 6
  · subst e
    refine ⟨(q + 1) % 6, 6, ⟨by rw [pk_un (by omega), pk_us], hm6⟩, ⟨by rw [pk_us, svN, if_neg (by omega)], by omega⟩, by rw [rcI, pk_us, if_pos rfl], fun m hm => ?_⟩
    by_cases e5 : m = 5
    · subst e5
      have : slt ((q + 1) % 6) 6 5 = (q + 1) % 6 := by unfold slt; omega
      rw [this, upS_s, upS_s]
      refine Rl_mu (fun i hi => ?_) hR
      rw [hb, rcH, if_pos rfl, cpA, if_pos (by omega)]
      exact congrArg μ (by omega)
    · have h1 : slt ((q + 1) % 6) 6 m = slt q 6 (m + 1) := by unfold slt; omega
      have h2 : slt q 6 (m + 1) ≠ (q + 1) % 6 := by unfold slt; omega
      rw [h1, upS_n h2, upS_n h2]
      refine Rl_mu (fun i hi => ?_) (h (m + 1) (by omega))
      rw [hb, hb, rcH, if_pos rfl, cpA, if_neg (by omega), s6, if_pos (by omega)]
      exact congrArg hs (by omega)
  · refine ⟨(q + 1) % 6, n + 1, ⟨by rw [pk_un (by omega), pk_us], hm6⟩, ⟨by rw [pk_us, svN, if_pos (by omega)], by omega⟩, by rw [rcI, pk_us, if_neg e], fun m hm => ?_⟩
    by_cases e5 : m = n
    · subst e5
      have : slt ((q + 1) % 6) (m + 1) m = (q + 1) % 6 := by unfold slt; omega
      rw [this, upS_s, upS_s]
      refine Rl_mu (fun i hi => ?_) hR
      rw [hb, rcH, if_neg e, cpA, if_pos (by omega)]
      congr 1; omega
    · have h1 : slt ((q + 1) % 6) (n + 1) m = slt q n m := by unfold slt; omega
      have h2 : slt q n m ≠ (q + 1) % 6 := by unfold slt; omega
      rw [h1, upS_n h2, upS_n h2]
      refine Rl_mu (fun i hi => ?_) (h m (by omega))
      rw [hb, hb, rcH, if_neg e, cpA, if_neg (by omega)]
theorem Sv_undo {S P : Nat → Nat → Int32} {π hs ι : Nat → Int32} {q n : Nat} (hq6 : q < 6) (hn : ¬ n = 0) (hn6 : n ≤ 6) (h : ∀ m, m < n → Rl (S (slt q n m)) (P (slt q n m)) (hb hs m)) : Sv S P (upd (upd π 1 (nI ((q + 5) % 6))) 0 (nI (n - 1))) hs (upd ι 0 (nI (n - 1))) := by
  refine ⟨(q + 5) % 6, n - 1, ⟨by rw [pk_un (by omega), pk_us], Nat.mod_lt _ (by decide)⟩, ⟨pk_us, by omega⟩, pk_us, fun m hm => ?_⟩
  have h1 : slt ((q + 5) % 6) (n - 1) m = slt q n m := by unfold slt; omega
  rw [h1]
  exact h m (by omega)
theorem Rl_undo {S P : Nat → Nat → Int32} {hs μ : Nat → Int32} {q n : Nat} (hq6 : q < 6) (hn : ¬ n = 0) (hn6 : n ≤ 6) (h : ∀ m, m < n → Rl (S (slt q n m)) (P (slt q n m)) (hb hs m)) : Rl (S q) (P q) (cpA hs ((n - 1) * 284) μ 0 284) := by
  have h1 : slt q n (n - 1) = q := by unfold slt; omega
  have := h (n - 1) (by omega)
  rw [h1] at this
  refine Rl_mu (fun i hi => ?_) this
  rw [hb, cpA, if_pos (by omega)]
  congr 1
