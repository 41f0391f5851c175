/-! the text: the class reads it sign by sign, the model card by card -/
theorem tn1 : ∀ k, k < 7 → (48 : Int32) + (nI k - 1) + 1 = nI (48 + k) := by decide +kernel
theorem tn2 : ∀ k, k < 7 → ∀ c, c < 127 → ((nI k ≤ nI c - 48 ∧ nI c - 48 ≤ 5) ↔ (48 + k ≤ c ∧ c ≤ 53)) := by decide +kernel
theorem tn3 : ∀ c, c < 127 → (bxB 0 (nI c - 48) = true ↔ (48 ≤ c ∧ c ≤ 51)) := by decide +kernel
theorem tn4 : ∀ c, c < 127 → (bxB 1 (nI c - 48) = true ↔ (48 ≤ c ∧ c ≤ 49)) := by decide +kernel
theorem tn5 : ∀ c, c < 127 → 48 ≤ c → nI c - 48 + 1 = nI (c - 47) ∧ nI c - 48 = nI (c - 47) - 1 := by decide +kernel
/-- the text of the class, the text of the model -/
def TT (τ tx : Nat → Int32) (len : Nat) : Prop := len ≤ 80 ∧ ∀ i, i < len → τ i = tx i ∧ (33 : Int32) ≤ tx i ∧ tx i ≤ (126 : Int32)
theorem tt_c {τ tx : Nat → Int32} {len a : Nat} (h : TT τ tx len) (ha : a < len) : ∃ c, c < 127 ∧ cC tx len a = nI c ∧ τ a = nI c := by
  obtain ⟨h1, h2, h3⟩ := h.2 a ha
  obtain ⟨c, hc, e⟩ := nI_cases (n := 126) (by omega) (Int32.le_trans (by decide) h2) h3
  exact ⟨c, by omega, by rw [cC, if_pos ha, e], by rw [h1, e]⟩
theorem cC_end {tx : Nat → Int32} {len : Nat} : cC tx len len = -1 := by rw [cC, if_neg (by omega)]
theorem se_acc {κ τ : Nat → Int32} {len k : Nat} (hk : k < len) (h : ¬ acV (auK κ τ k) (τ k) = 0) : seF κ τ (len - k) k = seF κ τ (len - (k + 1)) (k + 1) := by
  obtain ⟨n, hn⟩ : ∃ n, len - k = n + 1 := ⟨len - k - 1, by omega⟩
  rw [hn, seF, if_neg h, show len - (k + 1) = n by omega]
theorem se_rej {κ τ : Nat → Int32} {len k : Nat} (hk : k < len) (h : acV (auK κ τ k) (τ k) = 0) : seF κ τ (len - k) k = nI k := by
  obtain ⟨n, hn⟩ : ∃ n, len - k = n + 1 := ⟨len - k - 1, by omega⟩
  rw [hn, seF, if_pos h]
theorem se_end {κ τ : Nat → Int32} {len : Nat} : seF κ τ (len - len) len = if auK κ τ len 3 = 4 then -6 else nI len := by
  rw [Nat.sub_self, seF]
theorem rc_s {κ τ σ : Nat → Int32} {k : Nat} (h : ¬ acV (auK κ τ k) (τ k) = 0) (h4 : ¬ auK κ τ (k + 1) 3 = 4) : rcS κ τ σ (k + 1) = rcS κ τ σ k := by
  rw [rcS, if_neg h, if_neg h4]
theorem rc_4 {κ τ σ : Nat → Int32} {k : Nat} (h : ¬ acV (auK κ τ k) (τ k) = 0) (h4 : auK κ τ (k + 1) 3 = 4) : rcS κ τ σ (k + 1) = apG (rcS κ τ σ k) (auK κ τ (k + 1) 0) (auK κ τ (k + 1) 1) (auK κ τ (k + 1) 2) := by
  rw [rcS, if_neg h, if_pos h4]
/-- one step of the reader -/
theorem s0_L {q : Nat → Int32} (h : q 3 = 0) : acV q 76 = 1 ∧ acK q 76 = upd q 3 1 := ⟨by rw [acV, if_pos h, if_pos rfl], by rw [acK, if_pos h, if_pos rfl]⟩
theorem s0_f {q : Nat → Int32} {c : Int32} (h : q 3 = 0) (h1 : ¬ c = 76) (h2 : frB q (c - 48) = true) : acV q c = 1 ∧ acK q c = frK q (c - 48) := ⟨by rw [acV, if_pos h, if_neg h1, if_pos h2], by rw [acK, if_pos h, if_neg h1, if_pos h2]⟩
theorem s0_n {q : Nat → Int32} {c : Int32} (h : q 3 = 0) (h1 : ¬ c = 76) (h2 : ¬ frB q (c - 48) = true) : acV q c = 0 := by rw [acV, if_pos h, if_neg h1, if_neg h2]
theorem s1_y {q : Nat → Int32} {c : Int32} (h : q 3 = 1) (h2 : bxB 0 (c - 48) = true) : acV q c = 1 ∧ acK q c = upd (upd q 1 (c - 48)) 3 2 := ⟨by rw [acV, if_neg (by rw [h]; decide), if_pos h, if_pos h2], by rw [acK, if_neg (by rw [h]; decide), if_pos h, if_pos h2]⟩
theorem s1_n {q : Nat → Int32} {c : Int32} (h : q 3 = 1) (h2 : ¬ bxB 0 (c - 48) = true) : acV q c = 0 := by rw [acV, if_neg (by rw [h]; decide), if_pos h, if_neg h2]
theorem s2_y {q : Nat → Int32} (h : q 3 = 2) : acV q 82 = 1 ∧ acK q 82 = upd q 3 3 := ⟨by rw [acV, if_neg (by rw [h]; decide), if_neg (by rw [h]; decide), if_pos h, if_pos rfl], by rw [acK, if_neg (by rw [h]; decide), if_neg (by rw [h]; decide), if_pos h, if_pos rfl]⟩
theorem s2_n {q : Nat → Int32} {c : Int32} (h : q 3 = 2) (h2 : ¬ c = 82) : acV q c = 0 := by rw [acV, if_neg (by rw [h]; decide), if_neg (by rw [h]; decide), if_pos h, if_neg h2]
theorem s3_y {q : Nat → Int32} {c : Int32} (h : q 3 = 3) (h2 : bxB 1 (c - 48) = true) : acV q c = 1 ∧ acK q c = upd (upd q 2 (c - 48)) 3 4 := ⟨by rw [acV, if_neg (by rw [h]; decide), if_neg (by rw [h]; decide), if_neg (by rw [h]; decide), if_pos h, if_pos h2], by rw [acK, if_neg (by rw [h]; decide), if_neg (by rw [h]; decide), if_neg (by rw [h]; decide), if_pos h, if_pos h2]⟩
theorem s3_n {q : Nat → Int32} {c : Int32} (h : q 3 = 3) (h2 : ¬ bxB 1 (c - 48) = true) : acV q c = 0 := by rw [acV, if_neg (by rw [h]; decide), if_neg (by rw [h]; decide), if_neg (by rw [h]; decide), if_pos h, if_neg h2]
theorem s4_y {q : Nat → Int32} (h : q 3 = 4) : acV q 59 = 1 ∧ acK q 59 = stK q := ⟨by rw [acV, if_neg (by rw [h]; decide), if_neg (by rw [h]; decide), if_neg (by rw [h]; decide), if_neg (by rw [h]; decide), if_pos rfl], by rw [acK, if_neg (by rw [h]; decide), if_neg (by rw [h]; decide), if_neg (by rw [h]; decide), if_neg (by rw [h]; decide), if_pos rfl]⟩
theorem s4_n {q : Nat → Int32} {c : Int32} (h : q 3 = 4) (h2 : ¬ c = 59) : acV q c = 0 := by rw [acV, if_neg (by rw [h]; decide), if_neg (by rw [h]; decide), if_neg (by rw [h]; decide), if_neg (by rw [h]; decide), if_neg h2]
theorem n0 {x : Int32} (h : x = 1) : ¬ x = 0 := by rw [h]; decide
/-- the frames -/
theorem dg_m2 {κ τ tx : Nat → Int32} {len : Nat} (hT : TT τ tx len) : ∀ n a k f, n = len - a → a ≤ len → k < 7 → auK κ τ a 3 = 0 → auK κ τ a 0 = f → auK κ τ a 4 = nI k → ∃ k' e, k' < 7 ∧ dgE tx len n a (nI k - 1) = e ∧ a ≤ e ∧ e ≤ len ∧ auK κ τ e 3 = 0 ∧ auK κ τ e 0 = dgR tx len n a (nI k - 1) f ∧ auK κ τ e 4 = nI k' ∧ ¬ ((48 : Int32) + (nI k' - 1) + 1 ≤ cC tx len e ∧ cC tx len e ≤ 53) ∧ seF κ τ (len - a) a = seF κ τ (len - e) e ∧ (∀ σ, rcS κ τ σ e = rcS κ τ σ a)
  | 0, a, k, f, hn, ha, hk, h3, h0, h4 => by
    have ea : a = len := by omega
    subst ea
    refine ⟨k, a, hk, rfl, Nat.le_refl _, Nat.le_refl _, h3, h0, h4, ?_, rfl, fun _ => rfl⟩
    rw [cC_end, tn1 k hk]
    exact fun q => absurd (Int32.le_trans ((nI_leI (a := 0) (by omega) (by omega)).mpr (Nat.zero_le (48 + k))) q.1) (by decide)
  | n + 1, a, k, f, hn, ha, hk, h3, h0, h4 => by
    have hal : a < len := by omega
    obtain ⟨c, hc, e1, e2⟩ := tt_c hT hal
    rw [dgE, dgR]
    by_cases q : (48 : Int32) + (nI k - 1) + 1 ≤ cC tx len a ∧ cC tx len a ≤ 53
    · rw [if_pos q, if_pos q]
      have qc : 48 + k ≤ c ∧ c ≤ 53 := by
        rw [e1, tn1 k hk] at q
        exact ⟨(nI_leI (by omega) (by omega)).mp q.1, (nI_leI (b := 53) (by omega) (by omega)).mp q.2⟩
      have hfr : frB (auK κ τ a) (τ a - 48) = true := by
        rw [frB, h4, e2]
        exact decide_eq_true ((tn2 k hk c hc).mpr qc)
      have h76 : ¬ τ a = 76 := by
        rw [e2]
        intro z
        have := (nI_eq (b := 76) (by omega) (by omega)).mp z
        omega
      obtain ⟨v1, v2⟩ := s0_f h3 h76 hfr
      obtain ⟨t1, t2⟩ := tn5 c hc (by omega)
      have hau : auK κ τ (a + 1) = frK (auK κ τ a) (τ a - 48) := by rw [auK, v2]
      have g3 : auK κ τ (a + 1) 3 = 0 := by rw [hau, frK, pk_un (by omega), pk_un (by omega), h3]
      have g0 : auK κ τ (a + 1) 0 = f ||| ((1 : Int32) <<< ((cC tx len a - 48) &&& 31)) := by rw [hau, frK, pk_un (by omega), pk_us, h0, e1, e2]
      have g4 : auK κ τ (a + 1) 4 = nI (c - 47) := by rw [hau, frK, pk_us, e2, t1]
      obtain ⟨k', e, hk', d1, d2, d3, d4, d5, d6, d7, d8, d9⟩ := dg_m2 (κ := κ) hT n (a + 1) (c - 47) _ (by omega) (by omega) (by omega) g3 g0 g4
      rw [e1, t2]
      rw [e1, t2] at d5
      refine ⟨k', e, hk', d1, by omega, d3, d4, d5, d6, d7, (se_acc hal (n0 v1)).trans d8, fun σ => (d9 σ).trans (rc_s (n0 v1) (by rw [g3]; decide))⟩
    · rw [if_neg q, if_neg q]
      exact ⟨k, a, hk, rfl, Nat.le_refl _, ha, h3, h0, h4, q, rfl, fun _ => rfl⟩
/-- the reader stands at a card's beginning -/
def ST (q : Nat → Int32) : Prop := q 3 = 0 ∧ q 0 = 0 ∧ q 4 = 0
theorem st_ST (q : Nat → Int32) : ST (stK q) := by
  refine ⟨?_, ?_, ?_⟩
  · rw [stK, pk_un (by omega), pk_un (by omega), pk_us]
  · rw [stK, pk_un (by omega), pk_us]
  · rw [stK, pk_us]
/-- a card: a fault, or the reader behind it -/
theorem cd_m {κ τ tx : Nat → Int32} {len a : Nat} (hT : TT τ tx len) (ha : a ≤ len) (hS : ST (auK κ τ a)) : (cdB tx len a = 0 ∧ seF κ τ (len - a) a = nI (cdE tx len a)) ∨ (¬ cdB tx len a = 0 ∧ seF κ τ (len - a) a = seF κ τ (len - cdE tx len a) (cdE tx len a) ∧ auK κ τ (cdE tx len a) 3 = 4 ∧ ∀ σ, rcS κ τ σ (cdE tx len a) = apG (rcS κ τ σ a) (rqF tx len a) (cC tx len (rqE tx len a + 1) - 48) (cC tx len (rqE tx len a + 3) - 48)) := by
  have hl := hT.1
  obtain ⟨k', e, hk', d1, d2, d3, d4, d5, d6, d7, d8, d9⟩ := dg_m2 (κ := κ) hT (len - a) a 0 0 rfl ha (by omega) hS.1 hS.2.1 hS.2.2
  have he : rqE tx len a = e := by rw [rqE]; exact d1
  have hF : auK κ τ e 0 = rqF tx len a := by rw [rqF]; exact d5
  rw [cdB, cdE, he, d8]
  -- the sign L
  rcases Nat.eq_or_lt_of_le d3 with z | z
  · have k1 : ¬ qD1 tx len e = true := by
      rw [z]
      exact fun q => absurd (of_decide_eq_true q) (by rw [cC_end]; decide)
    refine Or.inl ⟨by rw [rqB, if_neg k1], ?_⟩
    rw [rqP, if_neg k1, z, se_end, ← z, if_neg (by rw [d4]; decide)]
  obtain ⟨c, hc, e1, e2⟩ := tt_c hT z
  by_cases k1 : qD1 tx len e = true
  case neg =>
    refine Or.inl ⟨by rw [rqB, if_neg k1], ?_⟩
    rw [rqP, if_neg k1]
    refine se_rej z (s0_n d4 ?_ ?_)
    · exact fun q => k1 (decide_eq_true (by rw [e1, ← e2, q]))
    · rw [frB, d6, e2]
      intro q
      have := (tn2 k' hk' c hc).mp (of_decide_eq_true q)
      rw [e1, tn1 k' hk'] at d7
      exact d7 ⟨(nI_leI (by omega) (by omega)).mpr this.1, (nI_leI (b := 53) (by omega) (by omega)).mpr this.2⟩
  have hc76 : τ e = 76 := by rw [e2, ← e1]; exact of_decide_eq_true k1
  obtain ⟨v1, v2⟩ := s0_L d4
  rw [← hc76] at v1 v2
  have u1 : auK κ τ (e + 1) = upd (auK κ τ e) 3 1 := by rw [auK, v2]
  have u13 : auK κ τ (e + 1) 3 = 1 := by rw [u1, pk_us]
  have u10 : auK κ τ (e + 1) 0 = rqF tx len a := by rw [u1, pk_un (by omega), hF]
  have r1 : ∀ σ, rcS κ τ σ (e + 1) = rcS κ τ σ a := fun σ => (rc_s (n0 v1) (by rw [u13]; decide)).trans (d9 σ)
  rw [se_acc z (n0 v1)]
  -- the left box
  rcases Nat.eq_or_lt_of_le (show e + 1 ≤ len from z) with y | y
  · have k2 : ¬ qD2 tx len (e + 1) = true := by
      rw [y]
      exact fun q => absurd (of_decide_eq_true q) (by rw [cC_end]; decide)
    refine Or.inl ⟨by rw [rqB, if_pos k1, if_neg k2], ?_⟩
    rw [rqP, if_pos k1, if_neg k2, y, se_end, ← y, if_neg (by rw [u13]; decide)]
  obtain ⟨c, hc, e1, e2⟩ := tt_c hT y
  by_cases k2 : qD2 tx len (e + 1) = true
  case neg =>
    refine Or.inl ⟨by rw [rqB, if_pos k1, if_neg k2], ?_⟩
    rw [rqP, if_pos k1, if_neg k2]
    refine se_rej y (s1_n u13 ?_)
    rw [e2]
    intro q
    have := (tn3 c hc).mp q
    exact k2 (decide_eq_true (by rw [e1]; exact ⟨(nI_leI (a := 48) (by omega) (by omega)).mpr this.1, (nI_leI (b := 51) (by omega) (by omega)).mpr this.2⟩))
  have hb2 : bxB 0 (τ (e + 1) - 48) = true := by
    have q : (48 : Int32) ≤ cC tx len (e + 1) ∧ cC tx len (e + 1) ≤ 51 := of_decide_eq_true k2
    rw [e1] at q
    rw [e2]
    exact (tn3 c hc).mpr ⟨(nI_leI (a := 48) (by omega) (by omega)).mp q.1, (nI_leI (b := 51) (by omega) (by omega)).mp q.2⟩
  obtain ⟨v1, v2⟩ := s1_y u13 hb2
  have u2 : auK κ τ (e + 2) = upd (upd (auK κ τ (e + 1)) 1 (cC tx len (e + 1) - 48)) 3 2 := by rw [show e + 2 = (e + 1) + 1 from rfl, auK, v2, e2, e1]
  have u23 : auK κ τ (e + 2) 3 = 2 := by rw [u2, pk_us]
  have u20 : auK κ τ (e + 2) 0 = rqF tx len a := by rw [u2, pk_un (by omega), pk_un (by omega), u10]
  have u21 : auK κ τ (e + 2) 1 = cC tx len (e + 1) - 48 := by rw [u2, pk_un (by omega), pk_us]
  have r2 : ∀ σ, rcS κ τ σ (e + 2) = rcS κ τ σ a := fun σ => (rc_s (n0 v1) (by rw [show e + 1 + 1 = e + 2 from rfl, u23]; decide)).trans (r1 σ)
  rw [se_acc y (n0 v1), show e + 1 + 1 = e + 2 from rfl]
  -- the sign R
  rcases Nat.eq_or_lt_of_le (show e + 2 ≤ len from y) with x | x
  · have k3 : ¬ qD3 tx len (e + 2) = true := by
      rw [x]
      exact fun q => absurd (of_decide_eq_true q) (by rw [cC_end]; decide)
    refine Or.inl ⟨by rw [rqB, if_pos k1, if_pos k2, if_neg k3], ?_⟩
    rw [rqP, if_pos k1, if_pos k2, if_neg k3, x, se_end, ← x, if_neg (by rw [u23]; decide)]
  obtain ⟨c, hc, e1, e2⟩ := tt_c hT x
  by_cases k3 : qD3 tx len (e + 2) = true
  case neg =>
    refine Or.inl ⟨by rw [rqB, if_pos k1, if_pos k2, if_neg k3], ?_⟩
    rw [rqP, if_pos k1, if_pos k2, if_neg k3]
    exact se_rej x (s2_n u23 (fun q => k3 (decide_eq_true (by rw [e1, ← e2, q]))))
  have hc82 : τ (e + 2) = 82 := by rw [e2, ← e1]; exact of_decide_eq_true k3
  obtain ⟨v1, v2⟩ := s2_y u23
  rw [← hc82] at v1 v2
  have u3 : auK κ τ (e + 3) = upd (auK κ τ (e + 2)) 3 3 := by rw [show e + 3 = (e + 2) + 1 from rfl, auK, v2]
  have u33 : auK κ τ (e + 3) 3 = 3 := by rw [u3, pk_us]
  have u30 : auK κ τ (e + 3) 0 = rqF tx len a := by rw [u3, pk_un (by omega), u20]
  have u31 : auK κ τ (e + 3) 1 = cC tx len (e + 1) - 48 := by rw [u3, pk_un (by omega), u21]
  have r3 : ∀ σ, rcS κ τ σ (e + 3) = rcS κ τ σ a := fun σ => (rc_s (n0 v1) (by rw [show e + 2 + 1 = e + 3 from rfl, u33]; decide)).trans (r2 σ)
  rw [se_acc x (n0 v1), show e + 2 + 1 = e + 3 from rfl]
  -- the right box
  rcases Nat.eq_or_lt_of_le (show e + 3 ≤ len from x) with w | w
  · have k4 : ¬ qD4 tx len (e + 3) = true := by
      rw [w]
      exact fun q => absurd (of_decide_eq_true q) (by rw [cC_end]; decide)
    refine Or.inl ⟨by rw [rqB, if_pos k1, if_pos k2, if_pos k3, if_neg k4], ?_⟩
    rw [rqP, if_pos k1, if_pos k2, if_pos k3, if_neg k4, w, se_end, ← w, if_neg (by rw [u33]; decide)]
  obtain ⟨c, hc, e1, e2⟩ := tt_c hT w
  by_cases k4 : qD4 tx len (e + 3) = true
  case neg =>
    refine Or.inl ⟨by rw [rqB, if_pos k1, if_pos k2, if_pos k3, if_neg k4], ?_⟩
    rw [rqP, if_pos k1, if_pos k2, if_pos k3, if_neg k4]
    refine se_rej w (s3_n u33 ?_)
    rw [e2]
    intro q
    have := (tn4 c hc).mp q
    exact k4 (decide_eq_true (by rw [e1]; exact ⟨(nI_leI (a := 48) (by omega) (by omega)).mpr this.1, (nI_leI (b := 49) (by omega) (by omega)).mpr this.2⟩))
  have hb4 : bxB 1 (τ (e + 3) - 48) = true := by
    have q : (48 : Int32) ≤ cC tx len (e + 3) ∧ cC tx len (e + 3) ≤ 49 := of_decide_eq_true k4
    rw [e1] at q
    rw [e2]
    exact (tn4 c hc).mpr ⟨(nI_leI (a := 48) (by omega) (by omega)).mp q.1, (nI_leI (b := 49) (by omega) (by omega)).mp q.2⟩
  obtain ⟨v1, v2⟩ := s3_y u33 hb4
  have u4 : auK κ τ (e + 4) = upd (upd (auK κ τ (e + 3)) 2 (cC tx len (e + 3) - 48)) 3 4 := by rw [show e + 4 = (e + 3) + 1 from rfl, auK, v2, e2, e1]
  have u43 : auK κ τ (e + 4) 3 = 4 := by rw [u4, pk_us]
  have u40 : auK κ τ (e + 4) 0 = rqF tx len a := by rw [u4, pk_un (by omega), pk_un (by omega), u30]
  have u41 : auK κ τ (e + 4) 1 = cC tx len (e + 1) - 48 := by rw [u4, pk_un (by omega), pk_un (by omega), u31]
  have u42 : auK κ τ (e + 4) 2 = cC tx len (e + 3) - 48 := by rw [u4, pk_un (by omega), pk_us]
  rw [se_acc w (n0 v1), show e + 3 + 1 = e + 4 from rfl, rqP, if_pos k1, if_pos k2, if_pos k3, if_pos k4, rqB, if_pos k1, if_pos k2, if_pos k3, if_pos k4]
  refine Or.inr ⟨by decide, rfl, u43, fun σ => ?_⟩
  have := rc_4 (σ := σ) (n0 v1) u43
  rw [show e + 3 + 1 = e + 4 from rfl, u40, u41, u42, r3 σ] at this
  exact this
theorem fd_m {κ τ tx : Nat → Int32} {len : Nat} (hT : TT τ tx len) : ∀ m a, len < a + m → a ≤ len → ST (auK κ τ a) → seF κ τ (len - a) a = fdA tx len m a
  | 0, a, h, ha, _ => absurd h (by omega)
  | m + 1, a, h, ha, hS => by
    rw [fdA]
    have hce := cdE_le (tx := tx) ha
    rcases cd_m hT ha hS with ⟨z, q⟩ | ⟨z, q, q4, -⟩
    · rw [if_pos z, q]
    · rw [if_neg z, q]
      by_cases hl : cdE tx len a = len
      · rw [if_pos hl, hl, se_end, ← hl, if_pos q4]
      · rw [if_neg hl]
        have hlt : cdE tx len a < len := by omega
        obtain ⟨c, hc, e1, e2⟩ := tt_c hT hlt
        have h4 := cdB_4 z ha
        by_cases h59 : cC tx len (cdE tx len a) = 59
        · have ht : τ (cdE tx len a) = 59 := by rw [e2, ← e1, h59]
          obtain ⟨v1, v2⟩ := s4_y q4
          rw [← ht] at v1 v2
          rw [if_pos h59, se_acc hlt (n0 v1)]
          refine fd_m hT m (cdE tx len a + 1) (by omega) (by omega) ?_
          rw [auK, v2]
          exact st_ST _
        · rw [if_neg h59]
          exact se_rej hlt (s4_n q4 (fun q => h59 (by rw [e1, ← e2, q])))
theorem se_m {κ τ tx : Nat → Int32} {len : Nat} (hT : TT τ tx len) : seF κ τ len 0 = fdA tx len (len + 1) 0 := fd_m (κ := κ) hT (len + 1) 0 (by omega) (Nat.zero_le _) (by rw [auK]; exact st_ST _)
