/-! the cards of the text, on both sides -/
def ctN (τ : Nat → Int32) : Nat → Nat
  | 0 => 1
  | k + 1 => if τ k = 59 then ctN τ k + 1 else ctN τ k
theorem ctC_n {τ : Nat → Int32} : ∀ k, ctC τ k = nI (ctN τ k)
  | 0 => rfl
  | k + 1 => by
    rw [ctC, ctN, ctC_n k]
    by_cases q : τ k = 59
    · rw [if_pos q, if_pos q, nI_1]
    · rw [if_neg q, if_neg q]
theorem ctN_le {τ : Nat → Int32} : ∀ k, ctN τ k ≤ k + 1
  | 0 => Nat.le_refl _
  | k + 1 => by
    have := ctN_le (τ := τ) k
    rw [ctN]
    split <;> omega
theorem ctN_mono {τ : Nat → Int32} {j : Nat} : ∀ k, j ≤ k → ctN τ j ≤ ctN τ k
  | 0, h => by rw [show j = 0 by omega]; exact Nat.le_refl _
  | k + 1, h => by
    rcases Nat.eq_or_lt_of_le h with e | e
    · rw [e]; exact Nat.le_refl _
    · have := ctN_mono (τ := τ) (j := j) k (by omega)
      rw [ctN]
      split <;> omega
theorem ctC_m {τ tx : Nat → Int32} : ∀ k, (∀ i, i < k → τ i = tx i) → ctC τ k = ctC tx k
  | 0, _ => rfl
  | k + 1, h => by rw [ctC, ctC, ctC_m k (fun i hi => h i (by omega)), h k (by omega)]
/-- the loom while cards of the text come to it -/
def RK (σ μ : Nat → Int32) (P C : Nat) (σk μk : Nat → Int32) : Prop := GC C P σk ∧ (∀ i, i < 56 + 3 * C → σk i = μk i) ∧ σk 7 = σ 7 ∧ σk 8 = 0 ∧ (∀ i, 104 ≤ i → μk i = μ i) ∧ UN μk ∧ YB μk
theorem RK_ap {σ μ σk μk : Nat → Int32} {P C : Nat} {f l r : Int32} (h : RK σ μ P C σk μk) (hC : C < 16) : RK σ μ P (C + 1) (apG σk f l r) (apS μk (nt (μk 0)) f l r) := by
  obtain ⟨g, hA, h7, h8, hr, hU, hY⟩ := h
  have e1 : nt (σk 0) = C := nt_of g.1 (by omega)
  have e2 : nt (μk 0) = C := nt_of ((hA 0 (by omega)).symm.trans g.1) (by omega)
  rw [apG, e1, if_pos hC, e2]
  refine ⟨apS_GC g hC, apS_A hA, (apS_o (by omega) (by omega)).trans h7, (apS_o (by omega) (by omega)).trans h8, fun i hi => (apS_o (by omega) (by omega)).trans (hr i hi), UN_p (fun j hj => ?_) hU, YB_p (fun j hj => ?_) hY⟩
  · rw [apS_o (by omega) (by omega), apS_o (by omega) (by omega)]; exact ⟨rfl, rfl⟩
  · rw [apS_o (by omega) (by omega)]
theorem rk_m {κ τ tx σ μ σ0 : Nat → Int32} {len P C0 : Nat} (hT : TT τ tx len) (hC0 : C0 + ctN tx len ≤ 16) : ∀ m2 m a (ι μk : Nat → Int32) Ck, ι 4 = nI a → a ≤ len → len < a + m2 → (a = len ∨ (fdA tx len m a = -6 ∧ ST (auK κ τ a) ∧ Ck + 1 ≤ C0 + ctN tx a)) → RK σ μ P Ck (rcS κ τ σ0 a) μk → ∃ Cn, RK σ μ P Cn (rcS κ τ σ0 len) (rkS tx len m2 ι μk)
  | 0, m, a, ι, μk, Ck, _, ha, h, _, _ => absurd h (by omega)
  | m2 + 1, m, a, ι, μk, Ck, hi, ha, h, hV, hK => by
    have hl := hT.1
    have hna : nt (ι 4) = a := nt_of hi (by omega)
    rw [rkS, hna]
    by_cases hal : a < len
    · rw [if_pos hal]
      obtain ⟨hf, hS, hct⟩ := hV.resolve_left (by omega)
      obtain ⟨m1, rfl, hcb, hst⟩ := fd_step hl ha hf
      have hce := cdE_le (tx := tx) ha
      have hc4 := cdB_4 hcb ha
      obtain ⟨-, q1, q2, q3, q4⟩ := rqB_4 hcb
      rcases cd_m (κ := κ) hT ha hS with ⟨z, -⟩ | ⟨-, -, q4', hrc⟩
      · exact absurd z hcb
      have hmono := ctN_mono (τ := tx) len ha
      have hK2 := RK_ap (f := rqF tx len a) (l := cC tx len (rqE tx len a + 1) - 48) (r := cC tx len (rqE tx len a + 3) - 48) hK (by omega)
      rw [← hrc σ0] at hK2
      have f5 : nxI tx len (rdI tx len ι) 5 = rqF tx len a := by rw [nxI_o (by omega), rdI, ιP_5, hna]
      have f6 : nxI tx len (rdI tx len ι) 6 = cC tx len (rqE tx len a + 1) - 48 := by rw [nxI_o (by omega), rdI, ιP_6, hna, rqL, if_pos q1, if_pos q2]
      have f7 : nxI tx len (rdI tx len ι) 7 = cC tx len (rqE tx len a + 3) - 48 := by rw [nxI_o (by omega), rdI, ιP_7, hna, rqR, if_pos q1, if_pos q2, if_pos q3, if_pos q4]
      rw [f5, f6, f7]
      have h44 : rdI tx len ι 4 = nI (cdE tx len a) := rdI_4 hi (by omega)
      have n4 := nxI_4 (tx := tx) (len := len) h44 (by omega)
      rcases hst with e | ⟨e59, elt, ef⟩
      · rw [e, cC_end, if_neg (by decide)] at n4
        rw [e] at hK2
        exact rk_m hT hC0 m2 0 len _ _ (Ck + 1) n4 (Nat.le_refl _) (by omega) (Or.inl rfl) hK2
      · rw [if_pos e59] at n4
        obtain ⟨c, hc, e1, e2⟩ := tt_c hT elt
        have ht : τ (cdE tx len a) = 59 := by rw [e2, ← e1, e59]
        obtain ⟨v1, v2⟩ := s4_y q4'
        rw [← ht] at v1 v2
        have hau : auK κ τ (cdE tx len a + 1) = stK (auK κ τ (cdE tx len a)) := by rw [auK, v2]
        have hS2 : ST (auK κ τ (cdE tx len a + 1)) := by rw [hau]; exact st_ST _
        rw [← rc_s (n0 v1) (by rw [hS2.1]; decide)] at hK2
        have htx : tx (cdE tx len a) = 59 := by rw [cC, if_pos elt] at e59; exact e59
        have hm2 := ctN_mono (τ := tx) (cdE tx len a) (show a ≤ cdE tx len a by omega)
        refine rk_m hT hC0 m2 m1 (cdE tx len a + 1) _ _ (Ck + 1) n4 (by omega) (by omega) (Or.inr ⟨ef, hS2, ?_⟩) hK2
        rw [ctN, if_pos htx]
        omega
    · rw [if_neg hal]
      have e : a = len := by omega
      rw [← e]
      exact ⟨Ck, hK⟩
theorem op_rc {σ ρ μ τ tx κ κ' ι2 : Nat → Int32} {len C : Nat} (hR : Rl σ ρ μ) (hT : TT τ tx len) (hC : σ 0 = nI C) (hC16 : C ≤ 16) (hi : ι2 4 = 0) : rdE σ κ τ len = reE tx μ len ∧ (rdE σ κ τ len = 0 → rcS κ' τ (c8 σ) len 0 = rkS tx len (len + 1) ι2 (c8 μ) 0 ∧ Rl (rcS κ' τ (c8 σ) len) ρ (rkS tx len (len + 1) ι2 (c8 μ))) := by
  obtain ⟨C', P, R, lt, B, g, hA, h7, hl, hW, hB, hCh, hU, hY⟩ := id hR
  have hg16 := g.2.2.2
  have e : C' = C := (nI_eq (by omega) (by omega)).mp (g.1.symm.trans hC)
  subst e
  have hle := hT.1
  have hct : ctC τ len = ctC tx len := ctC_m len (fun i hi => (hT.2 i hi).1)
  have hN := ctN_le (τ := tx) len
  refine ⟨by rw [rdE, reE, se_m hT, hct, hA 0 (by omega)], fun z => ?_⟩
  rw [rdE, se_m hT, hct] at z
  obtain ⟨c1, z⟩ := ch1 z (by decide)
  obtain ⟨c2, -⟩ := ch2 z (by decide)
  have hCN : C' + ctN tx len ≤ 16 := by
    rw [hC, ctC_n, nI_add] at c2
    exact (nI_leI (b := 16) (by omega) (by omega)).mp (Int32.not_lt.mp c2)
  have hK0 : RK σ μ P C' (rcS κ' τ (c8 σ) 0) (c8 μ) := by
    rw [rcS]
    refine ⟨GC_up g (by omega) (by omega), up_A (k := 8) (x := 0) hA rfl, c8_o (by omega), (show upd σ 8 0 8 = 0 from pk_us), fun i hi => pk_un (by omega), UN_p (fun j hj => ?_) hU, YB_p (fun j hj => ?_) hY⟩
    · rw [c8, pk_un (by omega), pk_un (by omega)]; exact ⟨rfl, rfl⟩
    · rw [c8, pk_un (by omega)]
  obtain ⟨Cn, g2, hA2, k7, k8, kr, kU, kY⟩ := rk_m (κ := κ') (σ0 := c8 σ) hT hCN (len + 1) (len + 1) 0 ι2 (c8 μ) C' hi (Nat.zero_le _) (by omega) (Or.inr ⟨c1, by rw [auK]; exact st_ST _, by rw [ctN]; exact Nat.le_refl _⟩) hK0
  exact ⟨hA2 0 (by omega), Rl_ch hR g2 hA2 k7 k8 kr kU kY⟩
