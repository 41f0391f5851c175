/-! one loom of the class and the law's arrays: the relation, and what a pick and its taking back keep of it -/
/-- the entries of the picks that can be taken back, oldest first: six numbers each, ten in b, ten in b2 -/
def enB (b b2 : Nat → Int32) (n i : Nat) : Int32 := if n < 10 then b (6 * n + i) else b2 (6 * (n - 10) + i)
/-- the gear when the pick of the slot s is taken back -/
def bkS (θ ρ : Nat → Int32) (s k : Nat) : Nat → Int32 := upd (upd (upd (upd (flS θ k 1) 3 (ρ (5 + 7 * s))) 4 (ρ (6 + 7 * s))) 5 (ρ (4 + 7 * s))) 1 (ρ (3 + 7 * s))
/-- a shuttle's yarn is in its bounds -/
def YB (μ : Nat → Int32) : Prop := ∀ k, k < 5 → 0 ≤ μ (13 + 4 * k) ∧ μ (13 + 4 * k) ≤ 99
theorem YB_n {μ : Nat → Int32} (h : YB μ) : YN μ := fun k hk => (h k hk).1
/-- n picks can be taken back, the newest of them in row r; e their entries -/
def KH (C : Nat) (ρ : Nat → Int32) (lt : Nat) (e : Nat → Nat → Int32) : Nat → Nat → (Nat → Int32) → Prop
  | 0, _, _ => True
  | n + 1, r, θ => ∃ k, k < 5 ∧ ρ (2 + 7 * sl lt r) = nI k ∧ (∃ p, p < C ∧ ρ (3 + 7 * sl lt r) = nI p) ∧ (∃ a, a < 4 ∧ ρ (5 + 7 * sl lt r) = nI a) ∧ (∃ a, a < 2 ∧ ρ (6 + 7 * sl lt r) = nI a) ∧ (θ (14 + 4 * k) = 0 ∨ θ (14 + 4 * k) = 1) ∧ (e n 0 = ρ (3 + 7 * sl lt r) ∧ e n 1 = ρ (5 + 7 * sl lt r) ∧ e n 2 = ρ (6 + 7 * sl lt r) ∧ e n 3 = ρ (4 + 7 * sl lt r) ∧ e n 4 = nI k ∧ e n 5 = if θ (14 + 4 * k) = 0 then 10 * 1 + θ 4 else 10 * 0 + θ 3) ∧ YB (bkS θ ρ (sl lt r) k) ∧ KH C ρ lt e n (r + 1) (bkS θ ρ (sl lt r) k)
/-- what the chain reads of a state: the races and the sides -/
def EqS (a b : Nat → Int32) : Prop := a 3 = b 3 ∧ a 4 = b 4 ∧ (∀ j, j < 5 → a (14 + 4 * j) = b (14 + 4 * j)) ∧ ∀ j, j < 5 → a (13 + 4 * j) = b (13 + 4 * j)
theorem YB_e {a b : Nat → Int32} (h : EqS a b) (hY : YB a) : YB b := fun k hk => by rw [← h.2.2.2 k hk]; exact hY k hk
theorem fl_sd {θ : Nat → Int32} {k j : Nat} {m : Int32} : flS θ k m (14 + 4 * j) = if j = k then (if θ (14 + 4 * k) = 0 then 1 else 0) else θ (14 + 4 * j) := by
  unfold flS
  by_cases z : θ (14 + 4 * k) = 0
  · rw [if_pos z, if_pos z, pk_un (by omega), pk_un (by omega)]
    by_cases e : j = k
    · subst e; rw [pk_us, if_pos rfl]
    · rw [pk_un (by omega), if_neg e]
  · rw [if_neg z, if_neg z, pk_un (by omega), pk_un (by omega)]
    by_cases e : j = k
    · subst e; rw [pk_us, if_pos rfl]
    · rw [pk_un (by omega), if_neg e]
theorem fl_yn {θ : Nat → Int32} {k j : Nat} {m : Int32} : flS θ k m (13 + 4 * j) = if j = k then θ (13 + 4 * k) + m else θ (13 + 4 * j) := by
  unfold flS
  by_cases z : θ (14 + 4 * k) = 0
  · rw [if_pos z]
    by_cases e : j = k
    · subst e; rw [pk_us, if_pos rfl]
    · rw [pk_un (by omega), pk_un (by omega), pk_un (by omega), if_neg e]
  · rw [if_neg z]
    by_cases e : j = k
    · subst e; rw [pk_us, if_pos rfl]
    · rw [pk_un (by omega), pk_un (by omega), pk_un (by omega), if_neg e]
theorem bk_3 {θ ρ : Nat → Int32} {s k : Nat} : bkS θ ρ s k 3 = ρ (5 + 7 * s) := by rw [bkS, pk_un (by omega), pk_un (by omega), pk_un (by omega), pk_us]
theorem bk_4 {θ ρ : Nat → Int32} {s k : Nat} : bkS θ ρ s k 4 = ρ (6 + 7 * s) := by rw [bkS, pk_un (by omega), pk_un (by omega), pk_us]
theorem bk_sd {θ ρ : Nat → Int32} {s k j : Nat} : bkS θ ρ s k (14 + 4 * j) = if j = k then (if θ (14 + 4 * k) = 0 then 1 else 0) else θ (14 + 4 * j) := by
  rw [bkS, pk_un (by omega), pk_un (by omega), pk_un (by omega), pk_un (by omega), fl_sd]
theorem bk_yn {θ ρ : Nat → Int32} {s k j : Nat} : bkS θ ρ s k (13 + 4 * j) = if j = k then θ (13 + 4 * k) + 1 else θ (13 + 4 * j) := by
  rw [bkS, pk_un (by omega), pk_un (by omega), pk_un (by omega), pk_un (by omega), fl_yn]
theorem bk_eq {a b ρ ρ' : Nat → Int32} {s s' k : Nat} (h : EqS a b) (hk : k < 5) (hr : ∀ i, i < 7 → ρ (i + 7 * s) = ρ' (i + 7 * s')) : EqS (bkS a ρ s k) (bkS b ρ' s' k) := by
  refine ⟨by rw [bk_3, bk_3]; exact hr 5 (by omega), by rw [bk_4, bk_4]; exact hr 6 (by omega), fun j hj => ?_, fun j hj => ?_⟩
  · rw [bk_sd, bk_sd, h.2.2.1 k hk, h.2.2.1 j hj]
  · rw [bk_yn, bk_yn, h.2.2.2 k hk, h.2.2.2 j hj]
/-- the same rows, the same entries -/
theorem KH_eq {C : Nat} {ρ ρ' : Nat → Int32} {lt lt' : Nat} {e e' : Nat → Nat → Int32} : ∀ n r r' (a b : Nat → Int32), EqS a b → (∀ x, x < n → ∀ i, i < 7 → ρ (i + 7 * sl lt (r + x)) = ρ' (i + 7 * sl lt' (r' + x))) → (∀ x, x < n → ∀ i, i < 6 → e' x i = e x i) → KH C ρ lt e n r a → KH C ρ' lt' e' n r' b
  | 0, _, _, _, _, _, _, _, _ => trivial
  | n + 1, r, r', a, b, hE, hρ, he, h => by
    obtain ⟨k, hk, h1, h2, h3, h4, h5, ⟨g0, g1, g2, g3, g4, g5⟩, h6, h7⟩ := h
    have q : ∀ i, i < 7 → ρ (i + 7 * sl lt r) = ρ' (i + 7 * sl lt' r') := hρ 0 (by omega)
    refine ⟨k, hk, (q 2 (by omega)).symm.trans h1, ?_, ?_, ?_, ?_, ⟨?_, ?_, ?_, ?_, ?_, ?_⟩, YB_e (bk_eq hE hk q) h6, ?_⟩
    · rw [← q 3 (by omega)]; exact h2
    · rw [← q 5 (by omega)]; exact h3
    · rw [← q 6 (by omega)]; exact h4
    · rw [← hE.2.2.1 k hk]; exact h5
    · rw [he n (by omega) 0 (by omega), ← q 3 (by omega)]; exact g0
    · rw [he n (by omega) 1 (by omega), ← q 5 (by omega)]; exact g1
    · rw [he n (by omega) 2 (by omega), ← q 6 (by omega)]; exact g2
    · rw [he n (by omega) 3 (by omega), ← q 4 (by omega)]; exact g3
    · rw [he n (by omega) 4 (by omega)]; exact g4
    · rw [he n (by omega) 5 (by omega), ← hE.2.2.1 k hk, ← hE.1, ← hE.2.1]; exact g5
    · refine KH_eq n (r + 1) (r' + 1) _ _ (bk_eq hE hk q) (fun x hx i hi => ?_) (fun x hx => he x (by omega)) h7
      have := hρ (x + 1) (by omega) i hi
      rw [show r + (x + 1) = r + 1 + x by omega, show r' + (x + 1) = r' + 1 + x by omega] at this
      exact this
/-- the oldest entry is forgotten -/
theorem KH_drop {C : Nat} {ρ : Nat → Int32} {lt : Nat} {e : Nat → Nat → Int32} : ∀ n r (a : Nat → Int32), KH C ρ lt e (n + 1) r a → KH C ρ lt (fun x => e (x + 1)) n r a
  | 0, _, _, _ => trivial
  | n + 1, r, a, h => by
    obtain ⟨k, hk, h1, h2, h3, h4, h5, h6, h8, h7⟩ := h
    exact ⟨k, hk, h1, h2, h3, h4, h5, h6, h8, KH_drop n (r + 1) _ h7⟩
theorem sl_new0 {lt : Nat} : sl ((lt + 1) % 20) 0 = (lt + 1) % 20 := by unfold sl; omega
theorem sl_newS {lt r : Nat} (h : lt < 20) (hr : r < 20) : sl ((lt + 1) % 20) (r + 1) = sl lt r := by unfold sl; omega
theorem sl_back {lt r : Nat} (h : lt < 20) (hr : r < 19) : sl ((lt + 19) % 20) r = sl lt (r + 1) := by unfold sl; omega
theorem sl_ne {lt r : Nat} (h : lt < 20) (hr : r < 19) : sl lt r ≠ (lt + 1) % 20 := by unfold sl; omega
theorem ar_o {σ ρ : Nat → Int32} {n P k s i : Nat} (h : s ≠ n) (hs : s < 20) (hi : i < 7) : arR σ ρ n P k (i + 7 * s) = ρ (i + 7 * s) := by
  rw [arR, pk_un (by omega), pk_un (by omega), pk_un (by omega), pk_un (by omega), pk_un (by omega), pk_un (by omega), pk_un (by omega), pk_un (by omega)]
theorem ar_s {σ ρ : Nat → Int32} {n P k : Nat} : arR σ ρ n P k (0 + 7 * n) = σ (12 + 4 * k) ∧ arR σ ρ n P k (1 + 7 * n) = thS σ (σ (56 + 3 * P)) 12 ∧ arR σ ρ n P k (2 + 7 * n) = nI k ∧ arR σ ρ n P k (3 + 7 * n) = σ 1 ∧ arR σ ρ n P k (4 + 7 * n) = σ 5 ∧ arR σ ρ n P k (5 + 7 * n) = σ 3 ∧ arR σ ρ n P k (6 + 7 * n) = σ 4 := by
  unfold arR
  refine ⟨?_, ?_, ?_, ?_, ?_, ?_, ?_⟩
  · rw [pk_un (by omega), pk_un (by omega), pk_un (by omega), pk_un (by omega), pk_un (by omega), pk_us]
  · rw [pk_un (by omega), pk_un (by omega), pk_un (by omega), pk_un (by omega), pk_us]
  · rw [pk_un (by omega), pk_un (by omega), pk_un (by omega), pk_un (by omega), pk_un (by omega), pk_un (by omega), pk_us]
  · rw [pk_un (by omega), pk_un (by omega), pk_un (by omega), pk_us]
  · rw [pk_un (by omega), pk_un (by omega), pk_us]
  · rw [pk_un (by omega), pk_us]
  · rw [pk_us]
theorem ar_l {σ ρ : Nat → Int32} {n P k : Nat} (hn : n < 20) : arR σ ρ n P k 140 = nI n := by
  rw [arR, pk_un (by omega), pk_un (by omega), pk_un (by omega), pk_un (by omega), pk_un (by omega), pk_un (by omega), pk_un (by omega), pk_us]
theorem KH_pick {C P k B R lt : Nat} {σ ρ : Nat → Int32} {e e1 : Nat → Nat → Int32} (g9 : GC C P σ) (hV : VR C σ) (hY : YB σ) (hP : P < C) (hk : k < 5) (hf : flyN σ P = nI k) (hB : B ≤ 19) (hlt : lt < 20) (h : KH C ρ lt e B 0 σ) (he : ∀ x, x < B → ∀ i, i < 6 → e1 x i = e x i) (n0 : e1 B 0 = σ 1) (n1 : e1 B 1 = σ 3) (n2 : e1 B 2 = σ 4) (n3 : e1 B 3 = σ 5) (n4 : e1 B 4 = nI k) (n5 : e1 B 5 = wh σ k) : KH C (arR σ ρ ((lt + 1) % 20) P k) ((lt + 1) % 20) e1 (B + 1) 0 (lmS σ C P k R) := by
  have hA : ∀ i, i ≠ 7 → arR2 σ R i = σ i := fun i h => arR2_o h
  obtain ⟨a0, a1, a2, a3, a4, a5, a6⟩ := ar_s (σ := σ) (ρ := ρ) (n := (lt + 1) % 20) (P := P) (k := k)
  have m3 : lmS σ C P k R 3 = σ (57 + 3 * P) := by rw [lmS, pk_un (by omega), pk_un (by omega), mv_3 hk, hA _ (by omega)]
  have m4 : lmS σ C P k R 4 = σ (58 + 3 * P) := by rw [lmS, pk_un (by omega), pk_un (by omega), mv_4 hk, hA _ (by omega)]
  have ms : ∀ j, j < 5 → lmS σ C P k R (14 + 4 * j) = if j = k then (if σ (14 + 4 * k) = 0 then 1 else 0) else σ (14 + 4 * j) := fun j hj => by
    rw [lmS, pk_un (by omega), pk_un (by omega), mv_sd hk hj, hA _ (by omega), hA _ (by omega)]
  have my : ∀ j, j < 5 → lmS σ C P k R (13 + 4 * j) = if j = k then σ (13 + 4 * k) + -1 else σ (13 + 4 * j) := fun j hj => by
    rw [lmS, pk_un (by omega), pk_un (by omega), mv_yn hk hj, hA _ (by omega), hA _ (by omega)]
  have fl : (σ (14 + 4 * k) = 0 ∧ σ (15 + 4 * k) = σ (57 + 3 * P)) ∨ (σ (14 + 4 * k) = 1 ∧ σ (15 + 4 * k) = σ (58 + 3 * P)) := by
    have hf2 := hf
    unfold flyN at hf2
    by_cases q : onS σ P 0 = -6
    · rw [if_pos q] at hf2
      have := fnd_at hk hf2
      exact Or.inr ⟨this.1, this.2.trans bxS_1⟩
    · rw [if_neg q] at hf2
      have := fnd_at hk hf2
      exact Or.inl ⟨this.1, this.2.trans bxS_0⟩
  have mk : lmS σ C P k R (14 + 4 * k) = if σ (14 + 4 * k) = 0 then 1 else 0 := by rw [ms k hk, if_pos rfl]
  have hE : EqS σ (bkS (lmS σ C P k R) (arR σ ρ ((lt + 1) % 20) P k) (sl ((lt + 1) % 20) 0) k) := by
    refine ⟨?_, ?_, fun j hj => ?_, fun j hj => ?_⟩
    · rw [bk_3, sl_new0, a5]
    · rw [bk_4, sl_new0, a6]
    · rw [bk_sd, mk, ms j hj]
      by_cases z : j = k
      · subst z
        rw [if_pos rfl]
        rcases fl with ⟨z, -⟩ | ⟨z, -⟩
        · rw [if_pos z, if_neg (by decide)]; exact z
        · rw [z]; rfl
      · rw [if_neg z, if_neg z]
    · rw [bk_yn, my j hj, my k hk, if_pos rfl]
      by_cases z : j = k
      · subst z
        rw [if_pos rfl, Int32.add_assoc, show (-1 : Int32) + 1 = 0 from rfl, Int32.add_zero]
      · rw [if_neg z, if_neg z]
  refine ⟨k, hk, ?_, ?_, ?_, ?_, ?_, ⟨?_, ?_, ?_, ?_, n4, ?_⟩, YB_e hE hY, ?_⟩
  · rw [sl_new0]; exact a2
  · rw [sl_new0, a3]; exact ⟨P, hP, g9.2.1⟩
  · rw [sl_new0, a5]; exact hV.2.2.1
  · rw [sl_new0, a6]; exact hV.2.2.2.1
  · rw [mk]
    rcases fl with ⟨z, -⟩ | ⟨z, -⟩
    · exact Or.inr (if_pos z)
    · exact Or.inl (by rw [z]; rfl)
  · rw [sl_new0, a3, n0]
  · rw [sl_new0, a5, n1]
  · rw [sl_new0, a6, n2]
  · rw [sl_new0, a4, n3]
  · rw [n5, mk, m3, m4]
    rcases fl with ⟨z, w⟩ | ⟨z, w⟩
    · rw [if_pos z, if_neg (by decide), wh_0 z, w]
    · rw [z, show (if (1 : Int32) = 0 then (1 : Int32) else 0) = 0 from rfl, if_pos rfl, wh_1 z, w]
  · refine KH_eq B 0 1 σ _ hE (fun x hx i hi => ?_) he h
    rw [show 0 + x = x by omega, show 1 + x = x + 1 by omega, sl_newS hlt (by omega), ar_o (sl_ne hlt (by omega)) (sl_lt _ _) hi]
theorem sl_00 {lt : Nat} (h : lt < 20) : sl lt 0 = lt := by unfold sl; omega
theorem KH_back {C B lt : Nat} {σ ρ : Nat → Int32} {e : Nat → Nat → Int32} (hlt : lt < 20) (hB : B ≤ 19) (h : KH C ρ lt e (B + 1) 0 σ) : ∃ k, k < 5 ∧ ρ (2 + 7 * lt) = nI k ∧ (∃ p, p < C ∧ ρ (3 + 7 * lt) = nI p) ∧ (∃ a, a < 4 ∧ ρ (5 + 7 * lt) = nI a) ∧ (∃ a, a < 2 ∧ ρ (6 + 7 * lt) = nI a) ∧ (σ (14 + 4 * k) = 0 ∨ σ (14 + 4 * k) = 1) ∧ (e B 0 = ρ (3 + 7 * lt) ∧ e B 1 = ρ (5 + 7 * lt) ∧ e B 2 = ρ (6 + 7 * lt) ∧ e B 3 = ρ (4 + 7 * lt) ∧ e B 4 = nI k ∧ e B 5 = if σ (14 + 4 * k) = 0 then 10 * 1 + σ 4 else 10 * 0 + σ 3) ∧ YB (ltS σ ρ lt k) ∧ KH C (upd ρ 140 (nI ((lt + 19) % 20))) ((lt + 19) % 20) e B 0 (ltS σ ρ lt k) := by
  obtain ⟨k, hk, h1, h2, h3, h4, h5, h6, h8, h7⟩ := h
  rw [sl_00 hlt] at h1 h2 h3 h4 h6 h7 h8
  have hE : EqS (bkS σ ρ lt k) (ltS σ ρ lt k) := by
    refine ⟨?_, ?_, fun j hj => ?_, fun j hj => ?_⟩
    · rw [bk_3, ltS, pk_un (by omega), pk_un (by omega), trS, pk_un (by omega), pk_un (by omega), pk_un (by omega), pk_un (by omega), pk_us]
    · rw [bk_4, ltS, pk_un (by omega), pk_un (by omega), trS, pk_un (by omega), pk_un (by omega), pk_un (by omega), pk_us]
    · rw [bk_sd, ltS, pk_un (by omega), pk_un (by omega), trS, pk_un (by omega), pk_un (by omega), pk_un (by omega), pk_un (by omega), pk_un (by omega), fl_sd]
    · rw [bk_yn, ltS, pk_un (by omega), pk_un (by omega), trS, pk_un (by omega), pk_un (by omega), pk_un (by omega), pk_un (by omega), pk_un (by omega), fl_yn]
  refine ⟨k, hk, h1, h2, h3, h4, h5, h6, YB_e hE h8, ?_⟩
  refine KH_eq B 1 0 _ _ hE (fun x hx i hi => ?_) (fun _ _ _ _ => rfl) h7
  rw [show 0 + x = x by omega, show 0 + 1 + x = x + 1 by omega, sl_back hlt (by omega), pk_un (by have := sl_lt lt (x + 1); omega)]
