/-! what the class answers to the law's changes -/
theorem wh_neg {C k : Nat} {σ : Nat → Int32} (hV : VR C σ) (hk : k < 5) : wh σ k < 0 ↔ σ (14 + 4 * k) = -6 := by
  rcases hV.1 k hk with ⟨e1, e2⟩ | ⟨e1, b, hb, e2⟩ | ⟨e1, b, hb, e2⟩
  · rw [wh_d e1]; exact ⟨fun _ => e1, fun _ => by decide⟩
  · rw [wh_0 e1, e2]; exact ⟨fun q => absurd q (wh_fin2 b hb).2.2.2.2.1, fun q => absurd (e1.symm.trans q) (by decide)⟩
  · rw [wh_1 e1, e2]; exact ⟨fun q => absurd q (wh_fin2 b (by omega)).2.2.2.2.2, fun q => absurd (e1.symm.trans q) (by decide)⟩
theorem fd_neg {σ : Nat → Int32} {a x : Int32} : fndF σ a x 5 0 < 0 ↔ fnd σ a x = -6 := by
  constructor
  · intro q
    by_cases z : fnd σ a x = -6
    · exact z
    · obtain ⟨k, hk, e⟩ := fnd_nI z
      have e2 : fndF σ a x 5 0 = nI k := e
      rw [e2] at q
      exact absurd q (nI_pos (by omega))
  · intro q
    have e2 : fndF σ a x 5 0 = -6 := q
    rw [e2]; decide
theorem in_ps {C s z : Nat} {σ q h t c : Nat → Int32} (hA : RA C σ q h t c) (hV : VR C σ) (hs : (s = 0 ∧ z < 4) ∨ (s = 1 ∧ z < 2)) : inF h (10 * nI s + nI z) 5 0 = fndF σ (nI s) (nI z) 5 0 := by
  rcases hs with ⟨rfl, hz⟩ | ⟨rfl, hz⟩
  · rw [show (10 : Int32) * nI 0 + nI z = nI z from by rw [show (10 : Int32) * nI 0 = 0 from rfl, Int32.zero_add]]
    exact in_0 hA hV hz 5 0 rfl
  · exact in_1 hA hV (show z < 4 by omega) 5 0 rfl
theorem bx_ok {s z : Nat} (hs : (s = 0 ∧ z < 4) ∨ (s = 1 ∧ z < 2)) : (nI s = 0 ∧ 0 ≤ nI z ∧ nI z ≤ 3) ∨ (nI s = 1 ∧ 0 ≤ nI z ∧ nI z ≤ 1) := by
  rcases hs with ⟨rfl, hz⟩ | ⟨rfl, hz⟩
  · exact Or.inl ⟨rfl, le_nI (n := 3) (by omega) (by omega)⟩
  · exact Or.inr ⟨rfl, le_nI (n := 1) (by omega) (by omega)⟩
theorem k4_ok {k : Nat} (hk : k < 5) : (0 : Int32) ≤ nI k ∧ nI k ≤ 4 := le_nI (n := 4) (by omega) (by omega)
theorem k11_ok {k : Nat} (hk : k < 12) : (0 : Int32) ≤ nI k ∧ nI k ≤ 11 := le_nI (n := 11) (by omega) (by omega)
theorem E_pi {C k s z : Nat} {σ q h t c : Nat → Int32} (hA : RA C σ q h t c) (hV : VR C σ) (hk : k < 5) (hs : (s = 0 ∧ z < 4) ∨ (s = 1 ∧ z < 2)) : piE σ (nI k) (nI s) (nI z) = if h (3 * k + 2) < 0 ∧ inF h (10 * nI s + nI z) 5 0 < 0 then 0 else -3 := by
  rw [piE, if_neg (not_not_intro (k4_ok hk)), if_neg (not_not_intro (bx_ok hs)), nt_nI (by omega), (hA.2.1 k hk).2.2, in_ps hA hV hs]
  by_cases z1 : σ (14 + 4 * k) = -6
  · rw [if_neg (not_not_intro z1)]
    by_cases z2 : fnd σ (nI s) (nI z) = -6
    · rw [if_neg (not_not_intro z2), if_pos ⟨(wh_neg hV hk).mpr z1, fd_neg.mpr z2⟩]
    · rw [if_pos z2, if_neg (fun w => z2 (fd_neg.mp w.2))]
  · rw [if_pos z1, if_neg (fun w => z1 ((wh_neg hV hk).mp w.1))]
/-- how many shuttles are in boxes, and one more, as the law counts -/
def mnF (h : Nat → Int32) : Nat → Int32
  | 0 => 1
  | i + 1 => mnF h i + (if h (3 * i + 2) < 0 then 0 else 1)
theorem mn_nb {C : Nat} {σ q h t c : Nat → Int32} (hA : RA C σ q h t c) (hV : VR C σ) : ∀ n, n ≤ 5 → mnF h n = nbx σ n + 1
  | 0, _ => rfl
  | n + 1, hn => by
    rw [mnF, nbx, mn_nb hA hV n (by omega), (hA.2.1 n (by omega)).2.2]
    by_cases z : σ (14 + 4 * n) = -6
    · rw [if_pos z, if_pos ((wh_neg hV (by omega)).mpr z), Int32.add_zero]
    · rw [if_neg z, if_neg (fun w => z ((wh_neg hV (by omega)).mp w))]
theorem nb_up {k : Nat} {σ σ' : Nat → Int32} (h0 : σ (14 + 4 * k) = -6) (h1 : ¬ σ' (14 + 4 * k) = -6) (ho : ∀ j, j ≠ k → σ' (14 + 4 * j) = σ (14 + 4 * j)) : ∀ n, nbx σ' n = nbx σ n + (if k < n then 1 else 0)
  | 0 => by rw [if_neg (Nat.not_lt_zero _)]; rfl
  | n + 1 => by
    rw [nbx, nbx, nb_up h0 h1 ho n]
    by_cases e : n = k
    · subst e
      rw [if_neg h1, if_pos h0, if_neg (Nat.lt_irrefl _), if_pos (Nat.lt_succ_self _), Int32.add_zero]
    · rw [ho n e]
      by_cases z : k < n
      · rw [if_pos z, if_pos (show k < n + 1 by omega)]
        split
        · rfl
        · rw [Int32.add_assoc]
      · rw [if_neg z, if_neg (show ¬ k < n + 1 by omega), Int32.add_zero]
        split
        · rw [Int32.add_zero]
        · rw [Int32.add_zero]
theorem E_mn {C k s z : Nat} {σ q h t c : Nat → Int32} (hA : RA C σ q h t c) (hV : VR C σ) (hk : k < 5) (hs : (s = 0 ∧ z < 4) ∨ (s = 1 ∧ z < 2)) (h1 : h (3 * k + 2) < 0) : nbx (upd (upd (c8 σ) (14 + 4 * k) (nI s)) (15 + 4 * k) (nI z)) 5 = mnF h 5 := by
  rw [(hA.2.1 k hk).2.2] at h1
  rw [mn_nb hA hV 5 (Nat.le_refl _), nb_up (σ := σ) ((wh_neg hV hk).mp h1) ?_ (fun j hj => ?_) 5, if_pos hk]
  · rw [pk_un (by omega), pk_us]
    rcases hs with ⟨rfl, -⟩ | ⟨rfl, -⟩ <;> decide
  · rw [pk_un (by omega), pk_un (by omega), c8, pk_un (by omega)]
theorem E_to {C k : Nat} {σ q h t c : Nat → Int32} (hA : RA C σ q h t c) (hV : VR C σ) (hk : k < 5) : toE σ (nI k) = if h (3 * k + 2) < 0 then -3 else 0 := by
  rw [toE, if_neg (not_not_intro (k4_ok hk)), nt_nI (by omega), (hA.2.1 k hk).2.2]
  by_cases z : σ (14 + 4 * k) = -6
  · rw [if_pos z, if_pos ((wh_neg hV hk).mpr z)]
  · rw [if_neg z, if_neg (fun w => z ((wh_neg hV hk).mp w))]
theorem E_tv {C k : Nat} {σ q h t c : Nat → Int32} (hA : RA C σ q h t c) (hV : VR C σ) (hk : k < 5) (h1 : ¬ h (3 * k + 2) < 0) : (10 : Int32) * c8 σ (14 + 4 * k) + c8 σ (15 + 4 * k) = h (3 * k + 2) := by
  rw [(hA.2.1 k hk).2.2] at h1 ⊢
  rw [c8, pk_un (by omega), pk_un (by omega), wh, if_neg (fun w => h1 ((wh_neg hV hk).mpr w))]
theorem E_wi {C k x y : Nat} {σ q h t c : Nat → Int32} (hA : RA C σ q h t c) (hV : VR C σ) (hk : k < 5) (hx : x < 10) (hy : y < 100) : wiE σ (nI k) (nI x) (nI y) = if h (3 * k + 2) < 0 then 0 else -3 := by
  rw [wiE, if_neg (not_not_intro (k4_ok hk)), if_neg (not_not_intro (show (0 : Int32) ≤ nI x ∧ nI x ≤ 9 from le_nI (n := 9) (by omega) (by omega))), if_neg (not_not_intro (show (0 : Int32) ≤ nI y ∧ nI y ≤ 99 from le_nI (n := 99) (by omega) (by omega))), nt_nI (by omega), (hA.2.1 k hk).2.2]
  by_cases z : σ (14 + 4 * k) = -6
  · rw [if_neg (not_not_intro z), if_pos ((wh_neg hV hk).mpr z)]
  · rw [if_pos z, if_neg (fun w => z ((wh_neg hV hk).mp w))]
theorem E_mb {s z : Nat} (hs : (s = 0 ∧ z < 4) ∨ (s = 1 ∧ z < 2)) : mbE (nI s) (nI z) = 0 := by
  rw [mbE, if_neg (not_not_intro (bx_ok hs))]
theorem E_dr {k f : Nat} (hk : k < 12) (hf : f < 6) : drE (nI k) (nI f) = 0 := by
  rw [drE, if_neg (not_not_intro (k11_ok hk)), if_neg (not_not_intro (show (0 : Int32) ≤ nI f ∧ nI f ≤ 5 from le_nI (n := 5) (by omega) (by omega)))]
theorem E_me {k y : Nat} (hk : k < 12) (hy : y < 100) : meE (nI k) (nI y) = 0 := by
  rw [meE, if_neg (not_not_intro (k11_ok hk)), if_neg (not_not_intro (show (0 : Int32) ≤ nI y ∧ nI y ≤ 99 from le_nI (n := 99) (by omega) (by omega)))]
theorem E_ss {v : Nat} (h1 : 0 < v) (h3 : v < 4) : ssE (nI v) = 0 := by
  rw [ssE, if_neg (not_not_intro (show (1 : Int32) ≤ nI v ∧ nI v ≤ 3 from ⟨(nI_leI (a := 1) (by omega) (by omega)).mpr h1, (nI_leI (b := 3) (by omega) (by omega)).mpr (by omega)⟩))]
theorem E_ac {C f x y : Nat} (hf : f < 64) (hx : x < 4) (hy : y < 2) : acE C (nI f) (nI x) (nI y) = if C < 16 then 0 else -4 := by
  rw [acE, if_neg (not_not_intro (show (0 : Int32) ≤ nI f ∧ nI f ≤ 63 from le_nI (n := 63) (by omega) (by omega))), if_neg (not_not_intro (Or.inl ⟨rfl, le_nI (n := 3) (by omega) (by omega)⟩)), if_neg (not_not_intro (Or.inr ⟨rfl, le_nI (n := 1) (by omega) (by omega)⟩))]
  by_cases z : C < 16
  · rw [if_pos z, if_neg (by omega)]
  · rw [if_neg z, if_pos (by omega)]
theorem E_rc {C y : Nat} {σ : Nat → Int32} (h0 : σ 0 = nI C) (hC : C ≤ 16) (hy : y < 100) : rcE σ (nI y) = if y < C then 0 else -1 := by
  rw [rcE]
  by_cases z : y < C
  · rw [if_pos z, if_neg (not_not_intro (cd_p h0 hC z))]
  · rw [if_neg z, if_pos (fun w => z (by have w2 := w.2.1; rw [h0] at w2; exact lt_of_nI (by omega) (by omega) w2))]
theorem E_wv {v : Nat} (h1 : 0 < v) (h3 : v < 100) : wvE (nI v) = 0 := by
  rw [wvE, if_neg (not_not_intro (show (1 : Int32) ≤ nI v ∧ nI v ≤ 99 from ⟨(nI_leI (a := 1) (by omega) (by omega)).mpr h1, (nI_leI (b := 99) (by omega) (by omega)).mpr (by omega)⟩))]
