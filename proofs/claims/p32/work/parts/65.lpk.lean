/-! the relation under a pick -/
theorem yb_dec {x : Int32} (h : 0 < x) (h1 : x ≤ 99) : 0 ≤ x + -1 ∧ x + -1 ≤ 99 := by
  obtain ⟨k, hk, rfl⟩ := nI_cases (n := 99) (by omega) (Int32.le_of_lt h) h1
  have hp : 0 < k := by
    rcases Nat.eq_zero_or_pos k with z | z
    · subst z; exact absurd h (by decide)
    · exact z
  rw [← sub1, show nI k - 1 = nI (k - 1) from pk_sub (b := 1) (by omega)]
  exact le_nI (n := 99) (by omega) (by omega)
theorem thW_ev {fr : Int32} {t t' : Nat → Int32} : ∀ n, (∀ k, k < n → t' (2 * k) = t (2 * k)) → thW fr t' n = thW fr t n
  | 0, _ => rfl
  | n + 1, h => by rw [thW, thW, thW_ev n (fun k hk => h k (by omega)), h n (by omega)]
/-- the state after a pick: six to eight are its own, all else is the gear's -/
theorem lm_v {C P k R B : Nat} {σ : Nat → Int32} (g9 : GC C P σ) (h0 : rsC σ C P = 0) (hk : k < 5) (hf : flyN σ P = nI k) (h7 : σ 7 = nI R) (h8 : σ 8 = nI B) (hR : R ≤ 20) (hB : B ≤ 20) : (∀ i, i < 56 + 3 * C → i ≠ 6 → i ≠ 7 → i ≠ 8 → lmS σ C P k R i = mvS σ C P k i) ∧ lmS σ C P k R 6 = σ 6 + 1 ∧ lmS σ C P k R 7 = nI (if R < 20 then R + 1 else 20) ∧ lmS σ C P k R 8 = nI (if B < 20 then B + 1 else 20) := by
  have hE : EqG C σ (arR2 σ R) := fun i h1 h2 => (arR2_o (by omega)).symm
  obtain ⟨k', hk', hP, f1, f2, -, -, -, hM⟩ := stp g9 hE h0
  have ek : k' = k := (nI_eq (by omega) (by omega)).mp (f1.symm.trans hf)
  subst ek
  refine ⟨fun i hi h6 h7' h8' => ?_, ?_, ?_, ?_⟩
  · rw [lmS, pk_un h8', pk_un h6]
    by_cases q : i < 6 ∨ 12 ≤ i
    · exact (hM i hi q).symm
    · rw [mvS_o hk (by omega) (by omega), mvS_o hk (by omega) (by omega), arR2_o h7']
  · rw [lmS, pk_un (by omega), pk_us, mvS_o hk (by omega) (by omega), arR2_o (by omega)]
  · rw [lmS, pk_un (by omega), pk_un (by omega), mvS_o hk (by omega) (by omega), arR2]
    by_cases z : R < 20
    · rw [if_pos z, if_pos z, pk_us]
    · rw [if_neg z, if_neg z, h7, show R = 20 by omega]
  · rw [lmS, pk_us, mvS_o hk (by omega) (by omega), arR2_o (by omega), h8, show nI B + 1 = nI (B + 1) from nI_add B 1]
    by_cases z : B < 20
    · rw [if_pos z, if_neg (show ¬ (20 : Int32) < nI (B + 1) from fun w => absurd (lt_of_nI (a := 20) (b := B + 1) (by omega) (by omega) w) (by omega))]
    · rw [if_neg z, if_pos (show (20 : Int32) < nI (B + 1) from (nI_ltI (a := 20) (b := B + 1) (by omega) (by omega)).mpr (by omega))]; rfl
theorem RQ_pick {C P R lt B k : Nat} {σ ρ q h t c w b b2 q1 t1 w1 b1 b3 : Nat → Int32} (H : RQ C P R lt B σ ρ q h t c w b b2) (hP : P < C) (h0 : rsC σ C P = 0) (hk : k < 5) (hf : flyN σ P = nI k) (q6 : q1 6 = q 6 + 1) (q7 : q1 7 = nI (if R < 20 then R + 1 else 20)) (q8 : q1 8 = nI (if B < 20 then B + 1 else 20)) (qo : ∀ i, i < 12 → i ≠ 6 → i ≠ 7 → i ≠ 8 → q1 i = pkQ q c P i) (ht : t1 = pkT q c P t 12)
    (wo : ∀ r, r + 1 < (if R < 20 then R + 1 else 20) → w1 (2 * r) = w (2 * (if R < 20 then r else r + 1)) ∧ w1 (2 * r + 1) = w (2 * (if R < 20 then r else r + 1) + 1)) (wn : w1 (2 * (if R < 20 then R else 19)) = h (3 * k) ∧ w1 (2 * (if R < 20 then R else 19) + 1) = thW (c (3 * P)) t1 12)
    (eo : ∀ x, x < (if B < 20 then B else 19) → ∀ i, i < 6 → enB b1 b3 x i = enB b b2 (if B < 20 then x else x + 1) i) (en : enB b1 b3 (if B < 20 then B else 19) 0 = q 1 ∧ enB b1 b3 (if B < 20 then B else 19) 1 = q 3 ∧ enB b1 b3 (if B < 20 then B else 19) 2 = q 4 ∧ enB b1 b3 (if B < 20 then B else 19) 3 = q 5 ∧ enB b1 b3 (if B < 20 then B else 19) 4 = nI k ∧ enB b1 b3 (if B < 20 then B else 19) 5 = h (3 * k + 2)) :
    RQ C (goP P C) (if R < 20 then R + 1 else 20) ((lt + 1) % 20) (if B < 20 then B + 1 else 20) (lmS σ C P k R) (arR σ ρ ((lt + 1) % 20) P k) q1 (pkH h c P k) t1 c w1 b1 b3 := by
  obtain ⟨g9, hA, hV, hF, hY, ⟨r1, r2⟩, ⟨l1, l2⟩, rc, ⟨b8, bR⟩, kh⟩ := H
  subst ht
  obtain ⟨lo, l6, l7, l8⟩ := lm_v g9 h0 hk hf r1 b8 r2 (by omega)
  have hC16 := g9.2.2.2
  have hM := RA_mv hA g9 hV hP hk hf
  have hn : (lt + 1) % 20 < 20 := Nat.mod_lt _ (by omega)
  obtain ⟨a0, a1, -, -, -, -, -⟩ := ar_s (σ := σ) (ρ := ρ) (n := (lt + 1) % 20) (P := P) (k := k)
  refine ⟨⟨?_, ?_, Or.inl (goP_lt hP), hC16⟩, ⟨fun i hi => ?_, fun j hj => ?_, fun i hi => ?_, fun i hi => ?_⟩, ⟨fun j hj => ?_, ?_, ?_, ?_, fun p hp => ?_⟩, fun j hj => ?_, fun j hj => ?_, ⟨l7, by split <;> omega⟩, ⟨ar_l hn, hn⟩, fun r hr => ?_, ⟨l8, by split <;> split <;> omega⟩, ?_⟩
  · rw [lo 0 (by omega) (by omega) (by omega) (by omega), mvS_0 hk]; exact g9.1
  · rw [lo 1 (by omega) (by omega) (by omega) (by omega), mvS_1]
  · by_cases e6 : i = 6
    · subst e6; rw [q6, l6, hA.1 6 hi]
    by_cases e7 : i = 7
    · subst e7; rw [q7, l7]
    by_cases e8 : i = 8
    · subst e8; rw [q8, l8]
    rw [qo i hi e6 e7 e8, lo i (by omega) e6 e7 e8]; exact hM.1 i hi
  · rw [wh, lo (12 + 4 * j) (by omega) (by omega) (by omega) (by omega), lo (13 + 4 * j) (by omega) (by omega) (by omega) (by omega), lo (14 + 4 * j) (by omega) (by omega) (by omega) (by omega), lo (15 + 4 * j) (by omega) (by omega) (by omega) (by omega)]; exact hM.2.1 j hj
  · rw [lo (32 + i) (by omega) (by omega) (by omega) (by omega)]; exact hM.2.2.1 i hi
  · rw [lo (56 + i) (by omega) (by omega) (by omega) (by omega)]; exact hM.2.2.2 i hi
  · rw [lo (14 + 4 * j) (by omega) (by omega) (by omega) (by omega), lo (15 + 4 * j) (by omega) (by omega) (by omega) (by omega)]; exact (VR_mv hV hP hC16 hk).1 j hj
  · rw [lo 2 (by omega) (by omega) (by omega) (by omega)]; exact (VR_mv hV hP hC16 hk).2.1
  · rw [lo 3 (by omega) (by omega) (by omega) (by omega)]; exact (VR_mv hV hP hC16 hk).2.2.1
  · rw [lo 4 (by omega) (by omega) (by omega) (by omega)]; exact (VR_mv hV hP hC16 hk).2.2.2.1
  · rw [lo (57 + 3 * p) (by omega) (by omega) (by omega) (by omega), lo (58 + 3 * p) (by omega) (by omega) (by omega) (by omega)]; exact (VR_mv hV hP hC16 hk).2.2.2.2 p hp
  · rw [lo (32 + 2 * j) (by omega) (by omega) (by omega) (by omega)]; exact FR_mv hF hk j hj
  · rw [lo (13 + 4 * j) (by omega) (by omega) (by omega) (by omega), mv_yn hk hj]
    by_cases e : j = k
    · rw [if_pos e]; exact yb_dec (rsC_y h0 hk hf) (hY k hk).2
    · rw [if_neg e]; exact hY j hj
  · have e1 : thW (c (3 * P)) (pkT q c P t 12) 12 = thS σ (σ (56 + 3 * P)) 12 := by
      rw [thW_ev (t := t) 12 (fun k _ => pkT_ev 12), thW_S hF hA.2.2.1 12 (Nat.le_refl _), hA.2.2.2 (3 * P) (by omega)]
    have eh : h (3 * k) = σ (12 + 4 * k) := (hA.2.1 k hk).1
    by_cases z : R < 20
    · rw [if_pos z] at hr wn ⊢
      by_cases e : r = R
      · subst e
        rw [show r + 1 - 1 - r = 0 by omega, sl_new0, a0, a1, wn.1, wn.2, eh, e1]; exact ⟨rfl, rfl⟩
      · have h5 := wo r (by rw [if_pos z]; omega)
        rw [if_pos z] at h5
        rw [h5.1, h5.2, show R + 1 - 1 - r = (R - 1 - r) + 1 by omega, sl_newS l2 (by omega), ar_o (sl_ne l2 (by omega)) (sl_lt _ _) (by omega), ar_o (sl_ne l2 (by omega)) (sl_lt _ _) (by omega)]
        exact rc r (by omega)
    · have hR : R = 20 := by omega
      subst hR
      rw [if_neg z] at hr wn ⊢
      by_cases e : r = 19
      · subst e
        rw [show 20 - 1 - 19 = 0 by omega, sl_new0, a0, a1, wn.1, wn.2, eh, e1]; exact ⟨rfl, rfl⟩
      · have h5 := wo r (by rw [if_neg z]; omega)
        rw [if_neg z] at h5
        rw [h5.1, h5.2, show 20 - 1 - r = (20 - 1 - (r + 1)) + 1 by omega, sl_newS l2 (by omega), ar_o (sl_ne l2 (by omega)) (sl_lt _ _) (by omega), ar_o (sl_ne l2 (by omega)) (sl_lt _ _) (by omega)]
        exact rc (r + 1) (by omega)
  · obtain ⟨n0, n1, n2, n3, n4, n5⟩ := en
    rw [hA.1 1 (by omega)] at n0
    rw [hA.1 3 (by omega)] at n1
    rw [hA.1 4 (by omega)] at n2
    rw [hA.1 5 (by omega)] at n3
    rw [(hA.2.1 k hk).2.2] at n5
    by_cases z : B < 20
    · rw [if_pos z] at n0 n1 n2 n3 n4 n5 ⊢
      exact KH_pick (e := enB b b2) g9 hV hY hP hk hf (by omega) l2 kh (fun x hx i hi => by have := eo x (by rw [if_pos z]; exact hx) i hi; rw [if_pos z] at this; exact this) n0 n1 n2 n3 n4 n5
    · have hB : B = 20 := by omega
      subst hB
      rw [if_neg z] at n0 n1 n2 n3 n4 n5 ⊢
      exact KH_pick (B := 19) (e := fun x => enB b b2 (x + 1)) g9 hV hY hP hk hf (by omega) l2 (KH_drop 19 0 σ kh) (fun x hx i hi => by have := eo x (by rw [if_neg z]; exact hx) i hi; rw [if_neg z] at this; exact this) n0 n1 n2 n3 n4 n5
/-- a pick is taken back -/
theorem ts_o {σ ρ : Nat → Int32} {lt k i : Nat} (h1 : i ≠ 1) (h3 : i ≠ 3) (h4 : i ≠ 4) (h5 : i ≠ 5) (h6 : i ≠ 6) (h7 : i ≠ 7) (h8 : i ≠ 8) : ltS σ ρ lt k i = flS σ k 1 i := by
  rw [ltS, pk_un h8, pk_un h6, trS, pk_un h7, pk_un h1, pk_un h5, pk_un h4, pk_un h3]
theorem ts_v {σ ρ : Nat → Int32} {lt k : Nat} (hk : k < 5) : ltS σ ρ lt k 1 = ρ (3 + 7 * lt) ∧ ltS σ ρ lt k 3 = ρ (5 + 7 * lt) ∧ ltS σ ρ lt k 4 = ρ (6 + 7 * lt) ∧ ltS σ ρ lt k 5 = ρ (4 + 7 * lt) ∧ ltS σ ρ lt k 6 = σ 6 - 1 ∧ ltS σ ρ lt k 7 = σ 7 - 1 ∧ ltS σ ρ lt k 8 = σ 8 - 1 := by
  refine ⟨?_, ?_, ?_, ?_, ?_, ?_, ?_⟩
  · rw [ltS, pk_un (by omega), pk_un (by omega), trS, pk_un (by omega), pk_us]
  · rw [ltS, pk_un (by omega), pk_un (by omega), trS, pk_un (by omega), pk_un (by omega), pk_un (by omega), pk_un (by omega), pk_us]
  · rw [ltS, pk_un (by omega), pk_un (by omega), trS, pk_un (by omega), pk_un (by omega), pk_un (by omega), pk_us]
  · rw [ltS, pk_un (by omega), pk_un (by omega), trS, pk_un (by omega), pk_un (by omega), pk_us]
  · rw [ltS, pk_un (by omega), pk_us, trS, pk_un (by omega), pk_un (by omega), pk_un (by omega), pk_un (by omega), pk_un (by omega), flS_out hk (by omega)]
  · rw [ltS, pk_un (by omega), pk_un (by omega), trS, pk_us, flS_out hk (by omega)]
  · rw [ltS, pk_us, trS, pk_un (by omega), pk_un (by omega), pk_un (by omega), pk_un (by omega), pk_un (by omega), flS_out hk (by omega)]
theorem fl_bx {θ : Nat → Int32} {k j : Nat} {m : Int32} : flS θ k m (15 + 4 * j) = if j = k then (if θ (14 + 4 * k) = 0 then θ 4 else θ 3) else θ (15 + 4 * j) := by
  unfold flS
  by_cases z : θ (14 + 4 * k) = 0
  · rw [if_pos z, if_pos z, pk_un (by omega)]
    by_cases e : j = k
    · subst e; rw [pk_us, if_pos rfl]
    · rw [pk_un (by omega), pk_un (by omega), if_neg e]
  · rw [if_neg z, if_neg z, pk_un (by omega)]
    by_cases e : j = k
    · subst e; rw [pk_us, if_pos rfl]
    · rw [pk_un (by omega), pk_un (by omega), if_neg e]
theorem fl_oo {θ : Nat → Int32} {k i : Nat} {m : Int32} (h13 : i ≠ 13 + 4 * k) (h14 : i ≠ 14 + 4 * k) (h15 : i ≠ 15 + 4 * k) : flS θ k m i = θ i := by
  unfold flS
  split <;> rw [pk_un h13, pk_un h15, pk_un h14]
theorem RQ_back {C P R lt B : Nat} {σ ρ q h t c w b b2 : Nat → Int32} (H : RQ C P R lt (B + 1) σ ρ q h t c w b b2) : ∃ k p, k < 5 ∧ p < C ∧ ρ (2 + 7 * lt) = nI k ∧ enB b b2 B 4 = nI k ∧ enB b b2 B 0 = nI p ∧ ltS σ ρ lt k 1 = enB b b2 B 0 ∧ ∀ q1 : Nat → Int32, q1 1 = enB b b2 B 0 → q1 3 = enB b b2 B 1 → q1 4 = enB b b2 B 2 → q1 5 = enB b b2 B 3 → q1 6 = q 6 - 1 → q1 7 = q 7 - 1 → q1 8 = q 8 - 1 → (∀ i, i < 12 → i ≠ 1 → i ≠ 3 → i ≠ 4 → i ≠ 5 → i ≠ 6 → i ≠ 7 → i ≠ 8 → q1 i = q i) → RQ C p (R - 1) ((lt + 19) % 20) B (ltS σ ρ lt k) (upd ρ 140 (nI ((lt + 19) % 20))) q1 (upd (upd h (3 * k + 2) (enB b b2 B 5)) (3 * k + 1) (h (3 * k + 1) + 1)) t c w b b2 := by
  obtain ⟨g9, hA, hV, hF, hY, ⟨r1, r2⟩, ⟨l1, l2⟩, rc, ⟨b8, bR⟩, kh⟩ := H
  obtain ⟨k, hk, f1, ⟨p, hp, f2⟩, f3, f4, f5, ⟨e0, e1, e2, e3, e4, e5⟩, f6, f7⟩ := KH_back l2 (by omega) kh
  obtain ⟨s1, s3, s4, s5, s6, s7, s8⟩ := ts_v (σ := σ) (ρ := ρ) (lt := lt) hk
  have hC16 := g9.2.2.2
  refine ⟨k, p, hk, hp, f1, e4, e0.trans f2, s1.trans e0.symm, ?_⟩
  intro q1 u1 u3 u4 u5 u6 u7 u8 uo
  have so : ∀ i, i ≠ 1 → i ≠ 3 → i ≠ 4 → i ≠ 5 → i ≠ 6 → i ≠ 7 → i ≠ 8 → ¬ (12 ≤ i ∧ i < 32) → ltS σ ρ lt k i = σ i := fun i h1 h3 h4 h5 h6 h7 h8 h12 => by
    rw [ts_o h1 h3 h4 h5 h6 h7 h8, flS_out hk (by omega)]
  have sy : ∀ j, j < 5 → ltS σ ρ lt k (13 + 4 * j) = if j = k then σ (13 + 4 * k) + 1 else σ (13 + 4 * j) := fun j hj => by
    rw [ts_o (by omega) (by omega) (by omega) (by omega) (by omega) (by omega) (by omega), fl_yn]
  have ss : ∀ j, j < 5 → ltS σ ρ lt k (14 + 4 * j) = if j = k then (if σ (14 + 4 * k) = 0 then 1 else 0) else σ (14 + 4 * j) := fun j hj => by
    rw [ts_o (by omega) (by omega) (by omega) (by omega) (by omega) (by omega) (by omega), fl_sd]
  have sb : ∀ j, j < 5 → ltS σ ρ lt k (15 + 4 * j) = if j = k then (if σ (14 + 4 * k) = 0 then σ 4 else σ 3) else σ (15 + 4 * j) := fun j hj => by
    rw [ts_o (by omega) (by omega) (by omega) (by omega) (by omega) (by omega) (by omega), fl_bx]
  have sc : ∀ j, j < 5 → ltS σ ρ lt k (12 + 4 * j) = σ (12 + 4 * j) := fun j hj => by
    rw [ts_o (by omega) (by omega) (by omega) (by omega) (by omega) (by omega) (by omega), fl_oo (by omega) (by omega) (by omega)]
  refine ⟨⟨?_, s1.trans f2, Or.inl hp, hC16⟩, ⟨fun i hi => ?_, fun j hj => ?_, fun i hi => ?_, fun i hi => ?_⟩, ⟨fun j hj => ?_, ?_, ?_, ?_, fun p hp => ?_⟩, fun j hj => ?_, f6, ⟨?_, by omega⟩, ⟨pk_us, Nat.mod_lt _ (by omega)⟩, fun r hr => ?_, ⟨?_, by omega⟩, f7⟩
  · rw [so 0 (by omega) (by omega) (by omega) (by omega) (by omega) (by omega) (by omega) (by omega)]; exact g9.1
  · by_cases z1 : i = 1
    · subst z1; rw [u1, s1, e0]
    by_cases z3 : i = 3
    · subst z3; rw [u3, s3, e1]
    by_cases z4 : i = 4
    · subst z4; rw [u4, s4, e2]
    by_cases z5 : i = 5
    · subst z5; rw [u5, s5, e3]
    by_cases z6 : i = 6
    · subst z6; rw [u6, s6, hA.1 6 hi]
    by_cases z7 : i = 7
    · subst z7; rw [u7, s7, hA.1 7 hi]
    by_cases z8 : i = 8
    · subst z8; rw [u8, s8, hA.1 8 hi]
    rw [uo i hi z1 z3 z4 z5 z6 z7 z8, so i z1 z3 z4 z5 z6 z7 z8 (by omega)]; exact hA.1 i hi
  · obtain ⟨a1, a2, a3⟩ := hA.2.1 j hj
    refine ⟨?_, ?_, ?_⟩
    · rw [pk_un (by omega), pk_un (by omega), sc j hj]; exact a1
    · rw [sy j hj]
      by_cases e : j = k
      · subst e; rw [pk_us, if_pos rfl, a2]
      · rw [pk_un (by omega), pk_un (by omega), if_neg e]; exact a2
    · rw [pk_un (by omega), wh, ss j hj, sb j hj]
      by_cases e : j = k
      · subst e
        rw [pk_us, if_pos rfl, if_pos rfl, e5]
        rcases f5 with z | z
        · rw [if_pos z, if_pos z, if_pos z, if_neg (by decide)]
        · have z0 : ¬ σ (14 + 4 * j) = 0 := by rw [z]; decide
          rw [if_neg z0, if_neg z0, if_neg z0, if_neg (by decide)]
      · rw [pk_un (by omega), if_neg e, if_neg e, a3, wh]
  · rw [so (32 + i) (by omega) (by omega) (by omega) (by omega) (by omega) (by omega) (by omega) (by omega)]; exact hA.2.2.1 i hi
  · rw [so (56 + i) (by omega) (by omega) (by omega) (by omega) (by omega) (by omega) (by omega) (by omega)]; exact hA.2.2.2 i hi
  · rw [ss j hj, sb j hj]
    by_cases e : j = k
    · rw [if_pos e, if_pos e]
      rcases f5 with z | z
      · rw [if_pos z, if_pos z]; exact Or.inr (Or.inr ⟨rfl, hV.2.2.2.1⟩)
      · have z0 : ¬ σ (14 + 4 * k) = 0 := by rw [z]; decide
        rw [if_neg z0, if_neg z0]; exact Or.inr (Or.inl ⟨rfl, hV.2.2.1⟩)
    · rw [if_neg e, if_neg e]; exact hV.1 j hj
  · rw [so 2 (by omega) (by omega) (by omega) (by omega) (by omega) (by omega) (by omega) (by omega)]; exact hV.2.1
  · rw [s3]; exact f3
  · rw [s4]; exact f4
  · rw [so (57 + 3 * p) (by omega) (by omega) (by omega) (by omega) (by omega) (by omega) (by omega) (by omega), so (58 + 3 * p) (by omega) (by omega) (by omega) (by omega) (by omega) (by omega) (by omega) (by omega)]; exact hV.2.2.2.2 p hp
  · rw [so (32 + 2 * j) (by omega) (by omega) (by omega) (by omega) (by omega) (by omega) (by omega) (by omega)]; exact hF j hj
  · rw [s7, r1]; exact pk_sub (b := 1) (by omega)
  · have h5 := rc r (by omega)
    have g1 : ∀ i, i < 7 → upd ρ 140 (nI ((lt + 19) % 20)) (i + 7 * sl ((lt + 19) % 20) (R - 1 - 1 - r)) = ρ (i + 7 * sl lt (R - 1 - r)) := fun i hi => by
      have := sl_lt ((lt + 19) % 20) (R - 1 - 1 - r)
      rw [pk_un (by omega), sl_back l2 (by omega), show R - 1 - 1 - r + 1 = R - 1 - r by omega]
    exact ⟨h5.1.trans (g1 0 (by omega)).symm, h5.2.trans (g1 1 (by omega)).symm⟩
  · rw [s8, b8]; exact pk_sub (b := 1) (by omega)
