/-! the relation under the other changes -/
theorem RA_qq {C : Nat} {σ q q' h t c : Nat → Int32} (hA : RA C σ q h t c) (e : ∀ i, i < 12 → q' i = q i) : RA C σ q' h t c := ⟨fun i hi => (e i hi).trans (hA.1 i hi), hA.2⟩
theorem RQ_race {C P R lt B s z : Nat} {σ ρ q h t c w b b2 : Nat → Int32} {x : Int32} (H : RQ C P R lt B σ ρ q h t c w b b2) (hs : (s = 0 ∧ z < 4) ∨ (s = 1 ∧ z < 2)) (hx : x = nI z) : RQ C P R lt 0 (upd (c8 σ) (3 + 1 * s) x) ρ (upd (upd q (3 + s) x) 8 0) h t c w b b2 := by
  subst hx
  have hV := H.2.2.1
  have hA : RA C (upd (c8 σ) (3 + s) (nI z)) (upd (upd q 8 0) (3 + s) (nI z)) h t c := RA_q (RA_q H.2.1 (by omega)) (by omega)
  rw [show 3 + 1 * s = 3 + s by omega]
  refine RQ_ch H (GC_c8 (GC_c8 H.1 (by omega) (by omega)) (by omega) (by omega)) (RA_qq hA fun i hi => ?_) ⟨fun j hj => ?_, ?_, ?_, ?_, fun p hp => ?_⟩ (FR_of H.2.2.2.1 fun j hj => ?_) (YB_of H.2.2.2.2.1 fun j hj => ?_) ?_ ?_
  · by_cases e : i = 8
    · subst e; rw [pk_us, pk_un (by omega), pk_us]
    · rw [pk_un e]
      by_cases e2 : i = 3 + s
      · subst e2; rw [pk_us, pk_us]
      · rw [pk_un e2, pk_un e2, pk_un e]
  · rw [pk_un (by omega), c8, pk_un (by omega), pk_un (by omega), pk_un (by omega)]; exact hV.1 j hj
  · rw [pk_un (by omega), c8, pk_un (by omega)]; exact hV.2.1
  · by_cases e : s = 0
    · subst e; rw [pk_us]; exact ⟨z, by omega, rfl⟩
    · rw [pk_un (by omega), c8, pk_un (by omega)]; exact hV.2.2.1
  · by_cases e : s = 1
    · subst e; rw [pk_us]; exact ⟨z, by omega, rfl⟩
    · rw [pk_un (by omega), c8, pk_un (by omega)]; exact hV.2.2.2.1
  · rw [pk_un (by omega), c8, pk_un (by omega), pk_un (by omega), pk_un (by omega)]; exact hV.2.2.2.2 p hp
  · rw [pk_un (by omega), c8, pk_un (by omega)]
  · rw [pk_un (by omega), c8, pk_un (by omega)]
  · rw [pk_un (by omega), c8, pk_un (by omega)]
  · rw [pk_un (by omega), c8, pk_us]
theorem RQ_speed {C P R lt B z : Nat} {σ ρ q h t c w b b2 : Nat → Int32} {x : Int32} (H : RQ C P R lt B σ ρ q h t c w b b2) (hz : z < 4) (hx : x = nI z) : RQ C P R lt 0 (upd (c8 σ) 2 x) ρ (upd (upd q 2 x) 8 0) h t c w b b2 := by
  subst hx
  have hV := H.2.2.1
  have hA : RA C (upd (c8 σ) 2 (nI z)) (upd (upd q 8 0) 2 (nI z)) h t c := RA_q (RA_q H.2.1 (by omega)) (by omega)
  refine RQ_ch H (GC_c8 (GC_c8 H.1 (by omega) (by omega)) (by omega) (by omega)) (RA_qq hA fun i hi => ?_) ⟨fun j hj => ?_, ?_, ?_, ?_, fun p hp => ?_⟩ (FR_of H.2.2.2.1 fun j hj => ?_) (YB_of H.2.2.2.2.1 fun j hj => ?_) ?_ ?_
  · by_cases e : i = 8
    · subst e; rw [pk_us, pk_un (by omega), pk_us]
    · rw [pk_un e]
      by_cases e2 : i = 2
      · subst e2; rw [pk_us, pk_us]
      · rw [pk_un e2, pk_un e2, pk_un e]
  · rw [pk_un (by omega), c8, pk_un (by omega), pk_un (by omega), pk_un (by omega)]; exact hV.1 j hj
  · rw [pk_us]; exact ⟨z, hz, rfl⟩
  · rw [pk_un (by omega), c8, pk_un (by omega)]; exact hV.2.2.1
  · rw [pk_un (by omega), c8, pk_un (by omega)]; exact hV.2.2.2.1
  · rw [pk_un (by omega), c8, pk_un (by omega), pk_un (by omega), pk_un (by omega)]; exact hV.2.2.2.2 p hp
  · rw [pk_un (by omega), c8, pk_un (by omega)]
  · rw [pk_un (by omega), c8, pk_un (by omega)]
  · rw [pk_un (by omega), c8, pk_un (by omega)]
  · rw [pk_un (by omega), c8, pk_us]
theorem RQ_turn {C P R lt B z : Nat} {σ ρ q h t c w b b2 : Nat → Int32} {x : Int32} (H : RQ C P R lt B σ ρ q h t c w b b2) (hz : z < C) (hx : x = nI z) : RQ C z R lt 0 (upd (c8 σ) 1 x) ρ (upd (upd q 1 x) 8 0) h t c w b b2 := by
  subst hx
  have hA : RA C (upd (c8 σ) 1 (nI z)) (upd (upd q 8 0) 1 (nI z)) h t c := RA_q (RA_q H.2.1 (by omega)) (by omega)
  refine RQ_ch H ⟨?_, pk_us, Or.inl hz, H.1.2.2.2⟩ (RA_qq hA fun i hi => ?_) (VR_of H.2.2.1 fun i hi => ?_) (FR_of H.2.2.2.1 fun j hj => ?_) (YB_of H.2.2.2.2.1 fun j hj => ?_) ?_ ?_
  · rw [pk_un (by omega), c8, pk_un (by omega)]; exact H.1.1
  · by_cases e : i = 8
    · subst e; rw [pk_us, pk_un (by omega), pk_us]
    · rw [pk_un e]
      by_cases e2 : i = 1
      · subst e2; rw [pk_us, pk_us]
      · rw [pk_un e2, pk_un e2, pk_un e]
  · rw [pk_un (by omega), c8, pk_un (by omega)]
  · rw [pk_un (by omega), c8, pk_un (by omega)]
  · rw [pk_un (by omega), c8, pk_un (by omega)]
  · rw [pk_un (by omega), c8, pk_un (by omega)]
  · rw [pk_un (by omega), c8, pk_us]
theorem RQ_draw {C P R lt B k z : Nat} {σ ρ q h t c w b b2 : Nat → Int32} {x : Int32} (H : RQ C P R lt B σ ρ q h t c w b b2) (hk : k < 12) (hz : z < 6) (hx : x = nI z) : RQ C P R lt 0 (upd (c8 σ) (32 + 2 * k) x) ρ (upd q 8 0) h (upd t (2 * k) x) c w b b2 := by
  subst hx
  refine RQ_ch H (GC_c8 (GC_c8 H.1 (by omega) (by omega)) (by omega) (by omega)) (RA_t (RA_q H.2.1 (by omega)) (by omega)) (VR_of H.2.2.1 fun i hi => ?_) (fun j hj => ?_) (YB_of H.2.2.2.2.1 fun j hj => ?_) ?_ ?_
  · rw [pk_un (by omega), c8, pk_un (by omega)]
  · by_cases e : j = k
    · subst e; rw [pk_us]; exact ⟨z, hz, rfl⟩
    · rw [pk_un (by omega), c8, pk_un (by omega)]; exact H.2.2.2.1 j hj
  · rw [pk_un (by omega), c8, pk_un (by omega)]
  · rw [pk_un (by omega), c8, pk_un (by omega)]
  · rw [pk_un (by omega), c8, pk_us]
theorem RQ_mend {C P R lt B k : Nat} {σ ρ q h t c w b b2 : Nat → Int32} {x : Int32} (H : RQ C P R lt B σ ρ q h t c w b b2) (hk : k < 12) : RQ C P R lt 0 (upd (c8 σ) (33 + 2 * k) x) ρ (upd q 8 0) h (upd t (2 * k + 1) x) c w b b2 := by
  have hA : RA C (upd (c8 σ) (32 + (2 * k + 1)) x) (upd q 8 0) h (upd t (2 * k + 1) x) c := RA_t (RA_q H.2.1 (by omega)) (by omega)
  rw [show 32 + (2 * k + 1) = 33 + 2 * k by omega] at hA
  refine RQ_ch H (GC_c8 (GC_c8 H.1 (by omega) (by omega)) (by omega) (by omega)) hA (VR_of H.2.2.1 fun i hi => ?_) (FR_of H.2.2.2.1 fun j hj => ?_) (YB_of H.2.2.2.2.1 fun j hj => ?_) ?_ ?_
  · rw [pk_un (by omega), c8, pk_un (by omega)]
  · rw [pk_un (by omega), c8, pk_un (by omega)]
  · rw [pk_un (by omega), c8, pk_un (by omega)]
  · rw [pk_un (by omega), c8, pk_un (by omega)]
  · rw [pk_un (by omega), c8, pk_us]
theorem RQ_add {C P R lt B y z : Nat} {σ ρ q h t c w b b2 : Nat → Int32} {f x v : Int32} (H : RQ C P R lt B σ ρ q h t c w b b2) (hC : C < 16) (hy : y < 4) (hx : x = nI y) (hz : z < 2) (hv : v = nI z) : RQ (C + 1) P R lt 0 (apS (c8 σ) C f x v) ρ (upd (upd q 0 (nI (C + 1))) 8 0) h t (upd (upd (upd c (3 * C) f) (3 * C + 1) x) (3 * C + 2) v) w b b2 := by
  subst hx; subst hv
  have hA := H.2.1
  have hV := H.2.2.1
  have ho : ∀ i, i < 56 → i ≠ 0 → apS (c8 σ) C f (nI y) (nI z) i = c8 σ i := fun i h1 h2 => by
    rw [apS, pk_un h2, pk_un (by omega), pk_un (by omega), pk_un (by omega)]
  have hc : ∀ i, i < 3 * C → apS (c8 σ) C f (nI y) (nI z) (56 + i) = σ (56 + i) := fun i h1 => by
    rw [apS, pk_un (by omega), pk_un (by omega), pk_un (by omega), pk_un (by omega), c8, pk_un (by omega)]
  have u : ∀ i, i ≠ 8 → c8 σ i = σ i := fun i h => pk_un h
  have e0 : apS (c8 σ) C f (nI y) (nI z) (56 + 3 * C) = f := by rw [apS, pk_un (by omega), pk_un (by omega), pk_un (by omega), pk_us]
  have e1 : apS (c8 σ) C f (nI y) (nI z) (57 + 3 * C) = nI y := by rw [apS, pk_un (by omega), pk_un (by omega), pk_us]
  have e2 : apS (c8 σ) C f (nI y) (nI z) (58 + 3 * C) = nI z := by rw [apS, pk_un (by omega), pk_us]
  refine RQ_ch H ⟨pk_us, (ho 1 (by omega) (by omega)).trans ((u 1 (by omega)).trans H.1.2.1), by have := H.1.2.2.1; omega, by omega⟩ ⟨fun i hi => ?_, fun k hk => ?_, fun i hi => ?_, fun i hi => ?_⟩ ⟨fun k hk => ?_, ?_, ?_, ?_, fun p hp => ?_⟩ (fun k hk => ?_) (fun k hk => ?_) ?_ ?_
  · by_cases e : i = 8
    · subst e; rw [pk_us, ho 8 (by omega) (by omega), c8, pk_us]
    · rw [pk_un e]
      by_cases z0 : i = 0
      · subst z0; rw [pk_us]; exact pk_us.symm
      · rw [pk_un z0, ho i (by omega) z0, u i e]; exact hA.1 i hi
  · rw [wh, ho (12 + 4 * k) (by omega) (by omega), ho (13 + 4 * k) (by omega) (by omega), ho (14 + 4 * k) (by omega) (by omega), ho (15 + 4 * k) (by omega) (by omega), u (12 + 4 * k) (by omega), u (13 + 4 * k) (by omega), u (14 + 4 * k) (by omega), u (15 + 4 * k) (by omega)]; exact hA.2.1 k hk
  · rw [ho (32 + i) (by omega) (by omega), u (32 + i) (by omega)]; exact hA.2.2.1 i hi
  · by_cases z2 : i = 3 * C + 2
    · subst z2; rw [pk_us, show 56 + (3 * C + 2) = 58 + 3 * C by omega, e2]
    · rw [pk_un z2]
      by_cases z1 : i = 3 * C + 1
      · subst z1; rw [pk_us, show 56 + (3 * C + 1) = 57 + 3 * C by omega, e1]
      · rw [pk_un z1]
        by_cases z0 : i = 3 * C
        · subst z0; rw [pk_us, e0]
        · rw [pk_un z0, hc i (by omega)]; exact hA.2.2.2 i (by omega)
  · rw [ho (14 + 4 * k) (by omega) (by omega), ho (15 + 4 * k) (by omega) (by omega), u (14 + 4 * k) (by omega), u (15 + 4 * k) (by omega)]; exact hV.1 k hk
  · rw [ho 2 (by omega) (by omega), u 2 (by omega)]; exact hV.2.1
  · rw [ho 3 (by omega) (by omega), u 3 (by omega)]; exact hV.2.2.1
  · rw [ho 4 (by omega) (by omega), u 4 (by omega)]; exact hV.2.2.2.1
  · by_cases e : p = C
    · subst e; rw [e1, e2]; exact ⟨⟨y, hy, rfl⟩, z, hz, rfl⟩
    · rw [show 57 + 3 * p = 56 + (3 * p + 1) by omega, show 58 + 3 * p = 56 + (3 * p + 2) by omega, hc (3 * p + 1) (by omega), hc (3 * p + 2) (by omega), show 56 + (3 * p + 1) = 57 + 3 * p by omega, show 56 + (3 * p + 2) = 58 + 3 * p by omega]; exact hV.2.2.2.2 p (by omega)
  · rw [ho (32 + 2 * k) (by omega) (by omega), u (32 + 2 * k) (by omega)]; exact H.2.2.2.1 k hk
  · rw [ho (13 + 4 * k) (by omega) (by omega), u (13 + 4 * k) (by omega)]; exact H.2.2.2.2.1 k hk
  · rw [ho 7 (by omega) (by omega), u 7 (by omega)]
  · rw [ho 8 (by omega) (by omega), c8, pk_us]
/-- the cards behind card k, one place to the front, as far as element m -/
def csh (c : Nat → Int32) (k m : Nat) : Nat → Int32 := fun i => if 3 * k ≤ i ∧ i < m then c (i + 3) else c i
theorem csh_0 {c : Nat → Int32} {k : Nat} : csh c k (3 * k) = c := by
  funext i; rw [csh, if_neg (by omega)]
theorem csh_s {c : Nat → Int32} {k m : Nat} (h : 3 * k ≤ m) : upd (csh c k m) m (csh c k m (m + 3)) = csh c k (m + 1) := by
  funext i
  by_cases e : i = m
  · subst e; rw [pk_us, csh, if_neg (by omega), csh, if_pos (by omega)]
  · rw [pk_un e, csh, csh]
    by_cases z : 3 * k ≤ i ∧ i < m
    · rw [if_pos z, if_pos (by omega)]
    · rw [if_neg z, if_neg (by omega)]
theorem RQ_rm {C P R lt B k : Nat} {σ ρ q q' h t c w b b2 : Nat → Int32} (H : RQ C P R lt B σ ρ q h t c w b b2) (hk : k < C) (q0 : q' 0 = nI (C - 1)) (q1 : q' 1 = nI (rmP k P C)) (q8 : q' 8 = 0) (qo : ∀ i, i < 12 → i ≠ 0 → i ≠ 1 → i ≠ 8 → q' i = q i) : RQ (C - 1) (rmP k P C) R lt 0 (rmS (c8 σ) k P C) ρ q' h t (csh c k (3 * (C - 1))) w b b2 := by
  have hA := H.2.1
  have hV := H.2.2.1
  have hC16 := H.1.2.2.2
  have hPC := H.1.2.2.1
  have ho : ∀ i, i < 56 → i ≠ 0 → i ≠ 1 → rmS (c8 σ) k P C i = c8 σ i := fun i h1 h2 h3 => by
    rw [rmS, pk_un h3, pk_un h2, shK_lo h1]
  have u : ∀ i, i ≠ 8 → c8 σ i = σ i := fun i h => pk_un h
  have hc : ∀ i, rmS (c8 σ) k P C (56 + i) = if 3 * k ≤ i ∧ i < 3 * (C - 1) then σ (56 + i + 3) else σ (56 + i) := fun i => by
    rw [rmS, pk_un (by omega), pk_un (by omega), shK]
    by_cases z : 3 * k ≤ i ∧ i < 3 * (C - 1)
    · rw [if_pos z, if_pos (by omega), u _ (by omega)]
    · rw [if_neg z, if_neg (by omega), u _ (by omega)]
  refine RQ_ch H ⟨by rw [rmS, pk_un (by omega), pk_us], pk_us, ?_, by omega⟩ ⟨fun i hi => ?_, fun k hk => ?_, fun i hi => ?_, fun i hi => ?_⟩ ⟨fun k hk => ?_, ?_, ?_, ?_, fun p hp => ?_⟩ (fun k hk => ?_) (fun k hk => ?_) ?_ ?_
  · unfold rmP
    split <;> split <;> omega
  · by_cases e0 : i = 0
    · subst e0; rw [q0, rmS, pk_un (by omega), pk_us]
    · by_cases e1 : i = 1
      · subst e1; rw [q1]; exact pk_us.symm
      · rw [ho i (by omega) e0 e1]
        by_cases e8 : i = 8
        · subst e8; rw [q8, c8, pk_us]
        · rw [qo i hi e0 e1 e8, u i e8]; exact hA.1 i hi
  · rw [wh, ho (12 + 4 * k) (by omega) (by omega) (by omega), ho (13 + 4 * k) (by omega) (by omega) (by omega), ho (14 + 4 * k) (by omega) (by omega) (by omega), ho (15 + 4 * k) (by omega) (by omega) (by omega), u (12 + 4 * k) (by omega), u (13 + 4 * k) (by omega), u (14 + 4 * k) (by omega), u (15 + 4 * k) (by omega)]; exact hA.2.1 k hk
  · rw [ho (32 + i) (by omega) (by omega) (by omega), u (32 + i) (by omega)]; exact hA.2.2.1 i hi
  · rw [hc i, csh]
    by_cases z : 3 * k ≤ i ∧ i < 3 * (C - 1)
    · rw [if_pos z, if_pos z, Nat.add_assoc]; exact hA.2.2.2 (i + 3) (by omega)
    · rw [if_neg z, if_neg z]; exact hA.2.2.2 i (by omega)
  · rw [ho (14 + 4 * k) (by omega) (by omega) (by omega), ho (15 + 4 * k) (by omega) (by omega) (by omega), u (14 + 4 * k) (by omega), u (15 + 4 * k) (by omega)]; exact hV.1 k hk
  · rw [ho 2 (by omega) (by omega) (by omega), u 2 (by omega)]; exact hV.2.1
  · rw [ho 3 (by omega) (by omega) (by omega), u 3 (by omega)]; exact hV.2.2.1
  · rw [ho 4 (by omega) (by omega) (by omega), u 4 (by omega)]; exact hV.2.2.2.1
  · rw [show 57 + 3 * p = 56 + (3 * p + 1) by omega, show 58 + 3 * p = 56 + (3 * p + 2) by omega, hc, hc]
    by_cases z : k ≤ p
    · rw [if_pos (by omega), if_pos (by omega), show 56 + (3 * p + 1) + 3 = 57 + 3 * (p + 1) by omega, show 56 + (3 * p + 2) + 3 = 58 + 3 * (p + 1) by omega]; exact hV.2.2.2.2 (p + 1) (by omega)
    · rw [if_neg (by omega), if_neg (by omega), show 56 + (3 * p + 1) = 57 + 3 * p by omega, show 56 + (3 * p + 2) = 58 + 3 * p by omega]; exact hV.2.2.2.2 p (by omega)
  · rw [ho (32 + 2 * k) (by omega) (by omega) (by omega), u (32 + 2 * k) (by omega)]; exact H.2.2.2.1 k hk
  · rw [ho (13 + 4 * k) (by omega) (by omega) (by omega), u (13 + 4 * k) (by omega)]; exact H.2.2.2.2.1 k hk
  · rw [ho 7 (by omega) (by omega) (by omega), u 7 (by omega)]
  · rw [ho 8 (by omega) (by omega) (by omega), c8, pk_us]
