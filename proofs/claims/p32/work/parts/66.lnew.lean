/-! the relation under a noted stop, and at the start -/
theorem RQ_stop {C P R lt B : Nat} {σ ρ q h t c w b b2 q1 : Nat → Int32} {r : Int32} (H : RQ C P R lt B σ ρ q h t c w b b2) (hn : nTold (upd σ 9 r) P r = nTold σ P r) (q9 : q1 9 = r) (q10 : q1 10 = nTold σ P r) (q11 : q1 11 = q 11 + 1) (qo : ∀ i, i < 9 → q1 i = q i) : RQ C P R lt B (nsS σ P r) ρ q1 h t c w b b2 := by
  obtain ⟨g9, hA, hV, hF, hY, ⟨r1, r2⟩, l1, rc, ⟨b8, bR⟩, kh⟩ := H
  have so : ∀ i, i ≠ 9 → i ≠ 10 → i ≠ 11 → nsS σ P r i = σ i := fun i h9 h10 h11 => by
    rw [nsS, pk_un h11, pk_un h10, pk_un h9]
  refine ⟨⟨(so 0 (by omega) (by omega) (by omega)).trans g9.1, (so 1 (by omega) (by omega) (by omega)).trans g9.2.1, g9.2.2⟩, ⟨fun i hi => ?_, fun k hk => ?_, fun i hi => ?_, fun i hi => ?_⟩, VR_of hV (fun i hi => so i (by omega) (by omega) (by omega)), FR_of hF (fun k hk => so _ (by omega) (by omega) (by omega)), YB_of hY (fun k hk => so _ (by omega) (by omega) (by omega)), ⟨(so 7 (by omega) (by omega) (by omega)).trans r1, r2⟩, l1, rc, ⟨(so 8 (by omega) (by omega) (by omega)).trans b8, bR⟩, ?_⟩
  · by_cases z : i < 9
    · rw [qo i z, so i (by omega) (by omega) (by omega)]; exact hA.1 i hi
    · have e : i = 9 ∨ i = 10 ∨ i = 11 := by omega
      rcases e with rfl | rfl | rfl
      · rw [q9, nsS, pk_un (by omega), pk_un (by omega), pk_us]
      · rw [q10, nsS, pk_un (by omega), pk_us, hn]
      · rw [q11, nsS, pk_us, hA.1 11 (by omega)]
  · rw [wh, so (12 + 4 * k) (by omega) (by omega) (by omega), so (13 + 4 * k) (by omega) (by omega) (by omega), so (14 + 4 * k) (by omega) (by omega) (by omega), so (15 + 4 * k) (by omega) (by omega) (by omega)]; exact hA.2.1 k hk
  · rw [so (32 + i) (by omega) (by omega) (by omega)]; exact hA.2.2.1 i hi
  · rw [so (56 + i) (by omega) (by omega) (by omega)]; exact hA.2.2.2 i hi
  · exact KH_eq B 0 0 σ _ ⟨(so 3 (by omega) (by omega) (by omega)).symm, (so 4 (by omega) (by omega) (by omega)).symm, fun j hj => (so _ (by omega) (by omega) (by omega)).symm, fun j hj => (so _ (by omega) (by omega) (by omega)).symm⟩ (fun _ _ _ _ => rfl) (fun _ _ _ _ => rfl) kh
/-- what is told with a stop does not read where it is noted -/
theorem nT_up {C P : Nat} {σ : Nat → Int32} {r x : Int32} (hP : P < C) : nTold (upd σ 9 x) P r = nTold σ P r := nTold_g (C := C) (eg_updL eg_refl (by omega)) hP
theorem nT_up1 {P : Nat} {σ : Nat → Int32} : nTold (upd σ 9 1) P 1 = nTold σ P 1 := by
  rw [nT_n (Or.inr (Or.inl rfl)), nT_n (Or.inr (Or.inl rfl))]
/-- the law's arrays at the start, k shuttles and k threads done -/
def hI (k : Nat) : Nat → Int32 := fun i => if i < 3 * k then (if i % 3 = 0 then nI (i / 3) else if i % 3 = 1 then 20 else -1) else 0
def tI (k : Nat) : Nat → Int32 := fun i => if i < 2 * k then (if i % 2 = 0 then nI (i / 2 % 6) else 60) else 0
def qI : Nat → Int32 := upd (upd (fun _ => 0) 2 1) 10 (-6)
theorem hI_0 : hI 0 = fun _ => 0 := by funext i; rw [hI, if_neg (by omega)]
theorem tI_0 : tI 0 = fun _ => 0 := by funext i; rw [tI, if_neg (by omega)]
theorem hI_s {k : Nat} : upd (upd (upd (hI k) (3 * k) (nI k)) (3 * k + 1) 20) (3 * k + 2) (-1) = hI (k + 1) := by
  funext i
  by_cases e2 : i = 3 * k + 2
  · subst e2; rw [pk_us, hI, if_pos (by omega), if_neg (by omega), if_neg (by omega)]
  rw [pk_un e2]
  by_cases e1 : i = 3 * k + 1
  · subst e1; rw [pk_us, hI, if_pos (by omega), if_neg (by omega), if_pos (by omega)]
  rw [pk_un e1]
  by_cases e0 : i = 3 * k
  · subst e0; rw [pk_us, hI, if_pos (by omega), if_pos (by omega), show 3 * k / 3 = k by omega]
  rw [pk_un e0, hI, hI]
  by_cases z : i < 3 * k
  · rw [if_pos z, if_pos (show i < 3 * (k + 1) by omega)]
  · rw [if_neg z, if_neg (show ¬ i < 3 * (k + 1) by omega)]
theorem tI_s {k : Nat} : upd (upd (tI k) (2 * k) (nI (k % 6))) (2 * k + 1) 60 = tI (k + 1) := by
  funext i
  by_cases e1 : i = 2 * k + 1
  · subst e1; rw [pk_us, tI, if_pos (by omega), if_neg (by omega)]
  rw [pk_un e1]
  by_cases e0 : i = 2 * k
  · subst e0; rw [pk_us, tI, if_pos (by omega), if_pos (by omega), show 2 * k / 2 = k by omega]
  rw [pk_un e0, tI, tI]
  by_cases z : i < 2 * k
  · rw [if_pos z, if_pos (show i < 2 * (k + 1) by omega)]
  · rw [if_neg z, if_neg (show ¬ i < 2 * (k + 1) by omega)]
theorem qI_v : ∀ i, i < 12 → qI i = sI i := by
  intro i hi
  have e : i = 0 ∨ i = 1 ∨ i = 2 ∨ i = 3 ∨ i = 4 ∨ i = 5 ∨ i = 6 ∨ i = 7 ∨ i = 8 ∨ i = 9 ∨ i = 10 ∨ i = 11 := by omega
  rcases e with rfl | rfl | rfl | rfl | rfl | rfl | rfl | rfl | rfl | rfl | rfl | rfl <;> rfl
theorem RQ_new {c w b b2 : Nat → Int32} : RQ 0 0 0 0 0 sI zI qI (hI 5) (tI 12) c w b b2 := by
  refine ⟨⟨rfl, rfl, Or.inr ⟨rfl, rfl⟩, by omega⟩, ⟨qI_v, fun k hk => ?_, fun i hi => ?_, fun i hi => absurd hi (by omega)⟩, ⟨fun k hk => Or.inl ⟨(sI_sh hk).2.2.1, (sI_sh hk).2.2.2⟩, ⟨1, by omega, rfl⟩, ⟨0, by omega, rfl⟩, ⟨0, by omega, rfl⟩, fun p hp => absurd hp (by omega)⟩, fun k hk => ⟨k % 6, by omega, (sI_th hk).1⟩, fun k hk => ?_, ⟨rfl, by omega⟩, ⟨rfl, by omega⟩, fun r hr => absurd hr (by omega), ⟨rfl, by omega⟩, trivial⟩
  · obtain ⟨a1, a2, a3, a4⟩ := sI_sh hk
    rw [a1, a2, wh_d a3]
    refine ⟨?_, ?_, ?_⟩
    · rw [hI, if_pos (by omega), if_pos (by omega), show 3 * k / 3 = k by omega]
    · rw [hI, if_pos (by omega), if_neg (by omega), if_pos (by omega)]
    · rw [hI, if_pos (by omega), if_neg (by omega), if_neg (by omega)]
  · obtain ⟨j, e⟩ : ∃ j, i = 2 * j ∨ i = 2 * j + 1 := ⟨i / 2, by omega⟩
    rcases e with e | e
    · subst e
      rw [(sI_th (t := j) (by omega)).1, tI, if_pos (by omega), if_pos (by omega), show 2 * j / 2 = j by omega]
    · subst e
      rw [show 32 + (2 * j + 1) = 33 + 2 * j by omega, (sI_th (t := j) (by omega)).2, tI, if_pos (by omega), if_neg (by omega)]
  · rw [(sI_sh hk).2.1]; decide
