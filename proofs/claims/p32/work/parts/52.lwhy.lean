/-! the law's arrays against the class's state; why a pick would be stopped -/
/-- where a shuttle is: -1 in the drawer, else ten times its side, and its box -/
def wh (σ : Nat → Int32) (k : Nat) : Int32 := if σ (14 + 4 * k) = -6 then -1 else 10 * σ (14 + 4 * k) + σ (15 + 4 * k)
def RA (C : Nat) (σ q h t c : Nat → Int32) : Prop := (∀ i, i < 12 → q i = σ i) ∧ (∀ k, k < 5 → h (3 * k) = σ (12 + 4 * k) ∧ h (3 * k + 1) = σ (13 + 4 * k) ∧ h (3 * k + 2) = wh σ k) ∧ (∀ i, i < 24 → t i = σ (32 + i)) ∧ (∀ i, i < 3 * C → c i = σ (56 + i))
/-- all numbers are in their ranges -/
def VR (C : Nat) (σ : Nat → Int32) : Prop := (∀ k, k < 5 → (σ (14 + 4 * k) = -6 ∧ σ (15 + 4 * k) = -6) ∨ (σ (14 + 4 * k) = 0 ∧ ∃ b, b < 4 ∧ σ (15 + 4 * k) = nI b) ∨ (σ (14 + 4 * k) = 1 ∧ ∃ b, b < 2 ∧ σ (15 + 4 * k) = nI b)) ∧ (∃ v, v < 4 ∧ σ 2 = nI v) ∧ (∃ a, a < 4 ∧ σ 3 = nI a) ∧ (∃ b, b < 2 ∧ σ 4 = nI b) ∧ ∀ p, p < C → (∃ a, a < 4 ∧ σ (57 + 3 * p) = nI a) ∧ ∃ b, b < 2 ∧ σ (58 + 3 * p) = nI b
def wyV (r n : Int32) : Int32 := if r = 0 then 0 else if r = 1 then 10 else if r = 5 then 50 else 100 * r + n + 6
theorem far_i : ∀ x, x < 4 → ∀ y, y < 4 → ∀ v, v < 4 → ((4 - nI v < nI x - nI y ∨ 4 - nI v < nI y - nI x) ↔ 4 - nI v < (if 0 ≤ nI x - nI y then nI x - nI y else 0 - (nI x - nI y))) := by decide +kernel
theorem wh_eq : ∀ a, a < 4 → ∀ b, b < 4 → ((10 * (0 : Int32) + nI a = nI b ↔ nI a = nI b) ∧ (10 * (1 : Int32) + nI a = 10 + nI b ↔ nI a = nI b) ∧ ¬ 10 * (1 : Int32) + nI a = nI b ∧ ¬ 10 * (0 : Int32) + nI a = 10 + nI b ∧ ¬ (-1 : Int32) = nI b ∧ ¬ (-1 : Int32) = 10 + nI b) := by decide +kernel
theorem wh_d {σ : Nat → Int32} {k : Nat} (h : σ (14 + 4 * k) = -6) : wh σ k = -1 := if_pos h
theorem wh_0 {σ : Nat → Int32} {k : Nat} (h : σ (14 + 4 * k) = 0) : wh σ k = 10 * 0 + σ (15 + 4 * k) := by rw [wh, if_neg (by rw [h]; decide), h]
theorem wh_1 {σ : Nat → Int32} {k : Nat} (h : σ (14 + 4 * k) = 1) : wh σ k = 10 * 1 + σ (15 + 4 * k) := by rw [wh, if_neg (by rw [h]; decide), h]
theorem in_0 {C : Nat} {σ q h t c : Nat → Int32} (hA : RA C σ q h t c) (hV : VR C σ) {b : Nat} (hb : b < 4) : ∀ n k, n + k = 5 → inF h (nI b) n k = fndF σ 0 (nI b) n k
  | 0, _, _ => rfl
  | n + 1, k, hk => by
    rw [inF, fndF, in_0 hA hV hb n (k + 1) (by omega), (hA.2.1 k (by omega)).2.2]
    rcases hV.1 k (by omega) with ⟨e, -⟩ | ⟨e, a, ha, e2⟩ | ⟨e, a, ha, e2⟩
    · rw [wh_d e, if_neg (wh_eq 0 (by omega) b hb).2.2.2.2.1, if_neg (fun z => absurd (e.symm.trans z.1) (by decide))]
    · rw [wh_0 e, e, e2]
      have := (wh_eq a ha b hb).1
      by_cases z : nI a = nI b
      · rw [if_pos (this.mpr z), if_pos ⟨rfl, z⟩]
      · rw [if_neg (fun w => z (this.mp w)), if_neg (fun w => z w.2)]
    · rw [wh_1 e, e, e2, if_neg (wh_eq a (by omega) b hb).2.2.1, if_neg (fun z => absurd z.1 (by decide))]
theorem in_1 {C : Nat} {σ q h t c : Nat → Int32} (hA : RA C σ q h t c) (hV : VR C σ) {b : Nat} (hb : b < 4) : ∀ n k, n + k = 5 → inF h (10 + nI b) n k = fndF σ 1 (nI b) n k
  | 0, _, _ => rfl
  | n + 1, k, hk => by
    rw [inF, fndF, in_1 hA hV hb n (k + 1) (by omega), (hA.2.1 k (by omega)).2.2]
    rcases hV.1 k (by omega) with ⟨e, -⟩ | ⟨e, a, ha, e2⟩ | ⟨e, a, ha, e2⟩
    · rw [wh_d e, if_neg (wh_eq 0 (by omega) b hb).2.2.2.2.2, if_neg (fun z => absurd (e.symm.trans z.1) (by decide))]
    · rw [wh_0 e, e, e2, if_neg (wh_eq a ha b hb).2.2.2.1, if_neg (fun z => absurd z.1 (by decide))]
    · rw [wh_1 e, e, e2]
      have := (wh_eq a (by omega) b hb).2.1
      by_cases z : nI a = nI b
      · rw [if_pos (this.mpr z), if_pos ⟨rfl, z⟩]
      · rw [if_neg (fun w => z (this.mp w)), if_neg (fun w => z w.2)]
theorem bxS_0 {σ : Nat → Int32} {P : Nat} : bxS σ P 0 = σ (57 + 3 * P) := if_pos rfl
theorem bxS_1 {σ : Nat → Int32} {P : Nat} : bxS σ P 1 = σ (58 + 3 * P) := if_neg (by decide)
theorem on_0 {C P : Nat} {σ q h t c : Nat → Int32} (hA : RA C σ q h t c) (hV : VR C σ) (hP : P < C) : inF h (c (3 * P + 1)) 5 0 = onS σ P 0 := by
  obtain ⟨⟨a, ha, e⟩, -⟩ := hV.2.2.2.2 P hP
  have e1 : c (3 * P + 1) = nI a := by rw [hA.2.2.2 _ (by omega), ← e]; exact congrArg σ (by omega)
  rw [e1, in_0 hA hV (by omega) 5 0 rfl, onS, bxS_0, e]; rfl
theorem on_1 {C P : Nat} {σ q h t c : Nat → Int32} (hA : RA C σ q h t c) (hV : VR C σ) (hP : P < C) : inF h (10 + c (3 * P + 2)) 5 0 = onS σ P 1 := by
  obtain ⟨-, b, hb, e⟩ := hV.2.2.2.2 P hP
  have e1 : c (3 * P + 2) = nI b := by rw [hA.2.2.2 _ (by omega), ← e]; exact congrArg σ (by omega)
  rw [e1, in_1 hA hV (by omega) 5 0 rfl, onS, bxS_1, e]; rfl
theorem far_0 {C P : Nat} {σ q h t c : Nat → Int32} (hA : RA C σ q h t c) (hV : VR C σ) (hP : P < C) : (4 - q 2 < q 3 - c (3 * P + 1) ∨ 4 - q 2 < c (3 * P + 1) - q 3) ↔ 4 - σ 2 < farV σ P 0 0 := by
  obtain ⟨⟨a, ha, e⟩, -⟩ := hV.2.2.2.2 P hP
  obtain ⟨v, hv, e2⟩ := hV.2.1
  obtain ⟨x, hx, e3⟩ := hV.2.2.1
  have e1 : c (3 * P + 1) = nI a := by rw [hA.2.2.2 _ (by omega), ← e]; exact congrArg σ (by omega)
  rw [hA.1 2 (by omega), hA.1 3 (by omega), e1, farV, bxS_0, e, e2, show 3 + 1 * 0 = 3 from rfl, e3]
  exact far_i x hx a ha v hv
theorem far_1 {C P : Nat} {σ q h t c : Nat → Int32} (hA : RA C σ q h t c) (hV : VR C σ) (hP : P < C) : (4 - q 2 < q 4 - c (3 * P + 2) ∨ 4 - q 2 < c (3 * P + 2) - q 4) ↔ 4 - σ 2 < farV σ P 1 1 := by
  obtain ⟨-, b, hb, e⟩ := hV.2.2.2.2 P hP
  obtain ⟨v, hv, e2⟩ := hV.2.1
  obtain ⟨x, hx, e3⟩ := hV.2.2.2.1
  have e1 : c (3 * P + 2) = nI b := by rw [hA.2.2.2 _ (by omega), ← e]; exact congrArg σ (by omega)
  rw [hA.1 2 (by omega), hA.1 4 (by omega), e1, farV, bxS_1, e, e2, show 3 + 1 * 1 = 4 from rfl, e3]
  exact far_i x (by omega) b (by omega) v hv
theorem lt0_6 {σ : Nat → Int32} {P : Nat} {s : Int32} (h : onS σ P s < 0) : onS σ P s = -6 := by
  by_cases q : onS σ P s = -6
  · exact q
  · obtain ⟨k, hk, e⟩ := onS_nI q
    rw [e] at h
    exact absurd h (nI_pos (by omega))
theorem ge0_k {σ : Nat → Int32} {P : Nat} {s : Int32} (h : 0 ≤ onS σ P s) : ¬ onS σ P s = -6 := fun q => by rw [q] at h; exact absurd h (by decide)
theorem yn0 {x : Int32} (h : 0 ≤ x) (h2 : ¬ x = 0) : 0 < x := by
  rcases Int32.le_iff_lt_or_eq.mp h with q | q
  · exact q
  · exact absurd q.symm h2
theorem nI_n6b {k : Nat} (hk : k < 12) : ¬ nI k = -6 := by
  have h : ∀ j, j < 12 → ¬ nI j = -6 := by decide +kernel
  exact h k hk
set_option maxRecDepth 100000 in
set_option maxHeartbeats 4000000 in
theorem c_L_why_1 (l : Launch) (g : Ge) (N o o2 : Nat) (σ q h t c : Nat → Int32) (C P : Nat) (hA : RA C σ q h t c) (g9 : GC C P σ) (hV : VR C σ) (hY : YN σ) : Cb2 l g yL_why (.code yL_why cL_why 10 (some .int)) 1 [.int (1 : Int32), .ref o, .ref (o + 1), .ref (o + 2), .ref o2] N o (qhL g o q h t) o2 (ccL g o2 c) (some (.int (wyV (rsG σ C P) (nTold σ P (rsG σ C P))))) (qhL g o q h t) := by
  intro f hB0 hO0
  have hB : BB g N o 3 := hB0
  have hO : OB g N f o 3 o2 1 (ccL g o2 c) := hO0
  refine ct_of (own := RL) [some (.int (1 : Int32)), some (.ref o), some (.ref (o + 1)), some (.ref (o + 2)), some (.ref o2), none, none, none, none, none] (by decide +kernel) rfl rfl (Nat.le_of_ble_eq_true rfl) ?_
  intro vp ve vs vm va vb vt vc hnm X
  refine v_aload_n X dL_why_0 (i := 1) rfl rfl ?_
  refine v_iconst X dL_why_1 (v := (0 : Int32)) (by decide) ?_
  refine v_ialdB X hB dL_why_2 0 (Nat.le_of_ble_eq_true rfl) rfl 0 rfl (by omega) (Nat.le_of_ble_eq_true rfl) ?_
  refine v_if_ne X dL_why_3 (tgt := 9) (by decide) (fun c3 => ?_) (fun c3 => ?_)
  · skip
    have hC0 : ¬ C = 0 := fun z => c3 (by rw [hA.1 0 (by omega), g9.1, z]; rfl)
    have hP : P < C := by
      have := g9.2.2.1
      omega
    have hq1 : q 1 = nI P := (hA.1 1 (by omega)).trans g9.2.1
    have hC16 := g9.2.2.2
    have o0 := on_0 hA hV hP
    have o1 := on_1 hA hV hP
    refine v_iconst X dL_why_9 (v := (0 : Int32)) (by decide) ?_
    refine v_istore X dL_why_10 (Nat.le_of_ble_eq_true rfl) rfl ?_
    have LP12 : ∀ (n_ : Nat) (k : Nat), (k ≤ 12) → (fbF σ 12 0 = fbF σ (12 - k) k) → 12 - k < n_ → Vm vp l ve vs vm va vb vt vc g 1 10 N (some (.int (wyV (rsG σ C P) (nTold σ P (rsG σ C P))))) (ovr f o (qhL g o q h t)) (ovr f o (qhL g o q h t)) 12 [some (.int (1 : Int32)), some (.ref o), some (.ref (o + 1)), some (.ref (o + 2)), some (.ref o2), some (.int (nI k)), none, none, none, none] [] := by
      intro n_
      induction n_ with
      | zero => intro k hk hr hm_; exact absurd hm_ (Nat.not_lt_zero _)
      | succ n_ ih12 =>
        intro k hk hr hm12
        refine v_iload X dL_why_12 rfl ?_
        refine v_bipush X dL_why_14 (v := (12 : Int32)) (by decide) ?_
        refine v_icmp_ge X dL_why_16 (tgt := 50) (by decide) (fun c16 => ?_) (fun c16 => ?_)
        · skip
          have hk5 : k = 12 := Nat.le_antisymm hk (le_of_nI (a := 12) (by omega) (by omega) c16)
          have hfb : fbF σ 12 0 = -6 := by rw [hr, hk5, Nat.sub_self, fbF]
          refine v_aload X dL_why_50 rfl ?_
          refine v_iconst X dL_why_52 (v := (3 : Int32)) (by decide) ?_
          refine v_aload_n X dL_why_53 (i := 1) rfl rfl ?_
          refine v_iconst X dL_why_54 (v := (1 : Int32)) (by decide) ?_
          refine v_ialdB X hB dL_why_55 0 (Nat.le_of_ble_eq_true rfl) rfl 1 rfl (by omega) (Nat.le_of_ble_eq_true rfl) ?_
          refine v_imul X dL_why_56 ?_
          refine v_iconst X dL_why_57 (v := (1 : Int32)) (by decide) ?_
          refine v_iadd X dL_why_58 ?_
          refine v_ialdR X hO rfl dL_why_59 0 rfl ((3 * P) + 1) (ix_add (ix_mul rfl hq1) rfl) (by omega) (Nat.le_of_ble_eq_true rfl) ?_
          refine v_istore X dL_why_60 (Nat.le_of_ble_eq_true rfl) rfl ?_
          refine v_aload X dL_why_62 rfl ?_
          refine v_iconst X dL_why_64 (v := (3 : Int32)) (by decide) ?_
          refine v_aload_n X dL_why_65 (i := 1) rfl rfl ?_
          refine v_iconst X dL_why_66 (v := (1 : Int32)) (by decide) ?_
          refine v_ialdB X hB dL_why_67 0 (Nat.le_of_ble_eq_true rfl) rfl 1 rfl (by omega) (Nat.le_of_ble_eq_true rfl) ?_
          refine v_imul X dL_why_68 ?_
          refine v_iconst X dL_why_69 (v := (2 : Int32)) (by decide) ?_
          refine v_iadd X dL_why_70 ?_
          refine v_ialdR X hO rfl dL_why_71 0 rfl ((3 * P) + 2) (ix_add (ix_mul rfl hq1) rfl) (by omega) (Nat.le_of_ble_eq_true rfl) ?_
          refine v_istore X dL_why_72 (Nat.le_of_ble_eq_true rfl) rfl ?_
          refine v_iconst X dL_why_74 (v := (4 : Int32)) (by decide) ?_
          refine v_aload_n X dL_why_75 (i := 1) rfl rfl ?_
          refine v_iconst X dL_why_76 (v := (2 : Int32)) (by decide) ?_
          refine v_ialdB X hB dL_why_77 0 (Nat.le_of_ble_eq_true rfl) rfl 2 rfl (by omega) (Nat.le_of_ble_eq_true rfl) ?_
          refine v_isub X dL_why_78 ?_
          refine v_istore X dL_why_79 (Nat.le_of_ble_eq_true rfl) rfl ?_
          refine v_iload_n X dL_why_81 (i := 0) rfl rfl ?_
          refine v_if_eq X dL_why_82 (tgt := 111) (by decide) (fun c82 => ?_) (fun c82 => ?_)
          · skip
            exact absurd c82 (by decide)
          · skip
            refine v_aload_n X dL_why_85 (i := 1) rfl rfl ?_
            refine v_iconst X dL_why_86 (v := (3 : Int32)) (by decide) ?_
            refine v_ialdB X hB dL_why_87 0 (Nat.le_of_ble_eq_true rfl) rfl 3 rfl (by omega) (Nat.le_of_ble_eq_true rfl) ?_
            refine v_iload X dL_why_88 rfl ?_
            refine v_isub X dL_why_90 ?_
            refine v_iload X dL_why_91 rfl ?_
            refine v_icmp_gt X dL_why_93 (tgt := 107) (by decide) (fun c93 => ?_) (fun c93 => ?_)
            · skip
              have f0 : 4 - σ 2 < farV σ P 0 0 := (far_0 hA hV hP).mp (Or.inl c93)
              refine v_sipush X dL_why_107 (v := (306 : Int32)) (by decide) ?_
              have hsf : stf σ P = 0 := by rw [stf, if_pos f0]
              have hr9 : rsG σ C P = 3 := by rw [rsG, if_neg hC0, if_neg (not_not_intro hfb), hsf, if_pos (by decide)]
              exact v_iret X rfl dL_why_110 (by rw [hr9, nTold, if_neg (by decide), if_pos rfl, hsf]; rfl) (rfl)
            · skip
              refine v_iload X dL_why_96 rfl ?_
              refine v_aload_n X dL_why_98 (i := 1) rfl rfl ?_
              refine v_iconst X dL_why_99 (v := (3 : Int32)) (by decide) ?_
              refine v_ialdB X hB dL_why_100 0 (Nat.le_of_ble_eq_true rfl) rfl 3 rfl (by omega) (Nat.le_of_ble_eq_true rfl) ?_
              refine v_isub X dL_why_101 ?_
              refine v_iload X dL_why_102 rfl ?_
              refine v_icmp_le X dL_why_104 (tgt := 111) (by decide) (fun c104 => ?_) (fun c104 => ?_)
              · skip
                have f0 : ¬ 4 - σ 2 < farV σ P 0 0 := fun z => by
                  rcases (far_0 hA hV hP).mpr z with w | w
                  · exact absurd w (Int32.not_lt.mpr c93)
                  · exact absurd w (Int32.not_lt.mpr c104)
                refine v_iload_n X dL_why_111 (i := 0) rfl rfl ?_
                refine v_if_eq X dL_why_112 (tgt := 141) (by decide) (fun c112 => ?_) (fun c112 => ?_)
                · skip
                  exact absurd c112 (by decide)
                · skip
                  refine v_aload_n X dL_why_115 (i := 1) rfl rfl ?_
                  refine v_iconst X dL_why_116 (v := (4 : Int32)) (by decide) ?_
                  refine v_ialdB X hB dL_why_117 0 (Nat.le_of_ble_eq_true rfl) rfl 4 rfl (by omega) (Nat.le_of_ble_eq_true rfl) ?_
                  refine v_iload X dL_why_118 rfl ?_
                  refine v_isub X dL_why_120 ?_
                  refine v_iload X dL_why_121 rfl ?_
                  refine v_icmp_gt X dL_why_123 (tgt := 137) (by decide) (fun c123 => ?_) (fun c123 => ?_)
                  · skip
                    have f1 : 4 - σ 2 < farV σ P 1 1 := (far_1 hA hV hP).mp (Or.inl c123)
                    refine v_sipush X dL_why_137 (v := (307 : Int32)) (by decide) ?_
                    have hsf : stf σ P = 1 := by rw [stf, if_neg f0, if_pos f1]
                    have hr9 : rsG σ C P = 3 := by rw [rsG, if_neg hC0, if_neg (not_not_intro hfb), hsf, if_pos (by decide)]
                    exact v_iret X rfl dL_why_140 (by rw [hr9, nTold, if_neg (by decide), if_pos rfl, hsf]; rfl) (rfl)
                  · skip
                    refine v_iload X dL_why_126 rfl ?_
                    refine v_aload_n X dL_why_128 (i := 1) rfl rfl ?_
                    refine v_iconst X dL_why_129 (v := (4 : Int32)) (by decide) ?_
                    refine v_ialdB X hB dL_why_130 0 (Nat.le_of_ble_eq_true rfl) rfl 4 rfl (by omega) (Nat.le_of_ble_eq_true rfl) ?_
                    refine v_isub X dL_why_131 ?_
                    refine v_iload X dL_why_132 rfl ?_
                    refine v_icmp_le X dL_why_134 (tgt := 141) (by decide) (fun c134 => ?_) (fun c134 => ?_)
                    · skip
                      have f1 : ¬ 4 - σ 2 < farV σ P 1 1 := fun z => by
                        rcases (far_1 hA hV hP).mpr z with w | w
                        · exact absurd w (Int32.not_lt.mpr c123)
                        · exact absurd w (Int32.not_lt.mpr c134)
                      refine v_iload X dL_why_141 rfl ?_
                      refine v_aload_n X dL_why_143 (i := 2) rfl rfl ?_
                      refine v_csB X rfl yv_L_in m_ml_L_10 1 (c_L_in l g N (o + 1) h (c ((3 * P) + 1)) ) hB (Nat.le_of_ble_eq_true rfl) rfl (Nat.le_of_ble_eq_true rfl) rfl (L' := (qhL g o q h t)) (rfl) rfl rfl (Nat.le_of_ble_eq_true rfl) ⟨Nat.le_of_ble_eq_true rfl, Nat.le_of_ble_eq_true rfl⟩ ⟨Nat.le_of_ble_eq_true rfl, Nat.le_of_ble_eq_true rfl⟩ dL_why_144 rfl ?_
                      refine v_istore X dL_why_147 (Nat.le_of_ble_eq_true rfl) rfl ?_
                      refine v_bipush X dL_why_149 (v := (10 : Int32)) (by decide) ?_
                      refine v_iload X dL_why_151 rfl ?_
                      refine v_iadd X dL_why_153 ?_
                      refine v_aload_n X dL_why_154 (i := 2) rfl rfl ?_
                      refine v_csB X rfl yv_L_in m_ml_L_10 1 (c_L_in l g N (o + 1) h ((10 : Int32) + (c ((3 * P) + 2))) ) hB (Nat.le_of_ble_eq_true rfl) rfl (Nat.le_of_ble_eq_true rfl) rfl (L' := (qhL g o q h t)) (rfl) rfl rfl (Nat.le_of_ble_eq_true rfl) ⟨Nat.le_of_ble_eq_true rfl, Nat.le_of_ble_eq_true rfl⟩ ⟨Nat.le_of_ble_eq_true rfl, Nat.le_of_ble_eq_true rfl⟩ dL_why_155 rfl ?_
                      refine v_istore X dL_why_158 (Nat.le_of_ble_eq_true rfl) rfl ?_
                      rw [o0, o1]
                      refine v_iload X dL_why_160 rfl ?_
                      refine v_if_lt X dL_why_162 (tgt := 180) (by decide) (fun c162 => ?_) (fun c162 => ?_)
                      · skip
                        have k0 := lt0_6 c162
                        refine v_iload X dL_why_180 rfl ?_
                        refine v_if_ge X dL_why_182 (tgt := 193) (by decide) (fun c182 => ?_) (fun c182 => ?_)
                        · skip
                          exact absurd k0 (ge0_k c182)
                        · skip
                          refine v_iload X dL_why_185 rfl ?_
                          refine v_if_ge X dL_why_187 (tgt := 193) (by decide) (fun c187 => ?_) (fun c187 => ?_)
                          · skip
                            have k1 := ge0_k c187
                            refine v_iload X dL_why_193 rfl ?_
                            refine v_if_ge X dL_why_195 (tgt := 203) (by decide) (fun c195 => ?_) (fun c195 => ?_)
                            · skip
                              exact absurd k0 (ge0_k c195)
                            · skip
                              refine v_iload X dL_why_198 rfl ?_
                              refine v_goto X dL_why_200 (tgt := 205) (by decide) ?_
                              refine v_istore X dL_why_205 (Nat.le_of_ble_eq_true rfl) rfl ?_
                              obtain ⟨k9, h9, e9⟩ := onS_nI k1
                              have hfl : flyN σ P = onS σ P 1 := by rw [flyN, if_pos k0]
                              have hcl : (flyN σ P).toNatClampNeg = k9 := by rw [hfl, e9]; exact nI_clamp (by omega)
                              have hyy : h (3 * k9 + 1) = σ (13 + 4 * k9) := (hA.2.1 k9 h9).2.1
                              refine v_aload_n X dL_why_207 (i := 2) rfl rfl ?_
                              refine v_iconst X dL_why_208 (v := (3 : Int32)) (by decide) ?_
                              refine v_iload X dL_why_209 rfl ?_
                              refine v_imul X dL_why_211 ?_
                              refine v_iconst X dL_why_212 (v := (1 : Int32)) (by decide) ?_
                              refine v_iadd X dL_why_213 ?_
                              refine v_ialdB X hB dL_why_214 1 (Nat.le_of_ble_eq_true rfl) rfl ((3 * k9) + 1) (ix_add (ix_mul rfl e9) rfl) (by omega) (Nat.le_of_ble_eq_true rfl) ?_
                              refine v_if_ne X dL_why_215 (tgt := 230) (by decide) (fun c215 => ?_) (fun c215 => ?_)
                              · skip
                                refine v_iconst X dL_why_230 (v := (0 : Int32)) (by decide) ?_
                                have hsf : stf σ P = -6 := by rw [stf, if_neg f0, if_neg f1]
                                have hrc : rsC σ C P = 0 := by rw [rsC, if_neg hC0, if_neg (fun z => z.1 k0), if_neg (fun z => k1 z.2), hcl, if_pos (yn0 (hY k9 h9) (fun z => c215 (hyy.trans z)))]
                                have hr9 : rsG σ C P = 0 := by rw [rsG, if_neg hC0, if_neg (not_not_intro hfb), if_neg (not_not_intro hsf), hrc]
                                exact v_iret X rfl dL_why_231 (by rw [hr9]; rfl) (rfl)
                              · skip
                                refine v_sipush X dL_why_218 (v := (600 : Int32)) (by decide) ?_
                                refine v_iload X dL_why_221 rfl ?_
                                refine v_iadd X dL_why_223 ?_
                                refine v_bipush X dL_why_224 (v := (6 : Int32)) (by decide) ?_
                                refine v_iadd X dL_why_226 ?_
                                refine v_goto X dL_why_227 (tgt := 231) (by decide) ?_
                                have hsf : stf σ P = -6 := by rw [stf, if_neg f0, if_neg f1]
                                have hrc : rsC σ C P = 6 := by rw [rsC, if_neg hC0, if_neg (fun z => z.1 k0), if_neg (fun z => k1 z.2), hcl, if_neg (by rw [← hyy, c215]; decide)]
                                have hr9 : rsG σ C P = 6 := by rw [rsG, if_neg hC0, if_neg (not_not_intro hfb), if_neg (not_not_intro hsf), hrc]
                                exact v_iret X rfl dL_why_231 (by rw [hr9, nTold, if_neg (by decide), if_neg (by decide), if_neg (by decide), if_pos rfl, hfl]; rfl) (rfl)
                          · skip
                            have k1 := lt0_6 c187
                            refine v_bipush X dL_why_190 (v := (50 : Int32)) (by decide) ?_
                            have hsf : stf σ P = -6 := by rw [stf, if_neg f0, if_neg f1]
                            have hrc : rsC σ C P = 5 := by rw [rsC, if_neg hC0, if_neg (fun z => z.1 k0), if_pos ⟨k0, k1⟩]
                            have hr9 : rsG σ C P = 5 := by rw [rsG, if_neg hC0, if_neg (not_not_intro hfb), if_neg (not_not_intro hsf), hrc]
                            exact v_iret X rfl dL_why_192 (by rw [hr9]; rfl) (rfl)
                      · skip
                        have k0 := ge0_k c162
                        refine v_iload X dL_why_165 rfl ?_
                        refine v_if_lt X dL_why_167 (tgt := 180) (by decide) (fun c167 => ?_) (fun c167 => ?_)
                        · skip
                          have k1 := lt0_6 c167
                          refine v_iload X dL_why_180 rfl ?_
                          refine v_if_ge X dL_why_182 (tgt := 193) (by decide) (fun c182 => ?_) (fun c182 => ?_)
                          · skip
                            refine v_iload X dL_why_193 rfl ?_
                            refine v_if_ge X dL_why_195 (tgt := 203) (by decide) (fun c195 => ?_) (fun c195 => ?_)
                            · skip
                              refine v_iload X dL_why_203 rfl ?_
                              refine v_istore X dL_why_205 (Nat.le_of_ble_eq_true rfl) rfl ?_
                              obtain ⟨k9, h9, e9⟩ := onS_nI k0
                              have hfl : flyN σ P = onS σ P 0 := by rw [flyN, if_neg k0]
                              have hcl : (flyN σ P).toNatClampNeg = k9 := by rw [hfl, e9]; exact nI_clamp (by omega)
                              have hyy : h (3 * k9 + 1) = σ (13 + 4 * k9) := (hA.2.1 k9 h9).2.1
                              refine v_aload_n X dL_why_207 (i := 2) rfl rfl ?_
                              refine v_iconst X dL_why_208 (v := (3 : Int32)) (by decide) ?_
                              refine v_iload X dL_why_209 rfl ?_
                              refine v_imul X dL_why_211 ?_
                              refine v_iconst X dL_why_212 (v := (1 : Int32)) (by decide) ?_
                              refine v_iadd X dL_why_213 ?_
                              refine v_ialdB X hB dL_why_214 1 (Nat.le_of_ble_eq_true rfl) rfl ((3 * k9) + 1) (ix_add (ix_mul rfl e9) rfl) (by omega) (Nat.le_of_ble_eq_true rfl) ?_
                              refine v_if_ne X dL_why_215 (tgt := 230) (by decide) (fun c215 => ?_) (fun c215 => ?_)
                              · skip
                                refine v_iconst X dL_why_230 (v := (0 : Int32)) (by decide) ?_
                                have hsf : stf σ P = -6 := by rw [stf, if_neg f0, if_neg f1]
                                have hrc : rsC σ C P = 0 := by rw [rsC, if_neg hC0, if_neg (fun z => z.2 k1), if_neg (fun z => k0 z.1), hcl, if_pos (yn0 (hY k9 h9) (fun z => c215 (hyy.trans z)))]
                                have hr9 : rsG σ C P = 0 := by rw [rsG, if_neg hC0, if_neg (not_not_intro hfb), if_neg (not_not_intro hsf), hrc]
                                exact v_iret X rfl dL_why_231 (by rw [hr9]; rfl) (rfl)
                              · skip
                                refine v_sipush X dL_why_218 (v := (600 : Int32)) (by decide) ?_
                                refine v_iload X dL_why_221 rfl ?_
                                refine v_iadd X dL_why_223 ?_
                                refine v_bipush X dL_why_224 (v := (6 : Int32)) (by decide) ?_
                                refine v_iadd X dL_why_226 ?_
                                refine v_goto X dL_why_227 (tgt := 231) (by decide) ?_
                                have hsf : stf σ P = -6 := by rw [stf, if_neg f0, if_neg f1]
                                have hrc : rsC σ C P = 6 := by rw [rsC, if_neg hC0, if_neg (fun z => z.2 k1), if_neg (fun z => k0 z.1), hcl, if_neg (by rw [← hyy, c215]; decide)]
                                have hr9 : rsG σ C P = 6 := by rw [rsG, if_neg hC0, if_neg (not_not_intro hfb), if_neg (not_not_intro hsf), hrc]
                                exact v_iret X rfl dL_why_231 (by rw [hr9, nTold, if_neg (by decide), if_neg (by decide), if_neg (by decide), if_pos rfl, hfl]; rfl) (rfl)
                            · skip
                              exact absurd (lt0_6 c195) k0
                          · skip
                            exact absurd (lt0_6 c182) k0
                        · skip
                          have k1 := ge0_k c167
                          refine v_sipush X dL_why_170 (v := (400 : Int32)) (by decide) ?_
                          refine v_iload X dL_why_173 rfl ?_
                          refine v_iadd X dL_why_175 ?_
                          refine v_bipush X dL_why_176 (v := (6 : Int32)) (by decide) ?_
                          refine v_iadd X dL_why_178 ?_
                          have hsf : stf σ P = -6 := by rw [stf, if_neg f0, if_neg f1]
                          have hrc : rsC σ C P = 4 := by rw [rsC, if_neg hC0, if_pos ⟨k0, k1⟩]
                          have hr9 : rsG σ C P = 4 := by rw [rsG, if_neg hC0, if_neg (not_not_intro hfb), if_neg (not_not_intro hsf), hrc]
                          exact v_iret X rfl dL_why_179 (by rw [hr9, nTold, if_neg (by decide), if_neg (by decide), if_pos rfl]; rfl) (rfl)
                    · skip
                      have f1 : 4 - σ 2 < farV σ P 1 1 := (far_1 hA hV hP).mp (Or.inr c134)
                      refine v_sipush X dL_why_137 (v := (307 : Int32)) (by decide) ?_
                      have hsf : stf σ P = 1 := by rw [stf, if_neg f0, if_pos f1]
                      have hr9 : rsG σ C P = 3 := by rw [rsG, if_neg hC0, if_neg (not_not_intro hfb), hsf, if_pos (by decide)]
                      exact v_iret X rfl dL_why_140 (by rw [hr9, nTold, if_neg (by decide), if_pos rfl, hsf]; rfl) (rfl)
              · skip
                have f0 : 4 - σ 2 < farV σ P 0 0 := (far_0 hA hV hP).mp (Or.inr c104)
                refine v_sipush X dL_why_107 (v := (306 : Int32)) (by decide) ?_
                have hsf : stf σ P = 0 := by rw [stf, if_pos f0]
                have hr9 : rsG σ C P = 3 := by rw [rsG, if_neg hC0, if_neg (not_not_intro hfb), hsf, if_pos (by decide)]
                exact v_iret X rfl dL_why_110 (by rw [hr9, nTold, if_neg (by decide), if_pos rfl, hsf]; rfl) (rfl)
        · skip
          have hk5 : k < 12 := lt_of_nI (b := 12) (by omega) (by omega) c16
          refine v_iload_n X dL_why_19 (i := 0) rfl rfl ?_
          refine v_if_eq X dL_why_20 (tgt := 50) (by decide) (fun c20 => ?_) (fun c20 => ?_)
          · skip
            exact absurd c20 (by decide)
          · skip
            refine v_aload_n X dL_why_23 (i := 3) rfl rfl ?_
            refine v_iconst X dL_why_24 (v := (2 : Int32)) (by decide) ?_
            refine v_iload X dL_why_25 rfl ?_
            refine v_imul X dL_why_27 ?_
            refine v_iconst X dL_why_28 (v := (1 : Int32)) (by decide) ?_
            refine v_iadd X dL_why_29 ?_
            refine v_ialdB X hB dL_why_30 2 (Nat.le_of_ble_eq_true rfl) rfl ((2 * k) + 1) (ix_add (ix_mul rfl rfl) rfl) (by omega) (Nat.le_of_ble_eq_true rfl) ?_
            refine v_if_ne X dL_why_31 (tgt := 44) (by decide) (fun c31 => ?_) (fun c31 => ?_)
            · skip
              have ht0 : ¬ σ (33 + 2 * k) = 0 := fun z => c31 (by rw [hA.2.2.1 _ (by omega), ← z]; exact congrArg σ (by omega))
              refine v_iinc X dL_why_44 (v := nI (k + 1)) rfl (ix_inc rfl) (Nat.le_of_ble_eq_true rfl) rfl ?_
              refine v_goto X dL_why_47 (tgt := 12) (by decide) ?_
              exact ih12 (k + 1) (by omega) (hr.trans (fbF_miss hk5 ht0)) (by omega)
            · skip
              have ht0 : σ (33 + 2 * k) = 0 := by rw [← c31, hA.2.2.1 _ (by omega)]; exact congrArg σ (by omega)
              refine v_sipush X dL_why_34 (v := (200 : Int32)) (by decide) ?_
              refine v_iload X dL_why_37 rfl ?_
              refine v_iadd X dL_why_39 ?_
              refine v_bipush X dL_why_40 (v := (6 : Int32)) (by decide) ?_
              refine v_iadd X dL_why_42 ?_
              have hfb : fbF σ 12 0 = nI k := hr.trans (fbF_hit hk5 ht0)
              have hn6 : ¬ nI k = -6 := nI_n6b hk5
              have hr9 : rsG σ C P = 2 := by rw [rsG, if_neg hC0, if_pos (by rw [hfb]; exact hn6)]
              exact v_iret X rfl dL_why_43 (by rw [hr9, nTold, if_pos rfl, hfb]; rfl) (rfl)
    exact LP12 _ 0 (Nat.zero_le _) rfl (Nat.lt_succ_self _)
  · skip
    have hC0 : C = 0 := by
      rcases Nat.eq_zero_or_pos C with z | z
      · exact z
      · rw [hA.1 0 (by omega), g9.1] at c3; exact absurd c3 (nI_ne0 z (by have := g9.2.2.2; omega))
    refine v_bipush X dL_why_6 (v := (10 : Int32)) (by decide) ?_
    have hr9 : rsG σ C P = 1 := by rw [rsG, if_pos hC0]
    exact v_iret X rfl dL_why_8 (by rw [hr9]; rfl) (rfl)
set_option maxRecDepth 100000 in
set_option maxHeartbeats 4000000 in
theorem c_L_why_0 (l : Launch) (g : Ge) (N o o2 : Nat) (σ q h t c : Nat → Int32) (C P : Nat) (hA : RA C σ q h t c) (g9 : GC C P σ) (hV : VR C σ) (hY : YN σ) : Cb2 l g yL_why (.code yL_why cL_why 10 (some .int)) 1 [.int (0 : Int32), .ref o, .ref (o + 1), .ref (o + 2), .ref o2] N o (qhL g o q h t) o2 (ccL g o2 c) (some (.int (wyV (rsC σ C P) (nTold σ P (rsC σ C P))))) (qhL g o q h t) := by
  intro f hB0 hO0
  have hB : BB g N o 3 := hB0
  have hO : OB g N f o 3 o2 1 (ccL g o2 c) := hO0
  refine ct_of (own := RL) [some (.int (0 : Int32)), some (.ref o), some (.ref (o + 1)), some (.ref (o + 2)), some (.ref o2), none, none, none, none, none] (by decide +kernel) rfl rfl (Nat.le_of_ble_eq_true rfl) ?_
  intro vp ve vs vm va vb vt vc hnm X
  refine v_aload_n X dL_why_0 (i := 1) rfl rfl ?_
  refine v_iconst X dL_why_1 (v := (0 : Int32)) (by decide) ?_
  refine v_ialdB X hB dL_why_2 0 (Nat.le_of_ble_eq_true rfl) rfl 0 rfl (by omega) (Nat.le_of_ble_eq_true rfl) ?_
  refine v_if_ne X dL_why_3 (tgt := 9) (by decide) (fun c3 => ?_) (fun c3 => ?_)
  · skip
    have hC0 : ¬ C = 0 := fun z => c3 (by rw [hA.1 0 (by omega), g9.1, z]; rfl)
    have hP : P < C := by
      have := g9.2.2.1
      omega
    have hq1 : q 1 = nI P := (hA.1 1 (by omega)).trans g9.2.1
    have hC16 := g9.2.2.2
    have o0 := on_0 hA hV hP
    have o1 := on_1 hA hV hP
    refine v_iconst X dL_why_9 (v := (0 : Int32)) (by decide) ?_
    refine v_istore X dL_why_10 (Nat.le_of_ble_eq_true rfl) rfl ?_
    refine v_iload X dL_why_12 rfl ?_
    refine v_bipush X dL_why_14 (v := (12 : Int32)) (by decide) ?_
    refine v_icmp_ge X dL_why_16 (tgt := 50) (by decide) (fun c16 => ?_) (fun c16 => ?_)
    · skip
      exact absurd c16 (by decide)
    · skip
      refine v_iload_n X dL_why_19 (i := 0) rfl rfl ?_
      refine v_if_eq X dL_why_20 (tgt := 50) (by decide) (fun c20 => ?_) (fun c20 => ?_)
      · skip
        refine v_aload X dL_why_50 rfl ?_
        refine v_iconst X dL_why_52 (v := (3 : Int32)) (by decide) ?_
        refine v_aload_n X dL_why_53 (i := 1) rfl rfl ?_
        refine v_iconst X dL_why_54 (v := (1 : Int32)) (by decide) ?_
        refine v_ialdB X hB dL_why_55 0 (Nat.le_of_ble_eq_true rfl) rfl 1 rfl (by omega) (Nat.le_of_ble_eq_true rfl) ?_
        refine v_imul X dL_why_56 ?_
        refine v_iconst X dL_why_57 (v := (1 : Int32)) (by decide) ?_
        refine v_iadd X dL_why_58 ?_
        refine v_ialdR X hO rfl dL_why_59 0 rfl ((3 * P) + 1) (ix_add (ix_mul rfl hq1) rfl) (by omega) (Nat.le_of_ble_eq_true rfl) ?_
        refine v_istore X dL_why_60 (Nat.le_of_ble_eq_true rfl) rfl ?_
        refine v_aload X dL_why_62 rfl ?_
        refine v_iconst X dL_why_64 (v := (3 : Int32)) (by decide) ?_
        refine v_aload_n X dL_why_65 (i := 1) rfl rfl ?_
        refine v_iconst X dL_why_66 (v := (1 : Int32)) (by decide) ?_
        refine v_ialdB X hB dL_why_67 0 (Nat.le_of_ble_eq_true rfl) rfl 1 rfl (by omega) (Nat.le_of_ble_eq_true rfl) ?_
        refine v_imul X dL_why_68 ?_
        refine v_iconst X dL_why_69 (v := (2 : Int32)) (by decide) ?_
        refine v_iadd X dL_why_70 ?_
        refine v_ialdR X hO rfl dL_why_71 0 rfl ((3 * P) + 2) (ix_add (ix_mul rfl hq1) rfl) (by omega) (Nat.le_of_ble_eq_true rfl) ?_
        refine v_istore X dL_why_72 (Nat.le_of_ble_eq_true rfl) rfl ?_
        refine v_iconst X dL_why_74 (v := (4 : Int32)) (by decide) ?_
        refine v_aload_n X dL_why_75 (i := 1) rfl rfl ?_
        refine v_iconst X dL_why_76 (v := (2 : Int32)) (by decide) ?_
        refine v_ialdB X hB dL_why_77 0 (Nat.le_of_ble_eq_true rfl) rfl 2 rfl (by omega) (Nat.le_of_ble_eq_true rfl) ?_
        refine v_isub X dL_why_78 ?_
        refine v_istore X dL_why_79 (Nat.le_of_ble_eq_true rfl) rfl ?_
        refine v_iload_n X dL_why_81 (i := 0) rfl rfl ?_
        refine v_if_eq X dL_why_82 (tgt := 111) (by decide) (fun c82 => ?_) (fun c82 => ?_)
        · skip
          refine v_iload_n X dL_why_111 (i := 0) rfl rfl ?_
          refine v_if_eq X dL_why_112 (tgt := 141) (by decide) (fun c112 => ?_) (fun c112 => ?_)
          · skip
            refine v_iload X dL_why_141 rfl ?_
            refine v_aload_n X dL_why_143 (i := 2) rfl rfl ?_
            refine v_csB X rfl yv_L_in m_ml_L_10 1 (c_L_in l g N (o + 1) h (c ((3 * P) + 1)) ) hB (Nat.le_of_ble_eq_true rfl) rfl (Nat.le_of_ble_eq_true rfl) rfl (L' := (qhL g o q h t)) (rfl) rfl rfl (Nat.le_of_ble_eq_true rfl) ⟨Nat.le_of_ble_eq_true rfl, Nat.le_of_ble_eq_true rfl⟩ ⟨Nat.le_of_ble_eq_true rfl, Nat.le_of_ble_eq_true rfl⟩ dL_why_144 rfl ?_
            refine v_istore X dL_why_147 (Nat.le_of_ble_eq_true rfl) rfl ?_
            refine v_bipush X dL_why_149 (v := (10 : Int32)) (by decide) ?_
            refine v_iload X dL_why_151 rfl ?_
            refine v_iadd X dL_why_153 ?_
            refine v_aload_n X dL_why_154 (i := 2) rfl rfl ?_
            refine v_csB X rfl yv_L_in m_ml_L_10 1 (c_L_in l g N (o + 1) h ((10 : Int32) + (c ((3 * P) + 2))) ) hB (Nat.le_of_ble_eq_true rfl) rfl (Nat.le_of_ble_eq_true rfl) rfl (L' := (qhL g o q h t)) (rfl) rfl rfl (Nat.le_of_ble_eq_true rfl) ⟨Nat.le_of_ble_eq_true rfl, Nat.le_of_ble_eq_true rfl⟩ ⟨Nat.le_of_ble_eq_true rfl, Nat.le_of_ble_eq_true rfl⟩ dL_why_155 rfl ?_
            refine v_istore X dL_why_158 (Nat.le_of_ble_eq_true rfl) rfl ?_
            rw [o0, o1]
            refine v_iload X dL_why_160 rfl ?_
            refine v_if_lt X dL_why_162 (tgt := 180) (by decide) (fun c162 => ?_) (fun c162 => ?_)
            · skip
              have k0 := lt0_6 c162
              refine v_iload X dL_why_180 rfl ?_
              refine v_if_ge X dL_why_182 (tgt := 193) (by decide) (fun c182 => ?_) (fun c182 => ?_)
              · skip
                exact absurd k0 (ge0_k c182)
              · skip
                refine v_iload X dL_why_185 rfl ?_
                refine v_if_ge X dL_why_187 (tgt := 193) (by decide) (fun c187 => ?_) (fun c187 => ?_)
                · skip
                  have k1 := ge0_k c187
                  refine v_iload X dL_why_193 rfl ?_
                  refine v_if_ge X dL_why_195 (tgt := 203) (by decide) (fun c195 => ?_) (fun c195 => ?_)
                  · skip
                    exact absurd k0 (ge0_k c195)
                  · skip
                    refine v_iload X dL_why_198 rfl ?_
                    refine v_goto X dL_why_200 (tgt := 205) (by decide) ?_
                    refine v_istore X dL_why_205 (Nat.le_of_ble_eq_true rfl) rfl ?_
                    obtain ⟨k9, h9, e9⟩ := onS_nI k1
                    have hfl : flyN σ P = onS σ P 1 := by rw [flyN, if_pos k0]
                    have hcl : (flyN σ P).toNatClampNeg = k9 := by rw [hfl, e9]; exact nI_clamp (by omega)
                    have hyy : h (3 * k9 + 1) = σ (13 + 4 * k9) := (hA.2.1 k9 h9).2.1
                    refine v_aload_n X dL_why_207 (i := 2) rfl rfl ?_
                    refine v_iconst X dL_why_208 (v := (3 : Int32)) (by decide) ?_
                    refine v_iload X dL_why_209 rfl ?_
                    refine v_imul X dL_why_211 ?_
                    refine v_iconst X dL_why_212 (v := (1 : Int32)) (by decide) ?_
                    refine v_iadd X dL_why_213 ?_
                    refine v_ialdB X hB dL_why_214 1 (Nat.le_of_ble_eq_true rfl) rfl ((3 * k9) + 1) (ix_add (ix_mul rfl e9) rfl) (by omega) (Nat.le_of_ble_eq_true rfl) ?_
                    refine v_if_ne X dL_why_215 (tgt := 230) (by decide) (fun c215 => ?_) (fun c215 => ?_)
                    · skip
                      refine v_iconst X dL_why_230 (v := (0 : Int32)) (by decide) ?_
                      have hrc : rsC σ C P = 0 := by rw [rsC, if_neg hC0, if_neg (fun z => z.1 k0), if_neg (fun z => k1 z.2), hcl, if_pos (yn0 (hY k9 h9) (fun z => c215 (hyy.trans z)))]
                      have hr9 : rsC σ C P = 0 := by exact hrc
                      exact v_iret X rfl dL_why_231 (by rw [hr9]; rfl) (rfl)
                    · skip
                      refine v_sipush X dL_why_218 (v := (600 : Int32)) (by decide) ?_
                      refine v_iload X dL_why_221 rfl ?_
                      refine v_iadd X dL_why_223 ?_
                      refine v_bipush X dL_why_224 (v := (6 : Int32)) (by decide) ?_
                      refine v_iadd X dL_why_226 ?_
                      refine v_goto X dL_why_227 (tgt := 231) (by decide) ?_
                      have hrc : rsC σ C P = 6 := by rw [rsC, if_neg hC0, if_neg (fun z => z.1 k0), if_neg (fun z => k1 z.2), hcl, if_neg (by rw [← hyy, c215]; decide)]
                      have hr9 : rsC σ C P = 6 := by exact hrc
                      exact v_iret X rfl dL_why_231 (by rw [hr9, nTold, if_neg (by decide), if_neg (by decide), if_neg (by decide), if_pos rfl, hfl]; rfl) (rfl)
                · skip
                  have k1 := lt0_6 c187
                  refine v_bipush X dL_why_190 (v := (50 : Int32)) (by decide) ?_
                  have hrc : rsC σ C P = 5 := by rw [rsC, if_neg hC0, if_neg (fun z => z.1 k0), if_pos ⟨k0, k1⟩]
                  have hr9 : rsC σ C P = 5 := by exact hrc
                  exact v_iret X rfl dL_why_192 (by rw [hr9]; rfl) (rfl)
            · skip
              have k0 := ge0_k c162
              refine v_iload X dL_why_165 rfl ?_
              refine v_if_lt X dL_why_167 (tgt := 180) (by decide) (fun c167 => ?_) (fun c167 => ?_)
              · skip
                have k1 := lt0_6 c167
                refine v_iload X dL_why_180 rfl ?_
                refine v_if_ge X dL_why_182 (tgt := 193) (by decide) (fun c182 => ?_) (fun c182 => ?_)
                · skip
                  refine v_iload X dL_why_193 rfl ?_
                  refine v_if_ge X dL_why_195 (tgt := 203) (by decide) (fun c195 => ?_) (fun c195 => ?_)
                  · skip
                    refine v_iload X dL_why_203 rfl ?_
                    refine v_istore X dL_why_205 (Nat.le_of_ble_eq_true rfl) rfl ?_
                    obtain ⟨k9, h9, e9⟩ := onS_nI k0
                    have hfl : flyN σ P = onS σ P 0 := by rw [flyN, if_neg k0]
                    have hcl : (flyN σ P).toNatClampNeg = k9 := by rw [hfl, e9]; exact nI_clamp (by omega)
                    have hyy : h (3 * k9 + 1) = σ (13 + 4 * k9) := (hA.2.1 k9 h9).2.1
                    refine v_aload_n X dL_why_207 (i := 2) rfl rfl ?_
                    refine v_iconst X dL_why_208 (v := (3 : Int32)) (by decide) ?_
                    refine v_iload X dL_why_209 rfl ?_
                    refine v_imul X dL_why_211 ?_
                    refine v_iconst X dL_why_212 (v := (1 : Int32)) (by decide) ?_
                    refine v_iadd X dL_why_213 ?_
                    refine v_ialdB X hB dL_why_214 1 (Nat.le_of_ble_eq_true rfl) rfl ((3 * k9) + 1) (ix_add (ix_mul rfl e9) rfl) (by omega) (Nat.le_of_ble_eq_true rfl) ?_
                    refine v_if_ne X dL_why_215 (tgt := 230) (by decide) (fun c215 => ?_) (fun c215 => ?_)
                    · skip
                      refine v_iconst X dL_why_230 (v := (0 : Int32)) (by decide) ?_
                      have hrc : rsC σ C P = 0 := by rw [rsC, if_neg hC0, if_neg (fun z => z.2 k1), if_neg (fun z => k0 z.1), hcl, if_pos (yn0 (hY k9 h9) (fun z => c215 (hyy.trans z)))]
                      have hr9 : rsC σ C P = 0 := by exact hrc
                      exact v_iret X rfl dL_why_231 (by rw [hr9]; rfl) (rfl)
                    · skip
                      refine v_sipush X dL_why_218 (v := (600 : Int32)) (by decide) ?_
                      refine v_iload X dL_why_221 rfl ?_
                      refine v_iadd X dL_why_223 ?_
                      refine v_bipush X dL_why_224 (v := (6 : Int32)) (by decide) ?_
                      refine v_iadd X dL_why_226 ?_
                      refine v_goto X dL_why_227 (tgt := 231) (by decide) ?_
                      have hrc : rsC σ C P = 6 := by rw [rsC, if_neg hC0, if_neg (fun z => z.2 k1), if_neg (fun z => k0 z.1), hcl, if_neg (by rw [← hyy, c215]; decide)]
                      have hr9 : rsC σ C P = 6 := by exact hrc
                      exact v_iret X rfl dL_why_231 (by rw [hr9, nTold, if_neg (by decide), if_neg (by decide), if_neg (by decide), if_pos rfl, hfl]; rfl) (rfl)
                  · skip
                    exact absurd (lt0_6 c195) k0
                · skip
                  exact absurd (lt0_6 c182) k0
              · skip
                have k1 := ge0_k c167
                refine v_sipush X dL_why_170 (v := (400 : Int32)) (by decide) ?_
                refine v_iload X dL_why_173 rfl ?_
                refine v_iadd X dL_why_175 ?_
                refine v_bipush X dL_why_176 (v := (6 : Int32)) (by decide) ?_
                refine v_iadd X dL_why_178 ?_
                have hrc : rsC σ C P = 4 := by rw [rsC, if_neg hC0, if_pos ⟨k0, k1⟩]
                have hr9 : rsC σ C P = 4 := by exact hrc
                exact v_iret X rfl dL_why_179 (by rw [hr9, nTold, if_neg (by decide), if_neg (by decide), if_pos rfl]; rfl) (rfl)
          · skip
            exact absurd c112 (by decide)
        · skip
          exact absurd c82 (by decide)
      · skip
        exact absurd c20 (by decide)
  · skip
    have hC0 : C = 0 := by
      rcases Nat.eq_zero_or_pos C with z | z
      · exact z
      · rw [hA.1 0 (by omega), g9.1] at c3; exact absurd c3 (nI_ne0 z (by have := g9.2.2.2; omega))
    refine v_bipush X dL_why_6 (v := (10 : Int32)) (by decide) ?_
    have hr9 : rsC σ C P = 1 := by rw [rsC, if_pos hC0]
    exact v_iret X rfl dL_why_8 (by rw [hr9]; rfl) (rfl)
