/-! the model class: a new row -/
def sR (μ : Nat → Int32) (j : Nat) : Nat → Int32 := fun x => if 104 + (j + 8) < x ∧ x < 284 then μ (x - 9) else μ x
theorem sR_top {μ : Nat → Int32} : sR μ 171 = μ := by
  funext x
  rw [sR, if_neg (by omega)]
theorem sR_1 {μ : Nat → Int32} {j i : Nat} (h : j = i + 1) (hj : j ≤ 171) : upd (sR μ j) (104 + (j + 8)) (sR μ j (104 + (j + 8) - 9)) = sR μ i := by
  subst h
  funext x
  by_cases e : x = 104 + (i + 1 + 8)
  · subst e
    rw [pk_us, sR, sR, if_neg (by omega), if_pos (by omega)]
  · rw [pk_un e, sR, sR]
    have : (104 + (i + 1 + 8) < x ∧ x < 284) ↔ (104 + (i + 8) < x ∧ x < 284) := by omega
    simp only [this]
def a1 (μ : Nat → Int32) (k : Nat) : Nat → Int32 := upd (sR μ 0) 104 (sR μ 0 (12 + 4 * k))
def a2 (μ : Nat → Int32) (P k : Nat) : Nat → Int32 := upd (a1 μ k) 105 (thS (a1 μ k) (a1 μ k (56 + 3 * P)) 12)
def a3 (μ : Nat → Int32) (P k : Nat) : Nat → Int32 := upd (a2 μ P k) 106 (a2 μ P k 1)
def a4 (μ : Nat → Int32) (P k : Nat) : Nat → Int32 := upd (a3 μ P k) 107 (a3 μ P k 3)
def a5 (μ : Nat → Int32) (P k : Nat) : Nat → Int32 := upd (a4 μ P k) 108 (a4 μ P k 4)
def a6 (μ : Nat → Int32) (P k : Nat) : Nat → Int32 := upd (a5 μ P k) 109 (a5 μ P k 5)
def a7 (μ : Nat → Int32) (P k : Nat) : Nat → Int32 := upd (a6 μ P k) 110 (nI k)
def a8 (μ : Nat → Int32) (P k : Nat) : Nat → Int32 := upd (a7 μ P k) 111 (a7 μ P k (14 + 4 * k))
def a9 (μ : Nat → Int32) (P k : Nat) : Nat → Int32 := upd (a8 μ P k) 112 (a8 μ P k (15 + 4 * k))
def a10 (μ : Nat → Int32) (P k : Nat) : Nat → Int32 := upd (a9 μ P k) 7 (a9 μ P k 7 + (if a9 μ P k 7 < 20 then 1 else 0))
def a11 (μ : Nat → Int32) (P k : Nat) : Nat → Int32 := upd (a10 μ P k) 8 (a10 μ P k 8 + (if a10 μ P k 8 < 20 then 1 else 0))
/-- the state with the row of the next pick -/
def adM (μ : Nat → Int32) (P k : Nat) : Nat → Int32 := upd (a11 μ P k) 6 (a11 μ P k 6 + 1)
theorem a1_o {μ : Nat → Int32} {k i : Nat} (h : i < 104) : a1 μ k i = μ i := by
  rw [a1, pk_un (by omega), sR, if_neg (by omega)]
set_option maxRecDepth 100000 in
set_option maxHeartbeats 4000000 in
theorem c_X8_addsRow (l : Launch) (g : Ge) (N o : Nat) (μ kp hs tx ι : Nat → Int32) (C P k : Nat) (hC : μ 0 = nI C) (hP : μ 1 = nI P) (hPC : P < C) (hC16 : C ≤ 16) (hk : k < 5) (h3 : ι 3 = nI k) : Cb l g yX8_addsRow (.code yX8_addsRow cX8_addsRow 2 none) 2 [.ref o] N o (mdL g o μ kp hs tx ι) none (mdL g o (adM μ P k) kp hs tx ι) := by
  intro f hB0
  have hB : BB g N o 5 := hB0
  refine ct_of (own := RX8) [some (.ref o), none] (by decide +kernel) rfl rfl (Nat.le_of_ble_eq_true rfl) ?_
  intro vp ve vs vm va vb vt vc hnm X
  refine v_sipush X dX8_addsRow_0 (v := (179 : Int32)) (by decide) ?_
  refine v_istore_n X dX8_addsRow_3 (i := 1) rfl (Nat.le_of_ble_eq_true rfl) rfl ?_
  have LP4 : ∀ (n_ : Nat) (j : Nat), (j ≤ 171) → j < n_ → Vm vp l ve vs vm va vb vt vc g 2 2 N none (ovr f o (mdL g o (adM μ P k) kp hs tx ι)) (ovr f o (mdL g o (sR μ j) kp hs tx ι)) 4 [some (.ref o), some (.int (nI (j + 8)))] [] := by
    intro n_
    induction n_ with
    | zero => intro j hj hm_; exact absurd hm_ (Nat.not_lt_zero _)
    | succ n_ ih4 =>
      intro j hj hm4
      refine v_iload_n X dX8_addsRow_4 (i := 1) rfl rfl ?_
      refine v_bipush X dX8_addsRow_5 (v := (9 : Int32)) (by decide) ?_
      refine v_icmp_lt X dX8_addsRow_7 (tgt := 37) (by decide) (fun c7 => ?_) (fun c7 => ?_)
      · skip
        have hj0 : j = 0 := by
          have := lt_of_nI (b := 9) (by omega) (by omega) c7
          omega
        subst hj0
        refine v_aload_n X dX8_addsRow_37 (i := 0) rfl rfl ?_
        refine v_getB X hB cf8 7 (Nat.le_of_ble_eq_true rfl) m_fl_X8_57 dX8_addsRow_38 0 (Nat.le_of_ble_eq_true rfl) rfl rfl ?_
        refine v_istore_n X dX8_addsRow_41 (i := 1) rfl (Nat.le_of_ble_eq_true rfl) rfl ?_
        refine v_aload_n X dX8_addsRow_42 (i := 0) rfl rfl ?_
        refine v_getB X hB cf8 0 (Nat.le_of_ble_eq_true rfl) m_fl_X8_7 dX8_addsRow_43 0 (Nat.le_of_ble_eq_true rfl) rfl rfl ?_
        refine v_bipush X dX8_addsRow_46 (v := (104 : Int32)) (by decide) ?_
        refine v_aload_n X dX8_addsRow_48 (i := 0) rfl rfl ?_
        refine v_iload_n X dX8_addsRow_49 (i := 1) rfl rfl ?_
        refine v_iconst X dX8_addsRow_50 (v := (0 : Int32)) (by decide) ?_
        refine v_cvB X rfl yv_X8_shuttlePart m_ml_X8_44 0 0 (c_X8_shuttlePart l g N o (ι 3) k h3 (0 : Int32) 0 rfl (sR μ 0) kp hs tx ι hk (by omega)) hB (Nat.le_of_ble_eq_true rfl) rfl (Nat.le_of_ble_eq_true rfl) rfl (L' := (mdL g o (sR μ 0) kp hs tx ι)) (rfl) rfl (Nat.le_of_ble_eq_true rfl) rfl rfl (Nat.le_of_ble_eq_true rfl) ⟨Nat.le_of_ble_eq_true rfl, Nat.le_of_ble_eq_true rfl⟩ ⟨Nat.le_of_ble_eq_true rfl, Nat.le_of_ble_eq_true rfl⟩ dX8_addsRow_51 rfl ?_
        refine v_iastB X hB dX8_addsRow_54 1 (Nat.le_of_ble_eq_true rfl) rfl 104 rfl (by omega) (Nat.le_of_ble_eq_true rfl) (L' := (mdL g o (upd (sR μ 0) 104 ((sR μ 0) (12 + 4 * k))) kp hs tx ι)) rfl ?_
        refine v_aload_n X dX8_addsRow_55 (i := 0) rfl rfl ?_
        refine v_getB X hB cf8 0 (Nat.le_of_ble_eq_true rfl) m_fl_X8_7 dX8_addsRow_56 0 (Nat.le_of_ble_eq_true rfl) rfl rfl ?_
        refine v_bipush X dX8_addsRow_59 (v := (105 : Int32)) (by decide) ?_
        refine v_aload_n X dX8_addsRow_61 (i := 0) rfl rfl ?_
        refine v_aload_n X dX8_addsRow_62 (i := 0) rfl rfl ?_
        refine v_aload_n X dX8_addsRow_63 (i := 0) rfl rfl ?_
        refine v_getB X hB cf8 0 (Nat.le_of_ble_eq_true rfl) m_fl_X8_7 dX8_addsRow_64 0 (Nat.le_of_ble_eq_true rfl) rfl rfl ?_
        refine v_iconst X dX8_addsRow_67 (v := (1 : Int32)) (by decide) ?_
        refine v_ialdB X hB dX8_addsRow_68 1 (Nat.le_of_ble_eq_true rfl) rfl 1 rfl (by omega) (Nat.le_of_ble_eq_true rfl) ?_
        refine v_iconst X dX8_addsRow_69 (v := (0 : Int32)) (by decide) ?_
        refine v_cvB X rfl yv_X8_cardPart m_ml_X8_51 0 0 (c_X8_cardPart l g N o ((a1 μ k) 1) P ((a1_o (by omega)).trans hP) (0 : Int32) 0 rfl (a1 μ k) kp hs tx ι (by omega) (by omega)) hB (Nat.le_of_ble_eq_true rfl) rfl (Nat.le_of_ble_eq_true rfl) rfl (L' := (mdL g o (a1 μ k) kp hs tx ι)) (rfl) rfl (Nat.le_of_ble_eq_true rfl) rfl rfl (Nat.le_of_ble_eq_true rfl) ⟨Nat.le_of_ble_eq_true rfl, Nat.le_of_ble_eq_true rfl⟩ ⟨Nat.le_of_ble_eq_true rfl, Nat.le_of_ble_eq_true rfl⟩ dX8_addsRow_70 rfl ?_
        refine v_cvB X rfl yv_X8_threadsOf m_ml_X8_75 0 0 (c_X8_threadsOf l g N o (a1 μ k) kp hs tx ι ((a1 μ k) (56 + 3 * P)) ) hB (Nat.le_of_ble_eq_true rfl) rfl (Nat.le_of_ble_eq_true rfl) rfl (L' := (mdL g o (a1 μ k) kp hs tx ι)) (rfl) rfl (Nat.le_of_ble_eq_true rfl) rfl rfl (Nat.le_of_ble_eq_true rfl) ⟨Nat.le_of_ble_eq_true rfl, Nat.le_of_ble_eq_true rfl⟩ ⟨Nat.le_of_ble_eq_true rfl, Nat.le_of_ble_eq_true rfl⟩ dX8_addsRow_73 rfl ?_
        refine v_iastB X hB dX8_addsRow_76 1 (Nat.le_of_ble_eq_true rfl) rfl 105 rfl (by omega) (Nat.le_of_ble_eq_true rfl) (L' := (mdL g o (upd (a1 μ k) 105 (thS (a1 μ k) ((a1 μ k) (56 + 3 * P)) 12)) kp hs tx ι)) rfl ?_
        refine v_aload_n X dX8_addsRow_77 (i := 0) rfl rfl ?_
        refine v_getB X hB cf8 0 (Nat.le_of_ble_eq_true rfl) m_fl_X8_7 dX8_addsRow_78 0 (Nat.le_of_ble_eq_true rfl) rfl rfl ?_
        refine v_bipush X dX8_addsRow_81 (v := (106 : Int32)) (by decide) ?_
        refine v_aload_n X dX8_addsRow_83 (i := 0) rfl rfl ?_
        refine v_getB X hB cf8 0 (Nat.le_of_ble_eq_true rfl) m_fl_X8_7 dX8_addsRow_84 0 (Nat.le_of_ble_eq_true rfl) rfl rfl ?_
        refine v_iconst X dX8_addsRow_87 (v := (1 : Int32)) (by decide) ?_
        refine v_ialdB X hB dX8_addsRow_88 1 (Nat.le_of_ble_eq_true rfl) rfl 1 rfl (by omega) (Nat.le_of_ble_eq_true rfl) ?_
        refine v_iastB X hB dX8_addsRow_89 1 (Nat.le_of_ble_eq_true rfl) rfl 106 rfl (by omega) (Nat.le_of_ble_eq_true rfl) (L' := (mdL g o (upd (a2 μ P k) 106 ((a2 μ P k) 1)) kp hs tx ι)) rfl ?_
        refine v_aload_n X dX8_addsRow_90 (i := 0) rfl rfl ?_
        refine v_getB X hB cf8 0 (Nat.le_of_ble_eq_true rfl) m_fl_X8_7 dX8_addsRow_91 0 (Nat.le_of_ble_eq_true rfl) rfl rfl ?_
        refine v_bipush X dX8_addsRow_94 (v := (107 : Int32)) (by decide) ?_
        refine v_aload_n X dX8_addsRow_96 (i := 0) rfl rfl ?_
        refine v_getB X hB cf8 0 (Nat.le_of_ble_eq_true rfl) m_fl_X8_7 dX8_addsRow_97 0 (Nat.le_of_ble_eq_true rfl) rfl rfl ?_
        refine v_iconst X dX8_addsRow_100 (v := (3 : Int32)) (by decide) ?_
        refine v_ialdB X hB dX8_addsRow_101 1 (Nat.le_of_ble_eq_true rfl) rfl 3 rfl (by omega) (Nat.le_of_ble_eq_true rfl) ?_
        refine v_iastB X hB dX8_addsRow_102 1 (Nat.le_of_ble_eq_true rfl) rfl 107 rfl (by omega) (Nat.le_of_ble_eq_true rfl) (L' := (mdL g o (upd (a3 μ P k) 107 ((a3 μ P k) 3)) kp hs tx ι)) rfl ?_
        refine v_aload_n X dX8_addsRow_103 (i := 0) rfl rfl ?_
        refine v_getB X hB cf8 0 (Nat.le_of_ble_eq_true rfl) m_fl_X8_7 dX8_addsRow_104 0 (Nat.le_of_ble_eq_true rfl) rfl rfl ?_
        refine v_bipush X dX8_addsRow_107 (v := (108 : Int32)) (by decide) ?_
        refine v_aload_n X dX8_addsRow_109 (i := 0) rfl rfl ?_
        refine v_getB X hB cf8 0 (Nat.le_of_ble_eq_true rfl) m_fl_X8_7 dX8_addsRow_110 0 (Nat.le_of_ble_eq_true rfl) rfl rfl ?_
        refine v_iconst X dX8_addsRow_113 (v := (4 : Int32)) (by decide) ?_
        refine v_ialdB X hB dX8_addsRow_114 1 (Nat.le_of_ble_eq_true rfl) rfl 4 rfl (by omega) (Nat.le_of_ble_eq_true rfl) ?_
        refine v_iastB X hB dX8_addsRow_115 1 (Nat.le_of_ble_eq_true rfl) rfl 108 rfl (by omega) (Nat.le_of_ble_eq_true rfl) (L' := (mdL g o (upd (a4 μ P k) 108 ((a4 μ P k) 4)) kp hs tx ι)) rfl ?_
        refine v_aload_n X dX8_addsRow_116 (i := 0) rfl rfl ?_
        refine v_getB X hB cf8 0 (Nat.le_of_ble_eq_true rfl) m_fl_X8_7 dX8_addsRow_117 0 (Nat.le_of_ble_eq_true rfl) rfl rfl ?_
        refine v_bipush X dX8_addsRow_120 (v := (109 : Int32)) (by decide) ?_
        refine v_aload_n X dX8_addsRow_122 (i := 0) rfl rfl ?_
        refine v_getB X hB cf8 0 (Nat.le_of_ble_eq_true rfl) m_fl_X8_7 dX8_addsRow_123 0 (Nat.le_of_ble_eq_true rfl) rfl rfl ?_
        refine v_iconst X dX8_addsRow_126 (v := (5 : Int32)) (by decide) ?_
        refine v_ialdB X hB dX8_addsRow_127 1 (Nat.le_of_ble_eq_true rfl) rfl 5 rfl (by omega) (Nat.le_of_ble_eq_true rfl) ?_
        refine v_iastB X hB dX8_addsRow_128 1 (Nat.le_of_ble_eq_true rfl) rfl 109 rfl (by omega) (Nat.le_of_ble_eq_true rfl) (L' := (mdL g o (upd (a5 μ P k) 109 ((a5 μ P k) 5)) kp hs tx ι)) rfl ?_
        refine v_aload_n X dX8_addsRow_129 (i := 0) rfl rfl ?_
        refine v_getB X hB cf8 0 (Nat.le_of_ble_eq_true rfl) m_fl_X8_7 dX8_addsRow_130 0 (Nat.le_of_ble_eq_true rfl) rfl rfl ?_
        refine v_bipush X dX8_addsRow_133 (v := (110 : Int32)) (by decide) ?_
        refine v_iload_n X dX8_addsRow_135 (i := 1) rfl rfl ?_
        refine v_iastB X hB dX8_addsRow_136 1 (Nat.le_of_ble_eq_true rfl) rfl 110 rfl (by omega) (Nat.le_of_ble_eq_true rfl) (L' := (mdL g o (upd (a6 μ P k) 110 (ι 3)) kp hs tx ι)) rfl ?_
        refine V.cast (f' := ovr f o (mdL g o (a7 μ P k) kp hs tx ι)) ?_ rfl rfl (congrArg (fun z => ovr f o (mdL g o z kp hs tx ι)) (by rw [a7, h3]))
        refine v_aload_n X dX8_addsRow_137 (i := 0) rfl rfl ?_
        refine v_getB X hB cf8 0 (Nat.le_of_ble_eq_true rfl) m_fl_X8_7 dX8_addsRow_138 0 (Nat.le_of_ble_eq_true rfl) rfl rfl ?_
        refine v_bipush X dX8_addsRow_141 (v := (111 : Int32)) (by decide) ?_
        refine v_aload_n X dX8_addsRow_143 (i := 0) rfl rfl ?_
        refine v_iload_n X dX8_addsRow_144 (i := 1) rfl rfl ?_
        refine v_iconst X dX8_addsRow_145 (v := (2 : Int32)) (by decide) ?_
        refine v_cvB X rfl yv_X8_shuttlePart m_ml_X8_44 0 0 (c_X8_shuttlePart l g N o (ι 3) k h3 (2 : Int32) 2 rfl (a7 μ P k) kp hs tx ι hk (by omega)) hB (Nat.le_of_ble_eq_true rfl) rfl (Nat.le_of_ble_eq_true rfl) rfl (L' := (mdL g o (a7 μ P k) kp hs tx ι)) (rfl) rfl (Nat.le_of_ble_eq_true rfl) rfl rfl (Nat.le_of_ble_eq_true rfl) ⟨Nat.le_of_ble_eq_true rfl, Nat.le_of_ble_eq_true rfl⟩ ⟨Nat.le_of_ble_eq_true rfl, Nat.le_of_ble_eq_true rfl⟩ dX8_addsRow_146 rfl ?_
        refine v_iastB X hB dX8_addsRow_149 1 (Nat.le_of_ble_eq_true rfl) rfl 111 rfl (by omega) (Nat.le_of_ble_eq_true rfl) (L' := (mdL g o (upd (a7 μ P k) 111 ((a7 μ P k) (14 + 4 * k))) kp hs tx ι)) rfl ?_
        refine v_aload_n X dX8_addsRow_150 (i := 0) rfl rfl ?_
        refine v_getB X hB cf8 0 (Nat.le_of_ble_eq_true rfl) m_fl_X8_7 dX8_addsRow_151 0 (Nat.le_of_ble_eq_true rfl) rfl rfl ?_
        refine v_bipush X dX8_addsRow_154 (v := (112 : Int32)) (by decide) ?_
        refine v_aload_n X dX8_addsRow_156 (i := 0) rfl rfl ?_
        refine v_iload_n X dX8_addsRow_157 (i := 1) rfl rfl ?_
        refine v_iconst X dX8_addsRow_158 (v := (3 : Int32)) (by decide) ?_
        refine v_cvB X rfl yv_X8_shuttlePart m_ml_X8_44 0 0 (c_X8_shuttlePart l g N o (ι 3) k h3 (3 : Int32) 3 rfl (a8 μ P k) kp hs tx ι hk (by omega)) hB (Nat.le_of_ble_eq_true rfl) rfl (Nat.le_of_ble_eq_true rfl) rfl (L' := (mdL g o (a8 μ P k) kp hs tx ι)) (rfl) rfl (Nat.le_of_ble_eq_true rfl) rfl rfl (Nat.le_of_ble_eq_true rfl) ⟨Nat.le_of_ble_eq_true rfl, Nat.le_of_ble_eq_true rfl⟩ ⟨Nat.le_of_ble_eq_true rfl, Nat.le_of_ble_eq_true rfl⟩ dX8_addsRow_159 rfl ?_
        refine v_iastB X hB dX8_addsRow_162 1 (Nat.le_of_ble_eq_true rfl) rfl 112 rfl (by omega) (Nat.le_of_ble_eq_true rfl) (L' := (mdL g o (upd (a8 μ P k) 112 ((a8 μ P k) (15 + 4 * k))) kp hs tx ι)) rfl ?_
        refine v_aload_n X dX8_addsRow_163 (i := 0) rfl rfl ?_
        refine v_getB X hB cf8 0 (Nat.le_of_ble_eq_true rfl) m_fl_X8_7 dX8_addsRow_164 0 (Nat.le_of_ble_eq_true rfl) rfl rfl ?_
        refine v_bipush X dX8_addsRow_167 (v := (7 : Int32)) (by decide) ?_
        refine v_dup2 X dX8_addsRow_169 rfl rfl ?_
        refine v_ialdB X hB dX8_addsRow_170 1 (Nat.le_of_ble_eq_true rfl) rfl 7 rfl (by omega) (Nat.le_of_ble_eq_true rfl) ?_
        refine v_aload_n X dX8_addsRow_171 (i := 0) rfl rfl ?_
        refine v_getB X hB cf8 0 (Nat.le_of_ble_eq_true rfl) m_fl_X8_7 dX8_addsRow_172 0 (Nat.le_of_ble_eq_true rfl) rfl rfl ?_
        refine v_bipush X dX8_addsRow_175 (v := (7 : Int32)) (by decide) ?_
        refine v_ialdB X hB dX8_addsRow_177 1 (Nat.le_of_ble_eq_true rfl) rfl 7 rfl (by omega) (Nat.le_of_ble_eq_true rfl) ?_
        refine v_bipush X dX8_addsRow_178 (v := (20 : Int32)) (by decide) ?_
        refine v_icmp_ge X dX8_addsRow_180 (tgt := 187) (by decide) (fun c180 => ?_) (fun c180 => ?_)
        · skip
          refine v_iconst X dX8_addsRow_187 (v := (0 : Int32)) (by decide) ?_
          refine v_iadd X dX8_addsRow_188 ?_
          refine v_iastB X hB dX8_addsRow_189 1 (Nat.le_of_ble_eq_true rfl) rfl 7 rfl (by omega) (Nat.le_of_ble_eq_true rfl) (L' := (mdL g o (upd (a9 μ P k) 7 (((a9 μ P k) 7) + (0 : Int32))) kp hs tx ι)) rfl ?_
          refine V.cast (f' := ovr f o (mdL g o (a10 μ P k) kp hs tx ι)) ?_ rfl rfl (congrArg (fun z => ovr f o (mdL g o z kp hs tx ι)) (by rw [a10, if_neg (show ¬ a9 μ P k 7 < 20 from Int32.not_lt.mpr c180)]))
          refine v_aload_n X dX8_addsRow_190 (i := 0) rfl rfl ?_
          refine v_getB X hB cf8 0 (Nat.le_of_ble_eq_true rfl) m_fl_X8_7 dX8_addsRow_191 0 (Nat.le_of_ble_eq_true rfl) rfl rfl ?_
          refine v_bipush X dX8_addsRow_194 (v := (8 : Int32)) (by decide) ?_
          refine v_dup2 X dX8_addsRow_196 rfl rfl ?_
          refine v_ialdB X hB dX8_addsRow_197 1 (Nat.le_of_ble_eq_true rfl) rfl 8 rfl (by omega) (Nat.le_of_ble_eq_true rfl) ?_
          refine v_aload_n X dX8_addsRow_198 (i := 0) rfl rfl ?_
          refine v_getB X hB cf8 0 (Nat.le_of_ble_eq_true rfl) m_fl_X8_7 dX8_addsRow_199 0 (Nat.le_of_ble_eq_true rfl) rfl rfl ?_
          refine v_bipush X dX8_addsRow_202 (v := (8 : Int32)) (by decide) ?_
          refine v_ialdB X hB dX8_addsRow_204 1 (Nat.le_of_ble_eq_true rfl) rfl 8 rfl (by omega) (Nat.le_of_ble_eq_true rfl) ?_
          refine v_bipush X dX8_addsRow_205 (v := (20 : Int32)) (by decide) ?_
          refine v_icmp_ge X dX8_addsRow_207 (tgt := 214) (by decide) (fun c207 => ?_) (fun c207 => ?_)
          · skip
            refine v_iconst X dX8_addsRow_214 (v := (0 : Int32)) (by decide) ?_
            refine v_iadd X dX8_addsRow_215 ?_
            refine v_iastB X hB dX8_addsRow_216 1 (Nat.le_of_ble_eq_true rfl) rfl 8 rfl (by omega) (Nat.le_of_ble_eq_true rfl) (L' := (mdL g o (upd (a10 μ P k) 8 (((a10 μ P k) 8) + (0 : Int32))) kp hs tx ι)) rfl ?_
            refine V.cast (f' := ovr f o (mdL g o (a11 μ P k) kp hs tx ι)) ?_ rfl rfl (congrArg (fun z => ovr f o (mdL g o z kp hs tx ι)) (by rw [a11, if_neg (show ¬ a10 μ P k 8 < 20 from Int32.not_lt.mpr c207)]))
            refine v_aload_n X dX8_addsRow_217 (i := 0) rfl rfl ?_
            refine v_getB X hB cf8 0 (Nat.le_of_ble_eq_true rfl) m_fl_X8_7 dX8_addsRow_218 0 (Nat.le_of_ble_eq_true rfl) rfl rfl ?_
            refine v_bipush X dX8_addsRow_221 (v := (6 : Int32)) (by decide) ?_
            refine v_dup2 X dX8_addsRow_223 rfl rfl ?_
            refine v_ialdB X hB dX8_addsRow_224 1 (Nat.le_of_ble_eq_true rfl) rfl 6 rfl (by omega) (Nat.le_of_ble_eq_true rfl) ?_
            refine v_iconst X dX8_addsRow_225 (v := (1 : Int32)) (by decide) ?_
            refine v_iadd X dX8_addsRow_226 ?_
            refine v_iastB X hB dX8_addsRow_227 1 (Nat.le_of_ble_eq_true rfl) rfl 6 rfl (by omega) (Nat.le_of_ble_eq_true rfl) (L' := (mdL g o (upd (a11 μ P k) 6 (((a11 μ P k) 6) + (1 : Int32))) kp hs tx ι)) rfl ?_
            exact v_vret X rfl dX8_addsRow_228 (rfl) (rfl)
          · skip
            refine v_iconst X dX8_addsRow_210 (v := (1 : Int32)) (by decide) ?_
            refine v_goto X dX8_addsRow_211 (tgt := 215) (by decide) ?_
            refine v_iadd X dX8_addsRow_215 ?_
            refine v_iastB X hB dX8_addsRow_216 1 (Nat.le_of_ble_eq_true rfl) rfl 8 rfl (by omega) (Nat.le_of_ble_eq_true rfl) (L' := (mdL g o (upd (a10 μ P k) 8 (((a10 μ P k) 8) + (1 : Int32))) kp hs tx ι)) rfl ?_
            refine V.cast (f' := ovr f o (mdL g o (a11 μ P k) kp hs tx ι)) ?_ rfl rfl (congrArg (fun z => ovr f o (mdL g o z kp hs tx ι)) (by rw [a11, if_pos (show a10 μ P k 8 < 20 from c207)]))
            refine v_aload_n X dX8_addsRow_217 (i := 0) rfl rfl ?_
            refine v_getB X hB cf8 0 (Nat.le_of_ble_eq_true rfl) m_fl_X8_7 dX8_addsRow_218 0 (Nat.le_of_ble_eq_true rfl) rfl rfl ?_
            refine v_bipush X dX8_addsRow_221 (v := (6 : Int32)) (by decide) ?_
            refine v_dup2 X dX8_addsRow_223 rfl rfl ?_
            refine v_ialdB X hB dX8_addsRow_224 1 (Nat.le_of_ble_eq_true rfl) rfl 6 rfl (by omega) (Nat.le_of_ble_eq_true rfl) ?_
            refine v_iconst X dX8_addsRow_225 (v := (1 : Int32)) (by decide) ?_
            refine v_iadd X dX8_addsRow_226 ?_
            refine v_iastB X hB dX8_addsRow_227 1 (Nat.le_of_ble_eq_true rfl) rfl 6 rfl (by omega) (Nat.le_of_ble_eq_true rfl) (L' := (mdL g o (upd (a11 μ P k) 6 (((a11 μ P k) 6) + (1 : Int32))) kp hs tx ι)) rfl ?_
            exact v_vret X rfl dX8_addsRow_228 (rfl) (rfl)
        · skip
          refine v_iconst X dX8_addsRow_183 (v := (1 : Int32)) (by decide) ?_
          refine v_goto X dX8_addsRow_184 (tgt := 188) (by decide) ?_
          refine v_iadd X dX8_addsRow_188 ?_
          refine v_iastB X hB dX8_addsRow_189 1 (Nat.le_of_ble_eq_true rfl) rfl 7 rfl (by omega) (Nat.le_of_ble_eq_true rfl) (L' := (mdL g o (upd (a9 μ P k) 7 (((a9 μ P k) 7) + (1 : Int32))) kp hs tx ι)) rfl ?_
          refine V.cast (f' := ovr f o (mdL g o (a10 μ P k) kp hs tx ι)) ?_ rfl rfl (congrArg (fun z => ovr f o (mdL g o z kp hs tx ι)) (by rw [a10, if_pos (show a9 μ P k 7 < 20 from c180)]))
          refine v_aload_n X dX8_addsRow_190 (i := 0) rfl rfl ?_
          refine v_getB X hB cf8 0 (Nat.le_of_ble_eq_true rfl) m_fl_X8_7 dX8_addsRow_191 0 (Nat.le_of_ble_eq_true rfl) rfl rfl ?_
          refine v_bipush X dX8_addsRow_194 (v := (8 : Int32)) (by decide) ?_
          refine v_dup2 X dX8_addsRow_196 rfl rfl ?_
          refine v_ialdB X hB dX8_addsRow_197 1 (Nat.le_of_ble_eq_true rfl) rfl 8 rfl (by omega) (Nat.le_of_ble_eq_true rfl) ?_
          refine v_aload_n X dX8_addsRow_198 (i := 0) rfl rfl ?_
          refine v_getB X hB cf8 0 (Nat.le_of_ble_eq_true rfl) m_fl_X8_7 dX8_addsRow_199 0 (Nat.le_of_ble_eq_true rfl) rfl rfl ?_
          refine v_bipush X dX8_addsRow_202 (v := (8 : Int32)) (by decide) ?_
          refine v_ialdB X hB dX8_addsRow_204 1 (Nat.le_of_ble_eq_true rfl) rfl 8 rfl (by omega) (Nat.le_of_ble_eq_true rfl) ?_
          refine v_bipush X dX8_addsRow_205 (v := (20 : Int32)) (by decide) ?_
          refine v_icmp_ge X dX8_addsRow_207 (tgt := 214) (by decide) (fun c207 => ?_) (fun c207 => ?_)
          · skip
            refine v_iconst X dX8_addsRow_214 (v := (0 : Int32)) (by decide) ?_
            refine v_iadd X dX8_addsRow_215 ?_
            refine v_iastB X hB dX8_addsRow_216 1 (Nat.le_of_ble_eq_true rfl) rfl 8 rfl (by omega) (Nat.le_of_ble_eq_true rfl) (L' := (mdL g o (upd (a10 μ P k) 8 (((a10 μ P k) 8) + (0 : Int32))) kp hs tx ι)) rfl ?_
            refine V.cast (f' := ovr f o (mdL g o (a11 μ P k) kp hs tx ι)) ?_ rfl rfl (congrArg (fun z => ovr f o (mdL g o z kp hs tx ι)) (by rw [a11, if_neg (show ¬ a10 μ P k 8 < 20 from Int32.not_lt.mpr c207)]))
            refine v_aload_n X dX8_addsRow_217 (i := 0) rfl rfl ?_
            refine v_getB X hB cf8 0 (Nat.le_of_ble_eq_true rfl) m_fl_X8_7 dX8_addsRow_218 0 (Nat.le_of_ble_eq_true rfl) rfl rfl ?_
            refine v_bipush X dX8_addsRow_221 (v := (6 : Int32)) (by decide) ?_
            refine v_dup2 X dX8_addsRow_223 rfl rfl ?_
            refine v_ialdB X hB dX8_addsRow_224 1 (Nat.le_of_ble_eq_true rfl) rfl 6 rfl (by omega) (Nat.le_of_ble_eq_true rfl) ?_
            refine v_iconst X dX8_addsRow_225 (v := (1 : Int32)) (by decide) ?_
            refine v_iadd X dX8_addsRow_226 ?_
            refine v_iastB X hB dX8_addsRow_227 1 (Nat.le_of_ble_eq_true rfl) rfl 6 rfl (by omega) (Nat.le_of_ble_eq_true rfl) (L' := (mdL g o (upd (a11 μ P k) 6 (((a11 μ P k) 6) + (1 : Int32))) kp hs tx ι)) rfl ?_
            exact v_vret X rfl dX8_addsRow_228 (rfl) (rfl)
          · skip
            refine v_iconst X dX8_addsRow_210 (v := (1 : Int32)) (by decide) ?_
            refine v_goto X dX8_addsRow_211 (tgt := 215) (by decide) ?_
            refine v_iadd X dX8_addsRow_215 ?_
            refine v_iastB X hB dX8_addsRow_216 1 (Nat.le_of_ble_eq_true rfl) rfl 8 rfl (by omega) (Nat.le_of_ble_eq_true rfl) (L' := (mdL g o (upd (a10 μ P k) 8 (((a10 μ P k) 8) + (1 : Int32))) kp hs tx ι)) rfl ?_
            refine V.cast (f' := ovr f o (mdL g o (a11 μ P k) kp hs tx ι)) ?_ rfl rfl (congrArg (fun z => ovr f o (mdL g o z kp hs tx ι)) (by rw [a11, if_pos (show a10 μ P k 8 < 20 from c207)]))
            refine v_aload_n X dX8_addsRow_217 (i := 0) rfl rfl ?_
            refine v_getB X hB cf8 0 (Nat.le_of_ble_eq_true rfl) m_fl_X8_7 dX8_addsRow_218 0 (Nat.le_of_ble_eq_true rfl) rfl rfl ?_
            refine v_bipush X dX8_addsRow_221 (v := (6 : Int32)) (by decide) ?_
            refine v_dup2 X dX8_addsRow_223 rfl rfl ?_
            refine v_ialdB X hB dX8_addsRow_224 1 (Nat.le_of_ble_eq_true rfl) rfl 6 rfl (by omega) (Nat.le_of_ble_eq_true rfl) ?_
            refine v_iconst X dX8_addsRow_225 (v := (1 : Int32)) (by decide) ?_
            refine v_iadd X dX8_addsRow_226 ?_
            refine v_iastB X hB dX8_addsRow_227 1 (Nat.le_of_ble_eq_true rfl) rfl 6 rfl (by omega) (Nat.le_of_ble_eq_true rfl) (L' := (mdL g o (upd (a11 μ P k) 6 (((a11 μ P k) 6) + (1 : Int32))) kp hs tx ι)) rfl ?_
            exact v_vret X rfl dX8_addsRow_228 (rfl) (rfl)
      · skip
        obtain ⟨i9, hi9⟩ : ∃ i, j = i + 1 := by
          rcases Nat.eq_zero_or_pos j with q | q
          · subst q; exact absurd c7 (by decide)
          · exact ⟨j - 1, by omega⟩
        have hjj : nI (j + 8) + (-1) = nI (i9 + 8) := by rw [hi9, show i9 + 1 + 8 = (i9 + 8) + 1 by omega]; exact pk_m1 _
        refine v_aload_n X dX8_addsRow_10 (i := 0) rfl rfl ?_
        refine v_getB X hB cf8 0 (Nat.le_of_ble_eq_true rfl) m_fl_X8_7 dX8_addsRow_11 0 (Nat.le_of_ble_eq_true rfl) rfl rfl ?_
        refine v_bipush X dX8_addsRow_14 (v := (104 : Int32)) (by decide) ?_
        refine v_iload_n X dX8_addsRow_16 (i := 1) rfl rfl ?_
        refine v_iadd X dX8_addsRow_17 ?_
        refine v_aload_n X dX8_addsRow_18 (i := 0) rfl rfl ?_
        refine v_getB X hB cf8 0 (Nat.le_of_ble_eq_true rfl) m_fl_X8_7 dX8_addsRow_19 0 (Nat.le_of_ble_eq_true rfl) rfl rfl ?_
        refine v_bipush X dX8_addsRow_22 (v := (104 : Int32)) (by decide) ?_
        refine v_iload_n X dX8_addsRow_24 (i := 1) rfl rfl ?_
        refine v_iadd X dX8_addsRow_25 ?_
        refine v_bipush X dX8_addsRow_26 (v := (9 : Int32)) (by decide) ?_
        refine v_isub X dX8_addsRow_28 ?_
        refine v_ialdB X hB dX8_addsRow_29 1 (Nat.le_of_ble_eq_true rfl) rfl (104 + (j + 8) - 9) (by rw [show (104 : Int32) + nI (j + 8) = nI (104 + (j + 8)) from ix_add rfl rfl]; exact pk_sub (b := 9) (by omega)) (by omega) (Nat.le_of_ble_eq_true rfl) ?_
        refine v_iastB X hB dX8_addsRow_30 1 (Nat.le_of_ble_eq_true rfl) rfl (104 + (j + 8)) (ix_add rfl rfl) (by omega) (Nat.le_of_ble_eq_true rfl) (L' := (mdL g o (upd (sR μ j) (104 + (j + 8)) ((sR μ j) (104 + (j + 8) - 9))) kp hs tx ι)) rfl ?_
        refine v_iinc X dX8_addsRow_31 (v := ((nI (j + 8)) + (-1))) rfl rfl (Nat.le_of_ble_eq_true rfl) rfl ?_
        refine v_goto X dX8_addsRow_34 (tgt := 4) (by decide) ?_
        exact V.cast (ih4 i9 (by omega) (by omega)) (by rw [hjj]; rfl) (rfl) (by rw [← sR_1 hi9 hj])
  exact V.cast (LP4 _ 171 (Nat.le_refl _) (Nat.lt_succ_self _)) (rfl) (rfl) (by rw [sR_top])
