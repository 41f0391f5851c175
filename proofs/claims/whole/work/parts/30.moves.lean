/-! the model class: moves -/
theorem bxS_0 {σ : Nat → Int32} {P : Nat} : bxS σ P 0 = σ (57 + 3 * P) := if_pos rfl
theorem bxS_1 {σ : Nat → Int32} {P : Nat} : bxS σ P 1 = σ (58 + 3 * P) := if_neg (by decide)
theorem mm1 {σ : Nat → Int32} {P : Nat} : upd (upd σ 3 (σ (57 + 3 * P))) 4 (upd σ 3 (σ (57 + 3 * P)) (58 + 3 * P)) = mvS1 σ P := by
  rw [mvS1, bxS_0, bxS_1, pk_un (show 58 + 3 * P ≠ 3 by omega)]
theorem wrM {σ : Nat → Int32} {mv : Int32} {k : Nat} : upd (wrK σ mv k) (33 + 2 * k) (wrK σ mv k (33 + 2 * k) - ((mv >>> (wrK σ mv k (32 + 2 * k) &&& 31)) &&& 1)) = wrK σ mv (k + 1) := by
  rcases bit01 (mv >>> (wrK σ mv k (32 + 2 * k) &&& 31)) with q | q
  · rw [q, Int32.sub_zero, ups, wrK_miss (by rw [q]; decide)]
  · rw [q, wrK_hit q]
theorem flM {σ : Nat → Int32} {k z : Nat} (hk : k < 5) {d : Int32} (hd : d = 1 - σ (14 + 4 * k)) (hz2 : z < 2) (hz : d = nI z) (hsd : σ (14 + 4 * k) = 0 ∨ σ (14 + 4 * k) = 1) : upd (upd (upd σ (14 + 4 * k) d) (15 + 4 * k) (upd σ (14 + 4 * k) d (3 + z))) (13 + 4 * k) (upd (upd σ (14 + 4 * k) d) (15 + 4 * k) (upd σ (14 + 4 * k) d (3 + z)) (13 + 4 * k) - 1) = flS σ k (-1) := by
  rw [pk_un (show 13 + 4 * k ≠ 15 + 4 * k by omega), pk_un (show 13 + 4 * k ≠ 14 + 4 * k by omega), pk_un (show 3 + z ≠ 14 + 4 * k by omega), sub1, flS]
  rcases hsd with q | q
  · have hz1 : z = 1 := by
      rw [hd, q] at hz
      have : nI 1 = nI z := hz
      have := (nI_eq (by omega) (by omega)).mp this
      omega
    subst hz1
    rw [if_pos q, show d = 1 by rw [hd, q]; rfl]
  · have hz1 : z = 0 := by
      rw [hd, q] at hz
      have : nI 0 = nI z := hz
      have := (nI_eq (by omega) (by omega)).mp this
      omega
    subst hz1
    rw [if_neg (by rw [q]; decide), show d = 0 by rw [hd, q]; rfl]
set_option maxRecDepth 100000 in
set_option maxHeartbeats 4000000 in
theorem c_X8_moves (l : Launch) (g : Ge) (N o : Nat) (μ kp hs tx ι : Nat → Int32) (C P k : Nat) (hC : μ 0 = nI C) (hP : μ 1 = nI P) (hPC : P < C) (hC16 : C ≤ 16) (hk : k < 5) (h3 : ι 3 = nI k) (hsd : μ (14 + 4 * k) = 0 ∨ μ (14 + 4 * k) = 1) : Cb l g yX8_moves (.code yX8_moves cX8_moves 6 none) 1 [.ref o] N o (mdL g o μ kp hs tx ι) none (mdL g o (mvS μ C P k) kp hs tx ι) := by
  intro f hB0
  have hB : BB g N o 5 := hB0
  obtain ⟨z, hz2, hzz⟩ : ∃ z : Nat, z < 2 ∧ 1 - μ (14 + 4 * k) = nI z := by
    rcases hsd with q | q
    · exact ⟨1, by omega, by rw [q]; rfl⟩
    · exact ⟨0, by omega, by rw [q]; rfl⟩
  refine ct_of (own := RX8) [some (.ref o), none, none, none, none, none] (by decide +kernel) rfl rfl (Nat.le_of_ble_eq_true rfl) ?_
  intro vp ve vs vm va vb vt vc hnm X
  refine v_aload_n X dX8_moves_0 (i := 0) rfl rfl ?_
  refine v_getB X hB cf8 0 (Nat.le_of_ble_eq_true rfl) m_fl_X8_7 dX8_moves_1 0 (Nat.le_of_ble_eq_true rfl) rfl rfl ?_
  refine v_iconst X dX8_moves_4 (v := (1 : Int32)) (by decide) ?_
  refine v_ialdB X hB dX8_moves_5 1 (Nat.le_of_ble_eq_true rfl) rfl 1 rfl (by omega) (Nat.le_of_ble_eq_true rfl) ?_
  refine v_istore_n X dX8_moves_6 (i := 1) rfl (Nat.le_of_ble_eq_true rfl) rfl ?_
  refine v_aload_n X dX8_moves_7 (i := 0) rfl rfl ?_
  refine v_getB X hB cf8 7 (Nat.le_of_ble_eq_true rfl) m_fl_X8_57 dX8_moves_8 0 (Nat.le_of_ble_eq_true rfl) rfl rfl ?_
  refine v_istore_n X dX8_moves_11 (i := 2) rfl (Nat.le_of_ble_eq_true rfl) rfl ?_
  refine v_iconst X dX8_moves_12 (v := (1 : Int32)) (by decide) ?_
  refine v_aload_n X dX8_moves_13 (i := 0) rfl rfl ?_
  refine v_iload_n X dX8_moves_14 (i := 2) rfl rfl ?_
  refine v_iconst X dX8_moves_15 (v := (2 : Int32)) (by decide) ?_
  refine v_cvB X rfl yv_X8_shuttlePart m_ml_X8_44 0 0 (c_X8_shuttlePart l g N o (ι 3) k h3 (2 : Int32) 2 rfl μ kp hs tx ι hk (by omega)) hB (Nat.le_of_ble_eq_true rfl) rfl (Nat.le_of_ble_eq_true rfl) rfl (L' := (mdL g o μ kp hs tx ι)) (rfl) rfl (Nat.le_of_ble_eq_true rfl) rfl rfl (Nat.le_of_ble_eq_true rfl) ⟨Nat.le_of_ble_eq_true rfl, Nat.le_of_ble_eq_true rfl⟩ ⟨Nat.le_of_ble_eq_true rfl, Nat.le_of_ble_eq_true rfl⟩ dX8_moves_16 rfl ?_
  refine v_isub X dX8_moves_19 ?_
  refine v_istore_n X dX8_moves_20 (i := 3) rfl (Nat.le_of_ble_eq_true rfl) rfl ?_
  refine v_aload_n X dX8_moves_21 (i := 0) rfl rfl ?_
  refine v_getB X hB cf8 0 (Nat.le_of_ble_eq_true rfl) m_fl_X8_7 dX8_moves_22 0 (Nat.le_of_ble_eq_true rfl) rfl rfl ?_
  refine v_iconst X dX8_moves_25 (v := (3 : Int32)) (by decide) ?_
  refine v_aload_n X dX8_moves_26 (i := 0) rfl rfl ?_
  refine v_iload_n X dX8_moves_27 (i := 1) rfl rfl ?_
  refine v_iconst X dX8_moves_28 (v := (1 : Int32)) (by decide) ?_
  refine v_cvB X rfl yv_X8_cardPart m_ml_X8_51 0 0 (c_X8_cardPart l g N o (μ 1) P hP (1 : Int32) 1 rfl μ kp hs tx ι (by omega) (by omega)) hB (Nat.le_of_ble_eq_true rfl) rfl (Nat.le_of_ble_eq_true rfl) rfl (L' := (mdL g o μ kp hs tx ι)) (rfl) rfl (Nat.le_of_ble_eq_true rfl) rfl rfl (Nat.le_of_ble_eq_true rfl) ⟨Nat.le_of_ble_eq_true rfl, Nat.le_of_ble_eq_true rfl⟩ ⟨Nat.le_of_ble_eq_true rfl, Nat.le_of_ble_eq_true rfl⟩ dX8_moves_29 rfl ?_
  refine v_iastB X hB dX8_moves_32 1 (Nat.le_of_ble_eq_true rfl) rfl 3 rfl (by omega) (Nat.le_of_ble_eq_true rfl) (L' := (mdL g o (upd μ 3 (μ (57 + 3 * P))) kp hs tx ι)) rfl ?_
  refine v_aload_n X dX8_moves_33 (i := 0) rfl rfl ?_
  refine v_getB X hB cf8 0 (Nat.le_of_ble_eq_true rfl) m_fl_X8_7 dX8_moves_34 0 (Nat.le_of_ble_eq_true rfl) rfl rfl ?_
  refine v_iconst X dX8_moves_37 (v := (4 : Int32)) (by decide) ?_
  refine v_aload_n X dX8_moves_38 (i := 0) rfl rfl ?_
  refine v_iload_n X dX8_moves_39 (i := 1) rfl rfl ?_
  refine v_iconst X dX8_moves_40 (v := (2 : Int32)) (by decide) ?_
  refine v_cvB X rfl yv_X8_cardPart m_ml_X8_51 0 0 (c_X8_cardPart l g N o (μ 1) P hP (2 : Int32) 2 rfl (upd μ 3 (μ (57 + 3 * P))) kp hs tx ι (by omega) (by omega)) hB (Nat.le_of_ble_eq_true rfl) rfl (Nat.le_of_ble_eq_true rfl) rfl (L' := (mdL g o (upd μ 3 (μ (57 + 3 * P))) kp hs tx ι)) (rfl) rfl (Nat.le_of_ble_eq_true rfl) rfl rfl (Nat.le_of_ble_eq_true rfl) ⟨Nat.le_of_ble_eq_true rfl, Nat.le_of_ble_eq_true rfl⟩ ⟨Nat.le_of_ble_eq_true rfl, Nat.le_of_ble_eq_true rfl⟩ dX8_moves_41 rfl ?_
  refine v_iastB X hB dX8_moves_44 1 (Nat.le_of_ble_eq_true rfl) rfl 4 rfl (by omega) (Nat.le_of_ble_eq_true rfl) (L' := (mdL g o (upd (upd μ 3 (μ (57 + 3 * P))) 4 ((upd μ 3 (μ (57 + 3 * P))) (58 + 3 * P))) kp hs tx ι)) rfl ?_
  refine V.cast (f' := ovr f o (mdL g o (mvS1 μ P) kp hs tx ι)) ?_ rfl rfl (congrArg (fun z => ovr f o (mdL g o z kp hs tx ι)) mm1)
  refine v_aload_n X dX8_moves_45 (i := 0) rfl rfl ?_
  refine v_getB X hB cf8 0 (Nat.le_of_ble_eq_true rfl) m_fl_X8_7 dX8_moves_46 0 (Nat.le_of_ble_eq_true rfl) rfl rfl ?_
  refine v_iconst X dX8_moves_49 (v := (5 : Int32)) (by decide) ?_
  refine v_ialdB X hB dX8_moves_50 1 (Nat.le_of_ble_eq_true rfl) rfl 5 rfl (by omega) (Nat.le_of_ble_eq_true rfl) ?_
  refine v_aload_n X dX8_moves_51 (i := 0) rfl rfl ?_
  refine v_iload_n X dX8_moves_52 (i := 1) rfl rfl ?_
  refine v_iconst X dX8_moves_53 (v := (0 : Int32)) (by decide) ?_
  refine v_cvB X rfl yv_X8_cardPart m_ml_X8_51 0 0 (c_X8_cardPart l g N o (μ 1) P hP (0 : Int32) 0 rfl (mvS1 μ P) kp hs tx ι (by omega) (by omega)) hB (Nat.le_of_ble_eq_true rfl) rfl (Nat.le_of_ble_eq_true rfl) rfl (L' := (mdL g o (mvS1 μ P) kp hs tx ι)) (rfl) rfl (Nat.le_of_ble_eq_true rfl) rfl rfl (Nat.le_of_ble_eq_true rfl) ⟨Nat.le_of_ble_eq_true rfl, Nat.le_of_ble_eq_true rfl⟩ ⟨Nat.le_of_ble_eq_true rfl, Nat.le_of_ble_eq_true rfl⟩ dX8_moves_54 rfl ?_
  refine v_ixor X dX8_moves_57 ?_
  refine v_istore X dX8_moves_58 (Nat.le_of_ble_eq_true rfl) rfl ?_
  refine v_iconst X dX8_moves_60 (v := (0 : Int32)) (by decide) ?_
  refine v_istore X dX8_moves_61 (Nat.le_of_ble_eq_true rfl) rfl ?_
  have LP63 : ∀ (n_ : Nat) (j : Nat), (j ≤ 12) → 12 - j < n_ → Vm vp l ve vs vm va vb vt vc g 1 6 N none (ovr f o (mdL g o (mvS μ C P k) kp hs tx ι)) (ovr f o (mdL g o (wrK (mvS1 μ P) ((mvS1 μ P) 5 ^^^ (mvS1 μ P) (56 + 3 * P)) j) kp hs tx ι)) 63 [some (.ref o), some (.int (μ 1)), some (.int (ι 3)), some (.int ((1 : Int32) - (μ (14 + 4 * k)))), some (.int ((mvS1 μ P) 5 ^^^ (mvS1 μ P) (56 + 3 * P))), some (.int (nI j))] [] := by
    intro n_
    induction n_ with
    | zero => intro j hj hm_; exact absurd hm_ (Nat.not_lt_zero _)
    | succ n_ ih63 =>
      intro j hj hm63
      refine v_iload X dX8_moves_63 rfl ?_
      refine v_bipush X dX8_moves_65 (v := (12 : Int32)) (by decide) ?_
      refine v_icmp_ge X dX8_moves_67 (tgt := 103) (by decide) (fun c67 => ?_) (fun c67 => ?_)
      · skip
        have hk5 : j = 12 := Nat.le_antisymm hj (le_of_nI (a := 12) (by omega) (by omega) c67)
        subst hk5
        refine v_aload_n X dX8_moves_103 (i := 0) rfl rfl ?_
        refine v_getB X hB cf8 0 (Nat.le_of_ble_eq_true rfl) m_fl_X8_7 dX8_moves_104 0 (Nat.le_of_ble_eq_true rfl) rfl rfl ?_
        refine v_iconst X dX8_moves_107 (v := (5 : Int32)) (by decide) ?_
        refine v_aload_n X dX8_moves_108 (i := 0) rfl rfl ?_
        refine v_iload_n X dX8_moves_109 (i := 1) rfl rfl ?_
        refine v_iconst X dX8_moves_110 (v := (0 : Int32)) (by decide) ?_
        refine v_cvB X rfl yv_X8_cardPart m_ml_X8_51 0 0 (c_X8_cardPart l g N o (μ 1) P hP (0 : Int32) 0 rfl (mvS2 μ P) kp hs tx ι (by omega) (by omega)) hB (Nat.le_of_ble_eq_true rfl) rfl (Nat.le_of_ble_eq_true rfl) rfl (L' := (mdL g o (mvS2 μ P) kp hs tx ι)) (rfl) rfl (Nat.le_of_ble_eq_true rfl) rfl rfl (Nat.le_of_ble_eq_true rfl) ⟨Nat.le_of_ble_eq_true rfl, Nat.le_of_ble_eq_true rfl⟩ ⟨Nat.le_of_ble_eq_true rfl, Nat.le_of_ble_eq_true rfl⟩ dX8_moves_111 rfl ?_
        refine v_iastB X hB dX8_moves_114 1 (Nat.le_of_ble_eq_true rfl) rfl 5 rfl (by omega) (Nat.le_of_ble_eq_true rfl) (L' := (mdL g o (upd (mvS2 μ P) 5 ((mvS2 μ P) (56 + 3 * P))) kp hs tx ι)) rfl ?_
        refine v_aload_n X dX8_moves_115 (i := 0) rfl rfl ?_
        refine v_iload_n X dX8_moves_116 (i := 2) rfl rfl ?_
        refine v_iconst X dX8_moves_117 (v := (2 : Int32)) (by decide) ?_
        refine v_iload_n X dX8_moves_118 (i := 3) rfl rfl ?_
        refine v_cvB X rfl yv_X8_setShuttle m_ml_X8_22 0 0 (c_X8_setShuttle l g N o (ι 3) k h3 (2 : Int32) 2 rfl (mvS3 μ P) kp hs tx ι ((1 : Int32) - (μ (14 + 4 * k))) (by omega) (by omega)) hB (Nat.le_of_ble_eq_true rfl) rfl (Nat.le_of_ble_eq_true rfl) rfl (L' := (mdL g o (upd (mvS3 μ P) (12 + 2 + 4 * k) ((1 : Int32) - (μ (14 + 4 * k)))) kp hs tx ι)) (rfl) rfl (Nat.le_of_ble_eq_true rfl) rfl rfl (Nat.le_of_ble_eq_true rfl) ⟨Nat.le_of_ble_eq_true rfl, Nat.le_of_ble_eq_true rfl⟩ ⟨Nat.le_of_ble_eq_true rfl, Nat.le_of_ble_eq_true rfl⟩ dX8_moves_119 rfl ?_
        refine v_aload_n X dX8_moves_122 (i := 0) rfl rfl ?_
        refine v_iload_n X dX8_moves_123 (i := 2) rfl rfl ?_
        refine v_iconst X dX8_moves_124 (v := (3 : Int32)) (by decide) ?_
        refine v_aload_n X dX8_moves_125 (i := 0) rfl rfl ?_
        refine v_getB X hB cf8 0 (Nat.le_of_ble_eq_true rfl) m_fl_X8_7 dX8_moves_126 0 (Nat.le_of_ble_eq_true rfl) rfl rfl ?_
        refine v_iconst X dX8_moves_129 (v := (3 : Int32)) (by decide) ?_
        refine v_iload_n X dX8_moves_130 (i := 3) rfl rfl ?_
        refine v_iadd X dX8_moves_131 ?_
        refine v_ialdB X hB dX8_moves_132 1 (Nat.le_of_ble_eq_true rfl) rfl (3 + z) (ix_add rfl hzz) (by omega) (Nat.le_of_ble_eq_true rfl) ?_
        refine v_cvB X rfl yv_X8_setShuttle m_ml_X8_22 0 0 (c_X8_setShuttle l g N o (ι 3) k h3 (3 : Int32) 3 rfl (upd (mvS3 μ P) (14 + 4 * k) ((1 : Int32) - (μ (14 + 4 * k)))) kp hs tx ι ((upd (mvS3 μ P) (14 + 4 * k) ((1 : Int32) - (μ (14 + 4 * k)))) (3 + z)) (by omega) (by omega)) hB (Nat.le_of_ble_eq_true rfl) rfl (Nat.le_of_ble_eq_true rfl) rfl (L' := (mdL g o (upd (upd (mvS3 μ P) (14 + 4 * k) ((1 : Int32) - (μ (14 + 4 * k)))) (12 + 3 + 4 * k) ((upd (mvS3 μ P) (14 + 4 * k) ((1 : Int32) - (μ (14 + 4 * k)))) (3 + z))) kp hs tx ι)) (rfl) rfl (Nat.le_of_ble_eq_true rfl) rfl rfl (Nat.le_of_ble_eq_true rfl) ⟨Nat.le_of_ble_eq_true rfl, Nat.le_of_ble_eq_true rfl⟩ ⟨Nat.le_of_ble_eq_true rfl, Nat.le_of_ble_eq_true rfl⟩ dX8_moves_133 rfl ?_
        refine v_aload_n X dX8_moves_136 (i := 0) rfl rfl ?_
        refine v_iload_n X dX8_moves_137 (i := 2) rfl rfl ?_
        refine v_iconst X dX8_moves_138 (v := (1 : Int32)) (by decide) ?_
        refine v_aload_n X dX8_moves_139 (i := 0) rfl rfl ?_
        refine v_iload_n X dX8_moves_140 (i := 2) rfl rfl ?_
        refine v_iconst X dX8_moves_141 (v := (1 : Int32)) (by decide) ?_
        refine v_cvB X rfl yv_X8_shuttlePart m_ml_X8_44 0 0 (c_X8_shuttlePart l g N o (ι 3) k h3 (1 : Int32) 1 rfl (upd (upd (mvS3 μ P) (14 + 4 * k) ((1 : Int32) - (μ (14 + 4 * k)))) (15 + 4 * k) ((upd (mvS3 μ P) (14 + 4 * k) ((1 : Int32) - (μ (14 + 4 * k)))) (3 + z))) kp hs tx ι (by omega) (by omega)) hB (Nat.le_of_ble_eq_true rfl) rfl (Nat.le_of_ble_eq_true rfl) rfl (L' := (mdL g o (upd (upd (mvS3 μ P) (14 + 4 * k) ((1 : Int32) - (μ (14 + 4 * k)))) (15 + 4 * k) ((upd (mvS3 μ P) (14 + 4 * k) ((1 : Int32) - (μ (14 + 4 * k)))) (3 + z))) kp hs tx ι)) (rfl) rfl (Nat.le_of_ble_eq_true rfl) rfl rfl (Nat.le_of_ble_eq_true rfl) ⟨Nat.le_of_ble_eq_true rfl, Nat.le_of_ble_eq_true rfl⟩ ⟨Nat.le_of_ble_eq_true rfl, Nat.le_of_ble_eq_true rfl⟩ dX8_moves_142 rfl ?_
        refine v_iconst X dX8_moves_145 (v := (1 : Int32)) (by decide) ?_
        refine v_isub X dX8_moves_146 ?_
        refine v_cvB X rfl yv_X8_setShuttle m_ml_X8_22 0 0 (c_X8_setShuttle l g N o (ι 3) k h3 (1 : Int32) 1 rfl (upd (upd (mvS3 μ P) (14 + 4 * k) ((1 : Int32) - (μ (14 + 4 * k)))) (15 + 4 * k) ((upd (mvS3 μ P) (14 + 4 * k) ((1 : Int32) - (μ (14 + 4 * k)))) (3 + z))) kp hs tx ι (((upd (upd (mvS3 μ P) (14 + 4 * k) ((1 : Int32) - (μ (14 + 4 * k)))) (15 + 4 * k) ((upd (mvS3 μ P) (14 + 4 * k) ((1 : Int32) - (μ (14 + 4 * k)))) (3 + z))) (13 + 4 * k)) - (1 : Int32)) (by omega) (by omega)) hB (Nat.le_of_ble_eq_true rfl) rfl (Nat.le_of_ble_eq_true rfl) rfl (L' := (mdL g o (upd (upd (upd (mvS3 μ P) (14 + 4 * k) ((1 : Int32) - (μ (14 + 4 * k)))) (15 + 4 * k) ((upd (mvS3 μ P) (14 + 4 * k) ((1 : Int32) - (μ (14 + 4 * k)))) (3 + z))) (12 + 1 + 4 * k) (((upd (upd (mvS3 μ P) (14 + 4 * k) ((1 : Int32) - (μ (14 + 4 * k)))) (15 + 4 * k) ((upd (mvS3 μ P) (14 + 4 * k) ((1 : Int32) - (μ (14 + 4 * k)))) (3 + z))) (13 + 4 * k)) - (1 : Int32))) kp hs tx ι)) (rfl) rfl (Nat.le_of_ble_eq_true rfl) rfl rfl (Nat.le_of_ble_eq_true rfl) ⟨Nat.le_of_ble_eq_true rfl, Nat.le_of_ble_eq_true rfl⟩ ⟨Nat.le_of_ble_eq_true rfl, Nat.le_of_ble_eq_true rfl⟩ dX8_moves_147 rfl ?_
        refine V.cast (f' := ovr f o (mdL g o (mvS4 μ P k) kp hs tx ι)) ?_ rfl rfl (congrArg (fun z => ovr f o (mdL g o z kp hs tx ι)) (flM hk (by rw [mvS3_o (by omega) (by omega)]) hz2 hzz (by rw [mvS3_o (by omega) (by omega)]; exact hsd)))
        refine v_aload_n X dX8_moves_150 (i := 0) rfl rfl ?_
        refine v_getB X hB cf8 0 (Nat.le_of_ble_eq_true rfl) m_fl_X8_7 dX8_moves_151 0 (Nat.le_of_ble_eq_true rfl) rfl rfl ?_
        refine v_iconst X dX8_moves_154 (v := (1 : Int32)) (by decide) ?_
        refine v_iload_n X dX8_moves_155 (i := 1) rfl rfl ?_
        refine v_iconst X dX8_moves_156 (v := (1 : Int32)) (by decide) ?_
        refine v_iadd X dX8_moves_157 ?_
        refine v_aload_n X dX8_moves_158 (i := 0) rfl rfl ?_
        refine v_getB X hB cf8 0 (Nat.le_of_ble_eq_true rfl) m_fl_X8_7 dX8_moves_159 0 (Nat.le_of_ble_eq_true rfl) rfl rfl ?_
        refine v_iconst X dX8_moves_162 (v := (0 : Int32)) (by decide) ?_
        refine v_ialdB X hB dX8_moves_163 1 (Nat.le_of_ble_eq_true rfl) rfl 0 rfl (by omega) (Nat.le_of_ble_eq_true rfl) ?_
        refine v_icmp_ne X dX8_moves_164 (tgt := 171) (by decide) (fun c164 => ?_) (fun c164 => ?_)
        · skip
          have hg : ¬ C ≤ P + 1 := by
            intro q
            have e : C = P + 1 := by omega
            refine c164 ?_
            rw [hP, nI_1, mvS4_o hk (by omega) (by omega), hC, e]
          refine v_iload_n X dX8_moves_171 (i := 1) rfl rfl ?_
          refine v_iconst X dX8_moves_172 (v := (1 : Int32)) (by decide) ?_
          refine v_iadd X dX8_moves_173 ?_
          refine v_iastB X hB dX8_moves_174 1 (Nat.le_of_ble_eq_true rfl) rfl 1 rfl (by omega) (Nat.le_of_ble_eq_true rfl) (L' := (mdL g o (upd (mvS4 μ P k) 1 ((μ 1) + (1 : Int32))) kp hs tx ι)) rfl ?_
          exact v_vret X rfl dX8_moves_175 (rfl) (by rw [mvS, goP, if_neg hg, hP, nI_1])
        · skip
          have hg : C ≤ P + 1 := by
            have q : nI (P + 1) = nI C := by rw [← nI_1 P, ← hP, ← hC, ← mvS4_o (σ := μ) (P := P) hk (i := 0) (by omega) (by omega)]; exact c164
            have := (nI_eq (by omega) (by omega)).mp q
            omega
          refine v_iconst X dX8_moves_167 (v := (0 : Int32)) (by decide) ?_
          refine v_goto X dX8_moves_168 (tgt := 174) (by decide) ?_
          refine v_iastB X hB dX8_moves_174 1 (Nat.le_of_ble_eq_true rfl) rfl 1 rfl (by omega) (Nat.le_of_ble_eq_true rfl) (L' := (mdL g o (upd (mvS4 μ P k) 1 (0 : Int32)) kp hs tx ι)) rfl ?_
          exact v_vret X rfl dX8_moves_175 (rfl) (by rw [mvS, goP, if_pos hg]; rfl)
      · skip
        have hk5 : j < 12 := lt_of_nI (b := 12) (by omega) (by omega) c67
        refine v_aload_n X dX8_moves_70 (i := 0) rfl rfl ?_
        refine v_iload X dX8_moves_71 rfl ?_
        refine v_iconst X dX8_moves_73 (v := (1 : Int32)) (by decide) ?_
        refine v_aload_n X dX8_moves_74 (i := 0) rfl rfl ?_
        refine v_iload X dX8_moves_75 rfl ?_
        refine v_iconst X dX8_moves_77 (v := (1 : Int32)) (by decide) ?_
        refine v_cvB X rfl yv_X8_threadPart m_ml_X8_48 0 0 (c_X8_threadPart l g N o (nI j) j rfl (1 : Int32) 1 rfl (wrK (mvS1 μ P) ((mvS1 μ P) 5 ^^^ (mvS1 μ P) (56 + 3 * P)) j) kp hs tx ι (by omega) (by omega)) hB (Nat.le_of_ble_eq_true rfl) rfl (Nat.le_of_ble_eq_true rfl) rfl (L' := (mdL g o (wrK (mvS1 μ P) ((mvS1 μ P) 5 ^^^ (mvS1 μ P) (56 + 3 * P)) j) kp hs tx ι)) (rfl) rfl (Nat.le_of_ble_eq_true rfl) rfl rfl (Nat.le_of_ble_eq_true rfl) ⟨Nat.le_of_ble_eq_true rfl, Nat.le_of_ble_eq_true rfl⟩ ⟨Nat.le_of_ble_eq_true rfl, Nat.le_of_ble_eq_true rfl⟩ dX8_moves_78 rfl ?_
        refine v_iload X dX8_moves_81 rfl ?_
        refine v_aload_n X dX8_moves_83 (i := 0) rfl rfl ?_
        refine v_iload X dX8_moves_84 rfl ?_
        refine v_iconst X dX8_moves_86 (v := (0 : Int32)) (by decide) ?_
        refine v_cvB X rfl yv_X8_threadPart m_ml_X8_48 0 0 (c_X8_threadPart l g N o (nI j) j rfl (0 : Int32) 0 rfl (wrK (mvS1 μ P) ((mvS1 μ P) 5 ^^^ (mvS1 μ P) (56 + 3 * P)) j) kp hs tx ι (by omega) (by omega)) hB (Nat.le_of_ble_eq_true rfl) rfl (Nat.le_of_ble_eq_true rfl) rfl (L' := (mdL g o (wrK (mvS1 μ P) ((mvS1 μ P) 5 ^^^ (mvS1 μ P) (56 + 3 * P)) j) kp hs tx ι)) (rfl) rfl (Nat.le_of_ble_eq_true rfl) rfl rfl (Nat.le_of_ble_eq_true rfl) ⟨Nat.le_of_ble_eq_true rfl, Nat.le_of_ble_eq_true rfl⟩ ⟨Nat.le_of_ble_eq_true rfl, Nat.le_of_ble_eq_true rfl⟩ dX8_moves_87 rfl ?_
        refine v_ishr X dX8_moves_90 ?_
        refine v_iconst X dX8_moves_91 (v := (1 : Int32)) (by decide) ?_
        refine v_iand X dX8_moves_92 ?_
        refine v_isub X dX8_moves_93 ?_
        refine v_cvB X rfl yv_X8_setThread m_ml_X8_26 0 0 (c_X8_setThread l g N o (nI j) j rfl (1 : Int32) 1 rfl (wrK (mvS1 μ P) ((mvS1 μ P) 5 ^^^ (mvS1 μ P) (56 + 3 * P)) j) kp hs tx ι (((wrK (mvS1 μ P) ((mvS1 μ P) 5 ^^^ (mvS1 μ P) (56 + 3 * P)) j) (33 + 2 * j)) - ((((mvS1 μ P) 5 ^^^ (mvS1 μ P) (56 + 3 * P)) >>> (((wrK (mvS1 μ P) ((mvS1 μ P) 5 ^^^ (mvS1 μ P) (56 + 3 * P)) j) (32 + 2 * j)) &&& 31)) &&& (1 : Int32))) (by omega) (by omega)) hB (Nat.le_of_ble_eq_true rfl) rfl (Nat.le_of_ble_eq_true rfl) rfl (L' := (mdL g o (upd (wrK (mvS1 μ P) ((mvS1 μ P) 5 ^^^ (mvS1 μ P) (56 + 3 * P)) j) (32 + 1 + 2 * j) (((wrK (mvS1 μ P) ((mvS1 μ P) 5 ^^^ (mvS1 μ P) (56 + 3 * P)) j) (33 + 2 * j)) - ((((mvS1 μ P) 5 ^^^ (mvS1 μ P) (56 + 3 * P)) >>> (((wrK (mvS1 μ P) ((mvS1 μ P) 5 ^^^ (mvS1 μ P) (56 + 3 * P)) j) (32 + 2 * j)) &&& 31)) &&& (1 : Int32)))) kp hs tx ι)) (rfl) rfl (Nat.le_of_ble_eq_true rfl) rfl rfl (Nat.le_of_ble_eq_true rfl) ⟨Nat.le_of_ble_eq_true rfl, Nat.le_of_ble_eq_true rfl⟩ ⟨Nat.le_of_ble_eq_true rfl, Nat.le_of_ble_eq_true rfl⟩ dX8_moves_94 rfl ?_
        refine v_iinc X dX8_moves_97 (v := nI (j + 1)) rfl (ix_inc rfl) (Nat.le_of_ble_eq_true rfl) rfl ?_
        refine v_goto X dX8_moves_100 (tgt := 63) (by decide) ?_
        exact V.cast (ih63 (j + 1) (by omega) (by omega)) (rfl) (rfl) (by rw [← wrM])
  exact V.cast (LP63 _ 0 (Nat.zero_le _) (Nat.lt_succ_self _)) (rfl) (rfl) (by rw [wrK_0])
