/-! the model class: parts, shuttles, threads, reasons -/
set_option maxRecDepth 100000 in
set_option maxHeartbeats 4000000 in
theorem c_X8_within (l : Launch) (g : Ge) (v a b : Int32) : Cs l g yX8_within (.code yX8_within cX8_within 3 (some .boolean)) 0 [.int v, .int a, .int b] (some (.int (bI (a ≤ v ∧ v ≤ b)))) := by
  intro N f
  refine ct_of (own := RX8) [some (.int v), some (.int a), some (.int b)] (by decide +kernel) rfl rfl (Nat.le_of_ble_eq_true rfl) ?_
  intro vp ve vs vm va vb vt vc hnm X
  refine v_iload_n X dX8_within_0 (i := 0) rfl rfl ?_
  refine v_iload_n X dX8_within_1 (i := 1) rfl rfl ?_
  refine v_icmp_lt X dX8_within_2 (tgt := 14) (by decide) (fun c2 => ?_) (fun c2 => ?_)
  · skip
    refine v_iconst X dX8_within_14 (v := (0 : Int32)) (by decide) ?_
    exact v_zret X rfl dX8_within_15 (rfl) (by simp [bI, c2, Int32.not_le.mpr c2]) (rfl)
  · skip
    refine v_iload_n X dX8_within_5 (i := 0) rfl rfl ?_
    refine v_iload_n X dX8_within_6 (i := 2) rfl rfl ?_
    refine v_icmp_gt X dX8_within_7 (tgt := 14) (by decide) (fun c7 => ?_) (fun c7 => ?_)
    · skip
      refine v_iconst X dX8_within_14 (v := (0 : Int32)) (by decide) ?_
      exact v_zret X rfl dX8_within_15 (rfl) (by simp [bI, c2, Int32.not_lt.mpr c2, c7, Int32.not_le.mpr c7]) (rfl)
    · skip
      refine v_iconst X dX8_within_10 (v := (1 : Int32)) (by decide) ?_
      refine v_goto X dX8_within_11 (tgt := 15) (by decide) ?_
      exact v_zret X rfl dX8_within_15 (rfl) (by simp [bI, c2, Int32.not_lt.mpr c2, c7, Int32.not_lt.mpr c7]) (rfl)
set_option maxRecDepth 100000 in
set_option maxHeartbeats 4000000 in
theorem c_X8_isShuttle (l : Launch) (g : Ge) (v : Int32) : Cs l g yX8_isShuttle (.code yX8_isShuttle cX8_isShuttle 1 (some .boolean)) 1 [.int v] (some (.int (bI ((0 : Int32) ≤ v ∧ v ≤ (4 : Int32))))) := by
  intro N f
  refine ct_of (own := RX8) [some (.int v)] (by decide +kernel) rfl rfl (Nat.le_of_ble_eq_true rfl) ?_
  intro vp ve vs vm va vb vt vc hnm X
  refine v_iload_n X dX8_isShuttle_0 (i := 0) rfl rfl ?_
  refine v_iconst X dX8_isShuttle_1 (v := (0 : Int32)) (by decide) ?_
  refine v_iconst X dX8_isShuttle_2 (v := (4 : Int32)) (by decide) ?_
  refine v_cs X rfl yv_X8_within m_ml_X8_40 (c_X8_within l g v (0 : Int32) (4 : Int32) ) rfl rfl (Nat.le_of_ble_eq_true rfl) ⟨Nat.le_of_ble_eq_true rfl, Nat.le_of_ble_eq_true rfl⟩ ⟨Nat.le_of_ble_eq_true rfl, Nat.le_of_ble_eq_true rfl⟩ dX8_isShuttle_3 rfl ?_
  exact v_zret X rfl dX8_isShuttle_6 (nar_b) (rfl) (rfl)
set_option maxRecDepth 100000 in
set_option maxHeartbeats 4000000 in
theorem c_X8_isThread (l : Launch) (g : Ge) (v : Int32) : Cs l g yX8_isThread (.code yX8_isThread cX8_isThread 1 (some .boolean)) 1 [.int v] (some (.int (bI ((0 : Int32) ≤ v ∧ v ≤ (11 : Int32))))) := by
  intro N f
  refine ct_of (own := RX8) [some (.int v)] (by decide +kernel) rfl rfl (Nat.le_of_ble_eq_true rfl) ?_
  intro vp ve vs vm va vb vt vc hnm X
  refine v_iload_n X dX8_isThread_0 (i := 0) rfl rfl ?_
  refine v_iconst X dX8_isThread_1 (v := (0 : Int32)) (by decide) ?_
  refine v_bipush X dX8_isThread_2 (v := (11 : Int32)) (by decide) ?_
  refine v_cs X rfl yv_X8_within m_ml_X8_40 (c_X8_within l g v (0 : Int32) (11 : Int32) ) rfl rfl (Nat.le_of_ble_eq_true rfl) ⟨Nat.le_of_ble_eq_true rfl, Nat.le_of_ble_eq_true rfl⟩ ⟨Nat.le_of_ble_eq_true rfl, Nat.le_of_ble_eq_true rfl⟩ dX8_isThread_4 rfl ?_
  exact v_zret X rfl dX8_isThread_7 (nar_b) (rfl) (rfl)
set_option maxRecDepth 100000 in
set_option maxHeartbeats 4000000 in
theorem c_X8_isBox (l : Launch) (g : Ge) (s b : Int32) : Cs l g yX8_isBox (.code yX8_isBox cX8_isBox 2 (some .boolean)) 1 [.int s, .int b] (some (.int (bI ((s = 0 ∧ 0 ≤ b ∧ b ≤ 3) ∨ (s = 1 ∧ 0 ≤ b ∧ b ≤ 1))))) := by
  intro N f
  refine ct_of (own := RX8) [some (.int s), some (.int b)] (by decide +kernel) rfl rfl (Nat.le_of_ble_eq_true rfl) ?_
  intro vp ve vs vm va vb vt vc hnm X
  refine v_iload_n X dX8_isBox_0 (i := 0) rfl rfl ?_
  refine v_iconst X dX8_isBox_1 (v := (0 : Int32)) (by decide) ?_
  refine v_iconst X dX8_isBox_2 (v := (1 : Int32)) (by decide) ?_
  refine v_cs X rfl yv_X8_within m_ml_X8_40 (c_X8_within l g s (0 : Int32) (1 : Int32) ) rfl rfl (Nat.le_of_ble_eq_true rfl) ⟨Nat.le_of_ble_eq_true rfl, Nat.le_of_ble_eq_true rfl⟩ ⟨Nat.le_of_ble_eq_true rfl, Nat.le_of_ble_eq_true rfl⟩ dX8_isBox_3 rfl ?_
  refine v_if_eqB X dX8_isBox_6 (tgt := 30) (by decide) (fun c6 => ?_) (fun c6 => ?_)
  · skip
    have h01 : ¬ s = 0 ∧ ¬ s = 1 := ⟨fun q => c6 (by rw [q]; decide), fun q => c6 (by rw [q]; decide)⟩
    refine v_iconst X dX8_isBox_30 (v := (0 : Int32)) (by decide) ?_
    exact v_zret X rfl dX8_isBox_31 (rfl) (by simp [bI, c6, h01.1, h01.2]) (rfl)
  · skip
    refine v_iload_n X dX8_isBox_9 (i := 1) rfl rfl ?_
    refine v_iconst X dX8_isBox_10 (v := (0 : Int32)) (by decide) ?_
    refine v_iload_n X dX8_isBox_11 (i := 0) rfl rfl ?_
    refine v_if_ne X dX8_isBox_12 (tgt := 19) (by decide) (fun c12 => ?_) (fun c12 => ?_)
    · skip
      have h1 : s = 1 := by
        obtain ⟨k, hk, q⟩ := nI_cases (n := 1) (by omega) c6.1 c6.2
        have hk2 : k = 0 ∨ k = 1 := by omega
        rcases hk2 with z | z
        · subst z; exact absurd q c12
        · subst z; exact q
      refine v_iconst X dX8_isBox_19 (v := (1 : Int32)) (by decide) ?_
      refine v_cs X rfl yv_X8_within m_ml_X8_40 (c_X8_within l g b (0 : Int32) (1 : Int32) ) rfl rfl (Nat.le_of_ble_eq_true rfl) ⟨Nat.le_of_ble_eq_true rfl, Nat.le_of_ble_eq_true rfl⟩ ⟨Nat.le_of_ble_eq_true rfl, Nat.le_of_ble_eq_true rfl⟩ dX8_isBox_20 rfl ?_
      refine v_if_eqB X dX8_isBox_23 (tgt := 30) (by decide) (fun c23 => ?_) (fun c23 => ?_)
      · skip
        refine v_iconst X dX8_isBox_30 (v := (0 : Int32)) (by decide) ?_
        exact v_zret X rfl dX8_isBox_31 (rfl) (by simp [bI, c6, c12, c23, h1]) (rfl)
      · skip
        refine v_iconst X dX8_isBox_26 (v := (1 : Int32)) (by decide) ?_
        refine v_goto X dX8_isBox_27 (tgt := 31) (by decide) ?_
        exact v_zret X rfl dX8_isBox_31 (rfl) (by simp [bI, c6, c12, c23, h1]) (rfl)
    · skip
      refine v_iconst X dX8_isBox_15 (v := (3 : Int32)) (by decide) ?_
      refine v_goto X dX8_isBox_16 (tgt := 20) (by decide) ?_
      refine v_cs X rfl yv_X8_within m_ml_X8_40 (c_X8_within l g b (0 : Int32) (3 : Int32) ) rfl rfl (Nat.le_of_ble_eq_true rfl) ⟨Nat.le_of_ble_eq_true rfl, Nat.le_of_ble_eq_true rfl⟩ ⟨Nat.le_of_ble_eq_true rfl, Nat.le_of_ble_eq_true rfl⟩ dX8_isBox_20 rfl ?_
      refine v_if_eqB X dX8_isBox_23 (tgt := 30) (by decide) (fun c23 => ?_) (fun c23 => ?_)
      · skip
        refine v_iconst X dX8_isBox_30 (v := (0 : Int32)) (by decide) ?_
        exact v_zret X rfl dX8_isBox_31 (rfl) (by simp [bI, c6, c12, c23]) (rfl)
      · skip
        refine v_iconst X dX8_isBox_26 (v := (1 : Int32)) (by decide) ?_
        refine v_goto X dX8_isBox_27 (tgt := 31) (by decide) ?_
        exact v_zret X rfl dX8_isBox_31 (rfl) (by simp [bI, c6, c12, c23]) (rfl)
set_option maxRecDepth 100000 in
set_option maxHeartbeats 4000000 in
theorem c_X8_shuttlePart (l : Launch) (g : Ge) (N o : Nat) (x_k : Int32) (k : Nat) (hx_k : x_k = nI k) (x_w : Int32) (w : Nat) (hx_w : x_w = nI w) (μ kp hs tx ι : Nat → Int32) (hk : k < 5) (hw : w < 4) : Cb l g yX8_shuttlePart (.code yX8_shuttlePart cX8_shuttlePart 3 (some .int)) 0 [.ref o, .int x_k, .int x_w] N o (mdL g o μ kp hs tx ι) (some (.int (μ (12 + w + 4 * k)))) (mdL g o μ kp hs tx ι) := by
  intro f hB0
  have hB : BB g N o 5 := hB0
  subst hx_k
  subst hx_w
  refine ct_of (own := RX8) [some (.ref o), some (.int (nI k)), some (.int (nI w))] (by decide +kernel) rfl rfl (Nat.le_of_ble_eq_true rfl) ?_
  intro vp ve vs vm va vb vt vc hnm X
  refine v_aload_n X dX8_shuttlePart_0 (i := 0) rfl rfl ?_
  refine v_getB X hB cf8 0 (Nat.le_of_ble_eq_true rfl) m_fl_X8_7 dX8_shuttlePart_1 0 (Nat.le_of_ble_eq_true rfl) rfl rfl ?_
  refine v_bipush X dX8_shuttlePart_4 (v := (12 : Int32)) (by decide) ?_
  refine v_iconst X dX8_shuttlePart_6 (v := (4 : Int32)) (by decide) ?_
  refine v_iload_n X dX8_shuttlePart_7 (i := 1) rfl rfl ?_
  refine v_imul X dX8_shuttlePart_8 ?_
  refine v_iadd X dX8_shuttlePart_9 ?_
  refine v_iload_n X dX8_shuttlePart_10 (i := 2) rfl rfl ?_
  refine v_iadd X dX8_shuttlePart_11 ?_
  refine v_ialdB X hB dX8_shuttlePart_12 1 (Nat.le_of_ble_eq_true rfl) rfl (12 + (4 * k) + w) (ix_add (ix_add rfl (ix_mul rfl rfl)) rfl) (by omega) (Nat.le_of_ble_eq_true rfl) ?_
  exact v_iret X rfl dX8_shuttlePart_13 (congrArg (fun z => some (Value.int (μ z))) (by omega)) (rfl)
set_option maxRecDepth 100000 in
set_option maxHeartbeats 4000000 in
theorem c_X8_setShuttle (l : Launch) (g : Ge) (N o : Nat) (x_k : Int32) (k : Nat) (hx_k : x_k = nI k) (x_w : Int32) (w : Nat) (hx_w : x_w = nI w) (μ kp hs tx ι : Nat → Int32) (a : Int32) (hk : k < 5) (hw : w < 4) : Cb l g yX8_setShuttle (.code yX8_setShuttle cX8_setShuttle 4 none) 0 [.ref o, .int x_k, .int x_w, .int a] N o (mdL g o μ kp hs tx ι) none (mdL g o (upd μ (12 + w + 4 * k) a) kp hs tx ι) := by
  intro f hB0
  have hB : BB g N o 5 := hB0
  subst hx_k
  subst hx_w
  refine ct_of (own := RX8) [some (.ref o), some (.int (nI k)), some (.int (nI w)), some (.int a)] (by decide +kernel) rfl rfl (Nat.le_of_ble_eq_true rfl) ?_
  intro vp ve vs vm va vb vt vc hnm X
  refine v_aload_n X dX8_setShuttle_0 (i := 0) rfl rfl ?_
  refine v_getB X hB cf8 0 (Nat.le_of_ble_eq_true rfl) m_fl_X8_7 dX8_setShuttle_1 0 (Nat.le_of_ble_eq_true rfl) rfl rfl ?_
  refine v_bipush X dX8_setShuttle_4 (v := (12 : Int32)) (by decide) ?_
  refine v_iconst X dX8_setShuttle_6 (v := (4 : Int32)) (by decide) ?_
  refine v_iload_n X dX8_setShuttle_7 (i := 1) rfl rfl ?_
  refine v_imul X dX8_setShuttle_8 ?_
  refine v_iadd X dX8_setShuttle_9 ?_
  refine v_iload_n X dX8_setShuttle_10 (i := 2) rfl rfl ?_
  refine v_iadd X dX8_setShuttle_11 ?_
  refine v_iload_n X dX8_setShuttle_12 (i := 3) rfl rfl ?_
  refine v_iastB X hB dX8_setShuttle_13 1 (Nat.le_of_ble_eq_true rfl) rfl (12 + (4 * k) + w) (ix_add (ix_add rfl (ix_mul rfl rfl)) rfl) (by omega) (Nat.le_of_ble_eq_true rfl) (L' := (mdL g o (upd μ (12 + (4 * k) + w) a) kp hs tx ι)) rfl ?_
  exact v_vret X rfl dX8_setShuttle_14 (rfl) (by rw [show 12 + 4 * k + w = 12 + w + 4 * k by omega])
set_option maxRecDepth 100000 in
set_option maxHeartbeats 4000000 in
theorem c_X8_threadPart (l : Launch) (g : Ge) (N o : Nat) (x_k : Int32) (k : Nat) (hx_k : x_k = nI k) (x_w : Int32) (w : Nat) (hx_w : x_w = nI w) (μ kp hs tx ι : Nat → Int32) (hk : k < 12) (hw : w < 2) : Cb l g yX8_threadPart (.code yX8_threadPart cX8_threadPart 3 (some .int)) 0 [.ref o, .int x_k, .int x_w] N o (mdL g o μ kp hs tx ι) (some (.int (μ (32 + w + 2 * k)))) (mdL g o μ kp hs tx ι) := by
  intro f hB0
  have hB : BB g N o 5 := hB0
  subst hx_k
  subst hx_w
  refine ct_of (own := RX8) [some (.ref o), some (.int (nI k)), some (.int (nI w))] (by decide +kernel) rfl rfl (Nat.le_of_ble_eq_true rfl) ?_
  intro vp ve vs vm va vb vt vc hnm X
  refine v_aload_n X dX8_threadPart_0 (i := 0) rfl rfl ?_
  refine v_getB X hB cf8 0 (Nat.le_of_ble_eq_true rfl) m_fl_X8_7 dX8_threadPart_1 0 (Nat.le_of_ble_eq_true rfl) rfl rfl ?_
  refine v_bipush X dX8_threadPart_4 (v := (32 : Int32)) (by decide) ?_
  refine v_iconst X dX8_threadPart_6 (v := (2 : Int32)) (by decide) ?_
  refine v_iload_n X dX8_threadPart_7 (i := 1) rfl rfl ?_
  refine v_imul X dX8_threadPart_8 ?_
  refine v_iadd X dX8_threadPart_9 ?_
  refine v_iload_n X dX8_threadPart_10 (i := 2) rfl rfl ?_
  refine v_iadd X dX8_threadPart_11 ?_
  refine v_ialdB X hB dX8_threadPart_12 1 (Nat.le_of_ble_eq_true rfl) rfl (32 + (2 * k) + w) (ix_add (ix_add rfl (ix_mul rfl rfl)) rfl) (by omega) (Nat.le_of_ble_eq_true rfl) ?_
  exact v_iret X rfl dX8_threadPart_13 (congrArg (fun z => some (Value.int (μ z))) (by omega)) (rfl)
set_option maxRecDepth 100000 in
set_option maxHeartbeats 4000000 in
theorem c_X8_setThread (l : Launch) (g : Ge) (N o : Nat) (x_k : Int32) (k : Nat) (hx_k : x_k = nI k) (x_w : Int32) (w : Nat) (hx_w : x_w = nI w) (μ kp hs tx ι : Nat → Int32) (a : Int32) (hk : k < 12) (hw : w < 2) : Cb l g yX8_setThread (.code yX8_setThread cX8_setThread 4 none) 0 [.ref o, .int x_k, .int x_w, .int a] N o (mdL g o μ kp hs tx ι) none (mdL g o (upd μ (32 + w + 2 * k) a) kp hs tx ι) := by
  intro f hB0
  have hB : BB g N o 5 := hB0
  subst hx_k
  subst hx_w
  refine ct_of (own := RX8) [some (.ref o), some (.int (nI k)), some (.int (nI w)), some (.int a)] (by decide +kernel) rfl rfl (Nat.le_of_ble_eq_true rfl) ?_
  intro vp ve vs vm va vb vt vc hnm X
  refine v_aload_n X dX8_setThread_0 (i := 0) rfl rfl ?_
  refine v_getB X hB cf8 0 (Nat.le_of_ble_eq_true rfl) m_fl_X8_7 dX8_setThread_1 0 (Nat.le_of_ble_eq_true rfl) rfl rfl ?_
  refine v_bipush X dX8_setThread_4 (v := (32 : Int32)) (by decide) ?_
  refine v_iconst X dX8_setThread_6 (v := (2 : Int32)) (by decide) ?_
  refine v_iload_n X dX8_setThread_7 (i := 1) rfl rfl ?_
  refine v_imul X dX8_setThread_8 ?_
  refine v_iadd X dX8_setThread_9 ?_
  refine v_iload_n X dX8_setThread_10 (i := 2) rfl rfl ?_
  refine v_iadd X dX8_setThread_11 ?_
  refine v_iload_n X dX8_setThread_12 (i := 3) rfl rfl ?_
  refine v_iastB X hB dX8_setThread_13 1 (Nat.le_of_ble_eq_true rfl) rfl (32 + (2 * k) + w) (ix_add (ix_add rfl (ix_mul rfl rfl)) rfl) (by omega) (Nat.le_of_ble_eq_true rfl) (L' := (mdL g o (upd μ (32 + (2 * k) + w) a) kp hs tx ι)) rfl ?_
  exact v_vret X rfl dX8_setThread_14 (rfl) (by rw [show 32 + 2 * k + w = 32 + w + 2 * k by omega])
set_option maxRecDepth 100000 in
set_option maxHeartbeats 4000000 in
theorem c_X8_cardPart (l : Launch) (g : Ge) (N o : Nat) (x_k : Int32) (k : Nat) (hx_k : x_k = nI k) (x_w : Int32) (w : Nat) (hx_w : x_w = nI w) (μ kp hs tx ι : Nat → Int32) (hk : k < 16) (hw : w < 3) : Cb l g yX8_cardPart (.code yX8_cardPart cX8_cardPart 3 (some .int)) 0 [.ref o, .int x_k, .int x_w] N o (mdL g o μ kp hs tx ι) (some (.int (μ (56 + w + 3 * k)))) (mdL g o μ kp hs tx ι) := by
  intro f hB0
  have hB : BB g N o 5 := hB0
  subst hx_k
  subst hx_w
  refine ct_of (own := RX8) [some (.ref o), some (.int (nI k)), some (.int (nI w))] (by decide +kernel) rfl rfl (Nat.le_of_ble_eq_true rfl) ?_
  intro vp ve vs vm va vb vt vc hnm X
  refine v_aload_n X dX8_cardPart_0 (i := 0) rfl rfl ?_
  refine v_getB X hB cf8 0 (Nat.le_of_ble_eq_true rfl) m_fl_X8_7 dX8_cardPart_1 0 (Nat.le_of_ble_eq_true rfl) rfl rfl ?_
  refine v_bipush X dX8_cardPart_4 (v := (56 : Int32)) (by decide) ?_
  refine v_iconst X dX8_cardPart_6 (v := (3 : Int32)) (by decide) ?_
  refine v_iload_n X dX8_cardPart_7 (i := 1) rfl rfl ?_
  refine v_imul X dX8_cardPart_8 ?_
  refine v_iadd X dX8_cardPart_9 ?_
  refine v_iload_n X dX8_cardPart_10 (i := 2) rfl rfl ?_
  refine v_iadd X dX8_cardPart_11 ?_
  refine v_ialdB X hB dX8_cardPart_12 1 (Nat.le_of_ble_eq_true rfl) rfl (56 + (3 * k) + w) (ix_add (ix_add rfl (ix_mul rfl rfl)) rfl) (by omega) (Nat.le_of_ble_eq_true rfl) ?_
  exact v_iret X rfl dX8_cardPart_13 (congrArg (fun z => some (Value.int (μ z))) (by omega)) (rfl)
set_option maxRecDepth 100000 in
set_option maxHeartbeats 4000000 in
theorem c_X8_rowPart (l : Launch) (g : Ge) (N o : Nat) (x_k : Int32) (k : Nat) (hx_k : x_k = nI k) (x_w : Int32) (w : Nat) (hx_w : x_w = nI w) (μ kp hs tx ι : Nat → Int32) (hk : k < 20) (hw : w < 9) : Cb l g yX8_rowPart (.code yX8_rowPart cX8_rowPart 3 (some .int)) 0 [.ref o, .int x_k, .int x_w] N o (mdL g o μ kp hs tx ι) (some (.int (μ (104 + w + 9 * k)))) (mdL g o μ kp hs tx ι) := by
  intro f hB0
  have hB : BB g N o 5 := hB0
  subst hx_k
  subst hx_w
  refine ct_of (own := RX8) [some (.ref o), some (.int (nI k)), some (.int (nI w))] (by decide +kernel) rfl rfl (Nat.le_of_ble_eq_true rfl) ?_
  intro vp ve vs vm va vb vt vc hnm X
  refine v_aload_n X dX8_rowPart_0 (i := 0) rfl rfl ?_
  refine v_getB X hB cf8 0 (Nat.le_of_ble_eq_true rfl) m_fl_X8_7 dX8_rowPart_1 0 (Nat.le_of_ble_eq_true rfl) rfl rfl ?_
  refine v_bipush X dX8_rowPart_4 (v := (104 : Int32)) (by decide) ?_
  refine v_bipush X dX8_rowPart_6 (v := (9 : Int32)) (by decide) ?_
  refine v_iload_n X dX8_rowPart_8 (i := 1) rfl rfl ?_
  refine v_imul X dX8_rowPart_9 ?_
  refine v_iadd X dX8_rowPart_10 ?_
  refine v_iload_n X dX8_rowPart_11 (i := 2) rfl rfl ?_
  refine v_iadd X dX8_rowPart_12 ?_
  refine v_ialdB X hB dX8_rowPart_13 1 (Nat.le_of_ble_eq_true rfl) rfl (104 + (9 * k) + w) (ix_add (ix_add rfl (ix_mul rfl rfl)) rfl) (by omega) (Nat.le_of_ble_eq_true rfl) ?_
  exact v_iret X rfl dX8_rowPart_14 (congrArg (fun z => some (Value.int (μ z))) (by omega)) (rfl)
theorem isC_iff {μ : Nat → Int32} {v : Int32} {C : Nat} (hC : μ 0 = nI C) (hC16 : C ≤ 16) : ((0 : Int32) ≤ v ∧ v ≤ μ 0 - 1) ↔ ((0 : Int32) ≤ v ∧ v < μ 0 ∧ v < 16) := by
  rw [hC]
  have e1 : (nI C - 1).toInt = (C : Int) - 1 := by
    rcases Nat.eq_zero_or_pos C with z | z
    · subst z; decide
    · rw [show nI C - 1 = nI (C - 1) from pk_sub (b := 1) (by omega), nI_toInt (by omega)]; omega
  have e2 : (nI C).toInt = C := nI_toInt (by omega)
  have e3 : (16 : Int32).toInt = 16 := by decide
  simp only [Int32.le_iff_toInt_le, Int32.lt_iff_toInt_lt, e1, e2, e3]
  omega
def lst (μ : Nat → Int32) (a b : Int32) : Nat → Int32
  | 0 => -6
  | k + 1 => if μ (14 + 4 * k) = a ∧ μ (15 + 4 * k) = b then nI k else lst μ a b k
/-- no two shuttles lie in one box -/
def UN (μ : Nat → Int32) : Prop := ∀ i j, i < 5 → j < 5 → μ (14 + 4 * i) = μ (14 + 4 * j) → μ (15 + 4 * i) = μ (15 + 4 * j) → ¬ μ (14 + 4 * i) = -6 → i = j
theorem lst_hit {μ : Nat → Int32} {a b : Int32} {k : Nat} (hk : k < 5) (h : μ (14 + 4 * k) = a ∧ μ (15 + 4 * k) = b) (hu : ∀ j, j < 5 → μ (14 + 4 * j) = a ∧ μ (15 + 4 * j) = b → j = k) : ∀ n, n ≤ 5 → k < n → lst μ a b n = nI k
  | 0, _, h2 => absurd h2 (Nat.not_lt_zero _)
  | n + 1, h5, h2 => by
    rw [lst]
    by_cases q : μ (14 + 4 * n) = a ∧ μ (15 + 4 * n) = b
    · rw [if_pos q, hu n (by omega) q]
    · rw [if_neg q]
      exact lst_hit hk h hu n (by omega) (by
        rcases Nat.lt_succ_iff_lt_or_eq.mp h2 with z | z
        · exact z
        · subst z; exact absurd h q)
theorem lst_no {μ : Nat → Int32} {a b : Int32} : ∀ n, n ≤ 5 → (∀ j, j < 5 → ¬ (μ (14 + 4 * j) = a ∧ μ (15 + 4 * j) = b)) → lst μ a b n = -6
  | 0, _, _ => rfl
  | n + 1, h5, h => by rw [lst, if_neg (h n (by omega)), lst_no n (by omega) h]
theorem fndF_hit2 {μ : Nat → Int32} {a b : Int32} {k : Nat} (h : μ (14 + 4 * k) = a ∧ μ (15 + 4 * k) = b) (hu : ∀ j, j < 5 → μ (14 + 4 * j) = a ∧ μ (15 + 4 * j) = b → j = k) : ∀ n i, n + i = 5 → i ≤ k → k < 5 → fndF μ a b n i = nI k
  | 0, i, h5, h1, h2 => absurd h1 (by omega)
  | n + 1, i, h5, h1, h2 => by
    rw [fndF]
    by_cases q : μ (14 + 4 * i) = a ∧ μ (15 + 4 * i) = b
    · rw [if_pos q, hu i (by omega) q]
    · rw [if_neg q]
      exact fndF_hit2 h hu n (i + 1) (by omega) (by
        rcases Nat.lt_or_ge i k with z | z
        · exact z
        · have : i = k := by omega
          subst this; exact absurd h q) h2
theorem fndF_no {μ : Nat → Int32} {a b : Int32} : ∀ n i, n + i = 5 → (∀ j, j < 5 → ¬ (μ (14 + 4 * j) = a ∧ μ (15 + 4 * j) = b)) → fndF μ a b n i = -6
  | 0, _, _, _ => rfl
  | n + 1, i, h5, h => by rw [fndF, if_neg (h i (by omega)), fndF_no n (i + 1) (by omega) h]
theorem lst_fnd {μ : Nat → Int32} (hU : UN μ) {a b : Int32} (ha : ¬ a = -6) : lst μ a b 5 = fnd μ a b := by
  by_cases hx : ∃ k, k < 5 ∧ (μ (14 + 4 * k) = a ∧ μ (15 + 4 * k) = b)
  · obtain ⟨k, hk, h⟩ := hx
    have hu : ∀ j, j < 5 → μ (14 + 4 * j) = a ∧ μ (15 + 4 * j) = b → j = k := fun j hj q => hU j k hj hk (q.1.trans h.1.symm) (q.2.trans h.2.symm) (by rw [q.1]; exact ha)
    rw [lst_hit hk h hu 5 (Nat.le_refl _) hk, fnd, fndF_hit2 h hu 5 0 rfl (Nat.zero_le _) hk]
  · have hn : ∀ j, j < 5 → ¬ (μ (14 + 4 * j) = a ∧ μ (15 + 4 * j) = b) := fun j hj q => hx ⟨j, hj, q⟩
    rw [lst_no 5 (Nat.le_refl _) hn, fnd, fndF_no 5 0 rfl hn]
set_option maxRecDepth 100000 in
set_option maxHeartbeats 4000000 in
theorem c_X8_isCard (l : Launch) (g : Ge) (N o : Nat) (μ kp hs tx ι : Nat → Int32) (v : Int32) (C : Nat) (hC : μ 0 = nI C) (hC16 : C ≤ 16) : Cb l g yX8_isCard (.code yX8_isCard cX8_isCard 2 (some .boolean)) 1 [.ref o, .int v] N o (mdL g o μ kp hs tx ι) (some (.int (bI ((0 : Int32) ≤ v ∧ v < μ 0 ∧ v < 16)))) (mdL g o μ kp hs tx ι) := by
  intro f hB0
  have hB : BB g N o 5 := hB0
  refine ct_of (own := RX8) [some (.ref o), some (.int v)] (by decide +kernel) rfl rfl (Nat.le_of_ble_eq_true rfl) ?_
  intro vp ve vs vm va vb vt vc hnm X
  refine v_iload_n X dX8_isCard_0 (i := 1) rfl rfl ?_
  refine v_iconst X dX8_isCard_1 (v := (0 : Int32)) (by decide) ?_
  refine v_aload_n X dX8_isCard_2 (i := 0) rfl rfl ?_
  refine v_getB X hB cf8 0 (Nat.le_of_ble_eq_true rfl) m_fl_X8_7 dX8_isCard_3 0 (Nat.le_of_ble_eq_true rfl) rfl rfl ?_
  refine v_iconst X dX8_isCard_6 (v := (0 : Int32)) (by decide) ?_
  refine v_ialdB X hB dX8_isCard_7 1 (Nat.le_of_ble_eq_true rfl) rfl 0 rfl (by omega) (Nat.le_of_ble_eq_true rfl) ?_
  refine v_iconst X dX8_isCard_8 (v := (1 : Int32)) (by decide) ?_
  refine v_isub X dX8_isCard_9 ?_
  refine v_cs X rfl yv_X8_within m_ml_X8_40 (c_X8_within l g v (0 : Int32) ((μ 0) - (1 : Int32)) ) rfl rfl (Nat.le_of_ble_eq_true rfl) ⟨Nat.le_of_ble_eq_true rfl, Nat.le_of_ble_eq_true rfl⟩ ⟨Nat.le_of_ble_eq_true rfl, Nat.le_of_ble_eq_true rfl⟩ dX8_isCard_10 rfl ?_
  exact v_zret X rfl dX8_isCard_13 (nar_b) (by rw [bI_c (isC_iff hC hC16)]) (rfl)
set_option maxRecDepth 100000 in
set_option maxHeartbeats 4000000 in
theorem c_X8_shuttleIn (l : Launch) (g : Ge) (N o : Nat) (μ kp hs tx ι : Nat → Int32) (a b : Int32) (hU : lst μ a b 5 = fnd μ a b) : Cb l g yX8_shuttleIn (.code yX8_shuttleIn cX8_shuttleIn 5 (some .int)) 1 [.ref o, .int a, .int b] N o (mdL g o μ kp hs tx ι) (some (.int (fnd μ a b))) (mdL g o μ kp hs tx ι) := by
  intro f hB0
  have hB : BB g N o 5 := hB0
  refine ct_of (own := RX8) [some (.ref o), some (.int a), some (.int b), none, none] (by decide +kernel) rfl rfl (Nat.le_of_ble_eq_true rfl) ?_
  intro vp ve vs vm va vb vt vc hnm X
  refine v_bipush X dX8_shuttleIn_0 (v := (-6 : Int32)) (by decide) ?_
  refine v_istore_n X dX8_shuttleIn_2 (i := 3) rfl (Nat.le_of_ble_eq_true rfl) rfl ?_
  refine v_iconst X dX8_shuttleIn_3 (v := (0 : Int32)) (by decide) ?_
  refine v_istore X dX8_shuttleIn_4 (Nat.le_of_ble_eq_true rfl) rfl ?_
  have LP6 : ∀ (n_ : Nat) (k : Nat), (k ≤ 5) → 5 - k < n_ → Vm vp l ve vs vm va vb vt vc g 1 5 N (some (.int (fnd μ a b))) (ovr f o (mdL g o μ kp hs tx ι)) (ovr f o (mdL g o μ kp hs tx ι)) 6 [some (.ref o), some (.int a), some (.int b), some (.int (lst μ a b k)), some (.int (nI k))] [] := by
    intro n_
    induction n_ with
    | zero => intro k hk hm_; exact absurd hm_ (Nat.not_lt_zero _)
    | succ n_ ih6 =>
      intro k hk hm6
      refine v_iload X dX8_shuttleIn_6 rfl ?_
      refine v_iconst X dX8_shuttleIn_8 (v := (5 : Int32)) (by decide) ?_
      refine v_icmp_ge X dX8_shuttleIn_9 (tgt := 47) (by decide) (fun c9 => ?_) (fun c9 => ?_)
      · skip
        have hk5 : k = 5 := Nat.le_antisymm hk (le_of_nI (a := 5) (by omega) (by omega) c9)
        refine v_iload_n X dX8_shuttleIn_47 (i := 3) rfl rfl ?_
        exact v_iret X rfl dX8_shuttleIn_48 (by subst hk5; rw [← hU]) (rfl)
      · skip
        have hk5 : k < 5 := lt_of_nI (b := 5) (by omega) (by omega) c9
        refine v_aload_n X dX8_shuttleIn_12 (i := 0) rfl rfl ?_
        refine v_iload X dX8_shuttleIn_13 rfl ?_
        refine v_iconst X dX8_shuttleIn_15 (v := (2 : Int32)) (by decide) ?_
        refine v_cvB X rfl yv_X8_shuttlePart m_ml_X8_44 0 0 (c_X8_shuttlePart l g N o (nI k) k rfl (2 : Int32) 2 rfl μ kp hs tx ι (by omega) (by omega)) hB (Nat.le_of_ble_eq_true rfl) rfl (Nat.le_of_ble_eq_true rfl) rfl (L' := (mdL g o μ kp hs tx ι)) (rfl) rfl (Nat.le_of_ble_eq_true rfl) rfl rfl (Nat.le_of_ble_eq_true rfl) ⟨Nat.le_of_ble_eq_true rfl, Nat.le_of_ble_eq_true rfl⟩ ⟨Nat.le_of_ble_eq_true rfl, Nat.le_of_ble_eq_true rfl⟩ dX8_shuttleIn_16 rfl ?_
        refine v_iload_n X dX8_shuttleIn_19 (i := 1) rfl rfl ?_
        refine v_icmp_ne X dX8_shuttleIn_20 (tgt := 39) (by decide) (fun c20 => ?_) (fun c20 => ?_)
        · skip
          refine v_iload_n X dX8_shuttleIn_39 (i := 3) rfl rfl ?_
          refine v_istore_n X dX8_shuttleIn_40 (i := 3) rfl (Nat.le_of_ble_eq_true rfl) rfl ?_
          refine v_iinc X dX8_shuttleIn_41 (v := nI (k + 1)) rfl (ix_inc rfl) (Nat.le_of_ble_eq_true rfl) rfl ?_
          refine v_goto X dX8_shuttleIn_44 (tgt := 6) (by decide) ?_
          exact V.cast (ih6 (k + 1) (by omega) (by omega)) (by rw [lst, if_neg (fun q => c20 q.1)]; rfl) (rfl) (rfl)
        · skip
          refine v_aload_n X dX8_shuttleIn_23 (i := 0) rfl rfl ?_
          refine v_iload X dX8_shuttleIn_24 rfl ?_
          refine v_iconst X dX8_shuttleIn_26 (v := (3 : Int32)) (by decide) ?_
          refine v_cvB X rfl yv_X8_shuttlePart m_ml_X8_44 0 0 (c_X8_shuttlePart l g N o (nI k) k rfl (3 : Int32) 3 rfl μ kp hs tx ι (by omega) (by omega)) hB (Nat.le_of_ble_eq_true rfl) rfl (Nat.le_of_ble_eq_true rfl) rfl (L' := (mdL g o μ kp hs tx ι)) (rfl) rfl (Nat.le_of_ble_eq_true rfl) rfl rfl (Nat.le_of_ble_eq_true rfl) ⟨Nat.le_of_ble_eq_true rfl, Nat.le_of_ble_eq_true rfl⟩ ⟨Nat.le_of_ble_eq_true rfl, Nat.le_of_ble_eq_true rfl⟩ dX8_shuttleIn_27 rfl ?_
          refine v_iload_n X dX8_shuttleIn_30 (i := 2) rfl rfl ?_
          refine v_icmp_ne X dX8_shuttleIn_31 (tgt := 39) (by decide) (fun c31 => ?_) (fun c31 => ?_)
          · skip
            refine v_iload_n X dX8_shuttleIn_39 (i := 3) rfl rfl ?_
            refine v_istore_n X dX8_shuttleIn_40 (i := 3) rfl (Nat.le_of_ble_eq_true rfl) rfl ?_
            refine v_iinc X dX8_shuttleIn_41 (v := nI (k + 1)) rfl (ix_inc rfl) (Nat.le_of_ble_eq_true rfl) rfl ?_
            refine v_goto X dX8_shuttleIn_44 (tgt := 6) (by decide) ?_
            exact V.cast (ih6 (k + 1) (by omega) (by omega)) (by rw [lst, if_neg (fun q => c31 q.2)]; rfl) (rfl) (rfl)
          · skip
            refine v_iload X dX8_shuttleIn_34 rfl ?_
            refine v_goto X dX8_shuttleIn_36 (tgt := 40) (by decide) ?_
            refine v_istore_n X dX8_shuttleIn_40 (i := 3) rfl (Nat.le_of_ble_eq_true rfl) rfl ?_
            refine v_iinc X dX8_shuttleIn_41 (v := nI (k + 1)) rfl (ix_inc rfl) (Nat.le_of_ble_eq_true rfl) rfl ?_
            refine v_goto X dX8_shuttleIn_44 (tgt := 6) (by decide) ?_
            exact V.cast (ih6 (k + 1) (by omega) (by omega)) (by rw [lst, if_pos ⟨c20, c31⟩]; rfl) (rfl) (rfl)
  exact LP6 _ 0 (Nat.zero_le _) (Nat.lt_succ_self _)
theorem bit01 (x : Int32) : x &&& 1 = 0 ∨ x &&& 1 = 1 := by
  have h : ∀ b : BitVec 32, b &&& 1#32 = 0#32 ∨ b &&& 1#32 = 1#32 := by
    intro b
    rcases Nat.mod_two_eq_zero_or_one b.toNat with q | q
    · left; apply BitVec.eq_of_toNat_eq; rw [BitVec.toNat_and]; exact (Nat.and_one_is_mod _).trans q
    · right; apply BitVec.eq_of_toNat_eq; rw [BitVec.toNat_and]; exact (Nat.and_one_is_mod _).trans q
  rcases h x.toBitVec with q | q
  · exact Or.inl (Int32.toBitVec_inj.mp q)
  · exact Or.inr (Int32.toBitVec_inj.mp q)
theorem ths_step (v s : Int32) (k : Nat) : v ||| ((s &&& 1) <<< (nI k &&& 31)) = if s &&& 1 = 1 then v ||| ((1 : Int32) <<< (nI k &&& 31)) else v := by
  rcases bit01 s with q | q
  · rw [q, if_neg (by decide), show (0 : Int32) <<< (nI k &&& 31) = 0 from ?_]
    · exact Int32.or_zero
    · apply Int32.toBitVec_inj.mp
      simp
  · rw [q, if_pos rfl]
set_option maxRecDepth 100000 in
set_option maxHeartbeats 4000000 in
theorem c_X8_threadsOf (l : Launch) (g : Ge) (N o : Nat) (μ kp hs tx ι : Nat → Int32) (fr : Int32) : Cb l g yX8_threadsOf (.code yX8_threadsOf cX8_threadsOf 4 (some .int)) 1 [.ref o, .int fr] N o (mdL g o μ kp hs tx ι) (some (.int (thS μ fr 12))) (mdL g o μ kp hs tx ι) := by
  intro f hB0
  have hB : BB g N o 5 := hB0
  refine ct_of (own := RX8) [some (.ref o), some (.int fr), none, none] (by decide +kernel) rfl rfl (Nat.le_of_ble_eq_true rfl) ?_
  intro vp ve vs vm va vb vt vc hnm X
  refine v_iconst X dX8_threadsOf_0 (v := (0 : Int32)) (by decide) ?_
  refine v_istore_n X dX8_threadsOf_1 (i := 2) rfl (Nat.le_of_ble_eq_true rfl) rfl ?_
  refine v_iconst X dX8_threadsOf_2 (v := (0 : Int32)) (by decide) ?_
  refine v_istore_n X dX8_threadsOf_3 (i := 3) rfl (Nat.le_of_ble_eq_true rfl) rfl ?_
  have LP4 : ∀ (n_ : Nat) (k : Nat), (k ≤ 12) → 12 - k < n_ → Vm vp l ve vs vm va vb vt vc g 1 4 N (some (.int (thS μ fr 12))) (ovr f o (mdL g o μ kp hs tx ι)) (ovr f o (mdL g o μ kp hs tx ι)) 4 [some (.ref o), some (.int fr), some (.int (thS μ fr k)), some (.int (nI k))] [] := by
    intro n_
    induction n_ with
    | zero => intro k hk hm_; exact absurd hm_ (Nat.not_lt_zero _)
    | succ n_ ih4 =>
      intro k hk hm4
      refine v_iload_n X dX8_threadsOf_4 (i := 3) rfl rfl ?_
      refine v_bipush X dX8_threadsOf_5 (v := (12 : Int32)) (by decide) ?_
      refine v_icmp_ge X dX8_threadsOf_7 (tgt := 31) (by decide) (fun c7 => ?_) (fun c7 => ?_)
      · skip
        have hk5 : k = 12 := Nat.le_antisymm hk (le_of_nI (a := 12) (by omega) (by omega) c7)
        refine v_iload_n X dX8_threadsOf_31 (i := 2) rfl rfl ?_
        exact v_iret X rfl dX8_threadsOf_32 (by rw [hk5]) (rfl)
      · skip
        have hk5 : k < 12 := lt_of_nI (b := 12) (by omega) (by omega) c7
        refine v_iload_n X dX8_threadsOf_10 (i := 2) rfl rfl ?_
        refine v_iload_n X dX8_threadsOf_11 (i := 1) rfl rfl ?_
        refine v_aload_n X dX8_threadsOf_12 (i := 0) rfl rfl ?_
        refine v_iload_n X dX8_threadsOf_13 (i := 3) rfl rfl ?_
        refine v_iconst X dX8_threadsOf_14 (v := (0 : Int32)) (by decide) ?_
        refine v_cvB X rfl yv_X8_threadPart m_ml_X8_48 0 0 (c_X8_threadPart l g N o (nI k) k rfl (0 : Int32) 0 rfl μ kp hs tx ι (by omega) (by omega)) hB (Nat.le_of_ble_eq_true rfl) rfl (Nat.le_of_ble_eq_true rfl) rfl (L' := (mdL g o μ kp hs tx ι)) (rfl) rfl (Nat.le_of_ble_eq_true rfl) rfl rfl (Nat.le_of_ble_eq_true rfl) ⟨Nat.le_of_ble_eq_true rfl, Nat.le_of_ble_eq_true rfl⟩ ⟨Nat.le_of_ble_eq_true rfl, Nat.le_of_ble_eq_true rfl⟩ dX8_threadsOf_15 rfl ?_
        refine v_ishr X dX8_threadsOf_18 ?_
        refine v_iconst X dX8_threadsOf_19 (v := (1 : Int32)) (by decide) ?_
        refine v_iand X dX8_threadsOf_20 ?_
        refine v_iload_n X dX8_threadsOf_21 (i := 3) rfl rfl ?_
        refine v_ishl X dX8_threadsOf_22 ?_
        refine v_ior X dX8_threadsOf_23 ?_
        refine v_istore_n X dX8_threadsOf_24 (i := 2) rfl (Nat.le_of_ble_eq_true rfl) rfl ?_
        refine v_iinc X dX8_threadsOf_25 (v := nI (k + 1)) rfl (ix_inc rfl) (Nat.le_of_ble_eq_true rfl) rfl ?_
        refine v_goto X dX8_threadsOf_28 (tgt := 4) (by decide) ?_
        exact V.cast (ih4 (k + 1) (by omega) (by omega)) (by rw [thS, ← ths_step]; rfl) (rfl) (rfl)
  exact LP4 _ 0 (Nat.zero_le _) (Nat.lt_succ_self _)
theorem sub1 (x : Int32) : x - 1 = x + (-1) := Int32.sub_eq_add_neg x 1
set_option maxRecDepth 100000 in
set_option maxHeartbeats 4000000 in
theorem c_X8_firstBroken (l : Launch) (g : Ge) (N o : Nat) (μ kp hs tx ι : Nat → Int32) : Cb l g yX8_firstBroken (.code yX8_firstBroken cX8_firstBroken 3 (some .int)) 1 [.ref o] N o (mdL g o μ kp hs tx ι) (some (.int (fbF μ 12 0))) (mdL g o μ kp hs tx ι) := by
  intro f hB0
  have hB : BB g N o 5 := hB0
  refine ct_of (own := RX8) [some (.ref o), none, none] (by decide +kernel) rfl rfl (Nat.le_of_ble_eq_true rfl) ?_
  intro vp ve vs vm va vb vt vc hnm X
  refine v_bipush X dX8_firstBroken_0 (v := (-6 : Int32)) (by decide) ?_
  refine v_istore_n X dX8_firstBroken_2 (i := 1) rfl (Nat.le_of_ble_eq_true rfl) rfl ?_
  refine v_bipush X dX8_firstBroken_3 (v := (11 : Int32)) (by decide) ?_
  refine v_istore_n X dX8_firstBroken_5 (i := 2) rfl (Nat.le_of_ble_eq_true rfl) rfl ?_
  have LP6 : ∀ (n_ : Nat) (k : Nat), (k ≤ 12) → k < n_ → Vm vp l ve vs vm va vb vt vc g 1 3 N (some (.int (fbF μ 12 0))) (ovr f o (mdL g o μ kp hs tx ι)) (ovr f o (mdL g o μ kp hs tx ι)) 6 [some (.ref o), some (.int (fbF μ (12 - k) k)), some (.int (nI k - 1))] [] := by
    intro n_
    induction n_ with
    | zero => intro k hk hm_; exact absurd hm_ (Nat.not_lt_zero _)
    | succ n_ ih6 =>
      intro k hk hm6
      refine v_iload_n X dX8_firstBroken_6 (i := 2) rfl rfl ?_
      refine v_if_lt X dX8_firstBroken_7 (tgt := 31) (by decide) (fun c7 => ?_) (fun c7 => ?_)
      · skip
        have hk0 : k = 0 := by
          rcases Nat.eq_zero_or_pos k with z | z
          · exact z
          · rw [show nI k - 1 = nI (k - 1) from pk_sub (b := 1) (by omega)] at c7
            exact absurd c7 (Int32.not_lt.mpr ((nI_leI (a := 0) (by omega) (by omega)).mpr (by omega)))
        refine v_iload_n X dX8_firstBroken_31 (i := 1) rfl rfl ?_
        exact v_iret X rfl dX8_firstBroken_32 (by rw [hk0]) (rfl)
      · skip
        obtain ⟨j, hj⟩ : ∃ j, k = j + 1 := by
          rcases Nat.eq_zero_or_pos k with z | z
          · subst z; exact absurd c7 (by decide)
          · exact ⟨k - 1, by omega⟩
        have hjj : nI k - 1 = nI j := by rw [hj]; exact pk_sub (b := 1) (by omega)
        refine v_aload_n X dX8_firstBroken_10 (i := 0) rfl rfl ?_
        refine v_iload_n X dX8_firstBroken_11 (i := 2) rfl rfl ?_
        refine v_iconst X dX8_firstBroken_12 (v := (1 : Int32)) (by decide) ?_
        refine v_cvB X rfl yv_X8_threadPart m_ml_X8_48 0 0 (c_X8_threadPart l g N o (nI k - 1) j hjj (1 : Int32) 1 rfl μ kp hs tx ι (by omega) (by omega)) hB (Nat.le_of_ble_eq_true rfl) rfl (Nat.le_of_ble_eq_true rfl) rfl (L' := (mdL g o μ kp hs tx ι)) (rfl) rfl (Nat.le_of_ble_eq_true rfl) rfl rfl (Nat.le_of_ble_eq_true rfl) ⟨Nat.le_of_ble_eq_true rfl, Nat.le_of_ble_eq_true rfl⟩ ⟨Nat.le_of_ble_eq_true rfl, Nat.le_of_ble_eq_true rfl⟩ dX8_firstBroken_13 rfl ?_
        refine v_if_ne X dX8_firstBroken_16 (tgt := 23) (by decide) (fun c16 => ?_) (fun c16 => ?_)
        · skip
          refine v_iload_n X dX8_firstBroken_23 (i := 1) rfl rfl ?_
          refine v_istore_n X dX8_firstBroken_24 (i := 1) rfl (Nat.le_of_ble_eq_true rfl) rfl ?_
          refine v_iinc X dX8_firstBroken_25 (v := ((nI k - 1) + (-1))) rfl rfl (Nat.le_of_ble_eq_true rfl) rfl ?_
          refine v_goto X dX8_firstBroken_28 (tgt := 6) (by decide) ?_
          exact V.cast (ih6 j (by omega) (by omega)) (by rw [show 12 - j = (12 - k) + 1 by omega, fbF, if_neg c16, ← hj, hjj, sub1 (nI j)]; rfl) (rfl) (rfl)
        · skip
          refine v_iload_n X dX8_firstBroken_19 (i := 2) rfl rfl ?_
          refine v_goto X dX8_firstBroken_20 (tgt := 24) (by decide) ?_
          refine v_istore_n X dX8_firstBroken_24 (i := 1) rfl (Nat.le_of_ble_eq_true rfl) rfl ?_
          refine v_iinc X dX8_firstBroken_25 (v := ((nI k - 1) + (-1))) rfl rfl (Nat.le_of_ble_eq_true rfl) rfl ?_
          refine v_goto X dX8_firstBroken_28 (tgt := 6) (by decide) ?_
          exact V.cast (ih6 j (by omega) (by omega)) (by rw [show 12 - j = (12 - k) + 1 by omega, fbF, if_pos c16, hjj, sub1 (nI j)]; rfl) (rfl) (rfl)
  exact V.cast (LP6 _ 12 (Nat.le_refl _) (Nat.lt_succ_self _)) (by rfl) (rfl) (rfl)
