/-! the model class: the changes -/
set_option maxRecDepth 100000 in
set_option maxHeartbeats 4000000 in
theorem c_X8_inBoxes (l : Launch) (g : Ge) (N o : Nat) (μ kp hs tx ι : Nat → Int32) : Cb l g yX8_inBoxes (.code yX8_inBoxes cX8_inBoxes 3 (some .int)) 1 [.ref o] N o (mdL g o μ kp hs tx ι) (some (.int (nbx μ 5))) (mdL g o μ kp hs tx ι) := by
  intro f hB0
  have hB : BB g N o 5 := hB0
  refine ct_of (own := RX8) [some (.ref o), none, none] (by decide +kernel) rfl rfl (Nat.le_of_ble_eq_true rfl) ?_
  intro vp ve vs vm va vb vt vc hnm X
  refine v_iconst X dX8_inBoxes_0 (v := (0 : Int32)) (by decide) ?_
  refine v_istore_n X dX8_inBoxes_1 (i := 1) rfl (Nat.le_of_ble_eq_true rfl) rfl ?_
  refine v_iconst X dX8_inBoxes_2 (v := (0 : Int32)) (by decide) ?_
  refine v_istore_n X dX8_inBoxes_3 (i := 2) rfl (Nat.le_of_ble_eq_true rfl) rfl ?_
  have LP4 : ∀ (n_ : Nat) (k : Nat), (k ≤ 5) → 5 - k < n_ → Vm vp l ve vs vm va vb vt vc g 1 3 N (some (.int (nbx μ 5))) (ovr f o (mdL g o μ kp hs tx ι)) (ovr f o (mdL g o μ kp hs tx ι)) 4 [some (.ref o), some (.int (nbx μ k)), some (.int (nI k))] [] := by
    intro n_
    induction n_ with
    | zero => intro k hk hm_; exact absurd hm_ (Nat.not_lt_zero _)
    | succ n_ ih4 =>
      intro k hk hm4
      refine v_iload_n X dX8_inBoxes_4 (i := 2) rfl rfl ?_
      refine v_iconst X dX8_inBoxes_5 (v := (5 : Int32)) (by decide) ?_
      refine v_icmp_ge X dX8_inBoxes_6 (tgt := 34) (by decide) (fun c6 => ?_) (fun c6 => ?_)
      · skip
        have hk5 : k = 5 := Nat.le_antisymm hk (le_of_nI (a := 5) (by omega) (by omega) c6)
        refine v_iload_n X dX8_inBoxes_34 (i := 1) rfl rfl ?_
        exact v_iret X rfl dX8_inBoxes_35 (by rw [hk5]) (rfl)
      · skip
        have hk5 : k < 5 := lt_of_nI (b := 5) (by omega) (by omega) c6
        refine v_iload_n X dX8_inBoxes_9 (i := 1) rfl rfl ?_
        refine v_aload_n X dX8_inBoxes_10 (i := 0) rfl rfl ?_
        refine v_iload_n X dX8_inBoxes_11 (i := 2) rfl rfl ?_
        refine v_iconst X dX8_inBoxes_12 (v := (2 : Int32)) (by decide) ?_
        refine v_cvB X rfl yv_X8_shuttlePart m_ml_X8_44 0 0 (c_X8_shuttlePart l g N o (nI k) k rfl (2 : Int32) 2 rfl μ kp hs tx ι (by omega) (by omega)) hB (Nat.le_of_ble_eq_true rfl) rfl (Nat.le_of_ble_eq_true rfl) rfl (L' := (mdL g o μ kp hs tx ι)) (rfl) rfl (Nat.le_of_ble_eq_true rfl) rfl rfl (Nat.le_of_ble_eq_true rfl) ⟨Nat.le_of_ble_eq_true rfl, Nat.le_of_ble_eq_true rfl⟩ ⟨Nat.le_of_ble_eq_true rfl, Nat.le_of_ble_eq_true rfl⟩ dX8_inBoxes_13 rfl ?_
        refine v_bipush X dX8_inBoxes_16 (v := (-6 : Int32)) (by decide) ?_
        refine v_icmp_ne X dX8_inBoxes_18 (tgt := 25) (by decide) (fun c18 => ?_) (fun c18 => ?_)
        · skip
          refine v_iconst X dX8_inBoxes_25 (v := (1 : Int32)) (by decide) ?_
          refine v_iadd X dX8_inBoxes_26 ?_
          refine v_istore_n X dX8_inBoxes_27 (i := 1) rfl (Nat.le_of_ble_eq_true rfl) rfl ?_
          refine v_iinc X dX8_inBoxes_28 (v := nI (k + 1)) rfl (ix_inc rfl) (Nat.le_of_ble_eq_true rfl) rfl ?_
          refine v_goto X dX8_inBoxes_31 (tgt := 4) (by decide) ?_
          exact V.cast (ih4 (k + 1) (by omega) (by omega)) (by rw [nbx, if_neg c18]; rfl) (rfl) (rfl)
        · skip
          refine v_iconst X dX8_inBoxes_21 (v := (0 : Int32)) (by decide) ?_
          refine v_goto X dX8_inBoxes_22 (tgt := 26) (by decide) ?_
          refine v_iadd X dX8_inBoxes_26 ?_
          refine v_istore_n X dX8_inBoxes_27 (i := 1) rfl (Nat.le_of_ble_eq_true rfl) rfl ?_
          refine v_iinc X dX8_inBoxes_28 (v := nI (k + 1)) rfl (ix_inc rfl) (Nat.le_of_ble_eq_true rfl) rfl ?_
          refine v_goto X dX8_inBoxes_31 (tgt := 4) (by decide) ?_
          exact V.cast (ih4 (k + 1) (by omega) (by omega)) (by rw [nbx, if_pos c18, Int32.add_zero]; rfl) (rfl) (rfl)
  exact LP4 _ 0 (Nat.zero_le _) (Nat.lt_succ_self _)
set_option maxRecDepth 100000 in
set_option maxHeartbeats 4000000 in
theorem c_X8_putIn (l : Launch) (g : Ge) (N o : Nat) (μ kp hs tx ι : Nat → Int32) (n : Nat) (v a b : Int32) (hU : UN μ) (hn : ι 0 = nI n) (hn6 : n ≤ 6) : Cb l g yX8_putIn (.code yX8_putIn cX8_putIn 4 (some .int)) 4 [.ref o, .int v, .int a, .int b] N o (mdL g o μ kp hs tx ι) (some (.int (if (piE μ v a b) = 0 then (nbx (upd (upd (c8 μ) (14 + 4 * nt v) a) (15 + 4 * nt v) b) 5) else (piE μ v a b)))) (mdL g o (if (piE μ v a b) = 0 then (upd (upd (c8 μ) (14 + 4 * nt v) a) (15 + 4 * nt v) b) else μ) kp (if (piE μ v a b) = 0 then rcH hs n μ else hs) tx (if (piE μ v a b) = 0 then rcI ι n else ι)) := by
  intro f hB0
  have hB : BB g N o 5 := hB0
  refine ct_of (own := RX8) [some (.ref o), some (.int v), some (.int a), some (.int b)] (by decide +kernel) rfl rfl (Nat.le_of_ble_eq_true rfl) ?_
  intro vp ve vs vm va vb vt vc hnm X
  refine v_iload_n X dX8_putIn_0 (i := 1) rfl rfl ?_
  refine v_cs X rfl yv_X8_isShuttle m_ml_X8_92 (c_X8_isShuttle l g v ) rfl rfl (Nat.le_of_ble_eq_true rfl) ⟨Nat.le_of_ble_eq_true rfl, Nat.le_of_ble_eq_true rfl⟩ ⟨Nat.le_of_ble_eq_true rfl, Nat.le_of_ble_eq_true rfl⟩ dX8_putIn_1 rfl ?_
  refine v_if_eqB X dX8_putIn_4 (tgt := 15) (by decide) (fun c4 => ?_) (fun c4 => ?_)
  · skip
    refine v_iconst X dX8_putIn_15 (v := (-1 : Int32)) (by decide) ?_
    have hE : (piE μ v a b) = (-1 : Int32) := by rw [piE, if_pos c4]
    exact v_iret X rfl dX8_putIn_16 (by rw [hE]; rfl) (by rw [hE]; rfl)
  · skip
    obtain ⟨k, hk, rfl⟩ := nI_cases (n := 4) (by omega) c4.1 c4.2
    refine v_iload_n X dX8_putIn_7 (i := 2) rfl rfl ?_
    refine v_iload_n X dX8_putIn_8 (i := 3) rfl rfl ?_
    refine v_cs X rfl yv_X8_isBox m_ml_X8_95 (c_X8_isBox l g a b ) rfl rfl (Nat.le_of_ble_eq_true rfl) ⟨Nat.le_of_ble_eq_true rfl, Nat.le_of_ble_eq_true rfl⟩ ⟨Nat.le_of_ble_eq_true rfl, Nat.le_of_ble_eq_true rfl⟩ dX8_putIn_9 rfl ?_
    refine v_if_neB X dX8_putIn_12 (tgt := 17) (by decide) (fun c12 => ?_) (fun c12 => ?_)
    · skip
      have hkk : nt (nI k) = k := nt_nI (by omega)
      refine v_aload_n X dX8_putIn_17 (i := 0) rfl rfl ?_
      refine v_iload_n X dX8_putIn_18 (i := 1) rfl rfl ?_
      refine v_iconst X dX8_putIn_19 (v := (2 : Int32)) (by decide) ?_
      refine v_cvB X rfl yv_X8_shuttlePart m_ml_X8_44 0 0 (c_X8_shuttlePart l g N o (nI k) k rfl (2 : Int32) 2 rfl μ kp hs tx ι hk (by omega)) hB (Nat.le_of_ble_eq_true rfl) rfl (Nat.le_of_ble_eq_true rfl) rfl (L' := (mdL g o μ kp hs tx ι)) (rfl) rfl (Nat.le_of_ble_eq_true rfl) rfl rfl (Nat.le_of_ble_eq_true rfl) ⟨Nat.le_of_ble_eq_true rfl, Nat.le_of_ble_eq_true rfl⟩ ⟨Nat.le_of_ble_eq_true rfl, Nat.le_of_ble_eq_true rfl⟩ dX8_putIn_20 rfl ?_
      refine v_bipush X dX8_putIn_23 (v := (-6 : Int32)) (by decide) ?_
      refine v_icmp_ne X dX8_putIn_25 (tgt := 39) (by decide) (fun c25 => ?_) (fun c25 => ?_)
      · skip
        refine v_bipush X dX8_putIn_39 (v := (-3 : Int32)) (by decide) ?_
        have hE : (piE μ (nI k) a b) = (-3 : Int32) := by rw [piE, if_neg (not_not_intro c4), if_neg (not_not_intro c12), hkk, if_pos c25]
        exact v_iret X rfl dX8_putIn_41 (by rw [hE]; rfl) (by rw [hE]; rfl)
      · skip
        refine v_aload_n X dX8_putIn_28 (i := 0) rfl rfl ?_
        refine v_iload_n X dX8_putIn_29 (i := 2) rfl rfl ?_
        refine v_iload_n X dX8_putIn_30 (i := 3) rfl rfl ?_
        refine v_cvB X rfl yv_X8_shuttleIn m_ml_X8_60 0 0 (c_X8_shuttleIn l g N o μ kp hs tx ι a b (lst_fnd hU (by rcases c12 with q | q <;> rw [q.1] <;> decide))) hB (Nat.le_of_ble_eq_true rfl) rfl (Nat.le_of_ble_eq_true rfl) rfl (L' := (mdL g o μ kp hs tx ι)) (rfl) rfl (Nat.le_of_ble_eq_true rfl) rfl rfl (Nat.le_of_ble_eq_true rfl) ⟨Nat.le_of_ble_eq_true rfl, Nat.le_of_ble_eq_true rfl⟩ ⟨Nat.le_of_ble_eq_true rfl, Nat.le_of_ble_eq_true rfl⟩ dX8_putIn_31 rfl ?_
        refine v_bipush X dX8_putIn_34 (v := (-6 : Int32)) (by decide) ?_
        refine v_icmp_eq X dX8_putIn_36 (tgt := 42) (by decide) (fun c36 => ?_) (fun c36 => ?_)
        · skip
          refine v_aload_n X dX8_putIn_42 (i := 0) rfl rfl ?_
          refine v_cvB X rfl yv_X8_recordOther m_ml_X8_99 0 0 (c_X8_recordOther l g N o μ kp hs tx ι n hn hn6) hB (Nat.le_of_ble_eq_true rfl) rfl (Nat.le_of_ble_eq_true rfl) rfl (L' := (mdL g o (c8 μ) kp (rcH hs n μ) tx (rcI ι n))) (rfl) rfl (Nat.le_of_ble_eq_true rfl) rfl rfl (Nat.le_of_ble_eq_true rfl) ⟨Nat.le_of_ble_eq_true rfl, Nat.le_of_ble_eq_true rfl⟩ ⟨Nat.le_of_ble_eq_true rfl, Nat.le_of_ble_eq_true rfl⟩ dX8_putIn_43 rfl ?_
          refine v_aload_n X dX8_putIn_46 (i := 0) rfl rfl ?_
          refine v_iload_n X dX8_putIn_47 (i := 1) rfl rfl ?_
          refine v_iconst X dX8_putIn_48 (v := (2 : Int32)) (by decide) ?_
          refine v_iload_n X dX8_putIn_49 (i := 2) rfl rfl ?_
          refine v_cvB X rfl yv_X8_setShuttle m_ml_X8_22 0 0 (c_X8_setShuttle l g N o (nI k) k rfl (2 : Int32) 2 rfl (c8 μ) kp (rcH hs n μ) tx (rcI ι n) a hk (by omega)) hB (Nat.le_of_ble_eq_true rfl) rfl (Nat.le_of_ble_eq_true rfl) rfl (L' := (mdL g o (upd (c8 μ) (12 + 2 + 4 * k) a) kp (rcH hs n μ) tx (rcI ι n))) (rfl) rfl (Nat.le_of_ble_eq_true rfl) rfl rfl (Nat.le_of_ble_eq_true rfl) ⟨Nat.le_of_ble_eq_true rfl, Nat.le_of_ble_eq_true rfl⟩ ⟨Nat.le_of_ble_eq_true rfl, Nat.le_of_ble_eq_true rfl⟩ dX8_putIn_50 rfl ?_
          refine v_aload_n X dX8_putIn_53 (i := 0) rfl rfl ?_
          refine v_iload_n X dX8_putIn_54 (i := 1) rfl rfl ?_
          refine v_iconst X dX8_putIn_55 (v := (3 : Int32)) (by decide) ?_
          refine v_iload_n X dX8_putIn_56 (i := 3) rfl rfl ?_
          refine v_cvB X rfl yv_X8_setShuttle m_ml_X8_22 0 0 (c_X8_setShuttle l g N o (nI k) k rfl (3 : Int32) 3 rfl (upd (c8 μ) (14 + 4 * k) a) kp (rcH hs n μ) tx (rcI ι n) b hk (by omega)) hB (Nat.le_of_ble_eq_true rfl) rfl (Nat.le_of_ble_eq_true rfl) rfl (L' := (mdL g o (upd (upd (c8 μ) (14 + 4 * k) a) (12 + 3 + 4 * k) b) kp (rcH hs n μ) tx (rcI ι n))) (rfl) rfl (Nat.le_of_ble_eq_true rfl) rfl rfl (Nat.le_of_ble_eq_true rfl) ⟨Nat.le_of_ble_eq_true rfl, Nat.le_of_ble_eq_true rfl⟩ ⟨Nat.le_of_ble_eq_true rfl, Nat.le_of_ble_eq_true rfl⟩ dX8_putIn_57 rfl ?_
          refine v_aload_n X dX8_putIn_60 (i := 0) rfl rfl ?_
          refine v_cvB X rfl yv_X8_inBoxes m_ml_X8_102 0 0 (c_X8_inBoxes l g N o (upd (upd (c8 μ) (14 + 4 * k) a) (15 + 4 * k) b) kp (rcH hs n μ) tx (rcI ι n) ) hB (Nat.le_of_ble_eq_true rfl) rfl (Nat.le_of_ble_eq_true rfl) rfl (L' := (mdL g o (upd (upd (c8 μ) (14 + 4 * k) a) (15 + 4 * k) b) kp (rcH hs n μ) tx (rcI ι n))) (rfl) rfl (Nat.le_of_ble_eq_true rfl) rfl rfl (Nat.le_of_ble_eq_true rfl) ⟨Nat.le_of_ble_eq_true rfl, Nat.le_of_ble_eq_true rfl⟩ ⟨Nat.le_of_ble_eq_true rfl, Nat.le_of_ble_eq_true rfl⟩ dX8_putIn_61 rfl ?_
          have hE : (piE μ (nI k) a b) = (0 : Int32) := by rw [piE, if_neg (not_not_intro c4), if_neg (not_not_intro c12), hkk, if_neg (not_not_intro c25), if_neg (not_not_intro c36)]
          exact v_iret X rfl dX8_putIn_64 (by rw [hE, hkk]; rfl) (by rw [hE, hkk]; rfl)
        · skip
          refine v_bipush X dX8_putIn_39 (v := (-3 : Int32)) (by decide) ?_
          have hE : (piE μ (nI k) a b) = (-3 : Int32) := by rw [piE, if_neg (not_not_intro c4), if_neg (not_not_intro c12), hkk, if_neg (not_not_intro c25), if_pos c36]
          exact v_iret X rfl dX8_putIn_41 (by rw [hE]; rfl) (by rw [hE]; rfl)
    · skip
      refine v_iconst X dX8_putIn_15 (v := (-1 : Int32)) (by decide) ?_
      have hE : (piE μ (nI k) a b) = (-1 : Int32) := by rw [piE, if_neg (not_not_intro c4), if_pos c12]
      exact v_iret X rfl dX8_putIn_16 (by rw [hE]; rfl) (by rw [hE]; rfl)
set_option maxRecDepth 100000 in
set_option maxHeartbeats 4000000 in
theorem c_X8_takeOut (l : Launch) (g : Ge) (N o : Nat) (μ kp hs tx ι : Nat → Int32) (n : Nat) (v : Int32) (hn : ι 0 = nI n) (hn6 : n ≤ 6) : Cb l g yX8_takeOut (.code yX8_takeOut cX8_takeOut 3 (some .int)) 4 [.ref o, .int v] N o (mdL g o μ kp hs tx ι) (some (.int (if (toE μ v) = 0 then ((10 : Int32) * c8 μ (14 + 4 * nt v) + c8 μ (15 + 4 * nt v)) else (toE μ v)))) (mdL g o (if (toE μ v) = 0 then (upd (upd (c8 μ) (14 + 4 * nt v) (-6)) (15 + 4 * nt v) (-6)) else μ) kp (if (toE μ v) = 0 then rcH hs n μ else hs) tx (if (toE μ v) = 0 then rcI ι n else ι)) := by
  intro f hB0
  have hB : BB g N o 5 := hB0
  refine ct_of (own := RX8) [some (.ref o), some (.int v), none] (by decide +kernel) rfl rfl (Nat.le_of_ble_eq_true rfl) ?_
  intro vp ve vs vm va vb vt vc hnm X
  refine v_iload_n X dX8_takeOut_0 (i := 1) rfl rfl ?_
  refine v_cs X rfl yv_X8_isShuttle m_ml_X8_92 (c_X8_isShuttle l g v ) rfl rfl (Nat.le_of_ble_eq_true rfl) ⟨Nat.le_of_ble_eq_true rfl, Nat.le_of_ble_eq_true rfl⟩ ⟨Nat.le_of_ble_eq_true rfl, Nat.le_of_ble_eq_true rfl⟩ dX8_takeOut_1 rfl ?_
  refine v_if_neB X dX8_takeOut_4 (tgt := 9) (by decide) (fun c4 => ?_) (fun c4 => ?_)
  · skip
    obtain ⟨k, hk, rfl⟩ := nI_cases (n := 4) (by omega) c4.1 c4.2
    have hkk : nt (nI k) = k := nt_nI (by omega)
    refine v_aload_n X dX8_takeOut_9 (i := 0) rfl rfl ?_
    refine v_iload_n X dX8_takeOut_10 (i := 1) rfl rfl ?_
    refine v_iconst X dX8_takeOut_11 (v := (2 : Int32)) (by decide) ?_
    refine v_cvB X rfl yv_X8_shuttlePart m_ml_X8_44 0 0 (c_X8_shuttlePart l g N o (nI k) k rfl (2 : Int32) 2 rfl μ kp hs tx ι hk (by omega)) hB (Nat.le_of_ble_eq_true rfl) rfl (Nat.le_of_ble_eq_true rfl) rfl (L' := (mdL g o μ kp hs tx ι)) (rfl) rfl (Nat.le_of_ble_eq_true rfl) rfl rfl (Nat.le_of_ble_eq_true rfl) ⟨Nat.le_of_ble_eq_true rfl, Nat.le_of_ble_eq_true rfl⟩ ⟨Nat.le_of_ble_eq_true rfl, Nat.le_of_ble_eq_true rfl⟩ dX8_takeOut_12 rfl ?_
    refine v_bipush X dX8_takeOut_15 (v := (-6 : Int32)) (by decide) ?_
    refine v_icmp_ne X dX8_takeOut_17 (tgt := 23) (by decide) (fun c17 => ?_) (fun c17 => ?_)
    · skip
      refine v_aload_n X dX8_takeOut_23 (i := 0) rfl rfl ?_
      refine v_cvB X rfl yv_X8_recordOther m_ml_X8_99 0 0 (c_X8_recordOther l g N o μ kp hs tx ι n hn hn6) hB (Nat.le_of_ble_eq_true rfl) rfl (Nat.le_of_ble_eq_true rfl) rfl (L' := (mdL g o (c8 μ) kp (rcH hs n μ) tx (rcI ι n))) (rfl) rfl (Nat.le_of_ble_eq_true rfl) rfl rfl (Nat.le_of_ble_eq_true rfl) ⟨Nat.le_of_ble_eq_true rfl, Nat.le_of_ble_eq_true rfl⟩ ⟨Nat.le_of_ble_eq_true rfl, Nat.le_of_ble_eq_true rfl⟩ dX8_takeOut_24 rfl ?_
      refine v_bipush X dX8_takeOut_27 (v := (10 : Int32)) (by decide) ?_
      refine v_aload_n X dX8_takeOut_29 (i := 0) rfl rfl ?_
      refine v_iload_n X dX8_takeOut_30 (i := 1) rfl rfl ?_
      refine v_iconst X dX8_takeOut_31 (v := (2 : Int32)) (by decide) ?_
      refine v_cvB X rfl yv_X8_shuttlePart m_ml_X8_44 0 0 (c_X8_shuttlePart l g N o (nI k) k rfl (2 : Int32) 2 rfl (c8 μ) kp (rcH hs n μ) tx (rcI ι n) hk (by omega)) hB (Nat.le_of_ble_eq_true rfl) rfl (Nat.le_of_ble_eq_true rfl) rfl (L' := (mdL g o (c8 μ) kp (rcH hs n μ) tx (rcI ι n))) (rfl) rfl (Nat.le_of_ble_eq_true rfl) rfl rfl (Nat.le_of_ble_eq_true rfl) ⟨Nat.le_of_ble_eq_true rfl, Nat.le_of_ble_eq_true rfl⟩ ⟨Nat.le_of_ble_eq_true rfl, Nat.le_of_ble_eq_true rfl⟩ dX8_takeOut_32 rfl ?_
      refine v_imul X dX8_takeOut_35 ?_
      refine v_aload_n X dX8_takeOut_36 (i := 0) rfl rfl ?_
      refine v_iload_n X dX8_takeOut_37 (i := 1) rfl rfl ?_
      refine v_iconst X dX8_takeOut_38 (v := (3 : Int32)) (by decide) ?_
      refine v_cvB X rfl yv_X8_shuttlePart m_ml_X8_44 0 0 (c_X8_shuttlePart l g N o (nI k) k rfl (3 : Int32) 3 rfl (c8 μ) kp (rcH hs n μ) tx (rcI ι n) hk (by omega)) hB (Nat.le_of_ble_eq_true rfl) rfl (Nat.le_of_ble_eq_true rfl) rfl (L' := (mdL g o (c8 μ) kp (rcH hs n μ) tx (rcI ι n))) (rfl) rfl (Nat.le_of_ble_eq_true rfl) rfl rfl (Nat.le_of_ble_eq_true rfl) ⟨Nat.le_of_ble_eq_true rfl, Nat.le_of_ble_eq_true rfl⟩ ⟨Nat.le_of_ble_eq_true rfl, Nat.le_of_ble_eq_true rfl⟩ dX8_takeOut_39 rfl ?_
      refine v_iadd X dX8_takeOut_42 ?_
      refine v_istore_n X dX8_takeOut_43 (i := 2) rfl (Nat.le_of_ble_eq_true rfl) rfl ?_
      refine v_aload_n X dX8_takeOut_44 (i := 0) rfl rfl ?_
      refine v_iload_n X dX8_takeOut_45 (i := 1) rfl rfl ?_
      refine v_iconst X dX8_takeOut_46 (v := (2 : Int32)) (by decide) ?_
      refine v_bipush X dX8_takeOut_47 (v := (-6 : Int32)) (by decide) ?_
      refine v_cvB X rfl yv_X8_setShuttle m_ml_X8_22 0 0 (c_X8_setShuttle l g N o (nI k) k rfl (2 : Int32) 2 rfl (c8 μ) kp (rcH hs n μ) tx (rcI ι n) (-6 : Int32) hk (by omega)) hB (Nat.le_of_ble_eq_true rfl) rfl (Nat.le_of_ble_eq_true rfl) rfl (L' := (mdL g o (upd (c8 μ) (12 + 2 + 4 * k) (-6 : Int32)) kp (rcH hs n μ) tx (rcI ι n))) (rfl) rfl (Nat.le_of_ble_eq_true rfl) rfl rfl (Nat.le_of_ble_eq_true rfl) ⟨Nat.le_of_ble_eq_true rfl, Nat.le_of_ble_eq_true rfl⟩ ⟨Nat.le_of_ble_eq_true rfl, Nat.le_of_ble_eq_true rfl⟩ dX8_takeOut_49 rfl ?_
      refine v_aload_n X dX8_takeOut_52 (i := 0) rfl rfl ?_
      refine v_iload_n X dX8_takeOut_53 (i := 1) rfl rfl ?_
      refine v_iconst X dX8_takeOut_54 (v := (3 : Int32)) (by decide) ?_
      refine v_bipush X dX8_takeOut_55 (v := (-6 : Int32)) (by decide) ?_
      refine v_cvB X rfl yv_X8_setShuttle m_ml_X8_22 0 0 (c_X8_setShuttle l g N o (nI k) k rfl (3 : Int32) 3 rfl (upd (c8 μ) (14 + 4 * k) (-6 : Int32)) kp (rcH hs n μ) tx (rcI ι n) (-6 : Int32) hk (by omega)) hB (Nat.le_of_ble_eq_true rfl) rfl (Nat.le_of_ble_eq_true rfl) rfl (L' := (mdL g o (upd (upd (c8 μ) (14 + 4 * k) (-6 : Int32)) (12 + 3 + 4 * k) (-6 : Int32)) kp (rcH hs n μ) tx (rcI ι n))) (rfl) rfl (Nat.le_of_ble_eq_true rfl) rfl rfl (Nat.le_of_ble_eq_true rfl) ⟨Nat.le_of_ble_eq_true rfl, Nat.le_of_ble_eq_true rfl⟩ ⟨Nat.le_of_ble_eq_true rfl, Nat.le_of_ble_eq_true rfl⟩ dX8_takeOut_57 rfl ?_
      refine v_iload_n X dX8_takeOut_60 (i := 2) rfl rfl ?_
      have hE : (toE μ (nI k)) = (0 : Int32) := by rw [toE, if_neg (not_not_intro c4), hkk, if_neg c17]
      exact v_iret X rfl dX8_takeOut_61 (by rw [hE, hkk]; rfl) (by rw [hE, hkk]; rfl)
    · skip
      refine v_bipush X dX8_takeOut_20 (v := (-3 : Int32)) (by decide) ?_
      have hE : (toE μ (nI k)) = (-3 : Int32) := by rw [toE, if_neg (not_not_intro c4), hkk, if_pos c17]
      exact v_iret X rfl dX8_takeOut_22 (by rw [hE]; rfl) (by rw [hE]; rfl)
  · skip
    refine v_iconst X dX8_takeOut_7 (v := (-1 : Int32)) (by decide) ?_
    have hE : (toE μ v) = (-1 : Int32) := by rw [toE, if_pos c4]
    exact v_iret X rfl dX8_takeOut_8 (by rw [hE]; rfl) (by rw [hE]; rfl)
set_option maxRecDepth 100000 in
set_option maxHeartbeats 4000000 in
theorem c_X8_wind (l : Launch) (g : Ge) (N o : Nat) (μ kp hs tx ι : Nat → Int32) (n : Nat) (v a b : Int32) (hn : ι 0 = nI n) (hn6 : n ≤ 6) : Cb l g yX8_wind (.code yX8_wind cX8_wind 5 (some .int)) 4 [.ref o, .int v, .int a, .int b] N o (mdL g o μ kp hs tx ι) (some (.int (if (wiE μ v a b) = 0 then (c8 μ (13 + 4 * nt v)) else (wiE μ v a b)))) (mdL g o (if (wiE μ v a b) = 0 then (upd (upd (c8 μ) (12 + 4 * nt v) a) (13 + 4 * nt v) b) else μ) kp (if (wiE μ v a b) = 0 then rcH hs n μ else hs) tx (if (wiE μ v a b) = 0 then rcI ι n else ι)) := by
  intro f hB0
  have hB : BB g N o 5 := hB0
  refine ct_of (own := RX8) [some (.ref o), some (.int v), some (.int a), some (.int b), none] (by decide +kernel) rfl rfl (Nat.le_of_ble_eq_true rfl) ?_
  intro vp ve vs vm va vb vt vc hnm X
  refine v_iload_n X dX8_wind_0 (i := 1) rfl rfl ?_
  refine v_cs X rfl yv_X8_isShuttle m_ml_X8_92 (c_X8_isShuttle l g v ) rfl rfl (Nat.le_of_ble_eq_true rfl) ⟨Nat.le_of_ble_eq_true rfl, Nat.le_of_ble_eq_true rfl⟩ ⟨Nat.le_of_ble_eq_true rfl, Nat.le_of_ble_eq_true rfl⟩ dX8_wind_1 rfl ?_
  refine v_if_neB X dX8_wind_4 (tgt := 9) (by decide) (fun c4 => ?_) (fun c4 => ?_)
  · skip
    obtain ⟨k, hk, rfl⟩ := nI_cases (n := 4) (by omega) c4.1 c4.2
    have hkk : nt (nI k) = k := nt_nI (by omega)
    refine v_iload_n X dX8_wind_9 (i := 2) rfl rfl ?_
    refine v_iconst X dX8_wind_10 (v := (0 : Int32)) (by decide) ?_
    refine v_bipush X dX8_wind_11 (v := (9 : Int32)) (by decide) ?_
    refine v_cs X rfl yv_X8_within m_ml_X8_40 (c_X8_within l g a (0 : Int32) (9 : Int32) ) rfl rfl (Nat.le_of_ble_eq_true rfl) ⟨Nat.le_of_ble_eq_true rfl, Nat.le_of_ble_eq_true rfl⟩ ⟨Nat.le_of_ble_eq_true rfl, Nat.le_of_ble_eq_true rfl⟩ dX8_wind_13 rfl ?_
    refine v_if_eqB X dX8_wind_16 (tgt := 29) (by decide) (fun c16 => ?_) (fun c16 => ?_)
    · skip
      refine v_bipush X dX8_wind_29 (v := (-2 : Int32)) (by decide) ?_
      have hE : (wiE μ (nI k) a b) = (-2 : Int32) := by rw [wiE, if_neg (not_not_intro c4), if_pos c16]
      exact v_iret X rfl dX8_wind_31 (by rw [hE]; rfl) (by rw [hE]; rfl)
    · skip
      refine v_iload_n X dX8_wind_19 (i := 3) rfl rfl ?_
      refine v_iconst X dX8_wind_20 (v := (0 : Int32)) (by decide) ?_
      refine v_bipush X dX8_wind_21 (v := (99 : Int32)) (by decide) ?_
      refine v_cs X rfl yv_X8_within m_ml_X8_40 (c_X8_within l g b (0 : Int32) (99 : Int32) ) rfl rfl (Nat.le_of_ble_eq_true rfl) ⟨Nat.le_of_ble_eq_true rfl, Nat.le_of_ble_eq_true rfl⟩ ⟨Nat.le_of_ble_eq_true rfl, Nat.le_of_ble_eq_true rfl⟩ dX8_wind_23 rfl ?_
      refine v_if_neB X dX8_wind_26 (tgt := 32) (by decide) (fun c26 => ?_) (fun c26 => ?_)
      · skip
        refine v_aload_n X dX8_wind_32 (i := 0) rfl rfl ?_
        refine v_iload_n X dX8_wind_33 (i := 1) rfl rfl ?_
        refine v_iconst X dX8_wind_34 (v := (2 : Int32)) (by decide) ?_
        refine v_cvB X rfl yv_X8_shuttlePart m_ml_X8_44 0 0 (c_X8_shuttlePart l g N o (nI k) k rfl (2 : Int32) 2 rfl μ kp hs tx ι hk (by omega)) hB (Nat.le_of_ble_eq_true rfl) rfl (Nat.le_of_ble_eq_true rfl) rfl (L' := (mdL g o μ kp hs tx ι)) (rfl) rfl (Nat.le_of_ble_eq_true rfl) rfl rfl (Nat.le_of_ble_eq_true rfl) ⟨Nat.le_of_ble_eq_true rfl, Nat.le_of_ble_eq_true rfl⟩ ⟨Nat.le_of_ble_eq_true rfl, Nat.le_of_ble_eq_true rfl⟩ dX8_wind_35 rfl ?_
        refine v_bipush X dX8_wind_38 (v := (-6 : Int32)) (by decide) ?_
        refine v_icmp_eq X dX8_wind_40 (tgt := 46) (by decide) (fun c40 => ?_) (fun c40 => ?_)
        · skip
          refine v_aload_n X dX8_wind_46 (i := 0) rfl rfl ?_
          refine v_cvB X rfl yv_X8_recordOther m_ml_X8_99 0 0 (c_X8_recordOther l g N o μ kp hs tx ι n hn hn6) hB (Nat.le_of_ble_eq_true rfl) rfl (Nat.le_of_ble_eq_true rfl) rfl (L' := (mdL g o (c8 μ) kp (rcH hs n μ) tx (rcI ι n))) (rfl) rfl (Nat.le_of_ble_eq_true rfl) rfl rfl (Nat.le_of_ble_eq_true rfl) ⟨Nat.le_of_ble_eq_true rfl, Nat.le_of_ble_eq_true rfl⟩ ⟨Nat.le_of_ble_eq_true rfl, Nat.le_of_ble_eq_true rfl⟩ dX8_wind_47 rfl ?_
          refine v_aload_n X dX8_wind_50 (i := 0) rfl rfl ?_
          refine v_iload_n X dX8_wind_51 (i := 1) rfl rfl ?_
          refine v_iconst X dX8_wind_52 (v := (1 : Int32)) (by decide) ?_
          refine v_cvB X rfl yv_X8_shuttlePart m_ml_X8_44 0 0 (c_X8_shuttlePart l g N o (nI k) k rfl (1 : Int32) 1 rfl (c8 μ) kp (rcH hs n μ) tx (rcI ι n) hk (by omega)) hB (Nat.le_of_ble_eq_true rfl) rfl (Nat.le_of_ble_eq_true rfl) rfl (L' := (mdL g o (c8 μ) kp (rcH hs n μ) tx (rcI ι n))) (rfl) rfl (Nat.le_of_ble_eq_true rfl) rfl rfl (Nat.le_of_ble_eq_true rfl) ⟨Nat.le_of_ble_eq_true rfl, Nat.le_of_ble_eq_true rfl⟩ ⟨Nat.le_of_ble_eq_true rfl, Nat.le_of_ble_eq_true rfl⟩ dX8_wind_53 rfl ?_
          refine v_istore X dX8_wind_56 (Nat.le_of_ble_eq_true rfl) rfl ?_
          refine v_aload_n X dX8_wind_58 (i := 0) rfl rfl ?_
          refine v_iload_n X dX8_wind_59 (i := 1) rfl rfl ?_
          refine v_iconst X dX8_wind_60 (v := (0 : Int32)) (by decide) ?_
          refine v_iload_n X dX8_wind_61 (i := 2) rfl rfl ?_
          refine v_cvB X rfl yv_X8_setShuttle m_ml_X8_22 0 0 (c_X8_setShuttle l g N o (nI k) k rfl (0 : Int32) 0 rfl (c8 μ) kp (rcH hs n μ) tx (rcI ι n) a hk (by omega)) hB (Nat.le_of_ble_eq_true rfl) rfl (Nat.le_of_ble_eq_true rfl) rfl (L' := (mdL g o (upd (c8 μ) (12 + 0 + 4 * k) a) kp (rcH hs n μ) tx (rcI ι n))) (rfl) rfl (Nat.le_of_ble_eq_true rfl) rfl rfl (Nat.le_of_ble_eq_true rfl) ⟨Nat.le_of_ble_eq_true rfl, Nat.le_of_ble_eq_true rfl⟩ ⟨Nat.le_of_ble_eq_true rfl, Nat.le_of_ble_eq_true rfl⟩ dX8_wind_62 rfl ?_
          refine v_aload_n X dX8_wind_65 (i := 0) rfl rfl ?_
          refine v_iload_n X dX8_wind_66 (i := 1) rfl rfl ?_
          refine v_iconst X dX8_wind_67 (v := (1 : Int32)) (by decide) ?_
          refine v_iload_n X dX8_wind_68 (i := 3) rfl rfl ?_
          refine v_cvB X rfl yv_X8_setShuttle m_ml_X8_22 0 0 (c_X8_setShuttle l g N o (nI k) k rfl (1 : Int32) 1 rfl (upd (c8 μ) (12 + 4 * k) a) kp (rcH hs n μ) tx (rcI ι n) b hk (by omega)) hB (Nat.le_of_ble_eq_true rfl) rfl (Nat.le_of_ble_eq_true rfl) rfl (L' := (mdL g o (upd (upd (c8 μ) (12 + 4 * k) a) (12 + 1 + 4 * k) b) kp (rcH hs n μ) tx (rcI ι n))) (rfl) rfl (Nat.le_of_ble_eq_true rfl) rfl rfl (Nat.le_of_ble_eq_true rfl) ⟨Nat.le_of_ble_eq_true rfl, Nat.le_of_ble_eq_true rfl⟩ ⟨Nat.le_of_ble_eq_true rfl, Nat.le_of_ble_eq_true rfl⟩ dX8_wind_69 rfl ?_
          refine v_iload X dX8_wind_72 rfl ?_
          have hE : (wiE μ (nI k) a b) = (0 : Int32) := by rw [wiE, if_neg (not_not_intro c4), if_neg (not_not_intro c16), if_neg (not_not_intro c26), hkk, if_neg (not_not_intro c40)]
          exact v_iret X rfl dX8_wind_74 (by rw [hE, hkk]; rfl) (by rw [hE, hkk]; rfl)
        · skip
          refine v_bipush X dX8_wind_43 (v := (-3 : Int32)) (by decide) ?_
          have hE : (wiE μ (nI k) a b) = (-3 : Int32) := by rw [wiE, if_neg (not_not_intro c4), if_neg (not_not_intro c16), if_neg (not_not_intro c26), hkk, if_pos c40]
          exact v_iret X rfl dX8_wind_45 (by rw [hE]; rfl) (by rw [hE]; rfl)
      · skip
        refine v_bipush X dX8_wind_29 (v := (-2 : Int32)) (by decide) ?_
        have hE : (wiE μ (nI k) a b) = (-2 : Int32) := by rw [wiE, if_neg (not_not_intro c4), if_neg (not_not_intro c16), if_pos c26]
        exact v_iret X rfl dX8_wind_31 (by rw [hE]; rfl) (by rw [hE]; rfl)
  · skip
    refine v_iconst X dX8_wind_7 (v := (-1 : Int32)) (by decide) ?_
    have hE : (wiE μ v a b) = (-1 : Int32) := by rw [wiE, if_pos c4]
    exact v_iret X rfl dX8_wind_8 (by rw [hE]; rfl) (by rw [hE]; rfl)
set_option maxRecDepth 100000 in
set_option maxHeartbeats 4000000 in
theorem c_X8_moveBoxes (l : Launch) (g : Ge) (N o : Nat) (μ kp hs tx ι : Nat → Int32) (n : Nat) (a b : Int32) (hn : ι 0 = nI n) (hn6 : n ≤ 6) : Cb l g yX8_moveBoxes (.code yX8_moveBoxes cX8_moveBoxes 3 (some .int)) 4 [.ref o, .int a, .int b] N o (mdL g o μ kp hs tx ι) (some (.int (if (mbE a b) = 0 then (c8 μ (3 + 1 * nt a)) else (mbE a b)))) (mdL g o (if (mbE a b) = 0 then (upd (c8 μ) (3 + 1 * nt a) b) else μ) kp (if (mbE a b) = 0 then rcH hs n μ else hs) tx (if (mbE a b) = 0 then rcI ι n else ι)) := by
  intro f hB0
  have hB : BB g N o 5 := hB0
  refine ct_of (own := RX8) [some (.ref o), some (.int a), some (.int b)] (by decide +kernel) rfl rfl (Nat.le_of_ble_eq_true rfl) ?_
  intro vp ve vs vm va vb vt vc hnm X
  refine v_iload_n X dX8_moveBoxes_0 (i := 1) rfl rfl ?_
  refine v_iload_n X dX8_moveBoxes_1 (i := 2) rfl rfl ?_
  refine v_cs X rfl yv_X8_isBox m_ml_X8_95 (c_X8_isBox l g a b ) rfl rfl (Nat.le_of_ble_eq_true rfl) ⟨Nat.le_of_ble_eq_true rfl, Nat.le_of_ble_eq_true rfl⟩ ⟨Nat.le_of_ble_eq_true rfl, Nat.le_of_ble_eq_true rfl⟩ dX8_moveBoxes_2 rfl ?_
  refine v_if_eqB X dX8_moveBoxes_5 (tgt := 19) (by decide) (fun c5 => ?_) (fun c5 => ?_)
  · skip
    refine v_iconst X dX8_moveBoxes_19 (v := (-1 : Int32)) (by decide) ?_
    have hE : (mbE a b) = (-1 : Int32) := by rw [mbE, if_pos c5]
    exact v_iret X rfl dX8_moveBoxes_20 (by rw [hE]; rfl) (by rw [hE]; rfl)
  · skip
    obtain ⟨k, hk, rfl⟩ : ∃ k : Nat, k < 2 ∧ a = nI k := by
      rcases c5 with z | z
      · exact ⟨0, by omega, z.1⟩
      · exact ⟨1, by omega, z.1⟩
    have hkk : nt (nI k) = k := nt_nI (by omega)
    refine v_aload_n X dX8_moveBoxes_8 (i := 0) rfl rfl ?_
    refine v_iconst X dX8_moveBoxes_9 (v := (3 : Int32)) (by decide) ?_
    refine v_iload_n X dX8_moveBoxes_10 (i := 1) rfl rfl ?_
    refine v_iadd X dX8_moveBoxes_11 ?_
    refine v_iload_n X dX8_moveBoxes_12 (i := 2) rfl rfl ?_
    refine v_cvB X rfl yv_X8_sets m_ml_X8_105 0 0 (c_X8_sets l g N o ((3 : Int32) + (nI k)) (3 + k) (ix_add rfl rfl) μ kp hs tx ι b n (by omega) hn hn6) hB (Nat.le_of_ble_eq_true rfl) rfl (Nat.le_of_ble_eq_true rfl) rfl (L' := (mdL g o (upd (c8 μ) (3 + k) b) kp (rcH hs n μ) tx (rcI ι n))) (rfl) rfl (Nat.le_of_ble_eq_true rfl) rfl rfl (Nat.le_of_ble_eq_true rfl) ⟨Nat.le_of_ble_eq_true rfl, Nat.le_of_ble_eq_true rfl⟩ ⟨Nat.le_of_ble_eq_true rfl, Nat.le_of_ble_eq_true rfl⟩ dX8_moveBoxes_13 rfl ?_
    refine v_goto X dX8_moveBoxes_16 (tgt := 20) (by decide) ?_
    have hE : (mbE (nI k) b) = (0 : Int32) := by rw [mbE, if_neg (not_not_intro c5)]
    exact v_iret X rfl dX8_moveBoxes_20 (by rw [hE, hkk, Nat.one_mul]; rfl) (by rw [hE, hkk, Nat.one_mul]; rfl)
set_option maxRecDepth 100000 in
set_option maxHeartbeats 4000000 in
theorem c_X8_draw (l : Launch) (g : Ge) (N o : Nat) (μ kp hs tx ι : Nat → Int32) (n : Nat) (v a : Int32) (hn : ι 0 = nI n) (hn6 : n ≤ 6) : Cb l g yX8_draw (.code yX8_draw cX8_draw 3 (some .int)) 4 [.ref o, .int v, .int a] N o (mdL g o μ kp hs tx ι) (some (.int (if (drE v a) = 0 then (c8 μ (32 + 2 * nt v)) else (drE v a)))) (mdL g o (if (drE v a) = 0 then (upd (c8 μ) (32 + 2 * nt v) a) else μ) kp (if (drE v a) = 0 then rcH hs n μ else hs) tx (if (drE v a) = 0 then rcI ι n else ι)) := by
  intro f hB0
  have hB : BB g N o 5 := hB0
  refine ct_of (own := RX8) [some (.ref o), some (.int v), some (.int a)] (by decide +kernel) rfl rfl (Nat.le_of_ble_eq_true rfl) ?_
  intro vp ve vs vm va vb vt vc hnm X
  refine v_iload_n X dX8_draw_0 (i := 1) rfl rfl ?_
  refine v_cs X rfl yv_X8_isThread m_ml_X8_108 (c_X8_isThread l g v ) rfl rfl (Nat.le_of_ble_eq_true rfl) ⟨Nat.le_of_ble_eq_true rfl, Nat.le_of_ble_eq_true rfl⟩ ⟨Nat.le_of_ble_eq_true rfl, Nat.le_of_ble_eq_true rfl⟩ dX8_draw_1 rfl ?_
  refine v_if_eqB X dX8_draw_4 (tgt := 32) (by decide) (fun c4 => ?_) (fun c4 => ?_)
  · skip
    refine v_iconst X dX8_draw_32 (v := (-1 : Int32)) (by decide) ?_
    have hE : (drE v a) = (-1 : Int32) := by rw [drE, if_pos c4]
    exact v_iret X rfl dX8_draw_33 (by rw [hE]; rfl) (by rw [hE]; rfl)
  · skip
    obtain ⟨k, hk, rfl⟩ := nI_cases (n := 11) (by omega) c4.1 c4.2
    have hkk : nt (nI k) = k := nt_nI (by omega)
    refine v_iload_n X dX8_draw_7 (i := 2) rfl rfl ?_
    refine v_iconst X dX8_draw_8 (v := (0 : Int32)) (by decide) ?_
    refine v_iconst X dX8_draw_9 (v := (5 : Int32)) (by decide) ?_
    refine v_cs X rfl yv_X8_within m_ml_X8_40 (c_X8_within l g a (0 : Int32) (5 : Int32) ) rfl rfl (Nat.le_of_ble_eq_true rfl) ⟨Nat.le_of_ble_eq_true rfl, Nat.le_of_ble_eq_true rfl⟩ ⟨Nat.le_of_ble_eq_true rfl, Nat.le_of_ble_eq_true rfl⟩ dX8_draw_10 rfl ?_
    refine v_if_eqB X dX8_draw_13 (tgt := 32) (by decide) (fun c13 => ?_) (fun c13 => ?_)
    · skip
      refine v_iconst X dX8_draw_32 (v := (-1 : Int32)) (by decide) ?_
      have hE : (drE (nI k) a) = (-1 : Int32) := by rw [drE, if_neg (not_not_intro c4), if_pos c13]
      exact v_iret X rfl dX8_draw_33 (by rw [hE]; rfl) (by rw [hE]; rfl)
    · skip
      refine v_aload_n X dX8_draw_16 (i := 0) rfl rfl ?_
      refine v_bipush X dX8_draw_17 (v := (32 : Int32)) (by decide) ?_
      refine v_iconst X dX8_draw_19 (v := (2 : Int32)) (by decide) ?_
      refine v_iload_n X dX8_draw_20 (i := 1) rfl rfl ?_
      refine v_imul X dX8_draw_21 ?_
      refine v_iadd X dX8_draw_22 ?_
      refine v_iconst X dX8_draw_23 (v := (0 : Int32)) (by decide) ?_
      refine v_iadd X dX8_draw_24 ?_
      refine v_iload_n X dX8_draw_25 (i := 2) rfl rfl ?_
      refine v_cvB X rfl yv_X8_sets m_ml_X8_105 0 0 (c_X8_sets l g N o (((32 : Int32) + ((2 : Int32) * (nI k))) + (0 : Int32)) (32 + (2 * k) + 0) (ix_add (ix_add rfl (ix_mul rfl rfl)) rfl) μ kp hs tx ι a n (by omega) hn hn6) hB (Nat.le_of_ble_eq_true rfl) rfl (Nat.le_of_ble_eq_true rfl) rfl (L' := (mdL g o (upd (c8 μ) (32 + (2 * k) + 0) a) kp (rcH hs n μ) tx (rcI ι n))) (rfl) rfl (Nat.le_of_ble_eq_true rfl) rfl rfl (Nat.le_of_ble_eq_true rfl) ⟨Nat.le_of_ble_eq_true rfl, Nat.le_of_ble_eq_true rfl⟩ ⟨Nat.le_of_ble_eq_true rfl, Nat.le_of_ble_eq_true rfl⟩ dX8_draw_26 rfl ?_
      refine v_goto X dX8_draw_29 (tgt := 33) (by decide) ?_
      have hE : (drE (nI k) a) = (0 : Int32) := by rw [drE, if_neg (not_not_intro c4), if_neg (not_not_intro c13)]
      exact v_iret X rfl dX8_draw_33 (by rw [hE, hkk]; rfl) (by rw [hE, hkk]; rfl)
set_option maxRecDepth 100000 in
set_option maxHeartbeats 4000000 in
theorem c_X8_mend (l : Launch) (g : Ge) (N o : Nat) (μ kp hs tx ι : Nat → Int32) (n : Nat) (v a : Int32) (hn : ι 0 = nI n) (hn6 : n ≤ 6) : Cb l g yX8_mend (.code yX8_mend cX8_mend 3 (some .int)) 4 [.ref o, .int v, .int a] N o (mdL g o μ kp hs tx ι) (some (.int (if (meE v a) = 0 then (c8 μ (33 + 2 * nt v)) else (meE v a)))) (mdL g o (if (meE v a) = 0 then (upd (c8 μ) (33 + 2 * nt v) a) else μ) kp (if (meE v a) = 0 then rcH hs n μ else hs) tx (if (meE v a) = 0 then rcI ι n else ι)) := by
  intro f hB0
  have hB : BB g N o 5 := hB0
  refine ct_of (own := RX8) [some (.ref o), some (.int v), some (.int a)] (by decide +kernel) rfl rfl (Nat.le_of_ble_eq_true rfl) ?_
  intro vp ve vs vm va vb vt vc hnm X
  refine v_iload_n X dX8_mend_0 (i := 1) rfl rfl ?_
  refine v_cs X rfl yv_X8_isThread m_ml_X8_108 (c_X8_isThread l g v ) rfl rfl (Nat.le_of_ble_eq_true rfl) ⟨Nat.le_of_ble_eq_true rfl, Nat.le_of_ble_eq_true rfl⟩ ⟨Nat.le_of_ble_eq_true rfl, Nat.le_of_ble_eq_true rfl⟩ dX8_mend_1 rfl ?_
  refine v_if_neB X dX8_mend_4 (tgt := 9) (by decide) (fun c4 => ?_) (fun c4 => ?_)
  · skip
    obtain ⟨k, hk, rfl⟩ := nI_cases (n := 11) (by omega) c4.1 c4.2
    have hkk : nt (nI k) = k := nt_nI (by omega)
    refine v_iload_n X dX8_mend_9 (i := 2) rfl rfl ?_
    refine v_iconst X dX8_mend_10 (v := (0 : Int32)) (by decide) ?_
    refine v_bipush X dX8_mend_11 (v := (99 : Int32)) (by decide) ?_
    refine v_cs X rfl yv_X8_within m_ml_X8_40 (c_X8_within l g a (0 : Int32) (99 : Int32) ) rfl rfl (Nat.le_of_ble_eq_true rfl) ⟨Nat.le_of_ble_eq_true rfl, Nat.le_of_ble_eq_true rfl⟩ ⟨Nat.le_of_ble_eq_true rfl, Nat.le_of_ble_eq_true rfl⟩ dX8_mend_13 rfl ?_
    refine v_if_eqB X dX8_mend_16 (tgt := 35) (by decide) (fun c16 => ?_) (fun c16 => ?_)
    · skip
      refine v_bipush X dX8_mend_35 (v := (-2 : Int32)) (by decide) ?_
      have hE : (meE (nI k) a) = (-2 : Int32) := by rw [meE, if_neg (not_not_intro c4), if_pos c16]
      exact v_iret X rfl dX8_mend_37 (by rw [hE]; rfl) (by rw [hE]; rfl)
    · skip
      refine v_aload_n X dX8_mend_19 (i := 0) rfl rfl ?_
      refine v_bipush X dX8_mend_20 (v := (32 : Int32)) (by decide) ?_
      refine v_iconst X dX8_mend_22 (v := (2 : Int32)) (by decide) ?_
      refine v_iload_n X dX8_mend_23 (i := 1) rfl rfl ?_
      refine v_imul X dX8_mend_24 ?_
      refine v_iadd X dX8_mend_25 ?_
      refine v_iconst X dX8_mend_26 (v := (1 : Int32)) (by decide) ?_
      refine v_iadd X dX8_mend_27 ?_
      refine v_iload_n X dX8_mend_28 (i := 2) rfl rfl ?_
      refine v_cvB X rfl yv_X8_sets m_ml_X8_105 0 0 (c_X8_sets l g N o (((32 : Int32) + ((2 : Int32) * (nI k))) + (1 : Int32)) (32 + (2 * k) + 1) (ix_add (ix_add rfl (ix_mul rfl rfl)) rfl) μ kp hs tx ι a n (by omega) hn hn6) hB (Nat.le_of_ble_eq_true rfl) rfl (Nat.le_of_ble_eq_true rfl) rfl (L' := (mdL g o (upd (c8 μ) (32 + (2 * k) + 1) a) kp (rcH hs n μ) tx (rcI ι n))) (rfl) rfl (Nat.le_of_ble_eq_true rfl) rfl rfl (Nat.le_of_ble_eq_true rfl) ⟨Nat.le_of_ble_eq_true rfl, Nat.le_of_ble_eq_true rfl⟩ ⟨Nat.le_of_ble_eq_true rfl, Nat.le_of_ble_eq_true rfl⟩ dX8_mend_29 rfl ?_
      refine v_goto X dX8_mend_32 (tgt := 37) (by decide) ?_
      have hE : (meE (nI k) a) = (0 : Int32) := by rw [meE, if_neg (not_not_intro c4), if_neg (not_not_intro c16)]
      exact v_iret X rfl dX8_mend_37 (by rw [hE, hkk, show 33 + 2 * k = 32 + 2 * k + 1 by omega]; rfl) (by rw [hE, hkk, show 33 + 2 * k = 32 + 2 * k + 1 by omega]; rfl)
  · skip
    refine v_iconst X dX8_mend_7 (v := (-1 : Int32)) (by decide) ?_
    have hE : (meE v a) = (-1 : Int32) := by rw [meE, if_pos c4]
    exact v_iret X rfl dX8_mend_8 (by rw [hE]; rfl) (by rw [hE]; rfl)
set_option maxRecDepth 100000 in
set_option maxHeartbeats 4000000 in
theorem c_X8_setSpeed (l : Launch) (g : Ge) (N o : Nat) (μ kp hs tx ι : Nat → Int32) (n : Nat) (v : Int32) (hn : ι 0 = nI n) (hn6 : n ≤ 6) : Cb l g yX8_setSpeed (.code yX8_setSpeed cX8_setSpeed 2 (some .int)) 4 [.ref o, .int v] N o (mdL g o μ kp hs tx ι) (some (.int (if (ssE v) = 0 then (c8 μ 2) else (ssE v)))) (mdL g o (if (ssE v) = 0 then (upd (c8 μ) 2 v) else μ) kp (if (ssE v) = 0 then rcH hs n μ else hs) tx (if (ssE v) = 0 then rcI ι n else ι)) := by
  intro f hB0
  have hB : BB g N o 5 := hB0
  refine ct_of (own := RX8) [some (.ref o), some (.int v)] (by decide +kernel) rfl rfl (Nat.le_of_ble_eq_true rfl) ?_
  intro vp ve vs vm va vb vt vc hnm X
  refine v_iload_n X dX8_setSpeed_0 (i := 1) rfl rfl ?_
  refine v_iconst X dX8_setSpeed_1 (v := (1 : Int32)) (by decide) ?_
  refine v_iconst X dX8_setSpeed_2 (v := (3 : Int32)) (by decide) ?_
  refine v_cs X rfl yv_X8_within m_ml_X8_40 (c_X8_within l g v (1 : Int32) (3 : Int32) ) rfl rfl (Nat.le_of_ble_eq_true rfl) ⟨Nat.le_of_ble_eq_true rfl, Nat.le_of_ble_eq_true rfl⟩ ⟨Nat.le_of_ble_eq_true rfl, Nat.le_of_ble_eq_true rfl⟩ dX8_setSpeed_3 rfl ?_
  refine v_if_eqB X dX8_setSpeed_6 (tgt := 18) (by decide) (fun c6 => ?_) (fun c6 => ?_)
  · skip
    refine v_bipush X dX8_setSpeed_18 (v := (-2 : Int32)) (by decide) ?_
    have hE : (ssE v) = (-2 : Int32) := by rw [ssE, if_pos c6]
    exact v_iret X rfl dX8_setSpeed_20 (by rw [hE]; rfl) (by rw [hE]; rfl)
  · skip
    refine v_aload_n X dX8_setSpeed_9 (i := 0) rfl rfl ?_
    refine v_iconst X dX8_setSpeed_10 (v := (2 : Int32)) (by decide) ?_
    refine v_iload_n X dX8_setSpeed_11 (i := 1) rfl rfl ?_
    refine v_cvB X rfl yv_X8_sets m_ml_X8_105 0 0 (c_X8_sets l g N o (2 : Int32) 2 rfl μ kp hs tx ι v n (by omega) hn hn6) hB (Nat.le_of_ble_eq_true rfl) rfl (Nat.le_of_ble_eq_true rfl) rfl (L' := (mdL g o (upd (c8 μ) 2 v) kp (rcH hs n μ) tx (rcI ι n))) (rfl) rfl (Nat.le_of_ble_eq_true rfl) rfl rfl (Nat.le_of_ble_eq_true rfl) ⟨Nat.le_of_ble_eq_true rfl, Nat.le_of_ble_eq_true rfl⟩ ⟨Nat.le_of_ble_eq_true rfl, Nat.le_of_ble_eq_true rfl⟩ dX8_setSpeed_12 rfl ?_
    refine v_goto X dX8_setSpeed_15 (tgt := 20) (by decide) ?_
    have hE : (ssE v) = (0 : Int32) := by rw [ssE, if_neg (not_not_intro c6)]
    exact v_iret X rfl dX8_setSpeed_20 (by rw [hE]; rfl) (by rw [hE]; rfl)
set_option maxRecDepth 100000 in
set_option maxHeartbeats 4000000 in
theorem c_X8_addsCard (l : Launch) (g : Ge) (N o : Nat) (μ kp hs tx ι : Nat → Int32) (a b c : Int32) (C : Nat) (hC : μ 0 = nI C) (hC16 : C < 16) : Cb l g yX8_addsCard (.code yX8_addsCard cX8_addsCard 5 none) 0 [.ref o, .int a, .int b, .int c] N o (mdL g o μ kp hs tx ι) none (mdL g o (apS μ C a b c) kp hs tx ι) := by
  intro f hB0
  have hB : BB g N o 5 := hB0
  refine ct_of (own := RX8) [some (.ref o), some (.int a), some (.int b), some (.int c), none] (by decide +kernel) rfl rfl (Nat.le_of_ble_eq_true rfl) ?_
  intro vp ve vs vm va vb vt vc hnm X
  refine v_bipush X dX8_addsCard_0 (v := (56 : Int32)) (by decide) ?_
  refine v_iconst X dX8_addsCard_2 (v := (3 : Int32)) (by decide) ?_
  refine v_aload_n X dX8_addsCard_3 (i := 0) rfl rfl ?_
  refine v_getB X hB cf8 0 (Nat.le_of_ble_eq_true rfl) m_fl_X8_7 dX8_addsCard_4 0 (Nat.le_of_ble_eq_true rfl) rfl rfl ?_
  refine v_iconst X dX8_addsCard_7 (v := (0 : Int32)) (by decide) ?_
  refine v_ialdB X hB dX8_addsCard_8 1 (Nat.le_of_ble_eq_true rfl) rfl 0 rfl (by omega) (Nat.le_of_ble_eq_true rfl) ?_
  refine v_imul X dX8_addsCard_9 ?_
  refine v_iadd X dX8_addsCard_10 ?_
  refine v_istore X dX8_addsCard_11 (Nat.le_of_ble_eq_true rfl) rfl ?_
  refine v_aload_n X dX8_addsCard_13 (i := 0) rfl rfl ?_
  refine v_getB X hB cf8 0 (Nat.le_of_ble_eq_true rfl) m_fl_X8_7 dX8_addsCard_14 0 (Nat.le_of_ble_eq_true rfl) rfl rfl ?_
  refine v_iload X dX8_addsCard_17 rfl ?_
  refine v_iconst X dX8_addsCard_19 (v := (0 : Int32)) (by decide) ?_
  refine v_iadd X dX8_addsCard_20 ?_
  refine v_iload_n X dX8_addsCard_21 (i := 1) rfl rfl ?_
  refine v_iastB X hB dX8_addsCard_22 1 (Nat.le_of_ble_eq_true rfl) rfl (56 + (3 * C) + 0) (ix_add (ix_add rfl (ix_mul rfl hC)) rfl) (by omega) (Nat.le_of_ble_eq_true rfl) (L' := (mdL g o (upd μ (56 + (3 * C) + 0) a) kp hs tx ι)) rfl ?_
  refine v_aload_n X dX8_addsCard_23 (i := 0) rfl rfl ?_
  refine v_getB X hB cf8 0 (Nat.le_of_ble_eq_true rfl) m_fl_X8_7 dX8_addsCard_24 0 (Nat.le_of_ble_eq_true rfl) rfl rfl ?_
  refine v_iload X dX8_addsCard_27 rfl ?_
  refine v_iconst X dX8_addsCard_29 (v := (1 : Int32)) (by decide) ?_
  refine v_iadd X dX8_addsCard_30 ?_
  refine v_iload_n X dX8_addsCard_31 (i := 2) rfl rfl ?_
  refine v_iastB X hB dX8_addsCard_32 1 (Nat.le_of_ble_eq_true rfl) rfl (56 + (3 * C) + 1) (ix_add (ix_add rfl (ix_mul rfl hC)) rfl) (by omega) (Nat.le_of_ble_eq_true rfl) (L' := (mdL g o (upd (upd μ (56 + (3 * C) + 0) a) (56 + (3 * C) + 1) b) kp hs tx ι)) rfl ?_
  refine v_aload_n X dX8_addsCard_33 (i := 0) rfl rfl ?_
  refine v_getB X hB cf8 0 (Nat.le_of_ble_eq_true rfl) m_fl_X8_7 dX8_addsCard_34 0 (Nat.le_of_ble_eq_true rfl) rfl rfl ?_
  refine v_iload X dX8_addsCard_37 rfl ?_
  refine v_iconst X dX8_addsCard_39 (v := (1 : Int32)) (by decide) ?_
  refine v_iadd X dX8_addsCard_40 ?_
  refine v_iconst X dX8_addsCard_41 (v := (1 : Int32)) (by decide) ?_
  refine v_iadd X dX8_addsCard_42 ?_
  refine v_iload_n X dX8_addsCard_43 (i := 3) rfl rfl ?_
  refine v_iastB X hB dX8_addsCard_44 1 (Nat.le_of_ble_eq_true rfl) rfl (56 + (3 * C) + 1 + 1) (ix_add (ix_add (ix_add rfl (ix_mul rfl hC)) rfl) rfl) (by omega) (Nat.le_of_ble_eq_true rfl) (L' := (mdL g o (upd (upd (upd μ (56 + (3 * C) + 0) a) (56 + (3 * C) + 1) b) (56 + (3 * C) + 1 + 1) c) kp hs tx ι)) rfl ?_
  refine v_aload_n X dX8_addsCard_45 (i := 0) rfl rfl ?_
  refine v_getB X hB cf8 0 (Nat.le_of_ble_eq_true rfl) m_fl_X8_7 dX8_addsCard_46 0 (Nat.le_of_ble_eq_true rfl) rfl rfl ?_
  refine v_iconst X dX8_addsCard_49 (v := (0 : Int32)) (by decide) ?_
  refine v_dup2 X dX8_addsCard_50 rfl rfl ?_
  refine v_ialdB X hB dX8_addsCard_51 1 (Nat.le_of_ble_eq_true rfl) rfl 0 rfl (by omega) (Nat.le_of_ble_eq_true rfl) ?_
  refine v_iconst X dX8_addsCard_52 (v := (1 : Int32)) (by decide) ?_
  refine v_iadd X dX8_addsCard_53 ?_
  refine v_iastB X hB dX8_addsCard_54 1 (Nat.le_of_ble_eq_true rfl) rfl 0 rfl (by omega) (Nat.le_of_ble_eq_true rfl) (L' := (mdL g o (upd (upd (upd (upd μ (56 + (3 * C) + 0) a) (56 + (3 * C) + 1) b) (56 + (3 * C) + 1 + 1) c) 0 (((upd (upd (upd μ (56 + (3 * C) + 0) a) (56 + (3 * C) + 1) b) (56 + (3 * C) + 1 + 1) c) 0) + (1 : Int32))) kp hs tx ι)) rfl ?_
  exact v_vret X rfl dX8_addsCard_55 (rfl) (by rw [pk_un (show 0 ≠ 56 + 3 * C + 1 + 1 by omega), pk_un (show 0 ≠ 56 + 3 * C + 1 by omega), pk_un (show 0 ≠ 56 + 3 * C + 0 by omega), hC, nI_1, apS, show 57 + 3 * C = 56 + 3 * C + 1 by omega, show 58 + 3 * C = 56 + 3 * C + 1 + 1 by omega]; rfl)
set_option maxRecDepth 100000 in
set_option maxHeartbeats 4000000 in
theorem c_X8_addCard (l : Launch) (g : Ge) (N o : Nat) (μ kp hs tx ι : Nat → Int32) (n : Nat) (v a b : Int32) (C : Nat) (hC : μ 0 = nI C) (hC16 : C ≤ 16) (hn : ι 0 = nI n) (hn6 : n ≤ 6) : Cb l g yX8_addCard (.code yX8_addCard cX8_addCard 4 (some .int)) 4 [.ref o, .int v, .int a, .int b] N o (mdL g o μ kp hs tx ι) (some (.int (if (acE C v a b) = 0 then (apS (c8 μ) C v a b 0 - 1) else (acE C v a b)))) (mdL g o (if (acE C v a b) = 0 then (apS (c8 μ) C v a b) else μ) kp (if (acE C v a b) = 0 then rcH hs n μ else hs) tx (if (acE C v a b) = 0 then rcI ι n else ι)) := by
  intro f hB0
  have hB : BB g N o 5 := hB0
  refine ct_of (own := RX8) [some (.ref o), some (.int v), some (.int a), some (.int b)] (by decide +kernel) rfl rfl (Nat.le_of_ble_eq_true rfl) ?_
  intro vp ve vs vm va vb vt vc hnm X
  refine v_iload_n X dX8_addCard_0 (i := 1) rfl rfl ?_
  refine v_iconst X dX8_addCard_1 (v := (0 : Int32)) (by decide) ?_
  refine v_bipush X dX8_addCard_2 (v := (63 : Int32)) (by decide) ?_
  refine v_cs X rfl yv_X8_within m_ml_X8_40 (c_X8_within l g v (0 : Int32) (63 : Int32) ) rfl rfl (Nat.le_of_ble_eq_true rfl) ⟨Nat.le_of_ble_eq_true rfl, Nat.le_of_ble_eq_true rfl⟩ ⟨Nat.le_of_ble_eq_true rfl, Nat.le_of_ble_eq_true rfl⟩ dX8_addCard_4 rfl ?_
  refine v_if_neB X dX8_addCard_7 (tgt := 13) (by decide) (fun c7 => ?_) (fun c7 => ?_)
  · skip
    refine v_iconst X dX8_addCard_13 (v := (0 : Int32)) (by decide) ?_
    refine v_iload_n X dX8_addCard_14 (i := 2) rfl rfl ?_
    refine v_cs X rfl yv_X8_isBox m_ml_X8_95 (c_X8_isBox l g (0 : Int32) a ) rfl rfl (Nat.le_of_ble_eq_true rfl) ⟨Nat.le_of_ble_eq_true rfl, Nat.le_of_ble_eq_true rfl⟩ ⟨Nat.le_of_ble_eq_true rfl, Nat.le_of_ble_eq_true rfl⟩ dX8_addCard_15 rfl ?_
    refine v_if_eqB X dX8_addCard_18 (tgt := 29) (by decide) (fun c18 => ?_) (fun c18 => ?_)
    · skip
      refine v_iconst X dX8_addCard_29 (v := (-1 : Int32)) (by decide) ?_
      have hE : (acE C v a b) = (-1 : Int32) := by rw [acE, if_neg (not_not_intro c7), if_pos c18]
      exact v_iret X rfl dX8_addCard_30 (by rw [hE]; rfl) (by rw [hE]; rfl)
    · skip
      refine v_iconst X dX8_addCard_21 (v := (1 : Int32)) (by decide) ?_
      refine v_iload_n X dX8_addCard_22 (i := 3) rfl rfl ?_
      refine v_cs X rfl yv_X8_isBox m_ml_X8_95 (c_X8_isBox l g (1 : Int32) b ) rfl rfl (Nat.le_of_ble_eq_true rfl) ⟨Nat.le_of_ble_eq_true rfl, Nat.le_of_ble_eq_true rfl⟩ ⟨Nat.le_of_ble_eq_true rfl, Nat.le_of_ble_eq_true rfl⟩ dX8_addCard_23 rfl ?_
      refine v_if_neB X dX8_addCard_26 (tgt := 31) (by decide) (fun c26 => ?_) (fun c26 => ?_)
      · skip
        refine v_aload_n X dX8_addCard_31 (i := 0) rfl rfl ?_
        refine v_getB X hB cf8 0 (Nat.le_of_ble_eq_true rfl) m_fl_X8_7 dX8_addCard_32 0 (Nat.le_of_ble_eq_true rfl) rfl rfl ?_
        refine v_iconst X dX8_addCard_35 (v := (0 : Int32)) (by decide) ?_
        refine v_ialdB X hB dX8_addCard_36 1 (Nat.le_of_ble_eq_true rfl) rfl 0 rfl (by omega) (Nat.le_of_ble_eq_true rfl) ?_
        refine v_bipush X dX8_addCard_37 (v := (16 : Int32)) (by decide) ?_
        refine v_icmp_ne X dX8_addCard_39 (tgt := 45) (by decide) (fun c39 => ?_) (fun c39 => ?_)
        · skip
          have hlt : C < 16 := by
            rcases Nat.lt_or_ge C 16 with q | q
            · exact q
            · have e : C = 16 := by omega
              exact absurd (by rw [hC, e]; rfl) c39
          refine v_aload_n X dX8_addCard_45 (i := 0) rfl rfl ?_
          refine v_cvB X rfl yv_X8_recordOther m_ml_X8_99 0 0 (c_X8_recordOther l g N o μ kp hs tx ι n hn hn6) hB (Nat.le_of_ble_eq_true rfl) rfl (Nat.le_of_ble_eq_true rfl) rfl (L' := (mdL g o (c8 μ) kp (rcH hs n μ) tx (rcI ι n))) (rfl) rfl (Nat.le_of_ble_eq_true rfl) rfl rfl (Nat.le_of_ble_eq_true rfl) ⟨Nat.le_of_ble_eq_true rfl, Nat.le_of_ble_eq_true rfl⟩ ⟨Nat.le_of_ble_eq_true rfl, Nat.le_of_ble_eq_true rfl⟩ dX8_addCard_46 rfl ?_
          refine v_aload_n X dX8_addCard_49 (i := 0) rfl rfl ?_
          refine v_iload_n X dX8_addCard_50 (i := 1) rfl rfl ?_
          refine v_iload_n X dX8_addCard_51 (i := 2) rfl rfl ?_
          refine v_iload_n X dX8_addCard_52 (i := 3) rfl rfl ?_
          refine v_cvB X rfl yv_X8_addsCard m_ml_X8_111 0 0 (c_X8_addsCard l g N o (c8 μ) kp (rcH hs n μ) tx (rcI ι n) v a b C ((c8_o (by omega)).trans hC) hlt) hB (Nat.le_of_ble_eq_true rfl) rfl (Nat.le_of_ble_eq_true rfl) rfl (L' := (mdL g o (apS (c8 μ) C v a b) kp (rcH hs n μ) tx (rcI ι n))) (rfl) rfl (Nat.le_of_ble_eq_true rfl) rfl rfl (Nat.le_of_ble_eq_true rfl) ⟨Nat.le_of_ble_eq_true rfl, Nat.le_of_ble_eq_true rfl⟩ ⟨Nat.le_of_ble_eq_true rfl, Nat.le_of_ble_eq_true rfl⟩ dX8_addCard_53 rfl ?_
          refine v_aload_n X dX8_addCard_56 (i := 0) rfl rfl ?_
          refine v_getB X hB cf8 0 (Nat.le_of_ble_eq_true rfl) m_fl_X8_7 dX8_addCard_57 0 (Nat.le_of_ble_eq_true rfl) rfl rfl ?_
          refine v_iconst X dX8_addCard_60 (v := (0 : Int32)) (by decide) ?_
          refine v_ialdB X hB dX8_addCard_61 1 (Nat.le_of_ble_eq_true rfl) rfl 0 rfl (by omega) (Nat.le_of_ble_eq_true rfl) ?_
          refine v_iconst X dX8_addCard_62 (v := (1 : Int32)) (by decide) ?_
          refine v_isub X dX8_addCard_63 ?_
          have hE : (acE C v a b) = (0 : Int32) := by rw [acE, if_neg (not_not_intro c7), if_neg (not_not_intro c18), if_neg (not_not_intro c26), if_neg (Nat.not_le.mpr hlt)]
          exact v_iret X rfl dX8_addCard_64 (by rw [hE]; rfl) (by rw [hE]; rfl)
        · skip
          have hge : 16 ≤ C := by
            have q : nI C = nI 16 := by rw [← hC]; exact c39
            have := (nI_eq (by omega) (by omega)).mp q
            omega
          refine v_bipush X dX8_addCard_42 (v := (-4 : Int32)) (by decide) ?_
          have hE : (acE C v a b) = (-4 : Int32) := by rw [acE, if_neg (not_not_intro c7), if_neg (not_not_intro c18), if_neg (not_not_intro c26), if_pos hge]
          exact v_iret X rfl dX8_addCard_44 (by rw [hE]; rfl) (by rw [hE]; rfl)
      · skip
        refine v_iconst X dX8_addCard_29 (v := (-1 : Int32)) (by decide) ?_
        have hE : (acE C v a b) = (-1 : Int32) := by rw [acE, if_neg (not_not_intro c7), if_neg (not_not_intro c18), if_pos c26]
        exact v_iret X rfl dX8_addCard_30 (by rw [hE]; rfl) (by rw [hE]; rfl)
  · skip
    refine v_bipush X dX8_addCard_10 (v := (-2 : Int32)) (by decide) ?_
    have hE : (acE C v a b) = (-2 : Int32) := by rw [acE, if_pos c7]
    exact v_iret X rfl dX8_addCard_12 (by rw [hE]; rfl) (by rw [hE]; rfl)
set_option maxRecDepth 100000 in
set_option maxHeartbeats 4000000 in
theorem c_X8_turnTo (l : Launch) (g : Ge) (N o : Nat) (μ kp hs tx ι : Nat → Int32) (n : Nat) (v : Int32) (C : Nat) (hC : μ 0 = nI C) (hC16 : C ≤ 16) (hn : ι 0 = nI n) (hn6 : n ≤ 6) : Cb l g yX8_turnTo (.code yX8_turnTo cX8_turnTo 2 (some .int)) 4 [.ref o, .int v] N o (mdL g o μ kp hs tx ι) (some (.int (if (rcE μ v) = 0 then (c8 μ 1) else (rcE μ v)))) (mdL g o (if (rcE μ v) = 0 then (upd (c8 μ) 1 v) else μ) kp (if (rcE μ v) = 0 then rcH hs n μ else hs) tx (if (rcE μ v) = 0 then rcI ι n else ι)) := by
  intro f hB0
  have hB : BB g N o 5 := hB0
  refine ct_of (own := RX8) [some (.ref o), some (.int v)] (by decide +kernel) rfl rfl (Nat.le_of_ble_eq_true rfl) ?_
  intro vp ve vs vm va vb vt vc hnm X
  refine v_aload_n X dX8_turnTo_0 (i := 0) rfl rfl ?_
  refine v_iload_n X dX8_turnTo_1 (i := 1) rfl rfl ?_
  refine v_cvB X rfl yv_X8_isCard m_ml_X8_114 0 0 (c_X8_isCard l g N o μ kp hs tx ι v C hC hC16) hB (Nat.le_of_ble_eq_true rfl) rfl (Nat.le_of_ble_eq_true rfl) rfl (L' := (mdL g o μ kp hs tx ι)) (rfl) rfl (Nat.le_of_ble_eq_true rfl) rfl rfl (Nat.le_of_ble_eq_true rfl) ⟨Nat.le_of_ble_eq_true rfl, Nat.le_of_ble_eq_true rfl⟩ ⟨Nat.le_of_ble_eq_true rfl, Nat.le_of_ble_eq_true rfl⟩ dX8_turnTo_2 rfl ?_
  refine v_if_eqB X dX8_turnTo_5 (tgt := 17) (by decide) (fun c5 => ?_) (fun c5 => ?_)
  · skip
    refine v_iconst X dX8_turnTo_17 (v := (-1 : Int32)) (by decide) ?_
    have hE : (rcE μ v) = (-1 : Int32) := by rw [rcE, if_pos c5]
    exact v_iret X rfl dX8_turnTo_18 (by rw [hE]; rfl) (by rw [hE]; rfl)
  · skip
    refine v_aload_n X dX8_turnTo_8 (i := 0) rfl rfl ?_
    refine v_iconst X dX8_turnTo_9 (v := (1 : Int32)) (by decide) ?_
    refine v_iload_n X dX8_turnTo_10 (i := 1) rfl rfl ?_
    refine v_cvB X rfl yv_X8_sets m_ml_X8_105 0 0 (c_X8_sets l g N o (1 : Int32) 1 rfl μ kp hs tx ι v n (by omega) hn hn6) hB (Nat.le_of_ble_eq_true rfl) rfl (Nat.le_of_ble_eq_true rfl) rfl (L' := (mdL g o (upd (c8 μ) 1 v) kp (rcH hs n μ) tx (rcI ι n))) (rfl) rfl (Nat.le_of_ble_eq_true rfl) rfl rfl (Nat.le_of_ble_eq_true rfl) ⟨Nat.le_of_ble_eq_true rfl, Nat.le_of_ble_eq_true rfl⟩ ⟨Nat.le_of_ble_eq_true rfl, Nat.le_of_ble_eq_true rfl⟩ dX8_turnTo_11 rfl ?_
    refine v_goto X dX8_turnTo_14 (tgt := 18) (by decide) ?_
    have hE : (rcE μ v) = (0 : Int32) := by rw [rcE, if_neg (not_not_intro c5)]
    exact v_iret X rfl dX8_turnTo_18 (by rw [hE]; rfl) (by rw [hE]; rfl)
