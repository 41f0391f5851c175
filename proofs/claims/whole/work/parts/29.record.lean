/-! the model class: records, moves -/
theorem upu {f : Nat → Int32} {k : Nat} {a b : Int32} : upd (upd f k a) k b = upd f k b := by
  funext i
  by_cases e : i = k
  · subst e; rw [pk_us, pk_us]
  · rw [pk_un e, pk_un e, pk_un e]
theorem ups {f : Nat → Int32} {k : Nat} : upd f k (f k) = f := by
  funext i
  by_cases e : i = k
  · subst e; rw [pk_us]
  · rw [pk_un e]
set_option maxRecDepth 100000 in
set_option maxHeartbeats 4000000 in
theorem c_X8_record (l : Launch) (g : Ge) (N o : Nat) (μ kp hs tx ι : Nat → Int32) (n : Nat) (hn : ι 0 = nI n) (hn6 : n ≤ 6) : Cb l g yX8_record (.code yX8_record cX8_record 2 none) 1 [.ref o] N o (mdL g o μ kp hs tx ι) none (mdL g o μ kp (rcH hs n μ) tx (rcI ι n)) := by
  intro f hB0
  have hB : BB g N o 5 := hB0
  refine ct_of (own := RX8) [some (.ref o), none] (by decide +kernel) rfl rfl (Nat.le_of_ble_eq_true rfl) ?_
  intro vp ve vs vm va vb vt vc hnm X
  refine v_aload_n X dX8_record_0 (i := 0) rfl rfl ?_
  refine v_getB X hB cf8 3 (Nat.le_of_ble_eq_true rfl) m_fl_X8_29 dX8_record_1 0 (Nat.le_of_ble_eq_true rfl) rfl rfl ?_
  refine v_bipush X dX8_record_4 (v := (6 : Int32)) (by decide) ?_
  refine v_icmp_ne X dX8_record_6 (tgt := 50) (by decide) (fun c6 => ?_) (fun c6 => ?_)
  · skip
    have q6 : ¬ n = 6 := fun z => c6 (by rw [hn, z]; rfl)
    refine v_aload_n X dX8_record_50 (i := 0) rfl rfl ?_
    refine v_getB X hB cf8 0 (Nat.le_of_ble_eq_true rfl) m_fl_X8_7 dX8_record_51 0 (Nat.le_of_ble_eq_true rfl) rfl rfl ?_
    refine v_iconst X dX8_record_54 (v := (0 : Int32)) (by decide) ?_
    refine v_aload_n X dX8_record_55 (i := 0) rfl rfl ?_
    refine v_getB X hB cf8 2 (Nat.le_of_ble_eq_true rfl) m_fl_X8_16 dX8_record_56 0 (Nat.le_of_ble_eq_true rfl) rfl rfl ?_
    refine v_aload_n X dX8_record_59 (i := 0) rfl rfl ?_
    refine v_getB X hB cf8 3 (Nat.le_of_ble_eq_true rfl) m_fl_X8_29 dX8_record_60 0 (Nat.le_of_ble_eq_true rfl) rfl rfl ?_
    refine v_sipush X dX8_record_63 (v := (284 : Int32)) (by decide) ?_
    refine v_imul X dX8_record_66 ?_
    refine v_csB X rfl yv_X8_copies m_ml_X8_33 0 (c_X8_copies_sh l g N o ((ι 0) * (284 : Int32)) (n * 284) (ix_mul hn rfl) μ kp hs tx ι (by omega)) hB (Nat.le_of_ble_eq_true rfl) rfl (Nat.le_of_ble_eq_true rfl) rfl (L' := (mdL g o μ kp (cpA μ 0 hs (n * 284) 284) tx ι)) (rfl) rfl rfl (Nat.le_of_ble_eq_true rfl) ⟨Nat.le_of_ble_eq_true rfl, Nat.le_of_ble_eq_true rfl⟩ ⟨Nat.le_of_ble_eq_true rfl, Nat.le_of_ble_eq_true rfl⟩ dX8_record_67 rfl ?_
    refine v_aload_n X dX8_record_70 (i := 0) rfl rfl ?_
    refine v_dup X dX8_record_71 rfl ?_
    refine v_getB X hB cf8 3 (Nat.le_of_ble_eq_true rfl) m_fl_X8_29 dX8_record_72 0 (Nat.le_of_ble_eq_true rfl) rfl rfl ?_
    refine v_iconst X dX8_record_75 (v := (1 : Int32)) (by decide) ?_
    refine v_iadd X dX8_record_76 ?_
    refine v_putB X hB cf8 3 (Nat.le_of_ble_eq_true rfl) rfl m_fl_X8_29 dX8_record_77 0 (Nat.le_of_ble_eq_true rfl) rfl rfl rfl (Nat.le_of_ble_eq_true rfl) (L' := (mdL g o μ kp (cpA μ 0 hs (n * 284) 284) tx (upd ι 0 ((ι 0) + (1 : Int32))))) w_md_0_recorded ?_
    exact v_vret X rfl dX8_record_80 (rfl) (by rw [rcH, rcI, if_neg q6, if_neg q6, hn, nI_1])
  · skip
    have q6 : n = 6 := by
      rw [hn] at c6
      exact (nI_eq (b := 6) (by omega) (by omega)).mp c6
    refine v_iconst X dX8_record_9 (v := (0 : Int32)) (by decide) ?_
    refine v_istore_n X dX8_record_10 (i := 1) rfl (Nat.le_of_ble_eq_true rfl) rfl ?_
    have LP11 : ∀ (n_ : Nat) (k : Nat), (k ≤ 1420) → 1420 - k < n_ → Vm vp l ve vs vm va vb vt vc g 1 2 N none (ovr f o (mdL g o μ kp (rcH hs n μ) tx (rcI ι n))) (ovr f o (mdL g o μ kp (s6 hs k) tx ι)) 11 [some (.ref o), some (.int (nI k))] [] := by
      intro n_
      induction n_ with
      | zero => intro k hk hm_; exact absurd hm_ (Nat.not_lt_zero _)
      | succ n_ ih11 =>
        intro k hk hm11
        refine v_iload_n X dX8_record_11 (i := 1) rfl rfl ?_
        refine v_sipush X dX8_record_12 (v := (1420 : Int32)) (by decide) ?_
        refine v_icmp_ge X dX8_record_15 (tgt := 40) (by decide) (fun c15 => ?_) (fun c15 => ?_)
        · skip
          have hk5 : k = 1420 := Nat.le_antisymm hk (le_of_nI (a := 1420) (by omega) (by omega) c15)
          subst hk5
          refine v_aload_n X dX8_record_40 (i := 0) rfl rfl ?_
          refine v_dup X dX8_record_41 rfl ?_
          refine v_getB X hB cf8 3 (Nat.le_of_ble_eq_true rfl) m_fl_X8_29 dX8_record_42 0 (Nat.le_of_ble_eq_true rfl) rfl rfl ?_
          refine v_iconst X dX8_record_45 (v := (1 : Int32)) (by decide) ?_
          refine v_isub X dX8_record_46 ?_
          refine v_putB X hB cf8 3 (Nat.le_of_ble_eq_true rfl) rfl m_fl_X8_29 dX8_record_47 0 (Nat.le_of_ble_eq_true rfl) rfl rfl rfl (Nat.le_of_ble_eq_true rfl) (L' := (mdL g o μ kp (s6 hs 1420) tx (upd ι 0 ((ι 0) - (1 : Int32))))) w_md_0_recorded ?_
          refine v_aload_n X dX8_record_50 (i := 0) rfl rfl ?_
          refine v_getB X hB cf8 0 (Nat.le_of_ble_eq_true rfl) m_fl_X8_7 dX8_record_51 0 (Nat.le_of_ble_eq_true rfl) rfl rfl ?_
          refine v_iconst X dX8_record_54 (v := (0 : Int32)) (by decide) ?_
          refine v_aload_n X dX8_record_55 (i := 0) rfl rfl ?_
          refine v_getB X hB cf8 2 (Nat.le_of_ble_eq_true rfl) m_fl_X8_16 dX8_record_56 0 (Nat.le_of_ble_eq_true rfl) rfl rfl ?_
          refine v_aload_n X dX8_record_59 (i := 0) rfl rfl ?_
          refine v_getB X hB cf8 3 (Nat.le_of_ble_eq_true rfl) m_fl_X8_29 dX8_record_60 0 (Nat.le_of_ble_eq_true rfl) rfl rfl ?_
          refine v_sipush X dX8_record_63 (v := (284 : Int32)) (by decide) ?_
          refine v_imul X dX8_record_66 ?_
          refine v_csB X rfl yv_X8_copies m_ml_X8_33 0 (c_X8_copies_sh l g N o (((upd ι 0 ((ι 0) - (1 : Int32))) 0) * (284 : Int32)) (5 * 284) (ix_mul (by rw [pk_us, hn, q6]; rfl) rfl) μ kp (s6 hs 1420) tx (upd ι 0 ((ι 0) - (1 : Int32))) (by omega)) hB (Nat.le_of_ble_eq_true rfl) rfl (Nat.le_of_ble_eq_true rfl) rfl (L' := (mdL g o μ kp (cpA μ 0 (s6 hs 1420) (5 * 284) 284) tx (upd ι 0 ((ι 0) - (1 : Int32))))) (rfl) rfl rfl (Nat.le_of_ble_eq_true rfl) ⟨Nat.le_of_ble_eq_true rfl, Nat.le_of_ble_eq_true rfl⟩ ⟨Nat.le_of_ble_eq_true rfl, Nat.le_of_ble_eq_true rfl⟩ dX8_record_67 rfl ?_
          refine v_aload_n X dX8_record_70 (i := 0) rfl rfl ?_
          refine v_dup X dX8_record_71 rfl ?_
          refine v_getB X hB cf8 3 (Nat.le_of_ble_eq_true rfl) m_fl_X8_29 dX8_record_72 0 (Nat.le_of_ble_eq_true rfl) rfl rfl ?_
          refine v_iconst X dX8_record_75 (v := (1 : Int32)) (by decide) ?_
          refine v_iadd X dX8_record_76 ?_
          refine v_putB X hB cf8 3 (Nat.le_of_ble_eq_true rfl) rfl m_fl_X8_29 dX8_record_77 0 (Nat.le_of_ble_eq_true rfl) rfl rfl rfl (Nat.le_of_ble_eq_true rfl) (L' := (mdL g o μ kp (cpA μ 0 (s6 hs 1420) (5 * 284) 284) tx (upd (upd ι 0 ((ι 0) - (1 : Int32))) 0 (((upd ι 0 ((ι 0) - (1 : Int32))) 0) + (1 : Int32))))) w_md_0_recorded ?_
          exact v_vret X rfl dX8_record_80 (rfl) (by rw [rcH, rcI, if_pos q6, if_pos q6, upu, pk_us, hn, q6]; rfl)
        · skip
          have hk5 : k < 1420 := lt_of_nI (b := 1420) (by omega) (by omega) c15
          refine v_aload_n X dX8_record_18 (i := 0) rfl rfl ?_
          refine v_getB X hB cf8 2 (Nat.le_of_ble_eq_true rfl) m_fl_X8_16 dX8_record_19 0 (Nat.le_of_ble_eq_true rfl) rfl rfl ?_
          refine v_iload_n X dX8_record_22 (i := 1) rfl rfl ?_
          refine v_aload_n X dX8_record_23 (i := 0) rfl rfl ?_
          refine v_getB X hB cf8 2 (Nat.le_of_ble_eq_true rfl) m_fl_X8_16 dX8_record_24 0 (Nat.le_of_ble_eq_true rfl) rfl rfl ?_
          refine v_iload_n X dX8_record_27 (i := 1) rfl rfl ?_
          refine v_sipush X dX8_record_28 (v := (284 : Int32)) (by decide) ?_
          refine v_iadd X dX8_record_31 ?_
          refine v_ialdB X hB dX8_record_32 3 (Nat.le_of_ble_eq_true rfl) rfl (k + 284) (ix_add rfl rfl) (by omega) (Nat.le_of_ble_eq_true rfl) ?_
          refine v_iastB X hB dX8_record_33 3 (Nat.le_of_ble_eq_true rfl) rfl k rfl (by omega) (Nat.le_of_ble_eq_true rfl) (L' := (mdL g o μ kp (upd (s6 hs k) k ((s6 hs k) (k + 284))) tx ι)) rfl ?_
          refine v_iinc X dX8_record_34 (v := nI (k + 1)) rfl (ix_inc rfl) (Nat.le_of_ble_eq_true rfl) rfl ?_
          refine v_goto X dX8_record_37 (tgt := 11) (by decide) ?_
          exact V.cast (ih11 (k + 1) (by omega) (by omega)) (rfl) (rfl) (by rw [← s6_1])
    exact V.cast (LP11 _ 0 (Nat.zero_le _) (Nat.lt_succ_self _)) (rfl) (rfl) (by rfl)
set_option maxRecDepth 100000 in
set_option maxHeartbeats 4000000 in
theorem c_X8_recordOther (l : Launch) (g : Ge) (N o : Nat) (μ kp hs tx ι : Nat → Int32) (n : Nat) (hn : ι 0 = nI n) (hn6 : n ≤ 6) : Cb l g yX8_recordOther (.code yX8_recordOther cX8_recordOther 1 none) 2 [.ref o] N o (mdL g o μ kp hs tx ι) none (mdL g o (c8 μ) kp (rcH hs n μ) tx (rcI ι n)) := by
  intro f hB0
  have hB : BB g N o 5 := hB0
  refine ct_of (own := RX8) [some (.ref o)] (by decide +kernel) rfl rfl (Nat.le_of_ble_eq_true rfl) ?_
  intro vp ve vs vm va vb vt vc hnm X
  refine v_aload_n X dX8_recordOther_0 (i := 0) rfl rfl ?_
  refine v_cvB X rfl yv_X8_record m_ml_X8_37 0 0 (c_X8_record l g N o μ kp hs tx ι n hn hn6) hB (Nat.le_of_ble_eq_true rfl) rfl (Nat.le_of_ble_eq_true rfl) rfl (L' := (mdL g o μ kp (rcH hs n μ) tx (rcI ι n))) (rfl) rfl (Nat.le_of_ble_eq_true rfl) rfl rfl (Nat.le_of_ble_eq_true rfl) ⟨Nat.le_of_ble_eq_true rfl, Nat.le_of_ble_eq_true rfl⟩ ⟨Nat.le_of_ble_eq_true rfl, Nat.le_of_ble_eq_true rfl⟩ dX8_recordOther_1 rfl ?_
  refine v_aload_n X dX8_recordOther_4 (i := 0) rfl rfl ?_
  refine v_getB X hB cf8 0 (Nat.le_of_ble_eq_true rfl) m_fl_X8_7 dX8_recordOther_5 0 (Nat.le_of_ble_eq_true rfl) rfl rfl ?_
  refine v_bipush X dX8_recordOther_8 (v := (8 : Int32)) (by decide) ?_
  refine v_iconst X dX8_recordOther_10 (v := (0 : Int32)) (by decide) ?_
  refine v_iastB X hB dX8_recordOther_11 1 (Nat.le_of_ble_eq_true rfl) rfl 8 rfl (by omega) (Nat.le_of_ble_eq_true rfl) (L' := (mdL g o (upd μ 8 (0 : Int32)) kp (rcH hs n μ) tx (rcI ι n))) rfl ?_
  exact v_vret X rfl dX8_recordOther_12 (rfl) (rfl)
set_option maxRecDepth 100000 in
set_option maxHeartbeats 4000000 in
theorem c_X8_sets (l : Launch) (g : Ge) (N o : Nat) (x_i : Int32) (i : Nat) (hx_i : x_i = nI i) (μ kp hs tx ι : Nat → Int32) (a : Int32) (n : Nat) (hi : i < 284) (hn : ι 0 = nI n) (hn6 : n ≤ 6) : Cb l g yX8_sets (.code yX8_sets cX8_sets 4 (some .int)) 3 [.ref o, .int x_i, .int a] N o (mdL g o μ kp hs tx ι) (some (.int (c8 μ i))) (mdL g o (upd (c8 μ) i a) kp (rcH hs n μ) tx (rcI ι n)) := by
  intro f hB0
  have hB : BB g N o 5 := hB0
  subst hx_i
  refine ct_of (own := RX8) [some (.ref o), some (.int (nI i)), some (.int a), none] (by decide +kernel) rfl rfl (Nat.le_of_ble_eq_true rfl) ?_
  intro vp ve vs vm va vb vt vc hnm X
  refine v_aload_n X dX8_sets_0 (i := 0) rfl rfl ?_
  refine v_cvB X rfl yv_X8_recordOther m_ml_X8_99 0 0 (c_X8_recordOther l g N o μ kp hs tx ι n hn hn6) hB (Nat.le_of_ble_eq_true rfl) rfl (Nat.le_of_ble_eq_true rfl) rfl (L' := (mdL g o (c8 μ) kp (rcH hs n μ) tx (rcI ι n))) (rfl) rfl (Nat.le_of_ble_eq_true rfl) rfl rfl (Nat.le_of_ble_eq_true rfl) ⟨Nat.le_of_ble_eq_true rfl, Nat.le_of_ble_eq_true rfl⟩ ⟨Nat.le_of_ble_eq_true rfl, Nat.le_of_ble_eq_true rfl⟩ dX8_sets_1 rfl ?_
  refine v_aload_n X dX8_sets_4 (i := 0) rfl rfl ?_
  refine v_getB X hB cf8 0 (Nat.le_of_ble_eq_true rfl) m_fl_X8_7 dX8_sets_5 0 (Nat.le_of_ble_eq_true rfl) rfl rfl ?_
  refine v_iload_n X dX8_sets_8 (i := 1) rfl rfl ?_
  refine v_ialdB X hB dX8_sets_9 1 (Nat.le_of_ble_eq_true rfl) rfl i rfl (by omega) (Nat.le_of_ble_eq_true rfl) ?_
  refine v_istore_n X dX8_sets_10 (i := 3) rfl (Nat.le_of_ble_eq_true rfl) rfl ?_
  refine v_aload_n X dX8_sets_11 (i := 0) rfl rfl ?_
  refine v_getB X hB cf8 0 (Nat.le_of_ble_eq_true rfl) m_fl_X8_7 dX8_sets_12 0 (Nat.le_of_ble_eq_true rfl) rfl rfl ?_
  refine v_iload_n X dX8_sets_15 (i := 1) rfl rfl ?_
  refine v_iload_n X dX8_sets_16 (i := 2) rfl rfl ?_
  refine v_iastB X hB dX8_sets_17 1 (Nat.le_of_ble_eq_true rfl) rfl i rfl (by omega) (Nat.le_of_ble_eq_true rfl) (L' := (mdL g o (upd (c8 μ) i a) kp (rcH hs n μ) tx (rcI ι n))) rfl ?_
  refine v_iload_n X dX8_sets_18 (i := 3) rfl rfl ?_
  exact v_iret X rfl dX8_sets_19 (rfl) (rfl)
