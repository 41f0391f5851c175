/-! the model class: floats, text, undo, the next reason -/
def mbit (μ : Nat → Int32) (t : Int32) (r : Nat) : Int32 := (μ (105 + 9 * r) >>> (t &&& 31)) &&& 1
def mfN (μ : Nat → Int32) (t : Int32) : Nat → Int32
  | 0 => 0
  | k + 1 => if 0 < k ∧ mbit μ t k = mbit μ t (k - 1) then mfN μ t k + 1 else 1
def mfM (μ : Nat → Int32) (t : Int32) : Nat → Int32
  | 0 => 0
  | k + 1 => if mfM μ t k < mfN μ t (k + 1) then mfN μ t (k + 1) else mfM μ t k
def lgM (μ : Nat → Int32) (R : Nat) (t : Int32) : Int32 := if (0 : Int32) ≤ t ∧ t ≤ (11 : Int32) then mfM μ t R else -1
set_option maxRecDepth 100000 in
set_option maxHeartbeats 4000000 in
theorem c_X8_floatOf (l : Launch) (g : Ge) (N o : Nat) (μ kp hs tx ι : Nat → Int32) (t : Int32) (R : Nat) (hR : μ 7 = nI R) (hR20 : R ≤ 20) : Cb l g yX8_floatOf (.code yX8_floatOf cX8_floatOf 6 (some .int)) 1 [.ref o, .int t] N o (mdL g o μ kp hs tx ι) (some (.int (mfM μ t R))) (mdL g o μ kp hs tx ι) := by
  intro f hB0
  have hB : BB g N o 5 := hB0
  refine ct_of (own := RX8) [some (.ref o), some (.int t), none, none, none, none] (by decide +kernel) rfl rfl (Nat.le_of_ble_eq_true rfl) ?_
  intro vp ve vs vm va vb vt vc hnm X
  refine v_iconst X dX8_floatOf_0 (v := (0 : Int32)) (by decide) ?_
  refine v_istore_n X dX8_floatOf_1 (i := 2) rfl (Nat.le_of_ble_eq_true rfl) rfl ?_
  refine v_iconst X dX8_floatOf_2 (v := (0 : Int32)) (by decide) ?_
  refine v_istore_n X dX8_floatOf_3 (i := 3) rfl (Nat.le_of_ble_eq_true rfl) rfl ?_
  refine v_iconst X dX8_floatOf_4 (v := (0 : Int32)) (by decide) ?_
  refine v_istore X dX8_floatOf_5 (Nat.le_of_ble_eq_true rfl) rfl ?_
  have LP7 : ∀ (n_ : Nat) (r : Nat), (r ≤ R) → R - r < n_ → Vm vp l ve vs vm va vb vt vc g 1 6 N (some (.int (mfM μ t R))) (ovr f o (mdL g o μ kp hs tx ι)) (ovr f o (mdL g o μ kp hs tx ι)) 7 [some (.ref o), some (.int t), some (.int (mfM μ t r)), some (.int (mfN μ t r)), some (.int (nI r)), none] [] := by
    intro n_
    induction n_ with
    | zero => intro r hr hm_; exact absurd hm_ (Nat.not_lt_zero _)
    | succ n_ ih7 =>
      intro r hr hm7
      refine v_iload X dX8_floatOf_7 rfl ?_
      refine v_aload_n X dX8_floatOf_9 (i := 0) rfl rfl ?_
      refine v_getB X hB cf8 0 (Nat.le_of_ble_eq_true rfl) m_fl_X8_7 dX8_floatOf_10 0 (Nat.le_of_ble_eq_true rfl) rfl rfl ?_
      refine v_bipush X dX8_floatOf_13 (v := (7 : Int32)) (by decide) ?_
      refine v_ialdB X hB dX8_floatOf_15 1 (Nat.le_of_ble_eq_true rfl) rfl 7 rfl (by omega) (Nat.le_of_ble_eq_true rfl) ?_
      refine v_icmp_ge X dX8_floatOf_16 (tgt := 88) (by decide) (fun c16 => ?_) (fun c16 => ?_)
      · skip
        have hr2 : r = R := Nat.le_antisymm hr (le_of_nI (by omega) (by omega) (by rw [← hR]; exact c16))
        refine v_iload_n X dX8_floatOf_88 (i := 2) rfl rfl ?_
        exact v_iret X rfl dX8_floatOf_89 (by rw [hr2]) (rfl)
      · skip
        have hr2 : r < R := lt_of_nI (by omega) (by omega) (by rw [← hR]; exact c16)
        refine v_iload X dX8_floatOf_19 rfl ?_
        refine v_if_le X dX8_floatOf_21 (tgt := 55) (by decide) (fun c21 => ?_) (fun c21 => ?_)
        · skip
          have hr0 : r = 0 := by
            have := le_of_nI (b := 0) (by omega) (by omega) c21
            omega
          have hc : ¬ (0 < r ∧ mbit μ t r = mbit μ t (r - 1)) := fun q => absurd q.1 (by omega)
          refine v_iconst X dX8_floatOf_55 (v := (0 : Int32)) (by decide) ?_
          refine v_istore X dX8_floatOf_56 (Nat.le_of_ble_eq_true rfl) rfl ?_
          refine v_iload X dX8_floatOf_58 rfl ?_
          refine v_if_eq X dX8_floatOf_60 (tgt := 69) (by decide) (fun c60 => ?_) (fun c60 => ?_)
          · skip
            refine v_iconst X dX8_floatOf_69 (v := (1 : Int32)) (by decide) ?_
            refine v_istore_n X dX8_floatOf_70 (i := 3) rfl (Nat.le_of_ble_eq_true rfl) rfl ?_
            refine v_iload_n X dX8_floatOf_71 (i := 3) rfl rfl ?_
            refine v_iload_n X dX8_floatOf_72 (i := 2) rfl rfl ?_
            refine v_icmp_le X dX8_floatOf_73 (tgt := 80) (by decide) (fun c73 => ?_) (fun c73 => ?_)
            · skip
              refine v_iload_n X dX8_floatOf_80 (i := 2) rfl rfl ?_
              refine v_istore_n X dX8_floatOf_81 (i := 2) rfl (Nat.le_of_ble_eq_true rfl) rfl ?_
              refine v_iinc X dX8_floatOf_82 (v := nI (r + 1)) rfl (ix_inc rfl) (Nat.le_of_ble_eq_true rfl) rfl ?_
              refine v_goto X dX8_floatOf_85 (tgt := 7) (by decide) ?_
              refine v_drop 5 ?_
              exact V.cast (ih7 (r + 1) (by omega) (by omega)) (by rw [mfM, mfN, if_neg hc, if_neg (Int32.not_lt.mpr c73)]; rfl) (rfl) (rfl)
            · skip
              refine v_iload_n X dX8_floatOf_76 (i := 3) rfl rfl ?_
              refine v_goto X dX8_floatOf_77 (tgt := 81) (by decide) ?_
              refine v_istore_n X dX8_floatOf_81 (i := 2) rfl (Nat.le_of_ble_eq_true rfl) rfl ?_
              refine v_iinc X dX8_floatOf_82 (v := nI (r + 1)) rfl (ix_inc rfl) (Nat.le_of_ble_eq_true rfl) rfl ?_
              refine v_goto X dX8_floatOf_85 (tgt := 7) (by decide) ?_
              refine v_drop 5 ?_
              exact V.cast (ih7 (r + 1) (by omega) (by omega)) (by rw [mfM, mfN, if_neg hc, if_pos c73]; rfl) (rfl) (rfl)
          · skip
            exact absurd c60 (by decide)
        · skip
          have hr0 : 0 < r := lt_of_nI (a := 0) (by omega) (by omega) c21
          refine v_aload_n X dX8_floatOf_24 (i := 0) rfl rfl ?_
          refine v_iload X dX8_floatOf_25 rfl ?_
          refine v_iconst X dX8_floatOf_27 (v := (1 : Int32)) (by decide) ?_
          refine v_cvB X rfl yv_X8_rowPart m_ml_X8_89 0 0 (c_X8_rowPart l g N o (nI r) r rfl (1 : Int32) 1 rfl μ kp hs tx ι (by omega) (by omega)) hB (Nat.le_of_ble_eq_true rfl) rfl (Nat.le_of_ble_eq_true rfl) rfl (L' := (mdL g o μ kp hs tx ι)) (rfl) rfl (Nat.le_of_ble_eq_true rfl) rfl rfl (Nat.le_of_ble_eq_true rfl) ⟨Nat.le_of_ble_eq_true rfl, Nat.le_of_ble_eq_true rfl⟩ ⟨Nat.le_of_ble_eq_true rfl, Nat.le_of_ble_eq_true rfl⟩ dX8_floatOf_28 rfl ?_
          refine v_iload_n X dX8_floatOf_31 (i := 1) rfl rfl ?_
          refine v_ishr X dX8_floatOf_32 ?_
          refine v_iconst X dX8_floatOf_33 (v := (1 : Int32)) (by decide) ?_
          refine v_iand X dX8_floatOf_34 ?_
          refine v_aload_n X dX8_floatOf_35 (i := 0) rfl rfl ?_
          refine v_iload X dX8_floatOf_36 rfl ?_
          refine v_iconst X dX8_floatOf_38 (v := (1 : Int32)) (by decide) ?_
          refine v_isub X dX8_floatOf_39 ?_
          refine v_iconst X dX8_floatOf_40 (v := (1 : Int32)) (by decide) ?_
          refine v_cvB X rfl yv_X8_rowPart m_ml_X8_89 0 0 (c_X8_rowPart l g N o ((nI r) - (1 : Int32)) (r - 1) (pk_sub (b := 1) (by omega)) (1 : Int32) 1 rfl μ kp hs tx ι (by omega) (by omega)) hB (Nat.le_of_ble_eq_true rfl) rfl (Nat.le_of_ble_eq_true rfl) rfl (L' := (mdL g o μ kp hs tx ι)) (rfl) rfl (Nat.le_of_ble_eq_true rfl) rfl rfl (Nat.le_of_ble_eq_true rfl) ⟨Nat.le_of_ble_eq_true rfl, Nat.le_of_ble_eq_true rfl⟩ ⟨Nat.le_of_ble_eq_true rfl, Nat.le_of_ble_eq_true rfl⟩ dX8_floatOf_41 rfl ?_
          refine v_iload_n X dX8_floatOf_44 (i := 1) rfl rfl ?_
          refine v_ishr X dX8_floatOf_45 ?_
          refine v_iconst X dX8_floatOf_46 (v := (1 : Int32)) (by decide) ?_
          refine v_iand X dX8_floatOf_47 ?_
          refine v_icmp_ne X dX8_floatOf_48 (tgt := 55) (by decide) (fun c48 => ?_) (fun c48 => ?_)
          · skip
            have hc : ¬ (0 < r ∧ mbit μ t r = mbit μ t (r - 1)) := fun q => c48 q.2
            refine v_iconst X dX8_floatOf_55 (v := (0 : Int32)) (by decide) ?_
            refine v_istore X dX8_floatOf_56 (Nat.le_of_ble_eq_true rfl) rfl ?_
            refine v_iload X dX8_floatOf_58 rfl ?_
            refine v_if_eq X dX8_floatOf_60 (tgt := 69) (by decide) (fun c60 => ?_) (fun c60 => ?_)
            · skip
              refine v_iconst X dX8_floatOf_69 (v := (1 : Int32)) (by decide) ?_
              refine v_istore_n X dX8_floatOf_70 (i := 3) rfl (Nat.le_of_ble_eq_true rfl) rfl ?_
              refine v_iload_n X dX8_floatOf_71 (i := 3) rfl rfl ?_
              refine v_iload_n X dX8_floatOf_72 (i := 2) rfl rfl ?_
              refine v_icmp_le X dX8_floatOf_73 (tgt := 80) (by decide) (fun c73 => ?_) (fun c73 => ?_)
              · skip
                refine v_iload_n X dX8_floatOf_80 (i := 2) rfl rfl ?_
                refine v_istore_n X dX8_floatOf_81 (i := 2) rfl (Nat.le_of_ble_eq_true rfl) rfl ?_
                refine v_iinc X dX8_floatOf_82 (v := nI (r + 1)) rfl (ix_inc rfl) (Nat.le_of_ble_eq_true rfl) rfl ?_
                refine v_goto X dX8_floatOf_85 (tgt := 7) (by decide) ?_
                refine v_drop 5 ?_
                exact V.cast (ih7 (r + 1) (by omega) (by omega)) (by rw [mfM, mfN, if_neg hc, if_neg (Int32.not_lt.mpr c73)]; rfl) (rfl) (rfl)
              · skip
                refine v_iload_n X dX8_floatOf_76 (i := 3) rfl rfl ?_
                refine v_goto X dX8_floatOf_77 (tgt := 81) (by decide) ?_
                refine v_istore_n X dX8_floatOf_81 (i := 2) rfl (Nat.le_of_ble_eq_true rfl) rfl ?_
                refine v_iinc X dX8_floatOf_82 (v := nI (r + 1)) rfl (ix_inc rfl) (Nat.le_of_ble_eq_true rfl) rfl ?_
                refine v_goto X dX8_floatOf_85 (tgt := 7) (by decide) ?_
                refine v_drop 5 ?_
                exact V.cast (ih7 (r + 1) (by omega) (by omega)) (by rw [mfM, mfN, if_neg hc, if_pos c73]; rfl) (rfl) (rfl)
            · skip
              exact absurd c60 (by decide)
          · skip
            have hc : 0 < r ∧ mbit μ t r = mbit μ t (r - 1) := ⟨hr0, c48⟩
            refine v_iconst X dX8_floatOf_51 (v := (1 : Int32)) (by decide) ?_
            refine v_goto X dX8_floatOf_52 (tgt := 56) (by decide) ?_
            refine v_istore X dX8_floatOf_56 (Nat.le_of_ble_eq_true rfl) rfl ?_
            refine v_iload X dX8_floatOf_58 rfl ?_
            refine v_if_eq X dX8_floatOf_60 (tgt := 69) (by decide) (fun c60 => ?_) (fun c60 => ?_)
            · skip
              exact absurd c60 (by decide)
            · skip
              refine v_iload_n X dX8_floatOf_63 (i := 3) rfl rfl ?_
              refine v_iconst X dX8_floatOf_64 (v := (1 : Int32)) (by decide) ?_
              refine v_iadd X dX8_floatOf_65 ?_
              refine v_goto X dX8_floatOf_66 (tgt := 70) (by decide) ?_
              refine v_istore_n X dX8_floatOf_70 (i := 3) rfl (Nat.le_of_ble_eq_true rfl) rfl ?_
              refine v_iload_n X dX8_floatOf_71 (i := 3) rfl rfl ?_
              refine v_iload_n X dX8_floatOf_72 (i := 2) rfl rfl ?_
              refine v_icmp_le X dX8_floatOf_73 (tgt := 80) (by decide) (fun c73 => ?_) (fun c73 => ?_)
              · skip
                refine v_iload_n X dX8_floatOf_80 (i := 2) rfl rfl ?_
                refine v_istore_n X dX8_floatOf_81 (i := 2) rfl (Nat.le_of_ble_eq_true rfl) rfl ?_
                refine v_iinc X dX8_floatOf_82 (v := nI (r + 1)) rfl (ix_inc rfl) (Nat.le_of_ble_eq_true rfl) rfl ?_
                refine v_goto X dX8_floatOf_85 (tgt := 7) (by decide) ?_
                refine v_drop 5 ?_
                exact V.cast (ih7 (r + 1) (by omega) (by omega)) (by rw [mfM, mfN, if_pos hc, if_neg (Int32.not_lt.mpr c73)]; rfl) (rfl) (rfl)
              · skip
                refine v_iload_n X dX8_floatOf_76 (i := 3) rfl rfl ?_
                refine v_goto X dX8_floatOf_77 (tgt := 81) (by decide) ?_
                refine v_istore_n X dX8_floatOf_81 (i := 2) rfl (Nat.le_of_ble_eq_true rfl) rfl ?_
                refine v_iinc X dX8_floatOf_82 (v := nI (r + 1)) rfl (ix_inc rfl) (Nat.le_of_ble_eq_true rfl) rfl ?_
                refine v_goto X dX8_floatOf_85 (tgt := 7) (by decide) ?_
                refine v_drop 5 ?_
                exact V.cast (ih7 (r + 1) (by omega) (by omega)) (by rw [mfM, mfN, if_pos hc, if_pos c73]; rfl) (rfl) (rfl)
  exact LP7 _ 0 (Nat.zero_le _) (Nat.lt_succ_self _)
set_option maxRecDepth 100000 in
set_option maxHeartbeats 4000000 in
theorem c_X8_longestFloat (l : Launch) (g : Ge) (N o : Nat) (μ kp hs tx ι : Nat → Int32) (t : Int32) (R : Nat) (hR : μ 7 = nI R) (hR20 : R ≤ 20) : Cb l g yX8_longestFloat (.code yX8_longestFloat cX8_longestFloat 2 (some .int)) 2 [.ref o, .int t] N o (mdL g o μ kp hs tx ι) (some (.int (lgM μ R t))) (mdL g o μ kp hs tx ι) := by
  intro f hB0
  have hB : BB g N o 5 := hB0
  refine ct_of (own := RX8) [some (.ref o), some (.int t)] (by decide +kernel) rfl rfl (Nat.le_of_ble_eq_true rfl) ?_
  intro vp ve vs vm va vb vt vc hnm X
  refine v_iload_n X dX8_longestFloat_0 (i := 1) rfl rfl ?_
  refine v_cs X rfl yv_X8_isThread m_ml_X8_108 (c_X8_isThread l g t ) rfl rfl (Nat.le_of_ble_eq_true rfl) ⟨Nat.le_of_ble_eq_true rfl, Nat.le_of_ble_eq_true rfl⟩ ⟨Nat.le_of_ble_eq_true rfl, Nat.le_of_ble_eq_true rfl⟩ dX8_longestFloat_1 rfl ?_
  refine v_if_eqB X dX8_longestFloat_4 (tgt := 15) (by decide) (fun c4 => ?_) (fun c4 => ?_)
  · skip
    refine v_iconst X dX8_longestFloat_15 (v := (-1 : Int32)) (by decide) ?_
    exact v_iret X rfl dX8_longestFloat_16 (by rw [lgM, if_neg c4]) (rfl)
  · skip
    refine v_aload_n X dX8_longestFloat_7 (i := 0) rfl rfl ?_
    refine v_iload_n X dX8_longestFloat_8 (i := 1) rfl rfl ?_
    refine v_cvB X rfl yv_X8_floatOf m_ml_X8_126 0 0 (c_X8_floatOf l g N o μ kp hs tx ι t R hR hR20) hB (Nat.le_of_ble_eq_true rfl) rfl (Nat.le_of_ble_eq_true rfl) rfl (L' := (mdL g o μ kp hs tx ι)) (rfl) rfl (Nat.le_of_ble_eq_true rfl) rfl rfl (Nat.le_of_ble_eq_true rfl) ⟨Nat.le_of_ble_eq_true rfl, Nat.le_of_ble_eq_true rfl⟩ ⟨Nat.le_of_ble_eq_true rfl, Nat.le_of_ble_eq_true rfl⟩ dX8_longestFloat_9 rfl ?_
    refine v_goto X dX8_longestFloat_12 (tgt := 16) (by decide) ?_
    exact v_iret X rfl dX8_longestFloat_16 (by rw [lgM, if_pos c4]) (rfl)
set_option maxRecDepth 100000 in
set_option maxHeartbeats 4000000 in
theorem c_X8_type (l : Launch) (g : Ge) (N o : Nat) (μ kp hs tx ι : Nat → Int32) (v : Int32) (len : Nat) (hlen : ι 1 = nI len) (hlen80 : len ≤ 80) : Cb l g yX8_type (.code yX8_type cX8_type 2 (some .int)) 1 [.ref o, .int v] N o (mdL g o μ kp hs tx ι) (some (.int (if tyE v len = 0 then nI (len + 1) else tyE v len))) (mdL g o μ kp hs (if tyE v len = 0 then upd tx len v else tx) (if tyE v len = 0 then upd ι 1 (nI (len + 1)) else ι)) := by
  intro f hB0
  have hB : BB g N o 5 := hB0
  refine ct_of (own := RX8) [some (.ref o), some (.int v)] (by decide +kernel) rfl rfl (Nat.le_of_ble_eq_true rfl) ?_
  intro vp ve vs vm va vb vt vc hnm X
  refine v_iload_n X dX8_type_0 (i := 1) rfl rfl ?_
  refine v_bipush X dX8_type_1 (v := (33 : Int32)) (by decide) ?_
  refine v_bipush X dX8_type_3 (v := (126 : Int32)) (by decide) ?_
  refine v_cs X rfl yv_X8_within m_ml_X8_40 (c_X8_within l g v (33 : Int32) (126 : Int32) ) rfl rfl (Nat.le_of_ble_eq_true rfl) ⟨Nat.le_of_ble_eq_true rfl, Nat.le_of_ble_eq_true rfl⟩ ⟨Nat.le_of_ble_eq_true rfl, Nat.le_of_ble_eq_true rfl⟩ dX8_type_5 rfl ?_
  refine v_if_neB X dX8_type_8 (tgt := 14) (by decide) (fun c8 => ?_) (fun c8 => ?_)
  · skip
    refine v_aload_n X dX8_type_14 (i := 0) rfl rfl ?_
    refine v_getB X hB cf8 5 (Nat.le_of_ble_eq_true rfl) m_fl_X8_141 dX8_type_15 0 (Nat.le_of_ble_eq_true rfl) rfl rfl ?_
    refine v_bipush X dX8_type_18 (v := (80 : Int32)) (by decide) ?_
    refine v_icmp_ne X dX8_type_20 (tgt := 26) (by decide) (fun c20 => ?_) (fun c20 => ?_)
    · skip
      have hl2 : len < 80 := by
        rcases Nat.lt_or_ge len 80 with q | q
        · exact q
        · have e : len = 80 := by omega
          exact absurd (by rw [hlen, e]; rfl) c20
      refine v_aload_n X dX8_type_26 (i := 0) rfl rfl ?_
      refine v_getB X hB cf8 4 (Nat.le_of_ble_eq_true rfl) m_fl_X8_19 dX8_type_27 0 (Nat.le_of_ble_eq_true rfl) rfl rfl ?_
      refine v_aload_n X dX8_type_30 (i := 0) rfl rfl ?_
      refine v_getB X hB cf8 5 (Nat.le_of_ble_eq_true rfl) m_fl_X8_141 dX8_type_31 0 (Nat.le_of_ble_eq_true rfl) rfl rfl ?_
      refine v_iload_n X dX8_type_34 (i := 1) rfl rfl ?_
      refine v_iastB X hB dX8_type_35 4 (Nat.le_of_ble_eq_true rfl) rfl len hlen (by omega) (Nat.le_of_ble_eq_true rfl) (L' := (mdL g o μ kp hs (upd tx len v) ι)) rfl ?_
      refine v_aload_n X dX8_type_36 (i := 0) rfl rfl ?_
      refine v_dup X dX8_type_37 rfl ?_
      refine v_getB X hB cf8 5 (Nat.le_of_ble_eq_true rfl) m_fl_X8_141 dX8_type_38 0 (Nat.le_of_ble_eq_true rfl) rfl rfl ?_
      refine v_iconst X dX8_type_41 (v := (1 : Int32)) (by decide) ?_
      refine v_iadd X dX8_type_42 ?_
      refine v_putB X hB cf8 5 (Nat.le_of_ble_eq_true rfl) rfl m_fl_X8_141 dX8_type_43 0 (Nat.le_of_ble_eq_true rfl) rfl rfl rfl (Nat.le_of_ble_eq_true rfl) (L' := (mdL g o μ kp hs (upd tx len v) (upd ι 1 ((ι 1) + (1 : Int32))))) w_md_0_textLength ?_
      refine v_aload_n X dX8_type_46 (i := 0) rfl rfl ?_
      refine v_getB X hB cf8 5 (Nat.le_of_ble_eq_true rfl) m_fl_X8_141 dX8_type_47 0 (Nat.le_of_ble_eq_true rfl) rfl rfl ?_
      have hE : tyE v len = (0 : Int32) := by rw [tyE, if_neg (not_not_intro c8), if_neg (by omega)]
      exact v_iret X rfl dX8_type_50 (by rw [hE, pk_us, hlen, nI_1]; rfl) (by rw [hE, hlen, nI_1]; rfl)
    · skip
      have hl2 : 80 ≤ len := by
        have q : nI len = nI 80 := by rw [← hlen]; exact c20
        have := (nI_eq (by omega) (by omega)).mp q
        omega
      refine v_bipush X dX8_type_23 (v := (-4 : Int32)) (by decide) ?_
      have hE : tyE v len = (-4 : Int32) := by rw [tyE, if_neg (not_not_intro c8), if_pos hl2]
      exact v_iret X rfl dX8_type_25 (by rw [hE]; rfl) (by rw [hE]; rfl)
  · skip
    refine v_bipush X dX8_type_11 (v := (-2 : Int32)) (by decide) ?_
    have hE : tyE v len = (-2 : Int32) := by rw [tyE, if_pos c8]
    exact v_iret X rfl dX8_type_13 (by rw [hE]; rfl) (by rw [hE]; rfl)
set_option maxRecDepth 100000 in
set_option maxHeartbeats 4000000 in
theorem c_X8_clearText (l : Launch) (g : Ge) (N o : Nat) (μ kp hs tx ι : Nat → Int32) : Cb l g yX8_clearText (.code yX8_clearText cX8_clearText 2 (some .int)) 0 [.ref o] N o (mdL g o μ kp hs tx ι) (some (.int (ι 1))) (mdL g o μ kp hs tx (upd ι 1 0)) := by
  intro f hB0
  have hB : BB g N o 5 := hB0
  refine ct_of (own := RX8) [some (.ref o), none] (by decide +kernel) rfl rfl (Nat.le_of_ble_eq_true rfl) ?_
  intro vp ve vs vm va vb vt vc hnm X
  refine v_aload_n X dX8_clearText_0 (i := 0) rfl rfl ?_
  refine v_getB X hB cf8 5 (Nat.le_of_ble_eq_true rfl) m_fl_X8_141 dX8_clearText_1 0 (Nat.le_of_ble_eq_true rfl) rfl rfl ?_
  refine v_istore_n X dX8_clearText_4 (i := 1) rfl (Nat.le_of_ble_eq_true rfl) rfl ?_
  refine v_aload_n X dX8_clearText_5 (i := 0) rfl rfl ?_
  refine v_iconst X dX8_clearText_6 (v := (0 : Int32)) (by decide) ?_
  refine v_putB X hB cf8 5 (Nat.le_of_ble_eq_true rfl) rfl m_fl_X8_141 dX8_clearText_7 0 (Nat.le_of_ble_eq_true rfl) rfl rfl rfl (Nat.le_of_ble_eq_true rfl) (L' := (mdL g o μ kp hs tx (upd ι 1 (0 : Int32)))) w_md_0_textLength ?_
  refine v_iload_n X dX8_clearText_10 (i := 1) rfl rfl ?_
  exact v_iret X rfl dX8_clearText_11 (rfl) (rfl)
set_option maxRecDepth 100000 in
set_option maxHeartbeats 4000000 in
theorem c_X8_undo (l : Launch) (g : Ge) (N o : Nat) (μ kp hs tx ι : Nat → Int32) (n : Nat) (hn : ι 0 = nI n) (hn6 : n ≤ 6) : Cb l g yX8_undo (.code yX8_undo cX8_undo 1 (some .int)) 1 [.ref o] N o (mdL g o μ kp hs tx ι) (some (.int (if n = 0 then (-3 : Int32) else nI (n - 1)))) (mdL g o (if n = 0 then μ else cpA hs ((n - 1) * 284) μ 0 284) kp hs tx (if n = 0 then ι else upd ι 0 (nI (n - 1)))) := by
  intro f hB0
  have hB : BB g N o 5 := hB0
  refine ct_of (own := RX8) [some (.ref o)] (by decide +kernel) rfl rfl (Nat.le_of_ble_eq_true rfl) ?_
  intro vp ve vs vm va vb vt vc hnm X
  refine v_aload_n X dX8_undo_0 (i := 0) rfl rfl ?_
  refine v_getB X hB cf8 3 (Nat.le_of_ble_eq_true rfl) m_fl_X8_29 dX8_undo_1 0 (Nat.le_of_ble_eq_true rfl) rfl rfl ?_
  refine v_if_ne X dX8_undo_4 (tgt := 10) (by decide) (fun c4 => ?_) (fun c4 => ?_)
  · skip
    have hz : ¬ n = 0 := fun z => c4 (by rw [hn, z]; rfl)
    have hn1 : nI n - 1 = nI (n - 1) := pk_sub (b := 1) (by omega)
    refine v_aload_n X dX8_undo_10 (i := 0) rfl rfl ?_
    refine v_dup X dX8_undo_11 rfl ?_
    refine v_getB X hB cf8 3 (Nat.le_of_ble_eq_true rfl) m_fl_X8_29 dX8_undo_12 0 (Nat.le_of_ble_eq_true rfl) rfl rfl ?_
    refine v_iconst X dX8_undo_15 (v := (1 : Int32)) (by decide) ?_
    refine v_isub X dX8_undo_16 ?_
    refine v_putB X hB cf8 3 (Nat.le_of_ble_eq_true rfl) rfl m_fl_X8_29 dX8_undo_17 0 (Nat.le_of_ble_eq_true rfl) rfl rfl rfl (Nat.le_of_ble_eq_true rfl) (L' := (mdL g o μ kp hs tx (upd ι 0 ((ι 0) - (1 : Int32))))) w_md_0_recorded ?_
    refine v_aload_n X dX8_undo_20 (i := 0) rfl rfl ?_
    refine v_getB X hB cf8 2 (Nat.le_of_ble_eq_true rfl) m_fl_X8_16 dX8_undo_21 0 (Nat.le_of_ble_eq_true rfl) rfl rfl ?_
    refine v_aload_n X dX8_undo_24 (i := 0) rfl rfl ?_
    refine v_getB X hB cf8 3 (Nat.le_of_ble_eq_true rfl) m_fl_X8_29 dX8_undo_25 0 (Nat.le_of_ble_eq_true rfl) rfl rfl ?_
    refine v_sipush X dX8_undo_28 (v := (284 : Int32)) (by decide) ?_
    refine v_imul X dX8_undo_31 ?_
    refine v_aload_n X dX8_undo_32 (i := 0) rfl rfl ?_
    refine v_getB X hB cf8 0 (Nat.le_of_ble_eq_true rfl) m_fl_X8_7 dX8_undo_33 0 (Nat.le_of_ble_eq_true rfl) rfl rfl ?_
    refine v_iconst X dX8_undo_36 (v := (0 : Int32)) (by decide) ?_
    refine v_csB X rfl yv_X8_copies m_ml_X8_33 0 (c_X8_copies_hs l g N o (((upd ι 0 ((ι 0) - (1 : Int32))) 0) * (284 : Int32)) ((n - 1) * 284) (ix_mul (by rw [pk_us, hn]; exact pk_sub (b := 1) (by omega)) rfl) μ kp hs tx (upd ι 0 ((ι 0) - (1 : Int32))) (by omega)) hB (Nat.le_of_ble_eq_true rfl) rfl (Nat.le_of_ble_eq_true rfl) rfl (L' := (mdL g o (cpA hs ((n - 1) * 284) μ 0 284) kp hs tx (upd ι 0 ((ι 0) - (1 : Int32))))) (rfl) rfl rfl (Nat.le_of_ble_eq_true rfl) ⟨Nat.le_of_ble_eq_true rfl, Nat.le_of_ble_eq_true rfl⟩ ⟨Nat.le_of_ble_eq_true rfl, Nat.le_of_ble_eq_true rfl⟩ dX8_undo_37 rfl ?_
    refine v_aload_n X dX8_undo_40 (i := 0) rfl rfl ?_
    refine v_getB X hB cf8 3 (Nat.le_of_ble_eq_true rfl) m_fl_X8_29 dX8_undo_41 0 (Nat.le_of_ble_eq_true rfl) rfl rfl ?_
    exact v_iret X rfl dX8_undo_44 (by rw [if_neg hz, pk_us, hn, hn1]) (by rw [if_neg hz, if_neg hz, hn, hn1])
  · skip
    have hz : n = 0 := by
      rcases Nat.eq_zero_or_pos n with z | z
      · exact z
      · rw [hn] at c4; exact absurd c4 (nI_ne0 z (by omega))
    refine v_bipush X dX8_undo_7 (v := (-3 : Int32)) (by decide) ?_
    exact v_iret X rfl dX8_undo_9 (by rw [if_pos hz]) (by rw [if_pos hz, if_pos hz])
set_option maxRecDepth 100000 in
set_option maxHeartbeats 4000000 in
theorem c_X8_nextReason (l : Launch) (g : Ge) (N o : Nat) (μ kp hs tx ι : Nat → Int32) (C P : Nat) (hC : μ 0 = nI C) (hP : μ 1 = nI P) (hPC : P < C ∨ (C = 0 ∧ P = 0)) (hC16 : C ≤ 16) (hU : UN μ) (hY : YN μ) : Cb l g yX8_nextReason (.code yX8_nextReason cX8_nextReason 1 (some .int)) 3 [.ref o] N o (mdL g o μ kp hs tx ι) (some (.int (rsG μ C P))) (mdL g o μ kp hs tx (ιR ι (rsG μ C P) (rnM μ P (rsG μ C P)))) := by
  intro f hB0
  have hB : BB g N o 5 := hB0
  refine ct_of (own := RX8) [some (.ref o)] (by decide +kernel) rfl rfl (Nat.le_of_ble_eq_true rfl) ?_
  intro vp ve vs vm va vb vt vc hnm X
  refine v_aload_n X dX8_nextReason_0 (i := 0) rfl rfl ?_
  refine v_iconst X dX8_nextReason_1 (v := (1 : Int32)) (by decide) ?_
  refine v_cvB X rfl yv_X8_findReason m_ml_X8_79 0 0 (c_X8_findReason_1 l g N o μ kp hs tx ι C P hC hP hPC hC16 hU hY) hB (Nat.le_of_ble_eq_true rfl) rfl (Nat.le_of_ble_eq_true rfl) rfl (L' := (mdL g o μ kp hs tx (ιR ι (rsG μ C P) (rnM μ P (rsG μ C P))))) (rfl) rfl (Nat.le_of_ble_eq_true rfl) rfl rfl (Nat.le_of_ble_eq_true rfl) ⟨Nat.le_of_ble_eq_true rfl, Nat.le_of_ble_eq_true rfl⟩ ⟨Nat.le_of_ble_eq_true rfl, Nat.le_of_ble_eq_true rfl⟩ dX8_nextReason_2 rfl ?_
  refine v_aload_n X dX8_nextReason_5 (i := 0) rfl rfl ?_
  refine v_getB X hB cf8 6 (Nat.le_of_ble_eq_true rfl) m_fl_X8_54 dX8_nextReason_6 0 (Nat.le_of_ble_eq_true rfl) rfl rfl ?_
  exact v_iret X rfl dX8_nextReason_9 (by rw [ιR, pk_un (by omega), pk_us]) (rfl)
set_option maxRecDepth 100000 in
set_option maxHeartbeats 4000000 in
theorem c_X8_whyNot (l : Launch) (g : Ge) (N o : Nat) (μ kp hs tx ι : Nat → Int32) (C P : Nat) (hC : μ 0 = nI C) (hP : μ 1 = nI P) (hPC : P < C ∨ (C = 0 ∧ P = 0)) (hC16 : C ≤ 16) (hU : UN μ) (hY : YN μ) : Cb l g yX8_whyNot (.code yX8_whyNot cX8_whyNot 1 (some .int)) 4 [.ref o] N o (mdL g o μ kp hs tx ι) (some (.int (rsG μ C P))) (mdL g o μ kp hs tx (ιR ι (rsG μ C P) (rnM μ P (rsG μ C P)))) := by
  intro f hB0
  have hB : BB g N o 5 := hB0
  refine ct_of (own := RX8) [some (.ref o)] (by decide +kernel) rfl rfl (Nat.le_of_ble_eq_true rfl) ?_
  intro vp ve vs vm va vb vt vc hnm X
  refine v_aload_n X dX8_whyNot_0 (i := 0) rfl rfl ?_
  refine v_cvB X rfl yv_X8_nextReason m_ml_X8_129 0 0 (c_X8_nextReason l g N o μ kp hs tx ι C P hC hP hPC hC16 hU hY) hB (Nat.le_of_ble_eq_true rfl) rfl (Nat.le_of_ble_eq_true rfl) rfl (L' := (mdL g o μ kp hs tx (ιR ι (rsG μ C P) (rnM μ P (rsG μ C P))))) (rfl) rfl (Nat.le_of_ble_eq_true rfl) rfl rfl (Nat.le_of_ble_eq_true rfl) ⟨Nat.le_of_ble_eq_true rfl, Nat.le_of_ble_eq_true rfl⟩ ⟨Nat.le_of_ble_eq_true rfl, Nat.le_of_ble_eq_true rfl⟩ dX8_whyNot_1 rfl ?_
  exact v_iret X rfl dX8_whyNot_4 (rfl) (rfl)
