/-! the reader of cards -/
abbrev nt (x : Int32) : Nat := x.toNatClampNeg
theorem nt_nI {k : Nat} (h : k < 2 ^ 31) : nt (nI k) = k := nI_clamp h
def stK (κ : Nat → Int32) : Nat → Int32 := upd (upd (upd κ 3 0) 0 0) 4 0
def bxP (s b : Int32) : Prop := (s = 0 ∧ 0 ≤ b ∧ b ≤ 3) ∨ (s = 1 ∧ 0 ≤ b ∧ b ≤ 1)
def bxB (s b : Int32) : Bool := decide ((s = 0 ∧ 0 ≤ b ∧ b ≤ 3) ∨ (s = 1 ∧ 0 ≤ b ∧ b ≤ 1))
def frB (κ : Nat → Int32) (v : Int32) : Bool := decide (κ 4 ≤ v ∧ v ≤ 5)
def frK (κ : Nat → Int32) (v : Int32) : Nat → Int32 := upd (upd κ 0 (κ 0 ||| ((1 : Int32) <<< (v &&& 31)))) 4 (v + 1)
def acV (κ : Nat → Int32) (c : Int32) : Int32 := if κ 3 = 0 then (if c = 76 then 1 else if frB κ (c - 48) then 1 else 0) else if κ 3 = 1 then (if bxB 0 (c - 48) then 1 else 0) else if κ 3 = 2 then (if c = 82 then 1 else 0) else if κ 3 = 3 then (if bxB 1 (c - 48) then 1 else 0) else if c = 59 then 1 else 0
def acK (κ : Nat → Int32) (c : Int32) : Nat → Int32 := if κ 3 = 0 then (if c = 76 then upd κ 3 1 else if frB κ (c - 48) then frK κ (c - 48) else κ) else if κ 3 = 1 then (if bxB 0 (c - 48) then upd (upd κ 1 (c - 48)) 3 2 else upd κ 1 (c - 48)) else if κ 3 = 2 then (if c = 82 then upd κ 3 3 else κ) else if κ 3 = 3 then (if bxB 1 (c - 48) then upd (upd κ 2 (c - 48)) 3 4 else upd κ 2 (c - 48)) else if c = 59 then stK κ else κ
theorem sw03 (x : Int32) : x = 0 ∨ x = 1 ∨ x = 2 ∨ x = 3 ∨ (x.toInt < 0 ∨ 3 < x.toInt) := by
  by_cases h1 : x.toInt < 0
  · exact Or.inr (Or.inr (Or.inr (Or.inr (Or.inl h1))))
  by_cases h2 : 3 < x.toInt
  · exact Or.inr (Or.inr (Or.inr (Or.inr (Or.inr h2))))
  have h : x.toInt = 0 ∨ x.toInt = 1 ∨ x.toInt = 2 ∨ x.toInt = 3 := by omega
  rcases h with h | h | h | h
  · exact Or.inl (Int32.toInt_inj.mp h)
  · exact Or.inr (Or.inl (Int32.toInt_inj.mp h))
  · exact Or.inr (Or.inr (Or.inl (Int32.toInt_inj.mp h)))
  · exact Or.inr (Or.inr (Or.inr (Or.inl (Int32.toInt_inj.mp h))))
set_option maxRecDepth 100000 in
set_option maxHeartbeats 4000000 in
theorem c_X0_goTo (l : Launch) (g : Ge) (N o : Nat) (κ : Nat → Int32) (v : Int32) : Cb l g yX0_goTo (.code yX0_goTo cX0_goTo 2 (some .boolean)) 0 [.ref o, .int v] N o (rdL κ) (some (.int (1 : Int32))) (rdL (upd κ 3 v)) := by
  intro f hB0
  have hB : BB g N o 1 := hB0
  refine ct_of (own := RX0) [some (.ref o), some (.int v)] (by decide +kernel) rfl rfl (Nat.le_of_ble_eq_true rfl) ?_
  intro vp ve vs vm va vb vt vc hnm X
  refine v_aload_n X dX0_goTo_0 (i := 0) rfl rfl ?_
  refine v_iload_n X dX0_goTo_1 (i := 1) rfl rfl ?_
  refine v_putB X hB cf0 3 (Nat.le_of_ble_eq_true rfl) rfl m_fl_X0_21 dX0_goTo_2 0 (Nat.le_of_ble_eq_true rfl) rfl rfl rfl (Nat.le_of_ble_eq_true rfl) (L' := (rdL (upd κ 3 v))) w_rd_0_step ?_
  refine v_iconst X dX0_goTo_5 (v := (1 : Int32)) (by decide) ?_
  exact v_zret X rfl dX0_goTo_6 (rfl) (rfl) (rfl)
set_option maxRecDepth 100000 in
set_option maxHeartbeats 4000000 in
theorem c_X0_start (l : Launch) (g : Ge) (N o : Nat) (κ : Nat → Int32) : Cb l g yX0_start (.code yX0_start cX0_start 1 none) 0 [.ref o] N o (rdL κ) none (rdL (stK κ)) := by
  intro f hB0
  have hB : BB g N o 1 := hB0
  refine ct_of (own := RX0) [some (.ref o)] (by decide +kernel) rfl rfl (Nat.le_of_ble_eq_true rfl) ?_
  intro vp ve vs vm va vb vt vc hnm X
  refine v_aload_n X dX0_start_0 (i := 0) rfl rfl ?_
  refine v_iconst X dX0_start_1 (v := (0 : Int32)) (by decide) ?_
  refine v_putB X hB cf0 3 (Nat.le_of_ble_eq_true rfl) rfl m_fl_X0_21 dX0_start_2 0 (Nat.le_of_ble_eq_true rfl) rfl rfl rfl (Nat.le_of_ble_eq_true rfl) (L' := (rdL (upd κ 3 (0 : Int32)))) w_rd_0_step ?_
  refine v_aload_n X dX0_start_5 (i := 0) rfl rfl ?_
  refine v_iconst X dX0_start_6 (v := (0 : Int32)) (by decide) ?_
  refine v_putB X hB cf0 0 (Nat.le_of_ble_eq_true rfl) rfl m_fl_X0_9 dX0_start_7 0 (Nat.le_of_ble_eq_true rfl) rfl rfl rfl (Nat.le_of_ble_eq_true rfl) (L' := (rdL (upd (upd κ 3 (0 : Int32)) 0 (0 : Int32)))) w_rd_0_frames ?_
  refine v_aload_n X dX0_start_10 (i := 0) rfl rfl ?_
  refine v_iconst X dX0_start_11 (v := (0 : Int32)) (by decide) ?_
  refine v_putB X hB cf0 4 (Nat.le_of_ble_eq_true rfl) rfl m_fl_X0_24 dX0_start_12 0 (Nat.le_of_ble_eq_true rfl) rfl rfl rfl (Nat.le_of_ble_eq_true rfl) (L' := (rdL (upd (upd (upd κ 3 (0 : Int32)) 0 (0 : Int32)) 4 (0 : Int32)))) w_rd_0_lowestFrame ?_
  exact v_vret X rfl dX0_start_15 (rfl) (rfl)
set_option maxRecDepth 100000 in
set_option maxHeartbeats 4000000 in
theorem c_X0_startNext (l : Launch) (g : Ge) (N o : Nat) (κ : Nat → Int32) : Cb l g yX0_startNext (.code yX0_startNext cX0_startNext 1 (some .boolean)) 1 [.ref o] N o (rdL κ) (some (.int (1 : Int32))) (rdL (stK κ)) := by
  intro f hB0
  have hB : BB g N o 1 := hB0
  refine ct_of (own := RX0) [some (.ref o)] (by decide +kernel) rfl rfl (Nat.le_of_ble_eq_true rfl) ?_
  intro vp ve vs vm va vb vt vc hnm X
  refine v_aload_n X dX0_startNext_0 (i := 0) rfl rfl ?_
  refine v_cvB X rfl yv_X0_start m_ml_X0_52 0 0 (c_X0_start l g N o κ ) hB (Nat.le_of_ble_eq_true rfl) rfl (Nat.le_of_ble_eq_true rfl) rfl (L' := (rdL (stK κ))) (rfl) rfl (Nat.le_of_ble_eq_true rfl) rfl rfl (Nat.le_of_ble_eq_true rfl) ⟨Nat.le_of_ble_eq_true rfl, Nat.le_of_ble_eq_true rfl⟩ ⟨Nat.le_of_ble_eq_true rfl, Nat.le_of_ble_eq_true rfl⟩ dX0_startNext_1 rfl ?_
  refine v_iconst X dX0_startNext_4 (v := (1 : Int32)) (by decide) ?_
  exact v_zret X rfl dX0_startNext_5 (rfl) (rfl) (rfl)
set_option maxRecDepth 100000 in
set_option maxHeartbeats 4000000 in
theorem c_X0_isBehindCard (l : Launch) (g : Ge) (N o : Nat) (κ : Nat → Int32) : Cb l g yX0_isBehindCard (.code yX0_isBehindCard cX0_isBehindCard 1 (some .boolean)) 0 [.ref o] N o (rdL κ) (some (.int (bI (κ 3 = 4)))) (rdL κ) := by
  intro f hB0
  have hB : BB g N o 1 := hB0
  refine ct_of (own := RX0) [some (.ref o)] (by decide +kernel) rfl rfl (Nat.le_of_ble_eq_true rfl) ?_
  intro vp ve vs vm va vb vt vc hnm X
  refine v_aload_n X dX0_isBehindCard_0 (i := 0) rfl rfl ?_
  refine v_getB X hB cf0 3 (Nat.le_of_ble_eq_true rfl) m_fl_X0_21 dX0_isBehindCard_1 0 (Nat.le_of_ble_eq_true rfl) rfl rfl ?_
  refine v_iconst X dX0_isBehindCard_4 (v := (4 : Int32)) (by decide) ?_
  refine v_icmp_ne X dX0_isBehindCard_5 (tgt := 12) (by decide) (fun c5 => ?_) (fun c5 => ?_)
  · skip
    refine v_iconst X dX0_isBehindCard_12 (v := (0 : Int32)) (by decide) ?_
    exact v_zret X rfl dX0_isBehindCard_13 (rfl) (by simp [bI, c5]) (rfl)
  · skip
    refine v_iconst X dX0_isBehindCard_8 (v := (1 : Int32)) (by decide) ?_
    refine v_goto X dX0_isBehindCard_9 (tgt := 13) (by decide) ?_
    exact v_zret X rfl dX0_isBehindCard_13 (rfl) (by simp [bI, c5]) (rfl)
set_option maxRecDepth 100000 in
set_option maxHeartbeats 4000000 in
theorem c_X0_acceptsFrame (l : Launch) (g : Ge) (N o : Nat) (κ : Nat → Int32) (v : Int32) : Cb l g yX0_acceptsFrame (.code yX0_acceptsFrame cX0_acceptsFrame 2 (some .boolean)) 1 [.ref o, .int v] N o (rdL κ) (some (.int (if frB κ v then (1 : Int32) else 0))) (rdL (if frB κ v then frK κ v else κ)) := by
  intro f hB0
  have hB : BB g N o 1 := hB0
  refine ct_of (own := RX0) [some (.ref o), some (.int v)] (by decide +kernel) rfl rfl (Nat.le_of_ble_eq_true rfl) ?_
  intro vp ve vs vm va vb vt vc hnm X
  refine v_iload_n X dX0_acceptsFrame_0 (i := 1) rfl rfl ?_
  refine v_aload_n X dX0_acceptsFrame_1 (i := 0) rfl rfl ?_
  refine v_getB X hB cf0 4 (Nat.le_of_ble_eq_true rfl) m_fl_X0_24 dX0_acceptsFrame_2 0 (Nat.le_of_ble_eq_true rfl) rfl rfl ?_
  refine v_iconst X dX0_acceptsFrame_5 (v := (5 : Int32)) (by decide) ?_
  refine v_csN X rfl yv_X7_isWithin m_mn_X0_44 (c_X7_isWithin l g v (κ 4) (5 : Int32) ) rfl rfl (Nat.le_of_ble_eq_true rfl) ⟨Nat.le_of_ble_eq_true rfl, Nat.le_of_ble_eq_true rfl⟩ ⟨Nat.le_of_ble_eq_true rfl, Nat.le_of_ble_eq_true rfl⟩ dX0_acceptsFrame_6 rfl ?_
  refine v_if_neB X dX0_acceptsFrame_9 (tgt := 14) (by decide) (fun c9 => ?_) (fun c9 => ?_)
  · skip
    refine v_aload_n X dX0_acceptsFrame_14 (i := 0) rfl rfl ?_
    refine v_dup X dX0_acceptsFrame_15 rfl ?_
    refine v_getB X hB cf0 0 (Nat.le_of_ble_eq_true rfl) m_fl_X0_9 dX0_acceptsFrame_16 0 (Nat.le_of_ble_eq_true rfl) rfl rfl ?_
    refine v_iconst X dX0_acceptsFrame_19 (v := (1 : Int32)) (by decide) ?_
    refine v_iload_n X dX0_acceptsFrame_20 (i := 1) rfl rfl ?_
    refine v_ishl X dX0_acceptsFrame_21 ?_
    refine v_ior X dX0_acceptsFrame_22 ?_
    refine v_putB X hB cf0 0 (Nat.le_of_ble_eq_true rfl) rfl m_fl_X0_9 dX0_acceptsFrame_23 0 (Nat.le_of_ble_eq_true rfl) rfl rfl rfl (Nat.le_of_ble_eq_true rfl) (L' := (rdL (upd κ 0 ((κ 0) ||| ((1 : Int32) <<< (v &&& 31)))))) w_rd_0_frames ?_
    refine v_aload_n X dX0_acceptsFrame_26 (i := 0) rfl rfl ?_
    refine v_iload_n X dX0_acceptsFrame_27 (i := 1) rfl rfl ?_
    refine v_iconst X dX0_acceptsFrame_28 (v := (1 : Int32)) (by decide) ?_
    refine v_iadd X dX0_acceptsFrame_29 ?_
    refine v_putB X hB cf0 4 (Nat.le_of_ble_eq_true rfl) rfl m_fl_X0_24 dX0_acceptsFrame_30 0 (Nat.le_of_ble_eq_true rfl) rfl rfl rfl (Nat.le_of_ble_eq_true rfl) (L' := (rdL (upd (upd κ 0 ((κ 0) ||| ((1 : Int32) <<< (v &&& 31)))) 4 (v + (1 : Int32))))) w_rd_0_lowestFrame ?_
    refine v_iconst X dX0_acceptsFrame_33 (v := (1 : Int32)) (by decide) ?_
    exact v_zret X rfl dX0_acceptsFrame_34 (rfl) (by rw [if_pos (show frB κ v = true from decide_eq_true c9)]) (by rw [if_pos (show frB κ v = true from decide_eq_true c9)]; rfl)
  · skip
    refine v_iconst X dX0_acceptsFrame_12 (v := (0 : Int32)) (by decide) ?_
    exact v_zret X rfl dX0_acceptsFrame_13 (rfl) (by rw [if_neg (show ¬ frB κ v = true from fun q => c9 (of_decide_eq_true q))]) (by rw [if_neg (show ¬ frB κ v = true from fun q => c9 (of_decide_eq_true q))])
set_option maxRecDepth 100000 in
set_option maxHeartbeats 4000000 in
theorem c_X0_acceptsLeft (l : Launch) (g : Ge) (N o : Nat) (κ : Nat → Int32) (v : Int32) : Cb l g yX0_acceptsLeft (.code yX0_acceptsLeft cX0_acceptsLeft 2 (some .boolean)) 2 [.ref o, .int v] N o (rdL κ) (some (.int (if bxB 0 v then (1 : Int32) else 0))) (rdL (if bxB 0 v then upd (upd κ 1 v) 3 2 else upd κ 1 v)) := by
  intro f hB0
  have hB : BB g N o 1 := hB0
  refine ct_of (own := RX0) [some (.ref o), some (.int v)] (by decide +kernel) rfl rfl (Nat.le_of_ble_eq_true rfl) ?_
  intro vp ve vs vm va vb vt vc hnm X
  refine v_aload_n X dX0_acceptsLeft_0 (i := 0) rfl rfl ?_
  refine v_iload_n X dX0_acceptsLeft_1 (i := 1) rfl rfl ?_
  refine v_putB X hB cf0 1 (Nat.le_of_ble_eq_true rfl) rfl m_fl_X0_15 dX0_acceptsLeft_2 0 (Nat.le_of_ble_eq_true rfl) rfl rfl rfl (Nat.le_of_ble_eq_true rfl) (L' := (rdL (upd κ 1 v))) w_rd_0_left ?_
  refine v_iconst X dX0_acceptsLeft_5 (v := (0 : Int32)) (by decide) ?_
  refine v_iload_n X dX0_acceptsLeft_6 (i := 1) rfl rfl ?_
  refine v_csN X rfl yv_X7_isBox m_mn_X0_48 (c_X7_isBox l g (0 : Int32) v ) rfl rfl (Nat.le_of_ble_eq_true rfl) ⟨Nat.le_of_ble_eq_true rfl, Nat.le_of_ble_eq_true rfl⟩ ⟨Nat.le_of_ble_eq_true rfl, Nat.le_of_ble_eq_true rfl⟩ dX0_acceptsLeft_7 rfl ?_
  refine v_if_eqB X dX0_acceptsLeft_10 (tgt := 25) (by decide) (fun c10 => ?_) (fun c10 => ?_)
  · skip
    refine v_iconst X dX0_acceptsLeft_25 (v := (0 : Int32)) (by decide) ?_
    exact v_zret X rfl dX0_acceptsLeft_26 (rfl) (by rw [if_neg (show ¬ bxB 0 v = true from fun q => c10 (of_decide_eq_true q))]) (by rw [if_neg (show ¬ bxB 0 v = true from fun q => c10 (of_decide_eq_true q))])
  · skip
    refine v_aload_n X dX0_acceptsLeft_13 (i := 0) rfl rfl ?_
    refine v_iconst X dX0_acceptsLeft_14 (v := (2 : Int32)) (by decide) ?_
    refine v_cvB X rfl yv_X0_goTo m_ml_X0_27 0 0 (c_X0_goTo l g N o (upd κ 1 v) (2 : Int32) ) hB (Nat.le_of_ble_eq_true rfl) rfl (Nat.le_of_ble_eq_true rfl) rfl (L' := (rdL (upd (upd κ 1 v) 3 (2 : Int32)))) (rfl) rfl (Nat.le_of_ble_eq_true rfl) rfl rfl (Nat.le_of_ble_eq_true rfl) ⟨Nat.le_of_ble_eq_true rfl, Nat.le_of_ble_eq_true rfl⟩ ⟨Nat.le_of_ble_eq_true rfl, Nat.le_of_ble_eq_true rfl⟩ dX0_acceptsLeft_15 rfl ?_
    refine v_if_eq X dX0_acceptsLeft_18 (tgt := 25) (by decide) (fun c18 => ?_) (fun c18 => ?_)
    · skip
      exact absurd c18 (by decide)
    · skip
      refine v_iconst X dX0_acceptsLeft_21 (v := (1 : Int32)) (by decide) ?_
      refine v_goto X dX0_acceptsLeft_22 (tgt := 26) (by decide) ?_
      exact v_zret X rfl dX0_acceptsLeft_26 (rfl) (by rw [if_pos (show bxB 0 v = true from decide_eq_true c10)]) (by rw [if_pos (show bxB 0 v = true from decide_eq_true c10)])
set_option maxRecDepth 100000 in
set_option maxHeartbeats 4000000 in
theorem c_X0_acceptsRight (l : Launch) (g : Ge) (N o : Nat) (κ : Nat → Int32) (v : Int32) : Cb l g yX0_acceptsRight (.code yX0_acceptsRight cX0_acceptsRight 2 (some .boolean)) 2 [.ref o, .int v] N o (rdL κ) (some (.int (if bxB 1 v then (1 : Int32) else 0))) (rdL (if bxB 1 v then upd (upd κ 2 v) 3 4 else upd κ 2 v)) := by
  intro f hB0
  have hB : BB g N o 1 := hB0
  refine ct_of (own := RX0) [some (.ref o), some (.int v)] (by decide +kernel) rfl rfl (Nat.le_of_ble_eq_true rfl) ?_
  intro vp ve vs vm va vb vt vc hnm X
  refine v_aload_n X dX0_acceptsRight_0 (i := 0) rfl rfl ?_
  refine v_iload_n X dX0_acceptsRight_1 (i := 1) rfl rfl ?_
  refine v_putB X hB cf0 2 (Nat.le_of_ble_eq_true rfl) rfl m_fl_X0_18 dX0_acceptsRight_2 0 (Nat.le_of_ble_eq_true rfl) rfl rfl rfl (Nat.le_of_ble_eq_true rfl) (L' := (rdL (upd κ 2 v))) w_rd_0_right ?_
  refine v_iconst X dX0_acceptsRight_5 (v := (1 : Int32)) (by decide) ?_
  refine v_iload_n X dX0_acceptsRight_6 (i := 1) rfl rfl ?_
  refine v_csN X rfl yv_X7_isBox m_mn_X0_48 (c_X7_isBox l g (1 : Int32) v ) rfl rfl (Nat.le_of_ble_eq_true rfl) ⟨Nat.le_of_ble_eq_true rfl, Nat.le_of_ble_eq_true rfl⟩ ⟨Nat.le_of_ble_eq_true rfl, Nat.le_of_ble_eq_true rfl⟩ dX0_acceptsRight_7 rfl ?_
  refine v_if_eqB X dX0_acceptsRight_10 (tgt := 25) (by decide) (fun c10 => ?_) (fun c10 => ?_)
  · skip
    refine v_iconst X dX0_acceptsRight_25 (v := (0 : Int32)) (by decide) ?_
    exact v_zret X rfl dX0_acceptsRight_26 (rfl) (by rw [if_neg (show ¬ bxB 1 v = true from fun q => c10 (of_decide_eq_true q))]) (by rw [if_neg (show ¬ bxB 1 v = true from fun q => c10 (of_decide_eq_true q))])
  · skip
    refine v_aload_n X dX0_acceptsRight_13 (i := 0) rfl rfl ?_
    refine v_iconst X dX0_acceptsRight_14 (v := (4 : Int32)) (by decide) ?_
    refine v_cvB X rfl yv_X0_goTo m_ml_X0_27 0 0 (c_X0_goTo l g N o (upd κ 2 v) (4 : Int32) ) hB (Nat.le_of_ble_eq_true rfl) rfl (Nat.le_of_ble_eq_true rfl) rfl (L' := (rdL (upd (upd κ 2 v) 3 (4 : Int32)))) (rfl) rfl (Nat.le_of_ble_eq_true rfl) rfl rfl (Nat.le_of_ble_eq_true rfl) ⟨Nat.le_of_ble_eq_true rfl, Nat.le_of_ble_eq_true rfl⟩ ⟨Nat.le_of_ble_eq_true rfl, Nat.le_of_ble_eq_true rfl⟩ dX0_acceptsRight_15 rfl ?_
    refine v_if_eq X dX0_acceptsRight_18 (tgt := 25) (by decide) (fun c18 => ?_) (fun c18 => ?_)
    · skip
      exact absurd c18 (by decide)
    · skip
      refine v_iconst X dX0_acceptsRight_21 (v := (1 : Int32)) (by decide) ?_
      refine v_goto X dX0_acceptsRight_22 (tgt := 26) (by decide) ?_
      exact v_zret X rfl dX0_acceptsRight_26 (rfl) (by rw [if_pos (show bxB 1 v = true from decide_eq_true c10)]) (by rw [if_pos (show bxB 1 v = true from decide_eq_true c10)])
theorem nar_if {P : Prop} [Decidable P] : narrow .boolean (.int (if P then (1 : Int32) else 0)) = .int (if P then (1 : Int32) else 0) := by
  split <;> rfl
set_option maxRecDepth 100000 in
set_option maxHeartbeats 4000000 in
theorem c_X0_accepts (l : Launch) (g : Ge) (N o : Nat) (κ : Nat → Int32) (c : Int32) : Cb l g yX0_accepts (.code yX0_accepts cX0_accepts 2 (some .boolean)) 3 [.ref o, .int c] N o (rdL κ) (some (.int (acV κ c))) (rdL (acK κ c)) := by
  intro f hB0
  have hB : BB g N o 1 := hB0
  refine ct_of (own := RX0) [some (.ref o), some (.int c)] (by decide +kernel) rfl rfl (Nat.le_of_ble_eq_true rfl) ?_
  intro vp ve vs vm va vb vt vc hnm X
  refine v_aload_n X dX0_accepts_0 (i := 0) rfl rfl ?_
  refine v_getB X hB cf0 3 (Nat.le_of_ble_eq_true rfl) m_fl_X0_21 dX0_accepts_1 0 (Nat.le_of_ble_eq_true rfl) rfl rfl ?_
  rcases sw03 (κ 3) with hw0 | hw1 | hw2 | hw3 | hwd
  · skip
    rw [show ((κ 3) : Int32) = (0 : Int32) from hw0]
    refine v_tabIn X dX0_accepts_4 (tgt := 36) (by decide) (by decide) rfl (by decide) ?_
    refine v_iload_n X dX0_accepts_36 (i := 1) rfl rfl ?_
    refine v_bipush X dX0_accepts_37 (v := (76 : Int32)) (by decide) ?_
    refine v_icmp_ne X dX0_accepts_39 (tgt := 50) (by decide) (fun c39 => ?_) (fun c39 => ?_)
    · skip
      refine v_aload_n X dX0_accepts_50 (i := 0) rfl rfl ?_
      refine v_iload_n X dX0_accepts_51 (i := 1) rfl rfl ?_
      refine v_bipush X dX0_accepts_52 (v := (48 : Int32)) (by decide) ?_
      refine v_isub X dX0_accepts_54 ?_
      refine v_cvB X rfl yv_X0_acceptsFrame m_ml_X0_31 0 0 (c_X0_acceptsFrame l g N o κ (c - (48 : Int32)) ) hB (Nat.le_of_ble_eq_true rfl) rfl (Nat.le_of_ble_eq_true rfl) rfl (L' := (rdL (if frB κ (c - (48 : Int32)) then frK κ (c - (48 : Int32)) else κ))) (rfl) rfl (Nat.le_of_ble_eq_true rfl) rfl rfl (Nat.le_of_ble_eq_true rfl) ⟨Nat.le_of_ble_eq_true rfl, Nat.le_of_ble_eq_true rfl⟩ ⟨Nat.le_of_ble_eq_true rfl, Nat.le_of_ble_eq_true rfl⟩ dX0_accepts_55 rfl ?_
      exact v_zret X rfl dX0_accepts_58 (by first | rfl | exact nar_if) (by rw [acV, if_pos hw0, if_neg c39]) (by rw [acK, if_pos hw0, if_neg c39])
    · skip
      refine v_aload_n X dX0_accepts_42 (i := 0) rfl rfl ?_
      refine v_iconst X dX0_accepts_43 (v := (1 : Int32)) (by decide) ?_
      refine v_cvB X rfl yv_X0_goTo m_ml_X0_27 0 0 (c_X0_goTo l g N o κ (1 : Int32) ) hB (Nat.le_of_ble_eq_true rfl) rfl (Nat.le_of_ble_eq_true rfl) rfl (L' := (rdL (upd κ 3 (1 : Int32)))) (rfl) rfl (Nat.le_of_ble_eq_true rfl) rfl rfl (Nat.le_of_ble_eq_true rfl) ⟨Nat.le_of_ble_eq_true rfl, Nat.le_of_ble_eq_true rfl⟩ ⟨Nat.le_of_ble_eq_true rfl, Nat.le_of_ble_eq_true rfl⟩ dX0_accepts_44 rfl ?_
      refine v_goto X dX0_accepts_47 (tgt := 58) (by decide) ?_
      exact v_zret X rfl dX0_accepts_58 (by first | rfl | exact nar_if) (by rw [acV, if_pos hw0, if_pos c39]) (by rw [acK, if_pos hw0, if_pos c39])
  · skip
    rw [show ((κ 3) : Int32) = (1 : Int32) from hw1]
    refine v_tabIn X dX0_accepts_4 (tgt := 59) (by decide) (by decide) rfl (by decide) ?_
    refine v_aload_n X dX0_accepts_59 (i := 0) rfl rfl ?_
    refine v_iload_n X dX0_accepts_60 (i := 1) rfl rfl ?_
    refine v_bipush X dX0_accepts_61 (v := (48 : Int32)) (by decide) ?_
    refine v_isub X dX0_accepts_63 ?_
    refine v_cvB X rfl yv_X0_acceptsLeft m_ml_X0_34 0 0 (c_X0_acceptsLeft l g N o κ (c - (48 : Int32)) ) hB (Nat.le_of_ble_eq_true rfl) rfl (Nat.le_of_ble_eq_true rfl) rfl (L' := (rdL (if bxB 0 (c - (48 : Int32)) then upd (upd κ 1 (c - (48 : Int32))) 3 2 else upd κ 1 (c - (48 : Int32))))) (rfl) rfl (Nat.le_of_ble_eq_true rfl) rfl rfl (Nat.le_of_ble_eq_true rfl) ⟨Nat.le_of_ble_eq_true rfl, Nat.le_of_ble_eq_true rfl⟩ ⟨Nat.le_of_ble_eq_true rfl, Nat.le_of_ble_eq_true rfl⟩ dX0_accepts_64 rfl ?_
    exact v_zret X rfl dX0_accepts_67 (by first | rfl | exact nar_if) (by rw [acV, if_neg (show ¬ κ 3 = 0 from fun q => absurd (q.symm.trans hw1) (by decide)), if_pos hw1]) (by rw [acK, if_neg (show ¬ κ 3 = 0 from fun q => absurd (q.symm.trans hw1) (by decide)), if_pos hw1])
  · skip
    rw [show ((κ 3) : Int32) = (2 : Int32) from hw2]
    refine v_tabIn X dX0_accepts_4 (tgt := 68) (by decide) (by decide) rfl (by decide) ?_
    refine v_iload_n X dX0_accepts_68 (i := 1) rfl rfl ?_
    refine v_bipush X dX0_accepts_69 (v := (82 : Int32)) (by decide) ?_
    refine v_icmp_ne X dX0_accepts_71 (tgt := 86) (by decide) (fun c71 => ?_) (fun c71 => ?_)
    · skip
      refine v_iconst X dX0_accepts_86 (v := (0 : Int32)) (by decide) ?_
      exact v_zret X rfl dX0_accepts_87 (by first | rfl | exact nar_if) (by rw [acV, if_neg (show ¬ κ 3 = 0 from fun q => absurd (q.symm.trans hw2) (by decide)), if_neg (show ¬ κ 3 = 1 from fun q => absurd (q.symm.trans hw2) (by decide)), if_pos hw2, if_neg c71]) (by rw [acK, if_neg (show ¬ κ 3 = 0 from fun q => absurd (q.symm.trans hw2) (by decide)), if_neg (show ¬ κ 3 = 1 from fun q => absurd (q.symm.trans hw2) (by decide)), if_pos hw2, if_neg c71])
    · skip
      refine v_aload_n X dX0_accepts_74 (i := 0) rfl rfl ?_
      refine v_iconst X dX0_accepts_75 (v := (3 : Int32)) (by decide) ?_
      refine v_cvB X rfl yv_X0_goTo m_ml_X0_27 0 0 (c_X0_goTo l g N o κ (3 : Int32) ) hB (Nat.le_of_ble_eq_true rfl) rfl (Nat.le_of_ble_eq_true rfl) rfl (L' := (rdL (upd κ 3 (3 : Int32)))) (rfl) rfl (Nat.le_of_ble_eq_true rfl) rfl rfl (Nat.le_of_ble_eq_true rfl) ⟨Nat.le_of_ble_eq_true rfl, Nat.le_of_ble_eq_true rfl⟩ ⟨Nat.le_of_ble_eq_true rfl, Nat.le_of_ble_eq_true rfl⟩ dX0_accepts_76 rfl ?_
      refine v_if_eq X dX0_accepts_79 (tgt := 86) (by decide) (fun c79 => ?_) (fun c79 => ?_)
      · skip
        exact absurd c79 (by decide)
      · skip
        refine v_iconst X dX0_accepts_82 (v := (1 : Int32)) (by decide) ?_
        refine v_goto X dX0_accepts_83 (tgt := 87) (by decide) ?_
        exact v_zret X rfl dX0_accepts_87 (by first | rfl | exact nar_if) (by rw [acV, if_neg (show ¬ κ 3 = 0 from fun q => absurd (q.symm.trans hw2) (by decide)), if_neg (show ¬ κ 3 = 1 from fun q => absurd (q.symm.trans hw2) (by decide)), if_pos hw2, if_pos c71]) (by rw [acK, if_neg (show ¬ κ 3 = 0 from fun q => absurd (q.symm.trans hw2) (by decide)), if_neg (show ¬ κ 3 = 1 from fun q => absurd (q.symm.trans hw2) (by decide)), if_pos hw2, if_pos c71])
  · skip
    rw [show ((κ 3) : Int32) = (3 : Int32) from hw3]
    refine v_tabIn X dX0_accepts_4 (tgt := 88) (by decide) (by decide) rfl (by decide) ?_
    refine v_aload_n X dX0_accepts_88 (i := 0) rfl rfl ?_
    refine v_iload_n X dX0_accepts_89 (i := 1) rfl rfl ?_
    refine v_bipush X dX0_accepts_90 (v := (48 : Int32)) (by decide) ?_
    refine v_isub X dX0_accepts_92 ?_
    refine v_cvB X rfl yv_X0_acceptsRight m_ml_X0_37 0 0 (c_X0_acceptsRight l g N o κ (c - (48 : Int32)) ) hB (Nat.le_of_ble_eq_true rfl) rfl (Nat.le_of_ble_eq_true rfl) rfl (L' := (rdL (if bxB 1 (c - (48 : Int32)) then upd (upd κ 2 (c - (48 : Int32))) 3 4 else upd κ 2 (c - (48 : Int32))))) (rfl) rfl (Nat.le_of_ble_eq_true rfl) rfl rfl (Nat.le_of_ble_eq_true rfl) ⟨Nat.le_of_ble_eq_true rfl, Nat.le_of_ble_eq_true rfl⟩ ⟨Nat.le_of_ble_eq_true rfl, Nat.le_of_ble_eq_true rfl⟩ dX0_accepts_93 rfl ?_
    exact v_zret X rfl dX0_accepts_96 (by first | rfl | exact nar_if) (by rw [acV, if_neg (show ¬ κ 3 = 0 from fun q => absurd (q.symm.trans hw3) (by decide)), if_neg (show ¬ κ 3 = 1 from fun q => absurd (q.symm.trans hw3) (by decide)), if_neg (show ¬ κ 3 = 2 from fun q => absurd (q.symm.trans hw3) (by decide)), if_pos hw3]) (by rw [acK, if_neg (show ¬ κ 3 = 0 from fun q => absurd (q.symm.trans hw3) (by decide)), if_neg (show ¬ κ 3 = 1 from fun q => absurd (q.symm.trans hw3) (by decide)), if_neg (show ¬ κ 3 = 2 from fun q => absurd (q.symm.trans hw3) (by decide)), if_pos hw3])
  · skip
    refine v_tabOut X dX0_accepts_4 (tgt := 97) hwd (by decide) ?_
    refine v_iload_n X dX0_accepts_97 (i := 1) rfl rfl ?_
    refine v_bipush X dX0_accepts_98 (v := (59 : Int32)) (by decide) ?_
    refine v_icmp_ne X dX0_accepts_100 (tgt := 114) (by decide) (fun c100 => ?_) (fun c100 => ?_)
    · skip
      refine v_iconst X dX0_accepts_114 (v := (0 : Int32)) (by decide) ?_
      exact v_zret X rfl dX0_accepts_115 (by first | rfl | exact nar_if) (by rw [acV, if_neg (show ¬ κ 3 = 0 from fun q => by rw [q] at hwd; exact absurd hwd (by decide)), if_neg (show ¬ κ 3 = 1 from fun q => by rw [q] at hwd; exact absurd hwd (by decide)), if_neg (show ¬ κ 3 = 2 from fun q => by rw [q] at hwd; exact absurd hwd (by decide)), if_neg (show ¬ κ 3 = 3 from fun q => by rw [q] at hwd; exact absurd hwd (by decide)), if_neg c100]) (by rw [acK, if_neg (show ¬ κ 3 = 0 from fun q => by rw [q] at hwd; exact absurd hwd (by decide)), if_neg (show ¬ κ 3 = 1 from fun q => by rw [q] at hwd; exact absurd hwd (by decide)), if_neg (show ¬ κ 3 = 2 from fun q => by rw [q] at hwd; exact absurd hwd (by decide)), if_neg (show ¬ κ 3 = 3 from fun q => by rw [q] at hwd; exact absurd hwd (by decide)), if_neg c100])
    · skip
      refine v_aload_n X dX0_accepts_103 (i := 0) rfl rfl ?_
      refine v_cvB X rfl yv_X0_startNext m_ml_X0_40 0 0 (c_X0_startNext l g N o κ ) hB (Nat.le_of_ble_eq_true rfl) rfl (Nat.le_of_ble_eq_true rfl) rfl (L' := (rdL (stK κ))) (rfl) rfl (Nat.le_of_ble_eq_true rfl) rfl rfl (Nat.le_of_ble_eq_true rfl) ⟨Nat.le_of_ble_eq_true rfl, Nat.le_of_ble_eq_true rfl⟩ ⟨Nat.le_of_ble_eq_true rfl, Nat.le_of_ble_eq_true rfl⟩ dX0_accepts_104 rfl ?_
      refine v_if_eq X dX0_accepts_107 (tgt := 114) (by decide) (fun c107 => ?_) (fun c107 => ?_)
      · skip
        exact absurd c107 (by decide)
      · skip
        refine v_iconst X dX0_accepts_110 (v := (1 : Int32)) (by decide) ?_
        refine v_goto X dX0_accepts_111 (tgt := 115) (by decide) ?_
        exact v_zret X rfl dX0_accepts_115 (by first | rfl | exact nar_if) (by rw [acV, if_neg (show ¬ κ 3 = 0 from fun q => by rw [q] at hwd; exact absurd hwd (by decide)), if_neg (show ¬ κ 3 = 1 from fun q => by rw [q] at hwd; exact absurd hwd (by decide)), if_neg (show ¬ κ 3 = 2 from fun q => by rw [q] at hwd; exact absurd hwd (by decide)), if_neg (show ¬ κ 3 = 3 from fun q => by rw [q] at hwd; exact absurd hwd (by decide)), if_pos c100]) (by rw [acK, if_neg (show ¬ κ 3 = 0 from fun q => by rw [q] at hwd; exact absurd hwd (by decide)), if_neg (show ¬ κ 3 = 1 from fun q => by rw [q] at hwd; exact absurd hwd (by decide)), if_neg (show ¬ κ 3 = 2 from fun q => by rw [q] at hwd; exact absurd hwd (by decide)), if_neg (show ¬ κ 3 = 3 from fun q => by rw [q] at hwd; exact absurd hwd (by decide)), if_pos c100])
