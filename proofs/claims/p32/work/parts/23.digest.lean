/-! the cards of the text, the digest -/
def apG (σ : Nat → Int32) (fr a b : Int32) : Nat → Int32 := if nt (σ 0) < 16 then apS σ (nt (σ 0)) fr a b else σ
theorem apG_o {σ : Nat → Int32} {fr a b : Int32} {i : Nat} (h : ¬ (i < 2 ∨ 56 ≤ i)) : apG σ fr a b i = σ i := by
  unfold apG
  split
  · unfold apS; rw [pk_un (by omega), pk_un (by omega), pk_un (by omega), pk_un (by omega)]
  · rfl
theorem apG_0 {σ : Nat → Int32} {fr a b : Int32} {C : Nat} (hC : σ 0 = nI C) (hC16 : C ≤ 16) : ∃ C2, apG σ fr a b 0 = nI C2 ∧ C2 ≤ 16 := by
  have e : nt (σ 0) = C := nt_of hC (by omega)
  unfold apG
  rw [e]
  by_cases h : C < 16
  · exact ⟨C + 1, by rw [if_pos h, apS, pk_us], by omega⟩
  · exact ⟨C, by rw [if_neg h, hC], hC16⟩
def rcS (κ τ σ : Nat → Int32) : Nat → Nat → Int32
  | 0 => σ
  | k + 1 => if acV (auK κ τ k) (τ k) = 0 then rcS κ τ σ k else if auK κ τ (k + 1) 3 = 4 then apG (rcS κ τ σ k) (auK κ τ (k + 1) 0) (auK κ τ (k + 1) 1) (auK κ τ (k + 1) 2) else rcS κ τ σ k
def rdE (σ κ τ : Nat → Int32) (len : Nat) : Int32 := if ¬ seF κ τ len 0 = -6 then -5 else if 16 < σ 0 + ctC τ len then -4 else 0
def hsA (h : Int64) (f : Nat → Int32) : Nat → Int64
  | 0 => h
  | k + 1 => 31 * hsA h f k + (f k).toInt64
def hoS (σ : Nat → Int32) (h : Int64) : Nat → Int64
  | 0 => h
  | s + 1 => hsA (hoS σ h s) (fun w => shF σ (nI s) (nI w)) 4
def hoT (σ ρ : Nat → Int32) (lt R : Nat) (h : Int64) : Nat → Int64
  | 0 => h
  | t + 1 => 31 * hsA (hoT σ ρ lt R h t) (fun w => thF σ (nI t) (nI w)) 3 + (lgF ρ lt R (nI t)).toInt64
def hoC (σ : Nat → Int32) (h : Int64) : Nat → Int64
  | 0 => h
  | c + 1 => hsA (hoC σ h c) (fun w => cdF σ (nI c) (nI w)) 4
def hoL (σ ρ : Nat → Int32) (lt : Nat) (h : Int64) : Nat → Int64
  | 0 => h
  | r + 1 => hsA (hoL σ ρ lt h r) (fun t => clF σ ρ lt (nI r) (nI t)) 12
def dgF (σ ρ : Nat → Int32) (lt R C P : Nat) : Int64 := 31 * (31 * (31 * (31 * hoL σ ρ lt (hoC σ (hoT σ ρ lt R (hoS σ (hsA 334 (fun w => cnF σ (nI w)) 12) 5) 12) C) R + (rsG σ C P).toInt64) + (plC 200 0 σ).toInt64) + (feC 999 σ).toInt64) + (if C = 0 then (0 : Int32) else rpC C (upd σ 1 0) σ).toInt64
set_option maxRecDepth 100000 in
set_option maxHeartbeats 4000000 in
theorem c_X1_append2 (l : Launch) (g : Ge) (N o : Nat) (σ : Nat → Int32) (C : Nat) (fr a b : Int32) (hC : σ 0 = nI C) (hC16 : C ≤ 16) : Cb l g yX1_append (.code yX1_append cX1_append 4 none) 0 [.ref o, .int fr, .int a, .int b] N o (chL g o σ) none (chL g o (apG σ fr a b)) := by
  intro f hB0
  have hB : BB g N o 4 := hB0
  refine ct_of (own := RX1) [some (.ref o), some (.int fr), some (.int a), some (.int b)] (by decide +kernel) rfl rfl (Nat.le_of_ble_eq_true rfl) ?_
  intro vp ve vs vm va vb vt vc hnm X
  refine v_aload_n X dX1_append_0 (i := 0) rfl rfl ?_
  refine v_getB X hB cf1 3 (Nat.le_of_ble_eq_true rfl) m_fl_X1_21 dX1_append_1 0 (Nat.le_of_ble_eq_true rfl) rfl rfl ?_
  refine v_if_lt X dX1_append_4 (tgt := 56) (by decide) (fun c4 => ?_) (fun c4 => ?_)
  · skip
    exact absurd c4 (by rw [hC]; exact nI_pos (by omega))
  · skip
    refine v_aload_n X dX1_append_7 (i := 0) rfl rfl ?_
    refine v_getB X hB cf1 3 (Nat.le_of_ble_eq_true rfl) m_fl_X1_21 dX1_append_8 0 (Nat.le_of_ble_eq_true rfl) rfl rfl ?_
    refine v_bipush X dX1_append_11 (v := (16 : Int32)) (by decide) ?_
    refine v_icmp_ge X dX1_append_13 (tgt := 56) (by decide) (fun c13 => ?_) (fun c13 => ?_)
    · skip
      have hC1 : ¬ C < 16 := fun z => absurd (by rw [← hC]; exact c13) (nI_ge (a := C) (b := 16) z (by omega))
      exact v_vret X rfl dX1_append_56 (rfl) (by rw [apG, nt_of hC (by omega), if_neg hC1])
    · skip
      have hC1 : C < 16 := lt_of_nI (b := 16) (by omega) (by omega) (by rw [← hC]; exact c13)
      refine v_aload_n X dX1_append_16 (i := 0) rfl rfl ?_
      refine v_getB X hB cf1 0 (Nat.le_of_ble_eq_true rfl) m_fl_X1_9 dX1_append_17 0 (Nat.le_of_ble_eq_true rfl) rfl rfl ?_
      refine v_aload_n X dX1_append_20 (i := 0) rfl rfl ?_
      refine v_getB X hB cf1 3 (Nat.le_of_ble_eq_true rfl) m_fl_X1_21 dX1_append_21 0 (Nat.le_of_ble_eq_true rfl) rfl rfl ?_
      refine v_iload_n X dX1_append_24 (i := 1) rfl rfl ?_
      refine v_iastB (n := 16) X hB dX1_append_25 1 (Nat.le_of_ble_eq_true rfl) rfl C (by rw [hC]) (by omega) (Nat.le_of_ble_eq_true rfl) (L' := (chL g o (upd σ (56 + 3 * C) fr))) (w_ch_1 (by omega)) ?_
      refine v_aload_n X dX1_append_26 (i := 0) rfl rfl ?_
      refine v_getB X hB cf1 1 (Nat.le_of_ble_eq_true rfl) m_fl_X1_15 dX1_append_27 0 (Nat.le_of_ble_eq_true rfl) rfl rfl ?_
      refine v_aload_n X dX1_append_30 (i := 0) rfl rfl ?_
      refine v_getB X hB cf1 3 (Nat.le_of_ble_eq_true rfl) m_fl_X1_21 dX1_append_31 0 (Nat.le_of_ble_eq_true rfl) rfl rfl ?_
      refine v_iload_n X dX1_append_34 (i := 2) rfl rfl ?_
      refine v_iastB (n := 16) X hB dX1_append_35 2 (Nat.le_of_ble_eq_true rfl) rfl C (by rw [pk_un (by omega), hC]) (by omega) (Nat.le_of_ble_eq_true rfl) (L' := (chL g o (upd (upd σ (56 + 3 * C) fr) (57 + 3 * C) a))) (w_ch_2 (by omega)) ?_
      refine v_aload_n X dX1_append_36 (i := 0) rfl rfl ?_
      refine v_getB X hB cf1 2 (Nat.le_of_ble_eq_true rfl) m_fl_X1_18 dX1_append_37 0 (Nat.le_of_ble_eq_true rfl) rfl rfl ?_
      refine v_aload_n X dX1_append_40 (i := 0) rfl rfl ?_
      refine v_getB X hB cf1 3 (Nat.le_of_ble_eq_true rfl) m_fl_X1_21 dX1_append_41 0 (Nat.le_of_ble_eq_true rfl) rfl rfl ?_
      refine v_iload_n X dX1_append_44 (i := 3) rfl rfl ?_
      refine v_iastB (n := 16) X hB dX1_append_45 3 (Nat.le_of_ble_eq_true rfl) rfl C (by rw [pk_un (by omega), pk_un (by omega), hC]) (by omega) (Nat.le_of_ble_eq_true rfl) (L' := (chL g o (upd (upd (upd σ (56 + 3 * C) fr) (57 + 3 * C) a) (58 + 3 * C) b))) (w_ch_3 (by omega)) ?_
      refine v_aload_n X dX1_append_46 (i := 0) rfl rfl ?_
      refine v_dup X dX1_append_47 rfl ?_
      refine v_getB X hB cf1 3 (Nat.le_of_ble_eq_true rfl) m_fl_X1_21 dX1_append_48 0 (Nat.le_of_ble_eq_true rfl) rfl rfl ?_
      refine v_iconst X dX1_append_51 (v := (1 : Int32)) (by decide) ?_
      refine v_iadd X dX1_append_52 ?_
      refine v_putB X hB cf1 3 (Nat.le_of_ble_eq_true rfl) rfl m_fl_X1_21 dX1_append_53 0 (Nat.le_of_ble_eq_true rfl) rfl rfl rfl (Nat.le_of_ble_eq_true rfl) (L' := (chL g o (upd (upd (upd (upd σ (56 + 3 * C) fr) (57 + 3 * C) a) (58 + 3 * C) b) 0 (((upd (upd (upd σ (56 + 3 * C) fr) (57 + 3 * C) a) (58 + 3 * C) b) 0) + (1 : Int32))))) w_ch_0_cards ?_
      exact v_vret X rfl dX1_append_56 (rfl) (by rw [apG, nt_of hC (by omega), if_pos hC1, apS, pk_un (by omega), pk_un (by omega), pk_un (by omega), hC, nI_1])
-- (no theorem c_X7_readCards here: the claim has no such method)
-- (no theorem c_X7_hashShuttles here: the claim has no such method)
-- (no theorem c_X7_hashThreads here: the claim has no such method)
-- (no theorem c_X7_hashCards here: the claim has no such method)
-- (no theorem c_X7_hashCloth here: the claim has no such method)
-- (no theorem c_X7_digest here: the claim has no such method)
