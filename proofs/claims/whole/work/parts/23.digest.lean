/-! the cards of the text, the digest -/
def apG (σ : Nat → Int32) (fr a b : Int32) : Nat → Int32 := if nt (σ 0) < 16 then apS σ (nt (σ 0)) fr a b else σ
theorem apG_o {σ : Nat → Int32} {fr a b : Int32} {i : Nat} (h : ¬ (i < 2 ∨ 56 ≤ i)) : apG σ fr a b i = σ i := by
  unfold apG
  split
  · unfold apS; rw [pk_un (by omega), pk_un (by omega), pk_un (by omega), pk_un (by omega)]
  · rfl
theorem apG_0 {σ : Nat → Int32} {fr a b : Int32} {C : Nat} (hC : σ 0 = nI C) (hC16 : C ≤ 16) : ∃ C2, apG σ fr a b 0 = nI C2 ∧ C2 ≤ 16 := by
  have e : nt (σ 0) = C := nt_of hC (by omega)
  unfold apG
  rw [e]
  by_cases h : C < 16
  · exact ⟨C + 1, by rw [if_pos h, apS, pk_us], by omega⟩
  · exact ⟨C, by rw [if_neg h, hC], hC16⟩
def rcS (κ τ σ : Nat → Int32) : Nat → Nat → Int32
  | 0 => σ
  | k + 1 => if acV (auK κ τ k) (τ k) = 0 then rcS κ τ σ k else if auK κ τ (k + 1) 3 = 4 then apG (rcS κ τ σ k) (auK κ τ (k + 1) 0) (auK κ τ (k + 1) 1) (auK κ τ (k + 1) 2) else rcS κ τ σ k
def rdE (σ κ τ : Nat → Int32) (len : Nat) : Int32 := if ¬ seF κ τ len 0 = -6 then -5 else if 16 < σ 0 + ctC τ len then -4 else 0
def hsA (h : Int64) (f : Nat → Int32) : Nat → Int64
  | 0 => h
  | k + 1 => 31 * hsA h f k + (f k).toInt64
def hoS (σ : Nat → Int32) (h : Int64) : Nat → Int64
  | 0 => h
  | s + 1 => hsA (hoS σ h s) (fun w => shF σ (nI s) (nI w)) 4
def hoT (σ ρ : Nat → Int32) (lt R : Nat) (h : Int64) : Nat → Int64
  | 0 => h
  | t + 1 => 31 * hsA (hoT σ ρ lt R h t) (fun w => thF σ (nI t) (nI w)) 3 + (lgF ρ lt R (nI t)).toInt64
def hoC (σ : Nat → Int32) (h : Int64) : Nat → Int64
  | 0 => h
  | c + 1 => hsA (hoC σ h c) (fun w => cdF σ (nI c) (nI w)) 4
def hoL (σ ρ : Nat → Int32) (lt : Nat) (h : Int64) : Nat → Int64
  | 0 => h
  | r + 1 => hsA (hoL σ ρ lt h r) (fun t => clF σ ρ lt (nI r) (nI t)) 12
def dgF (σ ρ : Nat → Int32) (lt R C P : Nat) : Int64 := 31 * (31 * (31 * (31 * hoL σ ρ lt (hoC σ (hoT σ ρ lt R (hoS σ (hsA 334 (fun w => cnF σ (nI w)) 12) 5) 12) C) R + (rsG σ C P).toInt64) + (plC 200 0 σ).toInt64) + (feC 999 σ).toInt64) + (if C = 0 then (0 : Int32) else rpC C (upd σ 1 0) σ).toInt64
set_option maxRecDepth 100000 in
set_option maxHeartbeats 4000000 in
theorem c_X1_append2 (l : Launch) (g : Ge) (N o : Nat) (σ : Nat → Int32) (C : Nat) (fr a b : Int32) (hC : σ 0 = nI C) (hC16 : C ≤ 16) : Cb l g yX1_append (.code yX1_append cX1_append 4 none) 0 [.ref o, .int fr, .int a, .int b] N o (chL g o σ) none (chL g o (apG σ fr a b)) := by
  intro f hB0
  have hB : BB g N o 4 := hB0
  refine ct_of (own := RX1) [some (.ref o), some (.int fr), some (.int a), some (.int b)] (by decide +kernel) rfl rfl (Nat.le_of_ble_eq_true rfl) ?_
  intro vp ve vs vm va vb vt vc hnm X
  refine v_aload_n X dX1_append_0 (i := 0) rfl rfl ?_
  refine v_getB X hB cf1 3 (Nat.le_of_ble_eq_true rfl) m_fl_X1_21 dX1_append_1 0 (Nat.le_of_ble_eq_true rfl) rfl rfl ?_
  refine v_if_lt X dX1_append_4 (tgt := 56) (by decide) (fun c4 => ?_) (fun c4 => ?_)
  · skip
    exact absurd c4 (by rw [hC]; exact nI_pos (by omega))
  · skip
    refine v_aload_n X dX1_append_7 (i := 0) rfl rfl ?_
    refine v_getB X hB cf1 3 (Nat.le_of_ble_eq_true rfl) m_fl_X1_21 dX1_append_8 0 (Nat.le_of_ble_eq_true rfl) rfl rfl ?_
    refine v_bipush X dX1_append_11 (v := (16 : Int32)) (by decide) ?_
    refine v_icmp_ge X dX1_append_13 (tgt := 56) (by decide) (fun c13 => ?_) (fun c13 => ?_)
    · skip
      have hC1 : ¬ C < 16 := fun z => absurd (by rw [← hC]; exact c13) (nI_ge (a := C) (b := 16) z (by omega))
      exact v_vret X rfl dX1_append_56 (rfl) (by rw [apG, nt_of hC (by omega), if_neg hC1])
    · skip
      have hC1 : C < 16 := lt_of_nI (b := 16) (by omega) (by omega) (by rw [← hC]; exact c13)
      refine v_aload_n X dX1_append_16 (i := 0) rfl rfl ?_
      refine v_getB X hB cf1 0 (Nat.le_of_ble_eq_true rfl) m_fl_X1_9 dX1_append_17 0 (Nat.le_of_ble_eq_true rfl) rfl rfl ?_
      refine v_aload_n X dX1_append_20 (i := 0) rfl rfl ?_
      refine v_getB X hB cf1 3 (Nat.le_of_ble_eq_true rfl) m_fl_X1_21 dX1_append_21 0 (Nat.le_of_ble_eq_true rfl) rfl rfl ?_
      refine v_iload_n X dX1_append_24 (i := 1) rfl rfl ?_
      refine v_iastB (n := 16) X hB dX1_append_25 1 (Nat.le_of_ble_eq_true rfl) rfl C (by rw [hC]) (by omega) (Nat.le_of_ble_eq_true rfl) (L' := (chL g o (upd σ (56 + 3 * C) fr))) (w_ch_1 (by omega)) ?_
      refine v_aload_n X dX1_append_26 (i := 0) rfl rfl ?_
      refine v_getB X hB cf1 1 (Nat.le_of_ble_eq_true rfl) m_fl_X1_15 dX1_append_27 0 (Nat.le_of_ble_eq_true rfl) rfl rfl ?_
      refine v_aload_n X dX1_append_30 (i := 0) rfl rfl ?_
      refine v_getB X hB cf1 3 (Nat.le_of_ble_eq_true rfl) m_fl_X1_21 dX1_append_31 0 (Nat.le_of_ble_eq_true rfl) rfl rfl ?_
      refine v_iload_n X dX1_append_34 (i := 2) rfl rfl ?_
      refine v_iastB (n := 16) X hB dX1_append_35 2 (Nat.le_of_ble_eq_true rfl) rfl C (by rw [pk_un (by omega), hC]) (by omega) (Nat.le_of_ble_eq_true rfl) (L' := (chL g o (upd (upd σ (56 + 3 * C) fr) (57 + 3 * C) a))) (w_ch_2 (by omega)) ?_
      refine v_aload_n X dX1_append_36 (i := 0) rfl rfl ?_
      refine v_getB X hB cf1 2 (Nat.le_of_ble_eq_true rfl) m_fl_X1_18 dX1_append_37 0 (Nat.le_of_ble_eq_true rfl) rfl rfl ?_
      refine v_aload_n X dX1_append_40 (i := 0) rfl rfl ?_
      refine v_getB X hB cf1 3 (Nat.le_of_ble_eq_true rfl) m_fl_X1_21 dX1_append_41 0 (Nat.le_of_ble_eq_true rfl) rfl rfl ?_
      refine v_iload_n X dX1_append_44 (i := 3) rfl rfl ?_
      refine v_iastB (n := 16) X hB dX1_append_45 3 (Nat.le_of_ble_eq_true rfl) rfl C (by rw [pk_un (by omega), pk_un (by omega), hC]) (by omega) (Nat.le_of_ble_eq_true rfl) (L' := (chL g o (upd (upd (upd σ (56 + 3 * C) fr) (57 + 3 * C) a) (58 + 3 * C) b))) (w_ch_3 (by omega)) ?_
      refine v_aload_n X dX1_append_46 (i := 0) rfl rfl ?_
      refine v_dup X dX1_append_47 rfl ?_
      refine v_getB X hB cf1 3 (Nat.le_of_ble_eq_true rfl) m_fl_X1_21 dX1_append_48 0 (Nat.le_of_ble_eq_true rfl) rfl rfl ?_
      refine v_iconst X dX1_append_51 (v := (1 : Int32)) (by decide) ?_
      refine v_iadd X dX1_append_52 ?_
      refine v_putB X hB cf1 3 (Nat.le_of_ble_eq_true rfl) rfl m_fl_X1_21 dX1_append_53 0 (Nat.le_of_ble_eq_true rfl) rfl rfl rfl (Nat.le_of_ble_eq_true rfl) (L' := (chL g o (upd (upd (upd (upd σ (56 + 3 * C) fr) (57 + 3 * C) a) (58 + 3 * C) b) 0 (((upd (upd (upd σ (56 + 3 * C) fr) (57 + 3 * C) a) (58 + 3 * C) b) 0) + (1 : Int32))))) w_ch_0_cards ?_
      exact v_vret X rfl dX1_append_56 (rfl) (by rw [apG, nt_of hC (by omega), if_pos hC1, apS, pk_un (by omega), pk_un (by omega), pk_un (by omega), hC, nI_1])
set_option maxRecDepth 100000 in
set_option maxHeartbeats 4000000 in
theorem c_X7_readCards (l : Launch) (g : Ge) (N o : Nat) (σ ρ : Nat → Int32) (S P : Nat → Nat → Int32) (φ κ τ π : Nat → Int32) (q n : Nat) (hq : π 1 = nI q) (hq6 : q < 6) (hn : π 0 = nI n) (hn6 : n ≤ 6) (len : Nat) (hlen : π 2 = nI len) (hlen80 : len ≤ 80) (C0 : Nat) (hC0 : σ 0 = nI C0) (hC016 : C0 ≤ 16) : Cb l g yX7_readCards (.code yX7_readCards cX7_readCards 3 (some .int)) 6 [.ref o] N o (xL g o σ ρ S P φ κ τ π) (some (.int (if (rdE σ κ τ len) = 0 then rcS (seK κ τ len 0) τ (c8 σ) len 0 else (rdE σ κ τ len)))) (xL g o (if (rdE σ κ τ len) = 0 then rcS (seK κ τ len 0) τ (c8 σ) len else σ) ρ (svS (rdE σ κ τ len) S q σ) (svS (rdE σ κ τ len) P q ρ) φ (if (rdE σ κ τ len) = 0 then auK (seK κ τ len 0) τ len else (seK κ τ len 0)) τ (if (rdE σ κ τ len) = 0 then upd (upd (upd π 1 (nI ((q + 1) % 6))) 0 (nI (svN n))) 2 0 else π)) := by
  intro f hB0
  have hB : BB g N o 179 := hB0
  refine ct_of (own := RX7) [some (.ref o), none, none] (by decide +kernel) rfl rfl (Nat.le_of_ble_eq_true rfl) ?_
  intro vp ve vs vm va vb vt vc hnm X
  refine v_aload_n X dX7_readCards_0 (i := 0) rfl rfl ?_
  refine v_cvB X rfl yv_X7_syntaxError m_ml_X7_233 0 0 (c_X7_syntaxError l g N o σ ρ S P φ κ τ π len hlen hlen80) hB (Nat.le_of_ble_eq_true rfl) rfl (Nat.le_of_ble_eq_true rfl) rfl (L' := (xL g o σ ρ S P φ (seK κ τ len 0) τ π)) (rfl) rfl (Nat.le_of_ble_eq_true rfl) rfl rfl (Nat.le_of_ble_eq_true rfl) ⟨Nat.le_of_ble_eq_true rfl, Nat.le_of_ble_eq_true rfl⟩ ⟨Nat.le_of_ble_eq_true rfl, Nat.le_of_ble_eq_true rfl⟩ dX7_readCards_1 rfl ?_
  refine v_bipush X dX7_readCards_4 (v := (-6 : Int32)) (by decide) ?_
  refine v_icmp_eq X dX7_readCards_6 (tgt := 12) (by decide) (fun c6 => ?_) (fun c6 => ?_)
  · skip
    refine v_aload_n X dX7_readCards_12 (i := 0) rfl rfl ?_
    refine v_getB X hB cf7 0 (Nat.le_of_ble_eq_true rfl) m_fl_X7_12 dX7_readCards_13 0 (Nat.le_of_ble_eq_true rfl) rfl rfl ?_
    refine v_getB X hB cf4 0 (Nat.le_of_ble_eq_true rfl) m_fl_X7_56 dX7_readCards_16 1 (Nat.le_of_ble_eq_true rfl) rfl rfl ?_
    refine v_getB X hB cf3 2 (Nat.le_of_ble_eq_true rfl) m_fl_X7_121 dX7_readCards_19 2 (Nat.le_of_ble_eq_true rfl) rfl rfl ?_
    refine v_astore_n X dX7_readCards_22 (i := 1) rfl (Nat.le_of_ble_eq_true rfl) rfl ?_
    refine v_aload_n X dX7_readCards_23 (i := 1) rfl rfl ?_
    refine v_getB X hB cf1 3 (Nat.le_of_ble_eq_true rfl) m_fl_X7_125 dX7_readCards_24 11 (Nat.le_of_ble_eq_true rfl) rfl rfl ?_
    refine v_aload_n X dX7_readCards_27 (i := 0) rfl rfl ?_
    refine v_cvB X rfl yv_X7_cardsInText m_ml_X7_236 0 0 (c_X7_cardsInText l g N o σ ρ S P φ (seK κ τ len 0) τ π len hlen hlen80) hB (Nat.le_of_ble_eq_true rfl) rfl (Nat.le_of_ble_eq_true rfl) rfl (L' := (xL g o σ ρ S P φ (seK κ τ len 0) τ π)) (rfl) rfl (Nat.le_of_ble_eq_true rfl) rfl rfl (Nat.le_of_ble_eq_true rfl) ⟨Nat.le_of_ble_eq_true rfl, Nat.le_of_ble_eq_true rfl⟩ ⟨Nat.le_of_ble_eq_true rfl, Nat.le_of_ble_eq_true rfl⟩ dX7_readCards_28 rfl ?_
    refine v_iadd X dX7_readCards_31 ?_
    refine v_bipush X dX7_readCards_32 (v := (16 : Int32)) (by decide) ?_
    refine v_icmp_le X dX7_readCards_34 (tgt := 40) (by decide) (fun c34 => ?_) (fun c34 => ?_)
    · skip
      refine v_aload_n X dX7_readCards_40 (i := 0) rfl rfl ?_
      refine v_cvB X rfl yv_X7_saveBeforeChange m_ml_X7_72 0 0 (c_X7_saveBeforeChange l g N o σ ρ S P φ (seK κ τ len 0) τ π q n hq hq6 hn hn6) hB (Nat.le_of_ble_eq_true rfl) rfl (Nat.le_of_ble_eq_true rfl) rfl (L' := (xL g o (upd σ 8 0) ρ (upS S ((q + 1) % 6) σ) (upS P ((q + 1) % 6) ρ) φ (seK κ τ len 0) τ (upd (upd π 1 (nI ((q + 1) % 6))) 0 (nI (svN n))))) (rfl) rfl (Nat.le_of_ble_eq_true rfl) rfl rfl (Nat.le_of_ble_eq_true rfl) ⟨Nat.le_of_ble_eq_true rfl, Nat.le_of_ble_eq_true rfl⟩ ⟨Nat.le_of_ble_eq_true rfl, Nat.le_of_ble_eq_true rfl⟩ dX7_readCards_41 rfl ?_
      refine v_aload_n X dX7_readCards_44 (i := 0) rfl rfl ?_
      refine v_getB X hB cf7 5 (Nat.le_of_ble_eq_true rfl) m_fl_X7_37 dX7_readCards_45 0 (Nat.le_of_ble_eq_true rfl) rfl rfl ?_
      refine v_cvB X rfl yv_X0_start m_ml_X7_222 39 39 (c_X0_start l g N (o + 39) (seK κ τ len 0) ) hB (Nat.le_of_ble_eq_true rfl) rfl (Nat.le_of_ble_eq_true rfl) rfl (L' := (xL g o (c8 σ) ρ (upS S ((q + 1) % 6) σ) (upS P ((q + 1) % 6) ρ) φ (stK (seK κ τ len 0)) τ (upd (upd π 1 (nI ((q + 1) % 6))) 0 (nI (svN n))))) (xL_rd) rfl (Nat.le_of_ble_eq_true rfl) rfl rfl (Nat.le_of_ble_eq_true rfl) ⟨Nat.le_of_ble_eq_true rfl, Nat.le_of_ble_eq_true rfl⟩ ⟨Nat.le_of_ble_eq_true rfl, Nat.le_of_ble_eq_true rfl⟩ dX7_readCards_48 rfl ?_
      refine v_iconst X dX7_readCards_51 (v := (0 : Int32)) (by decide) ?_
      refine v_istore_n X dX7_readCards_52 (i := 2) rfl (Nat.le_of_ble_eq_true rfl) rfl ?_
      have LP53 : ∀ (n_ : Nat) (k : Nat), (k ≤ len) → (∃ C, (rcS (seK κ τ len 0) τ (c8 σ) k) 0 = nI C ∧ C ≤ 16) → len - k < n_ → Vm vp l ve vs vm va vb vt vc g 6 3 N (some (.int (if (rdE σ κ τ len) = 0 then rcS (seK κ τ len 0) τ (c8 σ) len 0 else (rdE σ κ τ len)))) (ovr f o (xL g o (if (rdE σ κ τ len) = 0 then rcS (seK κ τ len 0) τ (c8 σ) len else σ) ρ (svS (rdE σ κ τ len) S q σ) (svS (rdE σ κ τ len) P q ρ) φ (if (rdE σ κ τ len) = 0 then auK (seK κ τ len 0) τ len else (seK κ τ len 0)) τ (if (rdE σ κ τ len) = 0 then upd (upd (upd π 1 (nI ((q + 1) % 6))) 0 (nI (svN n))) 2 0 else π))) (ovr f o (xL g o (rcS (seK κ τ len 0) τ (c8 σ) k) ρ (upS S ((q + 1) % 6) σ) (upS P ((q + 1) % 6) ρ) φ (auK (seK κ τ len 0) τ k) τ (upd (upd π 1 (nI ((q + 1) % 6))) 0 (nI (svN n))))) 53 [some (.ref o), some (.ref (o + 11)), some (.int (nI k))] [] := by
        intro n_
        induction n_ with
        | zero => intro k hk hCk hm_; exact absurd hm_ (Nat.not_lt_zero _)
        | succ n_ ih53 =>
          intro k hk hCk hm53
          refine v_iload_n X dX7_readCards_53 (i := 2) rfl rfl ?_
          refine v_aload_n X dX7_readCards_54 (i := 0) rfl rfl ?_
          refine v_getB X hB cf7 7 (Nat.le_of_ble_eq_true rfl) m_fl_X7_45 dX7_readCards_55 0 (Nat.le_of_ble_eq_true rfl) rfl rfl ?_
          refine v_icmp_ge X dX7_readCards_58 (tgt := 124) (by decide) (fun c58 => ?_) (fun c58 => ?_)
          · skip
            have hk2 : k = len := Nat.le_antisymm hk (le_of_nI (by omega) (by omega) (by rw [pk_un (by omega), pk_un (by omega), hlen] at c58; exact c58))
            refine v_aload_n X dX7_readCards_124 (i := 0) rfl rfl ?_
            refine v_iconst X dX7_readCards_125 (v := (0 : Int32)) (by decide) ?_
            refine v_putB X hB cf7 7 (Nat.le_of_ble_eq_true rfl) rfl m_fl_X7_45 dX7_readCards_126 0 (Nat.le_of_ble_eq_true rfl) rfl rfl rfl (Nat.le_of_ble_eq_true rfl) (L' := (xL g o (rcS (seK κ τ len 0) τ (c8 σ) k) ρ (upS S ((q + 1) % 6) σ) (upS P ((q + 1) % 6) ρ) φ (auK (seK κ τ len 0) τ k) τ (upd (upd (upd π 1 (nI ((q + 1) % 6))) 0 (nI (svN n))) 2 (0 : Int32)))) w_x_0_textLength ?_
            refine v_aload_n X dX7_readCards_129 (i := 1) rfl rfl ?_
            refine v_getB X hB cf1 3 (Nat.le_of_ble_eq_true rfl) m_fl_X7_125 dX7_readCards_130 11 (Nat.le_of_ble_eq_true rfl) rfl rfl ?_
            subst hk2
            have hE : rdE σ κ τ k = (0 : Int32) := by rw [rdE, if_neg (not_not_intro c6), if_neg (Int32.not_lt.mpr c34)]
            exact v_iret X rfl dX7_readCards_133 (by rw [hE]; rfl) (by rw [hE]; rfl)
          · skip
            have hk2 : k < len := lt_of_nI (by omega) (by omega) (by rw [pk_un (by omega), pk_un (by omega), hlen] at c58; exact c58)
            obtain ⟨C, hC, hC16⟩ := hCk
            refine v_iload_n X dX7_readCards_61 (i := 2) rfl rfl ?_
            refine v_bipush X dX7_readCards_62 (v := (80 : Int32)) (by decide) ?_
            refine v_icmp_ge X dX7_readCards_64 (tgt := 124) (by decide) (fun c64 => ?_) (fun c64 => ?_)
            · skip
              exact absurd c64 (nI_ge (a := k) (b := 80) (by omega) (by omega))
            · skip
              refine v_aload_n X dX7_readCards_67 (i := 0) rfl rfl ?_
              refine v_getB X hB cf7 5 (Nat.le_of_ble_eq_true rfl) m_fl_X7_37 dX7_readCards_68 0 (Nat.le_of_ble_eq_true rfl) rfl rfl ?_
              refine v_aload_n X dX7_readCards_71 (i := 0) rfl rfl ?_
              refine v_getB X hB cf7 6 (Nat.le_of_ble_eq_true rfl) m_fl_X7_41 dX7_readCards_72 0 (Nat.le_of_ble_eq_true rfl) rfl rfl ?_
              refine v_iload_n X dX7_readCards_75 (i := 2) rfl rfl ?_
              refine v_caldB X hB dX7_readCards_76 40 (Nat.le_of_ble_eq_true rfl) rfl k rfl (by omega) (Nat.le_of_ble_eq_true rfl) ?_
              refine v_cvB X rfl yv_X0_accepts m_ml_X7_225 39 39 (c_X0_accepts l g N (o + 39) (auK (seK κ τ len 0) τ k) (τ k) ) hB (Nat.le_of_ble_eq_true rfl) rfl (Nat.le_of_ble_eq_true rfl) rfl (L' := (xL g o (rcS (seK κ τ len 0) τ (c8 σ) k) ρ (upS S ((q + 1) % 6) σ) (upS P ((q + 1) % 6) ρ) φ (acK (auK (seK κ τ len 0) τ k) (τ k)) τ (upd (upd π 1 (nI ((q + 1) % 6))) 0 (nI (svN n))))) (xL_rd) rfl (Nat.le_of_ble_eq_true rfl) rfl rfl (Nat.le_of_ble_eq_true rfl) ⟨Nat.le_of_ble_eq_true rfl, Nat.le_of_ble_eq_true rfl⟩ ⟨Nat.le_of_ble_eq_true rfl, Nat.le_of_ble_eq_true rfl⟩ dX7_readCards_77 rfl ?_
              refine v_if_eq X dX7_readCards_80 (tgt := 118) (by decide) (fun c80 => ?_) (fun c80 => ?_)
              · skip
                refine v_iinc X dX7_readCards_118 (v := nI (k + 1)) rfl (ix_inc rfl) (Nat.le_of_ble_eq_true rfl) rfl ?_
                refine v_goto X dX7_readCards_121 (tgt := 53) (by decide) ?_
                exact V.cast (ih53 (k + 1) (by omega) (⟨C, by rw [rcS, if_pos c80]; exact hC, hC16⟩) (by omega)) (rfl) (rfl) (by rw [rcS, if_pos c80]; rfl)
              · skip
                refine v_aload_n X dX7_readCards_83 (i := 0) rfl rfl ?_
                refine v_getB X hB cf7 5 (Nat.le_of_ble_eq_true rfl) m_fl_X7_37 dX7_readCards_84 0 (Nat.le_of_ble_eq_true rfl) rfl rfl ?_
                refine v_cvB X rfl yv_X0_isBehindCard m_ml_X7_229 39 39 (c_X0_isBehindCard l g N (o + 39) (acK (auK (seK κ τ len 0) τ k) (τ k)) ) hB (Nat.le_of_ble_eq_true rfl) rfl (Nat.le_of_ble_eq_true rfl) rfl (L' := (xL g o (rcS (seK κ τ len 0) τ (c8 σ) k) ρ (upS S ((q + 1) % 6) σ) (upS P ((q + 1) % 6) ρ) φ (acK (auK (seK κ τ len 0) τ k) (τ k)) τ (upd (upd π 1 (nI ((q + 1) % 6))) 0 (nI (svN n))))) (rfl) rfl (Nat.le_of_ble_eq_true rfl) rfl rfl (Nat.le_of_ble_eq_true rfl) ⟨Nat.le_of_ble_eq_true rfl, Nat.le_of_ble_eq_true rfl⟩ ⟨Nat.le_of_ble_eq_true rfl, Nat.le_of_ble_eq_true rfl⟩ dX7_readCards_87 rfl ?_
                refine v_if_eqB X dX7_readCards_90 (tgt := 118) (by decide) (fun c90 => ?_) (fun c90 => ?_)
                · skip
                  refine v_iinc X dX7_readCards_118 (v := nI (k + 1)) rfl (ix_inc rfl) (Nat.le_of_ble_eq_true rfl) rfl ?_
                  refine v_goto X dX7_readCards_121 (tgt := 53) (by decide) ?_
                  exact V.cast (ih53 (k + 1) (by omega) (⟨C, by rw [rcS, if_neg c80, if_neg (show ¬ auK (seK κ τ len 0) τ (k + 1) 3 = 4 from c90)]; exact hC, hC16⟩) (by omega)) (rfl) (rfl) (by rw [rcS, if_neg c80, if_neg (show ¬ auK (seK κ τ len 0) τ (k + 1) 3 = 4 from c90)]; rfl)
                · skip
                  refine v_aload_n X dX7_readCards_93 (i := 1) rfl rfl ?_
                  refine v_aload_n X dX7_readCards_94 (i := 0) rfl rfl ?_
                  refine v_getB X hB cf7 5 (Nat.le_of_ble_eq_true rfl) m_fl_X7_37 dX7_readCards_95 0 (Nat.le_of_ble_eq_true rfl) rfl rfl ?_
                  refine v_getB X hB cf0 0 (Nat.le_of_ble_eq_true rfl) m_fl_X7_239 dX7_readCards_98 39 (Nat.le_of_ble_eq_true rfl) rfl rfl ?_
                  refine v_aload_n X dX7_readCards_101 (i := 0) rfl rfl ?_
                  refine v_getB X hB cf7 5 (Nat.le_of_ble_eq_true rfl) m_fl_X7_37 dX7_readCards_102 0 (Nat.le_of_ble_eq_true rfl) rfl rfl ?_
                  refine v_getB X hB cf0 1 (Nat.le_of_ble_eq_true rfl) m_fl_X7_242 dX7_readCards_105 39 (Nat.le_of_ble_eq_true rfl) rfl rfl ?_
                  refine v_aload_n X dX7_readCards_108 (i := 0) rfl rfl ?_
                  refine v_getB X hB cf7 5 (Nat.le_of_ble_eq_true rfl) m_fl_X7_37 dX7_readCards_109 0 (Nat.le_of_ble_eq_true rfl) rfl rfl ?_
                  refine v_getB X hB cf0 2 (Nat.le_of_ble_eq_true rfl) m_fl_X7_245 dX7_readCards_112 39 (Nat.le_of_ble_eq_true rfl) rfl rfl ?_
                  refine v_cvB X rfl yv_X1_append m_ml_X7_130 11 11 (c_X1_append2 l g N (o + 11) (rcS (seK κ τ len 0) τ (c8 σ) k) C ((acK (auK (seK κ τ len 0) τ k) (τ k)) 0) ((acK (auK (seK κ τ len 0) τ k) (τ k)) 1) ((acK (auK (seK κ τ len 0) τ k) (τ k)) 2) hC hC16) hB (Nat.le_of_ble_eq_true rfl) rfl (Nat.le_of_ble_eq_true rfl) rfl (L' := (xL g o (apG (rcS (seK κ τ len 0) τ (c8 σ) k) ((acK (auK (seK κ τ len 0) τ k) (τ k)) 0) ((acK (auK (seK κ τ len 0) τ k) (τ k)) 1) ((acK (auK (seK κ τ len 0) τ k) (τ k)) 2)) ρ (upS S ((q + 1) % 6) σ) (upS P ((q + 1) % 6) ρ) φ (acK (auK (seK κ τ len 0) τ k) (τ k)) τ (upd (upd π 1 (nI ((q + 1) % 6))) 0 (nI (svN n))))) (f_x_ch_11 (fun i hi => apG_o hi)) rfl (Nat.le_of_ble_eq_true rfl) rfl rfl (Nat.le_of_ble_eq_true rfl) ⟨Nat.le_of_ble_eq_true rfl, Nat.le_of_ble_eq_true rfl⟩ ⟨Nat.le_of_ble_eq_true rfl, Nat.le_of_ble_eq_true rfl⟩ dX7_readCards_115 rfl ?_
                  refine v_iinc X dX7_readCards_118 (v := nI (k + 1)) rfl (ix_inc rfl) (Nat.le_of_ble_eq_true rfl) rfl ?_
                  refine v_goto X dX7_readCards_121 (tgt := 53) (by decide) ?_
                  exact V.cast (ih53 (k + 1) (by omega) (by rw [rcS, if_neg c80, if_pos (show auK (seK κ τ len 0) τ (k + 1) 3 = 4 from c90)]; exact apG_0 hC hC16) (by omega)) (rfl) (rfl) (by rw [rcS, if_neg c80, if_pos (show auK (seK κ τ len 0) τ (k + 1) 3 = 4 from c90)]; rfl)
      exact LP53 _ 0 (Nat.zero_le _) (⟨C0, (c8_o (by omega)).trans hC0, hC016⟩) (Nat.lt_succ_self _)
    · skip
      refine v_bipush X dX7_readCards_37 (v := (-4 : Int32)) (by decide) ?_
      have hE : rdE σ κ τ len = (-4 : Int32) := by rw [rdE, if_neg (not_not_intro c6), if_pos c34]
      exact v_iret X rfl dX7_readCards_39 (by rw [hE]; rfl) (by rw [hE]; rfl)
  · skip
    refine v_bipush X dX7_readCards_9 (v := (-5 : Int32)) (by decide) ?_
    have hE : rdE σ κ τ len = (-5 : Int32) := by rw [rdE, if_pos c6]
    exact v_iret X rfl dX7_readCards_11 (by rw [hE]; rfl) (by rw [hE]; rfl)
set_option maxRecDepth 100000 in
set_option maxHeartbeats 4000000 in
theorem c_X7_hashShuttles (l : Launch) (g : Ge) (N o : Nat) (σ ρ : Nat → Int32) (S P : Nat → Nat → Int32) (φ κ τ π : Nat → Int32) (h : Int64)  : Cb l g yX7_hashShuttles (.code yX7_hashShuttles cX7_hashShuttles 7 (some .long)) 3 [.ref o, .long h] N o (xL g o σ ρ S P φ κ τ π) (some (.long (hoS σ h 5))) (xL g o σ ρ S P φ κ τ π) := by
  intro f hB0
  have hB : BB g N o 179 := hB0
  refine ct_of (own := RX7) [some (.ref o), some (.long h), none, none, none, none, none] (by decide +kernel) rfl rfl (Nat.le_of_ble_eq_true rfl) ?_
  intro vp ve vs vm va vb vt vc hnm X
  refine v_lload_n X dX7_hashShuttles_0 (i := 1) rfl rfl ?_
  refine v_lstore_n X dX7_hashShuttles_1 (i := 3) rfl (Nat.le_of_ble_eq_true rfl) rfl ?_
  refine v_iconst X dX7_hashShuttles_2 (v := (0 : Int32)) (by decide) ?_
  refine v_istore X dX7_hashShuttles_3 (Nat.le_of_ble_eq_true rfl) rfl ?_
  have LP5 : ∀ (n_ : Nat) (s : Nat), (s ≤ 5) → 5 - s < n_ → Vm vp l ve vs vm va vb vt vc g 3 7 N (some (.long (hoS σ h 5))) (ovr f o (xL g o σ ρ S P φ κ τ π)) (ovr f o (xL g o σ ρ S P φ κ τ π)) 5 [some (.ref o), some (.long h), none, some (.long (hoS σ h s)), none, some (.int (nI s)), none] [] := by
    intro n_
    induction n_ with
    | zero => intro s hs hm_; exact absurd hm_ (Nat.not_lt_zero _)
    | succ n_ ih5 =>
      intro s hs hm5
      refine v_iload X dX7_hashShuttles_5 rfl ?_
      refine v_iconst X dX7_hashShuttles_7 (v := (5 : Int32)) (by decide) ?_
      refine v_icmp_ge X dX7_hashShuttles_8 (tgt := 48) (by decide) (fun c8 => ?_) (fun c8 => ?_)
      · skip
        have hs2 : s = 5 := Nat.le_antisymm hs (le_of_nI (a := 5) (by omega) (by omega) c8)
        refine v_lload_n X dX7_hashShuttles_48 (i := 3) rfl rfl ?_
        exact v_lret X rfl dX7_hashShuttles_49 (by rw [hs2]) (rfl)
      · skip
        have hs2 : s < 5 := lt_of_nI (b := 5) (by omega) (by omega) c8
        refine v_iconst X dX7_hashShuttles_11 (v := (0 : Int32)) (by decide) ?_
        refine v_istore X dX7_hashShuttles_12 (Nat.le_of_ble_eq_true rfl) rfl ?_
        have LP14 : ∀ (n_ : Nat) (w : Nat), (w ≤ 4) → 4 - w < n_ → Vm vp l ve vs vm va vb vt vc g 3 7 N (some (.long (hoS σ h 5))) (ovr f o (xL g o σ ρ S P φ κ τ π)) (ovr f o (xL g o σ ρ S P φ κ τ π)) 14 [some (.ref o), some (.long h), none, some (.long (hsA (hoS σ h s) (fun w => shF σ (nI s) (nI w)) w)), none, some (.int (nI s)), some (.int (nI w))] [] := by
          intro n_
          induction n_ with
          | zero => intro w hw hm_; exact absurd hm_ (Nat.not_lt_zero _)
          | succ n_ ih14 =>
            intro w hw hm14
            refine v_iload X dX7_hashShuttles_14 rfl ?_
            refine v_iconst X dX7_hashShuttles_16 (v := (4 : Int32)) (by decide) ?_
            refine v_icmp_ge X dX7_hashShuttles_17 (tgt := 42) (by decide) (fun c17 => ?_) (fun c17 => ?_)
            · skip
              have hw2 : w = 4 := Nat.le_antisymm hw (le_of_nI (a := 4) (by omega) (by omega) c17)
              refine v_iinc X dX7_hashShuttles_42 (v := nI (s + 1)) rfl (ix_inc rfl) (Nat.le_of_ble_eq_true rfl) rfl ?_
              refine v_goto X dX7_hashShuttles_45 (tgt := 5) (by decide) ?_
              refine v_drop 6 ?_
              exact V.cast (ih5 (s + 1) (by omega) (by omega)) (by subst hw2; rfl) (rfl) (rfl)
            · skip
              have hw3 : w < 4 := lt_of_nI (b := 4) (by omega) (by omega) c17
              refine v_ldc2 X dX7_hashShuttles_20 m_kl_X7_258 ?_
              refine v_lload_n X dX7_hashShuttles_23 (i := 3) rfl rfl ?_
              refine v_lmul X dX7_hashShuttles_24 ?_
              refine v_aload_n X dX7_hashShuttles_25 (i := 0) rfl rfl ?_
              refine v_iload X dX7_hashShuttles_26 rfl ?_
              refine v_iload X dX7_hashShuttles_28 rfl ?_
              refine v_cvB X rfl yv_X7_shuttle m_ml_X7_288 0 0 (c_X7_shuttle l g N o σ ρ S P φ κ τ π (nI s) (nI w) ) hB (Nat.le_of_ble_eq_true rfl) rfl (Nat.le_of_ble_eq_true rfl) rfl (L' := (xL g o σ ρ S P φ κ τ π)) (rfl) rfl (Nat.le_of_ble_eq_true rfl) rfl rfl (Nat.le_of_ble_eq_true rfl) ⟨Nat.le_of_ble_eq_true rfl, Nat.le_of_ble_eq_true rfl⟩ ⟨Nat.le_of_ble_eq_true rfl, Nat.le_of_ble_eq_true rfl⟩ dX7_hashShuttles_30 rfl ?_
              refine v_i2l X dX7_hashShuttles_33 ?_
              refine v_ladd X dX7_hashShuttles_34 ?_
              refine v_lstore_n X dX7_hashShuttles_35 (i := 3) rfl (Nat.le_of_ble_eq_true rfl) rfl ?_
              refine v_iinc X dX7_hashShuttles_36 (v := nI (w + 1)) rfl (ix_inc rfl) (Nat.le_of_ble_eq_true rfl) rfl ?_
              refine v_goto X dX7_hashShuttles_39 (tgt := 14) (by decide) ?_
              exact V.cast (ih14 (w + 1) (by omega) (by omega)) (by rfl) (rfl) (rfl)
        exact LP14 _ 0 (Nat.zero_le _) (Nat.lt_succ_self _)
  exact LP5 _ 0 (Nat.zero_le _) (Nat.lt_succ_self _)
set_option maxRecDepth 100000 in
set_option maxHeartbeats 4000000 in
theorem c_X7_hashThreads (l : Launch) (g : Ge) (N o : Nat) (σ ρ : Nat → Int32) (S P : Nat → Nat → Int32) (φ κ τ π : Nat → Int32) (h : Int64) (R lt : Nat) (hR : σ 7 = nI R) (hR20 : R ≤ 20) (hlt : ρ 140 = nI lt) (hlt20 : lt < 20) : Cb l g yX7_hashThreads (.code yX7_hashThreads cX7_hashThreads 7 (some .long)) 5 [.ref o, .long h] N o (xL g o σ ρ S P φ κ τ π) (some (.long (hoT σ ρ lt R h 12))) (xL g o σ ρ S P φ κ τ π) := by
  intro f hB0
  have hB : BB g N o 179 := hB0
  refine ct_of (own := RX7) [some (.ref o), some (.long h), none, none, none, none, none] (by decide +kernel) rfl rfl (Nat.le_of_ble_eq_true rfl) ?_
  intro vp ve vs vm va vb vt vc hnm X
  refine v_lload_n X dX7_hashThreads_0 (i := 1) rfl rfl ?_
  refine v_lstore_n X dX7_hashThreads_1 (i := 3) rfl (Nat.le_of_ble_eq_true rfl) rfl ?_
  refine v_iconst X dX7_hashThreads_2 (v := (0 : Int32)) (by decide) ?_
  refine v_istore X dX7_hashThreads_3 (Nat.le_of_ble_eq_true rfl) rfl ?_
  have LP5 : ∀ (n_ : Nat) (s : Nat), (s ≤ 12) → 12 - s < n_ → Vm vp l ve vs vm va vb vt vc g 5 7 N (some (.long (hoT σ ρ lt R h 12))) (ovr f o (xL g o σ ρ S P φ κ τ π)) (ovr f o (xL g o σ ρ S P φ κ τ π)) 5 [some (.ref o), some (.long h), none, some (.long (hoT σ ρ lt R h s)), none, some (.int (nI s)), none] [] := by
    intro n_
    induction n_ with
    | zero => intro s hs hm_; exact absurd hm_ (Nat.not_lt_zero _)
    | succ n_ ih5 =>
      intro s hs hm5
      refine v_iload X dX7_hashThreads_5 rfl ?_
      refine v_bipush X dX7_hashThreads_7 (v := (12 : Int32)) (by decide) ?_
      refine v_icmp_ge X dX7_hashThreads_9 (tgt := 63) (by decide) (fun c9 => ?_) (fun c9 => ?_)
      · skip
        have hs2 : s = 12 := Nat.le_antisymm hs (le_of_nI (a := 12) (by omega) (by omega) c9)
        refine v_lload_n X dX7_hashThreads_63 (i := 3) rfl rfl ?_
        exact v_lret X rfl dX7_hashThreads_64 (by rw [hs2]) (rfl)
      · skip
        have hs2 : s < 12 := lt_of_nI (b := 12) (by omega) (by omega) c9
        refine v_iconst X dX7_hashThreads_12 (v := (0 : Int32)) (by decide) ?_
        refine v_istore X dX7_hashThreads_13 (Nat.le_of_ble_eq_true rfl) rfl ?_
        have LP15 : ∀ (n_ : Nat) (w : Nat), (w ≤ 3) → 3 - w < n_ → Vm vp l ve vs vm va vb vt vc g 5 7 N (some (.long (hoT σ ρ lt R h 12))) (ovr f o (xL g o σ ρ S P φ κ τ π)) (ovr f o (xL g o σ ρ S P φ κ τ π)) 15 [some (.ref o), some (.long h), none, some (.long (hsA (hoT σ ρ lt R h s) (fun w => thF σ (nI s) (nI w)) w)), none, some (.int (nI s)), some (.int (nI w))] [] := by
          intro n_
          induction n_ with
          | zero => intro w hw hm_; exact absurd hm_ (Nat.not_lt_zero _)
          | succ n_ ih15 =>
            intro w hw hm15
            refine v_iload X dX7_hashThreads_15 rfl ?_
            refine v_iconst X dX7_hashThreads_17 (v := (3 : Int32)) (by decide) ?_
            refine v_icmp_ge X dX7_hashThreads_18 (tgt := 43) (by decide) (fun c18 => ?_) (fun c18 => ?_)
            · skip
              have hw2 : w = 3 := Nat.le_antisymm hw (le_of_nI (a := 3) (by omega) (by omega) c18)
              refine v_ldc2 X dX7_hashThreads_43 m_kl_X7_258 ?_
              refine v_lload_n X dX7_hashThreads_46 (i := 3) rfl rfl ?_
              refine v_lmul X dX7_hashThreads_47 ?_
              refine v_aload_n X dX7_hashThreads_48 (i := 0) rfl rfl ?_
              refine v_iload X dX7_hashThreads_49 rfl ?_
              refine v_cvB X rfl yv_X7_longestFloat m_ml_X7_294 0 0 (c_X7_longestFloat l g N o σ ρ S P φ κ τ π (nI s) R lt hR hR20 hlt hlt20) hB (Nat.le_of_ble_eq_true rfl) rfl (Nat.le_of_ble_eq_true rfl) rfl (L' := (xL g o σ ρ S P φ κ τ π)) (rfl) rfl (Nat.le_of_ble_eq_true rfl) rfl rfl (Nat.le_of_ble_eq_true rfl) ⟨Nat.le_of_ble_eq_true rfl, Nat.le_of_ble_eq_true rfl⟩ ⟨Nat.le_of_ble_eq_true rfl, Nat.le_of_ble_eq_true rfl⟩ dX7_hashThreads_51 rfl ?_
              refine v_i2l X dX7_hashThreads_54 ?_
              refine v_ladd X dX7_hashThreads_55 ?_
              refine v_lstore_n X dX7_hashThreads_56 (i := 3) rfl (Nat.le_of_ble_eq_true rfl) rfl ?_
              refine v_iinc X dX7_hashThreads_57 (v := nI (s + 1)) rfl (ix_inc rfl) (Nat.le_of_ble_eq_true rfl) rfl ?_
              refine v_goto X dX7_hashThreads_60 (tgt := 5) (by decide) ?_
              refine v_drop 6 ?_
              exact V.cast (ih5 (s + 1) (by omega) (by omega)) (by subst hw2; rfl) (rfl) (rfl)
            · skip
              have hw3 : w < 3 := lt_of_nI (b := 3) (by omega) (by omega) c18
              refine v_ldc2 X dX7_hashThreads_21 m_kl_X7_258 ?_
              refine v_lload_n X dX7_hashThreads_24 (i := 3) rfl rfl ?_
              refine v_lmul X dX7_hashThreads_25 ?_
              refine v_aload_n X dX7_hashThreads_26 (i := 0) rfl rfl ?_
              refine v_iload X dX7_hashThreads_27 rfl ?_
              refine v_iload X dX7_hashThreads_29 rfl ?_
              refine v_cvB X rfl yv_X7_thread m_ml_X7_291 0 0 (c_X7_thread l g N o σ ρ S P φ κ τ π (nI s) (nI w) ) hB (Nat.le_of_ble_eq_true rfl) rfl (Nat.le_of_ble_eq_true rfl) rfl (L' := (xL g o σ ρ S P φ κ τ π)) (rfl) rfl (Nat.le_of_ble_eq_true rfl) rfl rfl (Nat.le_of_ble_eq_true rfl) ⟨Nat.le_of_ble_eq_true rfl, Nat.le_of_ble_eq_true rfl⟩ ⟨Nat.le_of_ble_eq_true rfl, Nat.le_of_ble_eq_true rfl⟩ dX7_hashThreads_31 rfl ?_
              refine v_i2l X dX7_hashThreads_34 ?_
              refine v_ladd X dX7_hashThreads_35 ?_
              refine v_lstore_n X dX7_hashThreads_36 (i := 3) rfl (Nat.le_of_ble_eq_true rfl) rfl ?_
              refine v_iinc X dX7_hashThreads_37 (v := nI (w + 1)) rfl (ix_inc rfl) (Nat.le_of_ble_eq_true rfl) rfl ?_
              refine v_goto X dX7_hashThreads_40 (tgt := 15) (by decide) ?_
              exact V.cast (ih15 (w + 1) (by omega) (by omega)) (by rfl) (rfl) (rfl)
        exact LP15 _ 0 (Nat.zero_le _) (Nat.lt_succ_self _)
  exact LP5 _ 0 (Nat.zero_le _) (Nat.lt_succ_self _)
set_option maxRecDepth 100000 in
set_option maxHeartbeats 4000000 in
theorem c_X7_hashCards (l : Launch) (g : Ge) (N o : Nat) (σ ρ : Nat → Int32) (S P : Nat → Nat → Int32) (φ κ τ π : Nat → Int32) (h : Int64) (C : Nat) (hC : σ 0 = nI C) (hC16 : C ≤ 16) : Cb l g yX7_hashCards (.code yX7_hashCards cX7_hashCards 7 (some .long)) 3 [.ref o, .long h] N o (xL g o σ ρ S P φ κ τ π) (some (.long (hoC σ h C))) (xL g o σ ρ S P φ κ τ π) := by
  intro f hB0
  have hB : BB g N o 179 := hB0
  refine ct_of (own := RX7) [some (.ref o), some (.long h), none, none, none, none, none] (by decide +kernel) rfl rfl (Nat.le_of_ble_eq_true rfl) ?_
  intro vp ve vs vm va vb vt vc hnm X
  refine v_lload_n X dX7_hashCards_0 (i := 1) rfl rfl ?_
  refine v_lstore_n X dX7_hashCards_1 (i := 3) rfl (Nat.le_of_ble_eq_true rfl) rfl ?_
  refine v_iconst X dX7_hashCards_2 (v := (0 : Int32)) (by decide) ?_
  refine v_istore X dX7_hashCards_3 (Nat.le_of_ble_eq_true rfl) rfl ?_
  have LP5 : ∀ (n_ : Nat) (s : Nat), (s ≤ C) → C - s < n_ → Vm vp l ve vs vm va vb vt vc g 3 7 N (some (.long (hoC σ h C))) (ovr f o (xL g o σ ρ S P φ κ τ π)) (ovr f o (xL g o σ ρ S P φ κ τ π)) 5 [some (.ref o), some (.long h), none, some (.long (hoC σ h s)), none, some (.int (nI s)), none] [] := by
    intro n_
    induction n_ with
    | zero => intro s hs hm_; exact absurd hm_ (Nat.not_lt_zero _)
    | succ n_ ih5 =>
      intro s hs hm5
      refine v_iload X dX7_hashCards_5 rfl ?_
      refine v_aload_n X dX7_hashCards_7 (i := 0) rfl rfl ?_
      refine v_getB X hB cf7 0 (Nat.le_of_ble_eq_true rfl) m_fl_X7_12 dX7_hashCards_8 0 (Nat.le_of_ble_eq_true rfl) rfl rfl ?_
      refine v_getB X hB cf4 0 (Nat.le_of_ble_eq_true rfl) m_fl_X7_56 dX7_hashCards_11 1 (Nat.le_of_ble_eq_true rfl) rfl rfl ?_
      refine v_getB X hB cf3 2 (Nat.le_of_ble_eq_true rfl) m_fl_X7_121 dX7_hashCards_14 2 (Nat.le_of_ble_eq_true rfl) rfl rfl ?_
      refine v_getB X hB cf1 3 (Nat.le_of_ble_eq_true rfl) m_fl_X7_125 dX7_hashCards_17 11 (Nat.le_of_ble_eq_true rfl) rfl rfl ?_
      refine v_icmp_ge X dX7_hashCards_20 (tgt := 60) (by decide) (fun c20 => ?_) (fun c20 => ?_)
      · skip
        have hs2 : s = C := Nat.le_antisymm hs (le_of_nI (by omega) (by omega) (by rw [← hC]; exact c20))
        refine v_lload_n X dX7_hashCards_60 (i := 3) rfl rfl ?_
        exact v_lret X rfl dX7_hashCards_61 (by rw [hs2]) (rfl)
      · skip
        have hs3 : s < C := lt_of_nI (by omega) (by omega) (by rw [← hC]; exact c20)
        refine v_iconst X dX7_hashCards_23 (v := (0 : Int32)) (by decide) ?_
        refine v_istore X dX7_hashCards_24 (Nat.le_of_ble_eq_true rfl) rfl ?_
        have LP26 : ∀ (n_ : Nat) (w : Nat), (w ≤ 4) → 4 - w < n_ → Vm vp l ve vs vm va vb vt vc g 3 7 N (some (.long (hoC σ h C))) (ovr f o (xL g o σ ρ S P φ κ τ π)) (ovr f o (xL g o σ ρ S P φ κ τ π)) 26 [some (.ref o), some (.long h), none, some (.long (hsA (hoC σ h s) (fun w => cdF σ (nI s) (nI w)) w)), none, some (.int (nI s)), some (.int (nI w))] [] := by
          intro n_
          induction n_ with
          | zero => intro w hw hm_; exact absurd hm_ (Nat.not_lt_zero _)
          | succ n_ ih26 =>
            intro w hw hm26
            refine v_iload X dX7_hashCards_26 rfl ?_
            refine v_iconst X dX7_hashCards_28 (v := (4 : Int32)) (by decide) ?_
            refine v_icmp_ge X dX7_hashCards_29 (tgt := 54) (by decide) (fun c29 => ?_) (fun c29 => ?_)
            · skip
              have hw2 : w = 4 := Nat.le_antisymm hw (le_of_nI (a := 4) (by omega) (by omega) c29)
              refine v_iinc X dX7_hashCards_54 (v := nI (s + 1)) rfl (ix_inc rfl) (Nat.le_of_ble_eq_true rfl) rfl ?_
              refine v_goto X dX7_hashCards_57 (tgt := 5) (by decide) ?_
              refine v_drop 6 ?_
              exact V.cast (ih5 (s + 1) (by omega) (by omega)) (by subst hw2; rfl) (rfl) (rfl)
            · skip
              have hw3 : w < 4 := lt_of_nI (b := 4) (by omega) (by omega) c29
              refine v_ldc2 X dX7_hashCards_32 m_kl_X7_258 ?_
              refine v_lload_n X dX7_hashCards_35 (i := 3) rfl rfl ?_
              refine v_lmul X dX7_hashCards_36 ?_
              refine v_aload_n X dX7_hashCards_37 (i := 0) rfl rfl ?_
              refine v_iload X dX7_hashCards_38 rfl ?_
              refine v_iload X dX7_hashCards_40 rfl ?_
              refine v_cvB X rfl yv_X7_card m_ml_X7_297 0 0 (c_X7_card l g N o σ ρ S P φ κ τ π (nI s) (nI w) C hC hC16) hB (Nat.le_of_ble_eq_true rfl) rfl (Nat.le_of_ble_eq_true rfl) rfl (L' := (xL g o σ ρ S P φ κ τ π)) (rfl) rfl (Nat.le_of_ble_eq_true rfl) rfl rfl (Nat.le_of_ble_eq_true rfl) ⟨Nat.le_of_ble_eq_true rfl, Nat.le_of_ble_eq_true rfl⟩ ⟨Nat.le_of_ble_eq_true rfl, Nat.le_of_ble_eq_true rfl⟩ dX7_hashCards_42 rfl ?_
              refine v_i2l X dX7_hashCards_45 ?_
              refine v_ladd X dX7_hashCards_46 ?_
              refine v_lstore_n X dX7_hashCards_47 (i := 3) rfl (Nat.le_of_ble_eq_true rfl) rfl ?_
              refine v_iinc X dX7_hashCards_48 (v := nI (w + 1)) rfl (ix_inc rfl) (Nat.le_of_ble_eq_true rfl) rfl ?_
              refine v_goto X dX7_hashCards_51 (tgt := 26) (by decide) ?_
              exact V.cast (ih26 (w + 1) (by omega) (by omega)) (by rfl) (rfl) (rfl)
        exact LP26 _ 0 (Nat.zero_le _) (Nat.lt_succ_self _)
  exact LP5 _ 0 (Nat.zero_le _) (Nat.lt_succ_self _)
set_option maxRecDepth 100000 in
set_option maxHeartbeats 4000000 in
theorem c_X7_hashCloth (l : Launch) (g : Ge) (N o : Nat) (σ ρ : Nat → Int32) (S P : Nat → Nat → Int32) (φ κ τ π : Nat → Int32) (h : Int64) (R lt : Nat) (hR : σ 7 = nI R) (hR20 : R ≤ 20) (hlt : ρ 140 = nI lt) (hlt20 : lt < 20) : Cb l g yX7_hashCloth (.code yX7_hashCloth cX7_hashCloth 7 (some .long)) 4 [.ref o, .long h] N o (xL g o σ ρ S P φ κ τ π) (some (.long (hoL σ ρ lt h R))) (xL g o σ ρ S P φ κ τ π) := by
  intro f hB0
  have hB : BB g N o 179 := hB0
  refine ct_of (own := RX7) [some (.ref o), some (.long h), none, none, none, none, none] (by decide +kernel) rfl rfl (Nat.le_of_ble_eq_true rfl) ?_
  intro vp ve vs vm va vb vt vc hnm X
  refine v_lload_n X dX7_hashCloth_0 (i := 1) rfl rfl ?_
  refine v_lstore_n X dX7_hashCloth_1 (i := 3) rfl (Nat.le_of_ble_eq_true rfl) rfl ?_
  refine v_iconst X dX7_hashCloth_2 (v := (0 : Int32)) (by decide) ?_
  refine v_istore X dX7_hashCloth_3 (Nat.le_of_ble_eq_true rfl) rfl ?_
  have LP5 : ∀ (n_ : Nat) (s : Nat), (s ≤ R) → R - s < n_ → Vm vp l ve vs vm va vb vt vc g 4 7 N (some (.long (hoL σ ρ lt h R))) (ovr f o (xL g o σ ρ S P φ κ τ π)) (ovr f o (xL g o σ ρ S P φ κ τ π)) 5 [some (.ref o), some (.long h), none, some (.long (hoL σ ρ lt h s)), none, some (.int (nI s)), none] [] := by
    intro n_
    induction n_ with
    | zero => intro s hs hm_; exact absurd hm_ (Nat.not_lt_zero _)
    | succ n_ ih5 =>
      intro s hs hm5
      refine v_iload X dX7_hashCloth_5 rfl ?_
      refine v_aload_n X dX7_hashCloth_7 (i := 0) rfl rfl ?_
      refine v_getB X hB cf7 0 (Nat.le_of_ble_eq_true rfl) m_fl_X7_12 dX7_hashCloth_8 0 (Nat.le_of_ble_eq_true rfl) rfl rfl ?_
      refine v_getB X hB cf4 1 (Nat.le_of_ble_eq_true rfl) m_fl_X7_166 dX7_hashCloth_11 1 (Nat.le_of_ble_eq_true rfl) rfl rfl ?_
      refine v_getB X hB cf2 7 (Nat.le_of_ble_eq_true rfl) m_fl_X7_170 dX7_hashCloth_14 16 (Nat.le_of_ble_eq_true rfl) rfl rfl ?_
      refine v_icmp_ge X dX7_hashCloth_17 (tgt := 58) (by decide) (fun c17 => ?_) (fun c17 => ?_)
      · skip
        have hs2 : s = R := Nat.le_antisymm hs (le_of_nI (by omega) (by omega) (by rw [← hR]; exact c17))
        refine v_lload_n X dX7_hashCloth_58 (i := 3) rfl rfl ?_
        exact v_lret X rfl dX7_hashCloth_59 (by rw [hs2]) (rfl)
      · skip
        have hs3 : s < R := lt_of_nI (by omega) (by omega) (by rw [← hR]; exact c17)
        refine v_iconst X dX7_hashCloth_20 (v := (0 : Int32)) (by decide) ?_
        refine v_istore X dX7_hashCloth_21 (Nat.le_of_ble_eq_true rfl) rfl ?_
        have LP23 : ∀ (n_ : Nat) (w : Nat), (w ≤ 12) → 12 - w < n_ → Vm vp l ve vs vm va vb vt vc g 4 7 N (some (.long (hoL σ ρ lt h R))) (ovr f o (xL g o σ ρ S P φ κ τ π)) (ovr f o (xL g o σ ρ S P φ κ τ π)) 23 [some (.ref o), some (.long h), none, some (.long (hsA (hoL σ ρ lt h s) (fun w => clF σ ρ lt (nI s) (nI w)) w)), none, some (.int (nI s)), some (.int (nI w))] [] := by
          intro n_
          induction n_ with
          | zero => intro w hw hm_; exact absurd hm_ (Nat.not_lt_zero _)
          | succ n_ ih23 =>
            intro w hw hm23
            refine v_iload X dX7_hashCloth_23 rfl ?_
            refine v_bipush X dX7_hashCloth_25 (v := (12 : Int32)) (by decide) ?_
            refine v_icmp_ge X dX7_hashCloth_27 (tgt := 52) (by decide) (fun c27 => ?_) (fun c27 => ?_)
            · skip
              have hw2 : w = 12 := Nat.le_antisymm hw (le_of_nI (a := 12) (by omega) (by omega) c27)
              refine v_iinc X dX7_hashCloth_52 (v := nI (s + 1)) rfl (ix_inc rfl) (Nat.le_of_ble_eq_true rfl) rfl ?_
              refine v_goto X dX7_hashCloth_55 (tgt := 5) (by decide) ?_
              refine v_drop 6 ?_
              exact V.cast (ih5 (s + 1) (by omega) (by omega)) (by subst hw2; rfl) (rfl) (rfl)
            · skip
              have hw3 : w < 12 := lt_of_nI (b := 12) (by omega) (by omega) c27
              refine v_ldc2 X dX7_hashCloth_30 m_kl_X7_258 ?_
              refine v_lload_n X dX7_hashCloth_33 (i := 3) rfl rfl ?_
              refine v_lmul X dX7_hashCloth_34 ?_
              refine v_aload_n X dX7_hashCloth_35 (i := 0) rfl rfl ?_
              refine v_iload X dX7_hashCloth_36 rfl ?_
              refine v_iload X dX7_hashCloth_38 rfl ?_
              refine v_cvB X rfl yv_X7_cloth m_ml_X7_300 0 0 (c_X7_cloth l g N o σ ρ S P φ κ τ π (nI s) (nI w) R lt hR hR20 hlt hlt20) hB (Nat.le_of_ble_eq_true rfl) rfl (Nat.le_of_ble_eq_true rfl) rfl (L' := (xL g o σ ρ S P φ κ τ π)) (rfl) rfl (Nat.le_of_ble_eq_true rfl) rfl rfl (Nat.le_of_ble_eq_true rfl) ⟨Nat.le_of_ble_eq_true rfl, Nat.le_of_ble_eq_true rfl⟩ ⟨Nat.le_of_ble_eq_true rfl, Nat.le_of_ble_eq_true rfl⟩ dX7_hashCloth_40 rfl ?_
              refine v_i2l X dX7_hashCloth_43 ?_
              refine v_ladd X dX7_hashCloth_44 ?_
              refine v_lstore_n X dX7_hashCloth_45 (i := 3) rfl (Nat.le_of_ble_eq_true rfl) rfl ?_
              refine v_iinc X dX7_hashCloth_46 (v := nI (w + 1)) rfl (ix_inc rfl) (Nat.le_of_ble_eq_true rfl) rfl ?_
              refine v_goto X dX7_hashCloth_49 (tgt := 23) (by decide) ?_
              exact V.cast (ih23 (w + 1) (by omega) (by omega)) (by rfl) (rfl) (rfl)
        exact LP23 _ 0 (Nat.zero_le _) (Nat.lt_succ_self _)
  exact LP5 _ 0 (Nat.zero_le _) (Nat.lt_succ_self _)
set_option maxRecDepth 100000 in
set_option maxHeartbeats 4000000 in
theorem c_X7_digest (l : Launch) (g : Ge) (N o : Nat) (σ ρ : Nat → Int32) (S P : Nat → Nat → Int32) (φ κ τ π : Nat → Int32) (C P0 : Nat) (hC : σ 0 = nI C) (hP : σ 1 = nI P0) (hPC : P0 < C ∨ (C = 0 ∧ P0 = 0)) (hC16 : C ≤ 16) (R lt : Nat) (hR : σ 7 = nI R) (hR20 : R ≤ 20) (hlt : ρ 140 = nI lt) (hlt20 : lt < 20) : Cb l g yX7_digest (.code yX7_digest cX7_digest 4 (some .long)) 6 [.ref o] N o (xL g o σ ρ S P φ κ τ π) (some (.long (dgF σ ρ lt R C P0))) (xL g o σ ρ S P (if C = 0 then feS 999 σ else plS C (upd σ 1 0)) κ τ π) := by
  intro f hB0
  have hB : BB g N o 179 := hB0
  refine ct_of (own := RX7) [some (.ref o), none, none, none] (by decide +kernel) rfl rfl (Nat.le_of_ble_eq_true rfl) ?_
  intro vp ve vs vm va vb vt vc hnm X
  refine v_ldc2 X dX7_digest_0 m_kl_X7_256 ?_
  refine v_lstore_n X dX7_digest_3 (i := 1) rfl (Nat.le_of_ble_eq_true rfl) rfl ?_
  refine v_iconst X dX7_digest_4 (v := (0 : Int32)) (by decide) ?_
  refine v_istore_n X dX7_digest_5 (i := 3) rfl (Nat.le_of_ble_eq_true rfl) rfl ?_
  have LP6 : ∀ (n_ : Nat) (w : Nat), (w ≤ 12) → 12 - w < n_ → Vm vp l ve vs vm va vb vt vc g 6 4 N (some (.long (dgF σ ρ lt R C P0))) (ovr f o (xL g o σ ρ S P (if C = 0 then feS 999 σ else plS C (upd σ 1 0)) κ τ π)) (ovr f o (xL g o σ ρ S P φ κ τ π)) 6 [some (.ref o), some (.long (hsA 334 (fun w => cnF σ (nI w)) w)), none, some (.int (nI w))] [] := by
    intro n_
    induction n_ with
    | zero => intro w hw hm_; exact absurd hm_ (Nat.not_lt_zero _)
    | succ n_ ih6 =>
      intro w hw hm6
      refine v_iload_n X dX7_digest_6 (i := 3) rfl rfl ?_
      refine v_bipush X dX7_digest_7 (v := (12 : Int32)) (by decide) ?_
      refine v_icmp_ge X dX7_digest_9 (tgt := 31) (by decide) (fun c9 => ?_) (fun c9 => ?_)
      · skip
        have hw2 : w = 12 := Nat.le_antisymm hw (le_of_nI (a := 12) (by omega) (by omega) c9)
        refine v_aload_n X dX7_digest_31 (i := 0) rfl rfl ?_
        refine v_lload_n X dX7_digest_32 (i := 1) rfl rfl ?_
        refine v_cvB X rfl yv_X7_hashShuttles m_ml_X7_263 0 0 (c_X7_hashShuttles l g N o σ ρ S P φ κ τ π (hsA 334 (fun w => cnF σ (nI w)) w) ) hB (Nat.le_of_ble_eq_true rfl) rfl (Nat.le_of_ble_eq_true rfl) rfl (L' := (xL g o σ ρ S P φ κ τ π)) (rfl) rfl (Nat.le_of_ble_eq_true rfl) rfl rfl (Nat.le_of_ble_eq_true rfl) ⟨Nat.le_of_ble_eq_true rfl, Nat.le_of_ble_eq_true rfl⟩ ⟨Nat.le_of_ble_eq_true rfl, Nat.le_of_ble_eq_true rfl⟩ dX7_digest_33 rfl ?_
        refine v_lstore_n X dX7_digest_36 (i := 1) rfl (Nat.le_of_ble_eq_true rfl) rfl ?_
        refine v_aload_n X dX7_digest_37 (i := 0) rfl rfl ?_
        refine v_lload_n X dX7_digest_38 (i := 1) rfl rfl ?_
        refine v_cvB X rfl yv_X7_hashThreads m_ml_X7_267 0 0 (c_X7_hashThreads l g N o σ ρ S P φ κ τ π (hoS σ (hsA 334 (fun w => cnF σ (nI w)) w) 5) _ _ hR hR20 hlt hlt20) hB (Nat.le_of_ble_eq_true rfl) rfl (Nat.le_of_ble_eq_true rfl) rfl (L' := (xL g o σ ρ S P φ κ τ π)) (rfl) rfl (Nat.le_of_ble_eq_true rfl) rfl rfl (Nat.le_of_ble_eq_true rfl) ⟨Nat.le_of_ble_eq_true rfl, Nat.le_of_ble_eq_true rfl⟩ ⟨Nat.le_of_ble_eq_true rfl, Nat.le_of_ble_eq_true rfl⟩ dX7_digest_39 rfl ?_
        refine v_lstore_n X dX7_digest_42 (i := 1) rfl (Nat.le_of_ble_eq_true rfl) rfl ?_
        refine v_aload_n X dX7_digest_43 (i := 0) rfl rfl ?_
        refine v_lload_n X dX7_digest_44 (i := 1) rfl rfl ?_
        refine v_cvB X rfl yv_X7_hashCards m_ml_X7_270 0 0 (c_X7_hashCards l g N o σ ρ S P φ κ τ π (hoT σ ρ lt R (hoS σ (hsA 334 (fun w => cnF σ (nI w)) w) 5) 12) _ hC hC16) hB (Nat.le_of_ble_eq_true rfl) rfl (Nat.le_of_ble_eq_true rfl) rfl (L' := (xL g o σ ρ S P φ κ τ π)) (rfl) rfl (Nat.le_of_ble_eq_true rfl) rfl rfl (Nat.le_of_ble_eq_true rfl) ⟨Nat.le_of_ble_eq_true rfl, Nat.le_of_ble_eq_true rfl⟩ ⟨Nat.le_of_ble_eq_true rfl, Nat.le_of_ble_eq_true rfl⟩ dX7_digest_45 rfl ?_
        refine v_lstore_n X dX7_digest_48 (i := 1) rfl (Nat.le_of_ble_eq_true rfl) rfl ?_
        refine v_aload_n X dX7_digest_49 (i := 0) rfl rfl ?_
        refine v_lload_n X dX7_digest_50 (i := 1) rfl rfl ?_
        refine v_cvB X rfl yv_X7_hashCloth m_ml_X7_273 0 0 (c_X7_hashCloth l g N o σ ρ S P φ κ τ π (hoC σ (hoT σ ρ lt R (hoS σ (hsA 334 (fun w => cnF σ (nI w)) w) 5) 12) C) _ _ hR hR20 hlt hlt20) hB (Nat.le_of_ble_eq_true rfl) rfl (Nat.le_of_ble_eq_true rfl) rfl (L' := (xL g o σ ρ S P φ κ τ π)) (rfl) rfl (Nat.le_of_ble_eq_true rfl) rfl rfl (Nat.le_of_ble_eq_true rfl) ⟨Nat.le_of_ble_eq_true rfl, Nat.le_of_ble_eq_true rfl⟩ ⟨Nat.le_of_ble_eq_true rfl, Nat.le_of_ble_eq_true rfl⟩ dX7_digest_51 rfl ?_
        refine v_lstore_n X dX7_digest_54 (i := 1) rfl (Nat.le_of_ble_eq_true rfl) rfl ?_
        refine v_ldc2 X dX7_digest_55 m_kl_X7_258 ?_
        refine v_lload_n X dX7_digest_58 (i := 1) rfl rfl ?_
        refine v_lmul X dX7_digest_59 ?_
        refine v_aload_n X dX7_digest_60 (i := 0) rfl rfl ?_
        refine v_cvB X rfl yv_X7_whyNot m_ml_X7_276 0 0 (c_X7_whyNot l g N o σ ρ S P φ κ τ π C P0 hC hP hPC hC16) hB (Nat.le_of_ble_eq_true rfl) rfl (Nat.le_of_ble_eq_true rfl) rfl (L' := (xL g o σ ρ S P φ κ τ π)) (rfl) rfl (Nat.le_of_ble_eq_true rfl) rfl rfl (Nat.le_of_ble_eq_true rfl) ⟨Nat.le_of_ble_eq_true rfl, Nat.le_of_ble_eq_true rfl⟩ ⟨Nat.le_of_ble_eq_true rfl, Nat.le_of_ble_eq_true rfl⟩ dX7_digest_61 rfl ?_
        refine v_i2l X dX7_digest_64 ?_
        refine v_ladd X dX7_digest_65 ?_
        refine v_lstore_n X dX7_digest_66 (i := 1) rfl (Nat.le_of_ble_eq_true rfl) rfl ?_
        refine v_ldc2 X dX7_digest_67 m_kl_X7_258 ?_
        refine v_lload_n X dX7_digest_70 (i := 1) rfl rfl ?_
        refine v_lmul X dX7_digest_71 ?_
        refine v_aload_n X dX7_digest_72 (i := 0) rfl rfl ?_
        refine v_cvB X rfl yv_X7_picksLeft m_ml_X7_279 0 0 (c_X7_picksLeft l g N o σ ρ S P φ κ τ π (⟨C, P0, hC, hP, hPC, hC16⟩)) hB (Nat.le_of_ble_eq_true rfl) rfl (Nat.le_of_ble_eq_true rfl) rfl (L' := (xL g o σ ρ S P (plS 200 σ) κ τ π)) (rfl) rfl (Nat.le_of_ble_eq_true rfl) rfl rfl (Nat.le_of_ble_eq_true rfl) ⟨Nat.le_of_ble_eq_true rfl, Nat.le_of_ble_eq_true rfl⟩ ⟨Nat.le_of_ble_eq_true rfl, Nat.le_of_ble_eq_true rfl⟩ dX7_digest_73 rfl ?_
        refine v_i2l X dX7_digest_76 ?_
        refine v_ladd X dX7_digest_77 ?_
        refine v_lstore_n X dX7_digest_78 (i := 1) rfl (Nat.le_of_ble_eq_true rfl) rfl ?_
        refine v_ldc2 X dX7_digest_79 m_kl_X7_258 ?_
        refine v_lload_n X dX7_digest_82 (i := 1) rfl rfl ?_
        refine v_lmul X dX7_digest_83 ?_
        refine v_aload_n X dX7_digest_84 (i := 0) rfl rfl ?_
        refine v_cvB X rfl yv_X7_firstEmpty m_ml_X7_282 0 0 (c_X7_firstEmpty l g N o σ ρ S P (plS 200 σ) κ τ π (⟨C, P0, hC, hP, hPC, hC16⟩)) hB (Nat.le_of_ble_eq_true rfl) rfl (Nat.le_of_ble_eq_true rfl) rfl (L' := (xL g o σ ρ S P (feS 999 σ) κ τ π)) (rfl) rfl (Nat.le_of_ble_eq_true rfl) rfl rfl (Nat.le_of_ble_eq_true rfl) ⟨Nat.le_of_ble_eq_true rfl, Nat.le_of_ble_eq_true rfl⟩ ⟨Nat.le_of_ble_eq_true rfl, Nat.le_of_ble_eq_true rfl⟩ dX7_digest_85 rfl ?_
        refine v_i2l X dX7_digest_88 ?_
        refine v_ladd X dX7_digest_89 ?_
        refine v_lstore_n X dX7_digest_90 (i := 1) rfl (Nat.le_of_ble_eq_true rfl) rfl ?_
        refine v_ldc2 X dX7_digest_91 m_kl_X7_258 ?_
        refine v_lload_n X dX7_digest_94 (i := 1) rfl rfl ?_
        refine v_lmul X dX7_digest_95 ?_
        refine v_aload_n X dX7_digest_96 (i := 0) rfl rfl ?_
        refine v_cvB X rfl yv_X7_repeats m_ml_X7_285 0 0 (c_X7_repeats l g N o σ ρ S P (feS 999 σ) κ τ π C hC hC16) hB (Nat.le_of_ble_eq_true rfl) rfl (Nat.le_of_ble_eq_true rfl) rfl (L' := (xL g o σ ρ S P (if C = 0 then (feS 999 σ) else plS C (upd σ 1 0)) κ τ π)) (rfl) rfl (Nat.le_of_ble_eq_true rfl) rfl rfl (Nat.le_of_ble_eq_true rfl) ⟨Nat.le_of_ble_eq_true rfl, Nat.le_of_ble_eq_true rfl⟩ ⟨Nat.le_of_ble_eq_true rfl, Nat.le_of_ble_eq_true rfl⟩ dX7_digest_97 rfl ?_
        refine v_i2l X dX7_digest_100 ?_
        refine v_ladd X dX7_digest_101 ?_
        exact v_lret X rfl dX7_digest_102 (by subst hw2; rfl) (rfl)
      · skip
        have hw3 : w < 12 := lt_of_nI (b := 12) (by omega) (by omega) c9
        refine v_ldc2 X dX7_digest_12 m_kl_X7_258 ?_
        refine v_lload_n X dX7_digest_15 (i := 1) rfl rfl ?_
        refine v_lmul X dX7_digest_16 ?_
        refine v_aload_n X dX7_digest_17 (i := 0) rfl rfl ?_
        refine v_iload_n X dX7_digest_18 (i := 3) rfl rfl ?_
        refine v_cvB X rfl yv_X7_count m_ml_X7_260 0 0 (c_X7_count l g N o σ ρ S P φ κ τ π (nI w) ) hB (Nat.le_of_ble_eq_true rfl) rfl (Nat.le_of_ble_eq_true rfl) rfl (L' := (xL g o σ ρ S P φ κ τ π)) (rfl) rfl (Nat.le_of_ble_eq_true rfl) rfl rfl (Nat.le_of_ble_eq_true rfl) ⟨Nat.le_of_ble_eq_true rfl, Nat.le_of_ble_eq_true rfl⟩ ⟨Nat.le_of_ble_eq_true rfl, Nat.le_of_ble_eq_true rfl⟩ dX7_digest_19 rfl ?_
        refine v_i2l X dX7_digest_22 ?_
        refine v_ladd X dX7_digest_23 ?_
        refine v_lstore_n X dX7_digest_24 (i := 1) rfl (Nat.le_of_ble_eq_true rfl) rfl ?_
        refine v_iinc X dX7_digest_25 (v := nI (w + 1)) rfl (ix_inc rfl) (Nat.le_of_ble_eq_true rfl) rfl ?_
        refine v_goto X dX7_digest_28 (tgt := 6) (by decide) ?_
        exact V.cast (ih6 (w + 1) (by omega) (by omega)) (by rfl) (rfl) (rfl)
  exact LP6 _ 0 (Nat.zero_le _) (Nat.lt_succ_self _)
