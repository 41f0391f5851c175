/-! weaving, taking back, the text -/
def wvE (v : Int32) : Int32 := if ¬ ((1 : Int32) ≤ v ∧ v ≤ (99 : Int32)) then -2 else 0
theorem rsG_pos {σ : Nat → Int32} {C P : Nat} (hPC : P < C ∨ (C = 0 ∧ P = 0)) (r : Int32) (h : rsG σ C P = r) : r = 3 ∨ r = 4 ∨ r = 6 → P < C := by
  intro q
  by_cases h1 : C = 0
  · rw [rsG, if_pos h1] at h
    subst h
    rcases q with q | q | q <;> exact absurd q (by decide)
  · omega
set_option maxRecDepth 100000 in
set_option maxHeartbeats 4000000 in
theorem c_X7_weave (l : Launch) (g : Ge) (N o : Nat) (σ ρ : Nat → Int32) (S P : Nat → Nat → Int32) (φ κ τ π : Nat → Int32) (q n : Nat) (hq : π 1 = nI q) (hq6 : q < 6) (hn : π 0 = nI n) (hn6 : n ≤ 6) (v : Int32) (hv : LVd σ ρ) : Cb l g yX7_weave (.code yX7_weave cX7_weave 4 (some .int)) 6 [.ref o, .int v] N o (xL g o σ ρ S P φ κ τ π) (some (.int (if (wvE v) = 0 then wvC (nt v) 0 σ else wvE v))) (xL g o (if (wvE v) = 0 then wvS (nt v) σ else σ) (if (wvE v) = 0 then wvR (nt v) σ ρ else ρ) (svS (wvE v) S q σ) (svS (wvE v) P q ρ) φ κ τ (svπ (wvE v) π q n)) := by
  intro f hB0
  have hB : BB g N o 179 := hB0
  refine ct_of (own := RX7) [some (.ref o), some (.int v), none, none] (by decide +kernel) rfl rfl (Nat.le_of_ble_eq_true rfl) ?_
  intro vp ve vs vm va vb vt vc hnm X
  refine v_iload_n X dX7_weave_0 (i := 1) rfl rfl ?_
  refine v_iconst X dX7_weave_1 (v := (1 : Int32)) (by decide) ?_
  refine v_bipush X dX7_weave_2 (v := (99 : Int32)) (by decide) ?_
  refine v_cs X rfl yv_X7_isWithin m_ml_X7_90 (c_X7_isWithin l g v (1 : Int32) (99 : Int32) ) rfl rfl (Nat.le_of_ble_eq_true rfl) ⟨Nat.le_of_ble_eq_true rfl, Nat.le_of_ble_eq_true rfl⟩ ⟨Nat.le_of_ble_eq_true rfl, Nat.le_of_ble_eq_true rfl⟩ dX7_weave_4 rfl ?_
  refine v_if_neB X dX7_weave_7 (tgt := 13) (by decide) (fun c7 => ?_) (fun c7 => ?_)
  · skip
    obtain ⟨w, hw, rfl⟩ := nI_cases (n := 99) (by omega) (Int32.le_trans (by decide) c7.1) c7.2
    have hkk : nt (nI w) = w := nt_nI (by omega)
    have hE : wvE (nI w) = (0 : Int32) := by rw [wvE, if_neg (not_not_intro c7)]
    refine v_aload_n X dX7_weave_13 (i := 0) rfl rfl ?_
    refine v_cvB X rfl yv_X7_save m_ml_X7_142 0 0 (c_X7_save l g N o σ ρ S P φ κ τ π q n hq hq6 hn hn6) hB (Nat.le_of_ble_eq_true rfl) rfl (Nat.le_of_ble_eq_true rfl) rfl (L' := (xL g o σ ρ (upS S ((q + 1) % 6) σ) (upS P ((q + 1) % 6) ρ) φ κ τ (upd (upd π 1 (nI ((q + 1) % 6))) 0 (nI (svN n))))) (rfl) rfl (Nat.le_of_ble_eq_true rfl) rfl rfl (Nat.le_of_ble_eq_true rfl) ⟨Nat.le_of_ble_eq_true rfl, Nat.le_of_ble_eq_true rfl⟩ ⟨Nat.le_of_ble_eq_true rfl, Nat.le_of_ble_eq_true rfl⟩ dX7_weave_14 rfl ?_
    refine v_iconst X dX7_weave_17 (v := (0 : Int32)) (by decide) ?_
    refine v_istore_n X dX7_weave_18 (i := 2) rfl (Nat.le_of_ble_eq_true rfl) rfl ?_
    have LP19 : ∀ (n_ : Nat) (k : Nat) (σk : Nat → Int32) (ρk : Nat → Int32), (k ≤ w) → (LVd σk ρk) → (wvC w 0 σ = wvC (w - k) k σk) → (wvS w σ = wvS (w - k) σk) → (wvR w σ ρ = wvR (w - k) σk ρk) → w - k < n_ → Vm vp l ve vs vm va vb vt vc g 6 4 N (some (.int (if (wvE (nI w)) = 0 then wvC (nt (nI w)) 0 σ else wvE (nI w)))) (ovr f o (xL g o (if (wvE (nI w)) = 0 then wvS (nt (nI w)) σ else σ) (if (wvE (nI w)) = 0 then wvR (nt (nI w)) σ ρ else ρ) (svS (wvE (nI w)) S q σ) (svS (wvE (nI w)) P q ρ) φ κ τ (svπ (wvE (nI w)) π q n))) (ovr f o (xL g o σk ρk (upS S ((q + 1) % 6) σ) (upS P ((q + 1) % 6) ρ) φ κ τ (upd (upd π 1 (nI ((q + 1) % 6))) 0 (nI (svN n))))) 19 [some (.ref o), some (.int (nI w)), some (.int (nI k)), none] [] := by
      intro n_
      induction n_ with
      | zero => intro k σk ρk hk hvk hr hs ht hm_; exact absurd hm_ (Nat.not_lt_zero _)
      | succ n_ ih19 =>
        intro k σk ρk hk hvk hr hs ht hm19
        refine v_iload_n X dX7_weave_19 (i := 2) rfl rfl ?_
        refine v_iload_n X dX7_weave_20 (i := 1) rfl rfl ?_
        refine v_icmp_ge X dX7_weave_21 (tgt := 62) (by decide) (fun c21 => ?_) (fun c21 => ?_)
        · skip
          have hk2 : k = w := Nat.le_antisymm hk (le_of_nI (by omega) (by omega) c21)
          subst hk2
          rw [Nat.sub_self] at hr hs ht
          refine v_iload_n X dX7_weave_62 (i := 1) rfl rfl ?_
          exact v_iret X rfl dX7_weave_63 (by rw [hE, hkk, hr]; rfl) (by rw [hE, hkk, hs, ht]; rfl)
        · skip
          have hk2 : k < w := lt_of_nI (by omega) (by omega) c21
          obtain ⟨⟨C, P0, hC, hP, hPC, hC16⟩, ⟨R, hR, hR20⟩, lt, hlt, hlt20⟩ := hvk
          obtain ⟨n1, h1⟩ : ∃ n1, w - k = n1 + 1 := ⟨w - k - 1, by omega⟩
          refine v_aload_n X dX7_weave_24 (i := 0) rfl rfl ?_
          refine v_getB X hB cf7 0 (Nat.le_of_ble_eq_true rfl) m_fl_X7_12 dX7_weave_25 0 (Nat.le_of_ble_eq_true rfl) rfl rfl ?_
          refine v_getB X hB cf4 0 (Nat.le_of_ble_eq_true rfl) m_fl_X7_56 dX7_weave_28 1 (Nat.le_of_ble_eq_true rfl) rfl rfl ?_
          refine v_cvB X rfl yv_X3_reasonToStop m_ml_X7_145 2 2 (c_X3_reasonToStop l g N (o + 2) σk C P0 hC hP hPC hC16) hB (Nat.le_of_ble_eq_true rfl) rfl (Nat.le_of_ble_eq_true rfl) rfl (L' := (xL g o σk ρk (upS S ((q + 1) % 6) σ) (upS P ((q + 1) % 6) ρ) φ κ τ (upd (upd π 1 (nI ((q + 1) % 6))) 0 (nI (svN n))))) (rfl) rfl (Nat.le_of_ble_eq_true rfl) rfl rfl (Nat.le_of_ble_eq_true rfl) ⟨Nat.le_of_ble_eq_true rfl, Nat.le_of_ble_eq_true rfl⟩ ⟨Nat.le_of_ble_eq_true rfl, Nat.le_of_ble_eq_true rfl⟩ dX7_weave_31 rfl ?_
          refine v_istore_n X dX7_weave_34 (i := 3) rfl (Nat.le_of_ble_eq_true rfl) rfl ?_
          refine v_iload_n X dX7_weave_35 (i := 3) rfl rfl ?_
          refine v_if_eq X dX7_weave_36 (tgt := 49) (by decide) (fun hz => ?_) (fun hz => ?_)
          · skip
            have hz2 : rsG' σk = 0 := (rsG'_eq hC hP hC16 hPC).trans hz
            have h0 := rsG_0 hz
            obtain ⟨hC0, k9, hk9, hfl⟩ := rsC_0 h0
            have hPC1 : P0 < C := by omega
            refine v_aload_n X dX7_weave_49 (i := 0) rfl rfl ?_
            refine v_getB X hB cf7 0 (Nat.le_of_ble_eq_true rfl) m_fl_X7_12 dX7_weave_50 0 (Nat.le_of_ble_eq_true rfl) rfl rfl ?_
            refine v_cvB X rfl yv_X4_makePick m_ml_X7_151 1 1 (c_X4_makePick l g N (o + 1) σk ρk C P0 k9 R lt hC hP hPC1 hC16 hk9 hfl hR hR20 hlt hlt20) hB (Nat.le_of_ble_eq_true rfl) rfl (Nat.le_of_ble_eq_true rfl) rfl (L' := (xL g o (lmS σk C P0 k9 R) (arR σk ρk ((lt + 1) % 20) P0 k9) (upS S ((q + 1) % 6) σ) (upS P ((q + 1) % 6) ρ) φ κ τ (upd (upd π 1 (nI ((q + 1) % 6))) 0 (nI (svN n))))) (xL_now) rfl (Nat.le_of_ble_eq_true rfl) rfl rfl (Nat.le_of_ble_eq_true rfl) ⟨Nat.le_of_ble_eq_true rfl, Nat.le_of_ble_eq_true rfl⟩ ⟨Nat.le_of_ble_eq_true rfl, Nat.le_of_ble_eq_true rfl⟩ dX7_weave_53 rfl ?_
            refine v_iinc X dX7_weave_56 (v := nI (k + 1)) rfl (ix_inc rfl) (Nat.le_of_ble_eq_true rfl) rfl ?_
            refine v_goto X dX7_weave_59 (tgt := 19) (by decide) ?_
            refine v_drop 3 ?_
            exact ih19 (k + 1) (lmS σk C P0 k9 R) (arR σk ρk ((lt + 1) % 20) P0 k9) (by omega) (LV_lm hC hPC1 hC16 hk9 hR hR20) (by rw [hr, h1, wvC, if_pos hz2, lmS'_eq hC hP hC16 hPC1 hk9 hfl hR hR20]; congr 1; omega) (by rw [hs, h1, wvS, if_pos hz2, lmS'_eq hC hP hC16 hPC1 hk9 hfl hR hR20]; congr 1; omega) (by rw [ht, h1, wvR, if_pos hz2, lmS'_eq hC hP hC16 hPC1 hk9 hfl hR hR20, lmR'_eq hP hC16 hPC1 hk9 hfl hlt hlt20]; congr 1; omega) (by omega)
          · skip
            have hz2 : ¬ rsG' σk = 0 := fun z => hz ((rsG'_eq hC hP hC16 hPC).symm.trans z)
            refine v_aload_n X dX7_weave_39 (i := 0) rfl rfl ?_
            refine v_getB X hB cf7 0 (Nat.le_of_ble_eq_true rfl) m_fl_X7_12 dX7_weave_40 0 (Nat.le_of_ble_eq_true rfl) rfl rfl ?_
            refine v_iload_n X dX7_weave_43 (i := 3) rfl rfl ?_
            refine v_cvB X rfl yv_X4_noteStop m_ml_X7_148 1 1 (c_X4_noteStop l g N (o + 1) σk ρk C P0 (rsG σk C P0) hC hP (rsG_pos hPC _ rfl) hC16) hB (Nat.le_of_ble_eq_true rfl) rfl (Nat.le_of_ble_eq_true rfl) rfl (L' := (xL g o (nsS σk P0 (rsG σk C P0)) ρk (upS S ((q + 1) % 6) σ) (upS P ((q + 1) % 6) ρ) φ κ τ (upd (upd π 1 (nI ((q + 1) % 6))) 0 (nI (svN n))))) (xL_now) rfl (Nat.le_of_ble_eq_true rfl) rfl rfl (Nat.le_of_ble_eq_true rfl) ⟨Nat.le_of_ble_eq_true rfl, Nat.le_of_ble_eq_true rfl⟩ ⟨Nat.le_of_ble_eq_true rfl, Nat.le_of_ble_eq_true rfl⟩ dX7_weave_44 rfl ?_
            refine v_iload_n X dX7_weave_47 (i := 2) rfl rfl ?_
            exact v_iret X rfl dX7_weave_48 (by rw [hE, hkk, hr, h1, wvC, if_neg hz2]; rfl) (by rw [hE, hkk, hs, ht, h1, wvS, wvR, if_neg hz2, if_neg hz2, nsS', nt_of hP (by omega), rsG'_eq hC hP hC16 hPC]; rfl)
    exact LP19 _ 0 σ ρ (Nat.zero_le _) hv rfl rfl rfl (Nat.lt_succ_self _)
  · skip
    refine v_bipush X dX7_weave_10 (v := (-2 : Int32)) (by decide) ?_
    have hE : wvE v = (-2 : Int32) := by rw [wvE, if_pos c7]
    exact v_iret X rfl dX7_weave_12 (by rw [hE]; rfl) (by rw [hE]; rfl)
def tbE (B : Nat) : Int32 := if B = 0 then -3 else 0
set_option maxRecDepth 100000 in
set_option maxHeartbeats 4000000 in
theorem c_X7_takeBack (l : Launch) (g : Ge) (N o : Nat) (σ ρ : Nat → Int32) (S P : Nat → Nat → Int32) (φ κ τ π : Nat → Int32) (q n : Nat) (hq : π 1 = nI q) (hq6 : q < 6) (hn : π 0 = nI n) (hn6 : n ≤ 6) (B k lt : Nat) (hB8 : σ 8 = nI B) (hB20 : B ≤ 20) (hk : k < 5) (hfl : 0 < B → ρ (2 + 7 * lt) = nI k) (hlt : ρ 140 = nI lt) (hlt20 : lt < 20) : Cb l g yX7_takeBack (.code yX7_takeBack cX7_takeBack 1 (some .int)) 6 [.ref o] N o (xL g o σ ρ S P φ κ τ π) (some (.int (if tbE B = 0 then ltS σ ρ lt k 1 else tbE B))) (xL g o (if tbE B = 0 then ltS σ ρ lt k else σ) (if tbE B = 0 then upd ρ 140 (nI ((lt + 19) % 20)) else ρ) (svS (tbE B) S q σ) (svS (tbE B) P q ρ) φ κ τ (svπ (tbE B) π q n)) := by
  intro f hB0
  have hB : BB g N o 179 := hB0
  refine ct_of (own := RX7) [some (.ref o)] (by decide +kernel) rfl rfl (Nat.le_of_ble_eq_true rfl) ?_
  intro vp ve vs vm va vb vt vc hnm X
  refine v_aload_n X dX7_takeBack_0 (i := 0) rfl rfl ?_
  refine v_getB X hB cf7 0 (Nat.le_of_ble_eq_true rfl) m_fl_X7_12 dX7_takeBack_1 0 (Nat.le_of_ble_eq_true rfl) rfl rfl ?_
  refine v_getB X hB cf4 3 (Nat.le_of_ble_eq_true rfl) m_fl_X7_154 dX7_takeBack_4 1 (Nat.le_of_ble_eq_true rfl) rfl rfl ?_
  refine v_if_gt X dX7_takeBack_7 (tgt := 13) (by decide) (fun c7 => ?_) (fun c7 => ?_)
  · skip
    have hB1 : 0 < B := by
      rcases Nat.eq_zero_or_pos B with z | z
      · subst z; rw [hB8] at c7; exact absurd c7 (by decide)
      · exact z
    have hE : tbE B = (0 : Int32) := by rw [tbE, if_neg (by omega)]
    refine v_aload_n X dX7_takeBack_13 (i := 0) rfl rfl ?_
    refine v_cvB X rfl yv_X7_save m_ml_X7_142 0 0 (c_X7_save l g N o σ ρ S P φ κ τ π q n hq hq6 hn hn6) hB (Nat.le_of_ble_eq_true rfl) rfl (Nat.le_of_ble_eq_true rfl) rfl (L' := (xL g o σ ρ (upS S ((q + 1) % 6) σ) (upS P ((q + 1) % 6) ρ) φ κ τ (upd (upd π 1 (nI ((q + 1) % 6))) 0 (nI (svN n))))) (rfl) rfl (Nat.le_of_ble_eq_true rfl) rfl rfl (Nat.le_of_ble_eq_true rfl) ⟨Nat.le_of_ble_eq_true rfl, Nat.le_of_ble_eq_true rfl⟩ ⟨Nat.le_of_ble_eq_true rfl, Nat.le_of_ble_eq_true rfl⟩ dX7_takeBack_14 rfl ?_
    refine v_aload_n X dX7_takeBack_17 (i := 0) rfl rfl ?_
    refine v_getB X hB cf7 0 (Nat.le_of_ble_eq_true rfl) m_fl_X7_12 dX7_takeBack_18 0 (Nat.le_of_ble_eq_true rfl) rfl rfl ?_
    refine v_cvB X rfl yv_X4_takePickBack m_ml_X7_157 1 1 (c_X4_takePickBack l g N (o + 1) σ ρ k lt hk (hfl hB1) hlt hlt20) hB (Nat.le_of_ble_eq_true rfl) rfl (Nat.le_of_ble_eq_true rfl) rfl (L' := (xL g o (ltS σ ρ lt k) (upd ρ 140 (nI ((lt + 19) % 20))) (upS S ((q + 1) % 6) σ) (upS P ((q + 1) % 6) ρ) φ κ τ (upd (upd π 1 (nI ((q + 1) % 6))) 0 (nI (svN n))))) (xL_now) rfl (Nat.le_of_ble_eq_true rfl) rfl rfl (Nat.le_of_ble_eq_true rfl) ⟨Nat.le_of_ble_eq_true rfl, Nat.le_of_ble_eq_true rfl⟩ ⟨Nat.le_of_ble_eq_true rfl, Nat.le_of_ble_eq_true rfl⟩ dX7_takeBack_21 rfl ?_
    refine v_aload_n X dX7_takeBack_24 (i := 0) rfl rfl ?_
    refine v_getB X hB cf7 0 (Nat.le_of_ble_eq_true rfl) m_fl_X7_12 dX7_takeBack_25 0 (Nat.le_of_ble_eq_true rfl) rfl rfl ?_
    refine v_getB X hB cf4 0 (Nat.le_of_ble_eq_true rfl) m_fl_X7_56 dX7_takeBack_28 1 (Nat.le_of_ble_eq_true rfl) rfl rfl ?_
    refine v_getB X hB cf3 2 (Nat.le_of_ble_eq_true rfl) m_fl_X7_121 dX7_takeBack_31 2 (Nat.le_of_ble_eq_true rfl) rfl rfl ?_
    refine v_getB X hB cf1 4 (Nat.le_of_ble_eq_true rfl) m_fl_X7_140 dX7_takeBack_34 11 (Nat.le_of_ble_eq_true rfl) rfl rfl ?_
    exact v_iret X rfl dX7_takeBack_37 (by rw [hE]; rfl) (by rw [hE]; rfl)
  · skip
    have hB0 : B = 0 := by
      rw [hB8] at c7
      rcases Nat.eq_zero_or_pos B with z | z
      · exact z
      · exact absurd c7 (nI_nle z (by omega))
    have hE : tbE B = (-3 : Int32) := by rw [tbE, if_pos hB0]
    refine v_bipush X dX7_takeBack_10 (v := (-3 : Int32)) (by decide) ?_
    exact v_iret X rfl dX7_takeBack_12 (by rw [hE]; rfl) (by rw [hE]; rfl)
def tyE (v : Int32) (len : Nat) : Int32 := if ¬ ((33 : Int32) ≤ v ∧ v ≤ (126 : Int32)) then -2 else if 80 ≤ len then -4 else 0
theorem ch_nI {k : Nat} (h : k < 65536) : ((nI k).toUInt32 % 65536).toInt32 = nI k := by
  rw [pk_char, pk_tn (by omega), Nat.mod_eq_of_lt h]
theorem ch_nar {k : Nat} (h : k < 65536) : vp_nar .char (nI k) = nI k := by
  unfold vp_nar
  rw [(pk_charN h).1]
-- (no theorem c_X7_type here: the claim has no such method)
-- (no theorem c_X7_clearText here: the claim has no such method)
def ctC (τ : Nat → Int32) : Nat → Int32
  | 0 => 1
  | k + 1 => if τ k = 59 then ctC τ k + 1 else ctC τ k
def auK (κ τ : Nat → Int32) : Nat → Nat → Int32
  | 0 => stK κ
  | k + 1 => acK (auK κ τ k) (τ k)
def seF (κ τ : Nat → Int32) : Nat → Nat → Int32
  | 0, k => if auK κ τ k 3 = 4 then -6 else nI k
  | n + 1, k => if acV (auK κ τ k) (τ k) = 0 then nI k else seF κ τ n (k + 1)
def seK (κ τ : Nat → Int32) : Nat → Nat → Nat → Int32
  | 0, k => auK κ τ k
  | n + 1, k => if acV (auK κ τ k) (τ k) = 0 then auK κ τ (k + 1) else seK κ τ n (k + 1)
-- (no theorem c_X7_cardsInText here: the claim has no such method)
-- (no theorem c_X7_syntaxError here: the claim has no such method)
