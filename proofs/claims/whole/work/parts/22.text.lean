/-! weaving, taking back, the text -/
def wvE (v : Int32) : Int32 := if ¬ ((1 : Int32) ≤ v ∧ v ≤ (99 : Int32)) then -2 else 0
theorem rsG_pos {σ : Nat → Int32} {C P : Nat} (hPC : P < C ∨ (C = 0 ∧ P = 0)) (r : Int32) (h : rsG σ C P = r) : r = 3 ∨ r = 4 ∨ r = 6 → P < C := by
  intro q
  by_cases h1 : C = 0
  · rw [rsG, if_pos h1] at h
    subst h
    rcases q with q | q | q <;> exact absurd q (by decide)
  · omega
set_option maxRecDepth 100000 in
set_option maxHeartbeats 4000000 in
theorem c_X7_weave (l : Launch) (g : Ge) (N o : Nat) (σ ρ : Nat → Int32) (S P : Nat → Nat → Int32) (φ κ τ π : Nat → Int32) (q n : Nat) (hq : π 1 = nI q) (hq6 : q < 6) (hn : π 0 = nI n) (hn6 : n ≤ 6) (v : Int32) (hv : LVd σ ρ) : Cb l g yX7_weave (.code yX7_weave cX7_weave 4 (some .int)) 6 [.ref o, .int v] N o (xL g o σ ρ S P φ κ τ π) (some (.int (if (wvE v) = 0 then wvC (nt v) 0 σ else wvE v))) (xL g o (if (wvE v) = 0 then wvS (nt v) σ else σ) (if (wvE v) = 0 then wvR (nt v) σ ρ else ρ) (svS (wvE v) S q σ) (svS (wvE v) P q ρ) φ κ τ (svπ (wvE v) π q n)) := by
  intro f hB0
  have hB : BB g N o 179 := hB0
  refine ct_of (own := RX7) [some (.ref o), some (.int v), none, none] (by decide +kernel) rfl rfl (Nat.le_of_ble_eq_true rfl) ?_
  intro vp ve vs vm va vb vt vc hnm X
  refine v_iload_n X dX7_weave_0 (i := 1) rfl rfl ?_
  refine v_iconst X dX7_weave_1 (v := (1 : Int32)) (by decide) ?_
  refine v_bipush X dX7_weave_2 (v := (99 : Int32)) (by decide) ?_
  refine v_cs X rfl yv_X7_isWithin m_ml_X7_90 (c_X7_isWithin l g v (1 : Int32) (99 : Int32) ) rfl rfl (Nat.le_of_ble_eq_true rfl) ⟨Nat.le_of_ble_eq_true rfl, Nat.le_of_ble_eq_true rfl⟩ ⟨Nat.le_of_ble_eq_true rfl, Nat.le_of_ble_eq_true rfl⟩ dX7_weave_4 rfl ?_
  refine v_if_neB X dX7_weave_7 (tgt := 13) (by decide) (fun c7 => ?_) (fun c7 => ?_)
  · skip
    obtain ⟨w, hw, rfl⟩ := nI_cases (n := 99) (by omega) (Int32.le_trans (by decide) c7.1) c7.2
    have hkk : nt (nI w) = w := nt_nI (by omega)
    have hE : wvE (nI w) = (0 : Int32) := by rw [wvE, if_neg (not_not_intro c7)]
    refine v_aload_n X dX7_weave_13 (i := 0) rfl rfl ?_
    refine v_cvB X rfl yv_X7_save m_ml_X7_142 0 0 (c_X7_save l g N o σ ρ S P φ κ τ π q n hq hq6 hn hn6) hB (Nat.le_of_ble_eq_true rfl) rfl (Nat.le_of_ble_eq_true rfl) rfl (L' := (xL g o σ ρ (upS S ((q + 1) % 6) σ) (upS P ((q + 1) % 6) ρ) φ κ τ (upd (upd π 1 (nI ((q + 1) % 6))) 0 (nI (svN n))))) (rfl) rfl (Nat.le_of_ble_eq_true rfl) rfl rfl (Nat.le_of_ble_eq_true rfl) ⟨Nat.le_of_ble_eq_true rfl, Nat.le_of_ble_eq_true rfl⟩ ⟨Nat.le_of_ble_eq_true rfl, Nat.le_of_ble_eq_true rfl⟩ dX7_weave_14 rfl ?_
    refine v_iconst X dX7_weave_17 (v := (0 : Int32)) (by decide) ?_
    refine v_istore_n X dX7_weave_18 (i := 2) rfl (Nat.le_of_ble_eq_true rfl) rfl ?_
    have LP19 : ∀ (n_ : Nat) (k : Nat) (σk : Nat → Int32) (ρk : Nat → Int32), (k ≤ w) → (LVd σk ρk) → (wvC w 0 σ = wvC (w - k) k σk) → (wvS w σ = wvS (w - k) σk) → (wvR w σ ρ = wvR (w - k) σk ρk) → w - k < n_ → Vm vp l ve vs vm va vb vt vc g 6 4 N (some (.int (if (wvE (nI w)) = 0 then wvC (nt (nI w)) 0 σ else wvE (nI w)))) (ovr f o (xL g o (if (wvE (nI w)) = 0 then wvS (nt (nI w)) σ else σ) (if (wvE (nI w)) = 0 then wvR (nt (nI w)) σ ρ else ρ) (svS (wvE (nI w)) S q σ) (svS (wvE (nI w)) P q ρ) φ κ τ (svπ (wvE (nI w)) π q n))) (ovr f o (xL g o σk ρk (upS S ((q + 1) % 6) σ) (upS P ((q + 1) % 6) ρ) φ κ τ (upd (upd π 1 (nI ((q + 1) % 6))) 0 (nI (svN n))))) 19 [some (.ref o), some (.int (nI w)), some (.int (nI k)), none] [] := by
      intro n_
      induction n_ with
      | zero => intro k σk ρk hk hvk hr hs ht hm_; exact absurd hm_ (Nat.not_lt_zero _)
      | succ n_ ih19 =>
        intro k σk ρk hk hvk hr hs ht hm19
        refine v_iload_n X dX7_weave_19 (i := 2) rfl rfl ?_
        refine v_iload_n X dX7_weave_20 (i := 1) rfl rfl ?_
        refine v_icmp_ge X dX7_weave_21 (tgt := 62) (by decide) (fun c21 => ?_) (fun c21 => ?_)
        · skip
          have hk2 : k = w := Nat.le_antisymm hk (le_of_nI (by omega) (by omega) c21)
          subst hk2
          rw [Nat.sub_self] at hr hs ht
          refine v_iload_n X dX7_weave_62 (i := 1) rfl rfl ?_
          exact v_iret X rfl dX7_weave_63 (by rw [hE, hkk, hr]; rfl) (by rw [hE, hkk, hs, ht]; rfl)
        · skip
          have hk2 : k < w := lt_of_nI (by omega) (by omega) c21
          obtain ⟨⟨C, P0, hC, hP, hPC, hC16⟩, ⟨R, hR, hR20⟩, lt, hlt, hlt20⟩ := hvk
          obtain ⟨n1, h1⟩ : ∃ n1, w - k = n1 + 1 := ⟨w - k - 1, by omega⟩
          refine v_aload_n X dX7_weave_24 (i := 0) rfl rfl ?_
          refine v_getB X hB cf7 0 (Nat.le_of_ble_eq_true rfl) m_fl_X7_12 dX7_weave_25 0 (Nat.le_of_ble_eq_true rfl) rfl rfl ?_
          refine v_getB X hB cf4 0 (Nat.le_of_ble_eq_true rfl) m_fl_X7_56 dX7_weave_28 1 (Nat.le_of_ble_eq_true rfl) rfl rfl ?_
          refine v_cvB X rfl yv_X3_reasonToStop m_ml_X7_145 2 2 (c_X3_reasonToStop l g N (o + 2) σk C P0 hC hP hPC hC16) hB (Nat.le_of_ble_eq_true rfl) rfl (Nat.le_of_ble_eq_true rfl) rfl (L' := (xL g o σk ρk (upS S ((q + 1) % 6) σ) (upS P ((q + 1) % 6) ρ) φ κ τ (upd (upd π 1 (nI ((q + 1) % 6))) 0 (nI (svN n))))) (rfl) rfl (Nat.le_of_ble_eq_true rfl) rfl rfl (Nat.le_of_ble_eq_true rfl) ⟨Nat.le_of_ble_eq_true rfl, Nat.le_of_ble_eq_true rfl⟩ ⟨Nat.le_of_ble_eq_true rfl, Nat.le_of_ble_eq_true rfl⟩ dX7_weave_31 rfl ?_
          refine v_istore_n X dX7_weave_34 (i := 3) rfl (Nat.le_of_ble_eq_true rfl) rfl ?_
          refine v_iload_n X dX7_weave_35 (i := 3) rfl rfl ?_
          refine v_if_eq X dX7_weave_36 (tgt := 49) (by decide) (fun hz => ?_) (fun hz => ?_)
          · skip
            have hz2 : rsG' σk = 0 := (rsG'_eq hC hP hC16 hPC).trans hz
            have h0 := rsG_0 hz
            obtain ⟨hC0, k9, hk9, hfl⟩ := rsC_0 h0
            have hPC1 : P0 < C := by omega
            refine v_aload_n X dX7_weave_49 (i := 0) rfl rfl ?_
            refine v_getB X hB cf7 0 (Nat.le_of_ble_eq_true rfl) m_fl_X7_12 dX7_weave_50 0 (Nat.le_of_ble_eq_true rfl) rfl rfl ?_
            refine v_cvB X rfl yv_X4_makePick m_ml_X7_151 1 1 (c_X4_makePick l g N (o + 1) σk ρk C P0 k9 R lt hC hP hPC1 hC16 hk9 hfl hR hR20 hlt hlt20) hB (Nat.le_of_ble_eq_true rfl) rfl (Nat.le_of_ble_eq_true rfl) rfl (L' := (xL g o (lmS σk C P0 k9 R) (arR σk ρk ((lt + 1) % 20) P0 k9) (upS S ((q + 1) % 6) σ) (upS P ((q + 1) % 6) ρ) φ κ τ (upd (upd π 1 (nI ((q + 1) % 6))) 0 (nI (svN n))))) (xL_now) rfl (Nat.le_of_ble_eq_true rfl) rfl rfl (Nat.le_of_ble_eq_true rfl) ⟨Nat.le_of_ble_eq_true rfl, Nat.le_of_ble_eq_true rfl⟩ ⟨Nat.le_of_ble_eq_true rfl, Nat.le_of_ble_eq_true rfl⟩ dX7_weave_53 rfl ?_
            refine v_iinc X dX7_weave_56 (v := nI (k + 1)) rfl (ix_inc rfl) (Nat.le_of_ble_eq_true rfl) rfl ?_
            refine v_goto X dX7_weave_59 (tgt := 19) (by decide) ?_
            refine v_drop 3 ?_
            exact ih19 (k + 1) (lmS σk C P0 k9 R) (arR σk ρk ((lt + 1) % 20) P0 k9) (by omega) (LV_lm hC hPC1 hC16 hk9 hR hR20) (by rw [hr, h1, wvC, if_pos hz2, lmS'_eq hC hP hC16 hPC1 hk9 hfl hR hR20]; congr 1; omega) (by rw [hs, h1, wvS, if_pos hz2, lmS'_eq hC hP hC16 hPC1 hk9 hfl hR hR20]; congr 1; omega) (by rw [ht, h1, wvR, if_pos hz2, lmS'_eq hC hP hC16 hPC1 hk9 hfl hR hR20, lmR'_eq hP hC16 hPC1 hk9 hfl hlt hlt20]; congr 1; omega) (by omega)
          · skip
            have hz2 : ¬ rsG' σk = 0 := fun z => hz ((rsG'_eq hC hP hC16 hPC).symm.trans z)
            refine v_aload_n X dX7_weave_39 (i := 0) rfl rfl ?_
            refine v_getB X hB cf7 0 (Nat.le_of_ble_eq_true rfl) m_fl_X7_12 dX7_weave_40 0 (Nat.le_of_ble_eq_true rfl) rfl rfl ?_
            refine v_iload_n X dX7_weave_43 (i := 3) rfl rfl ?_
            refine v_cvB X rfl yv_X4_noteStop m_ml_X7_148 1 1 (c_X4_noteStop l g N (o + 1) σk ρk C P0 (rsG σk C P0) hC hP (rsG_pos hPC _ rfl) hC16) hB (Nat.le_of_ble_eq_true rfl) rfl (Nat.le_of_ble_eq_true rfl) rfl (L' := (xL g o (nsS σk P0 (rsG σk C P0)) ρk (upS S ((q + 1) % 6) σ) (upS P ((q + 1) % 6) ρ) φ κ τ (upd (upd π 1 (nI ((q + 1) % 6))) 0 (nI (svN n))))) (xL_now) rfl (Nat.le_of_ble_eq_true rfl) rfl rfl (Nat.le_of_ble_eq_true rfl) ⟨Nat.le_of_ble_eq_true rfl, Nat.le_of_ble_eq_true rfl⟩ ⟨Nat.le_of_ble_eq_true rfl, Nat.le_of_ble_eq_true rfl⟩ dX7_weave_44 rfl ?_
            refine v_iload_n X dX7_weave_47 (i := 2) rfl rfl ?_
            exact v_iret X rfl dX7_weave_48 (by rw [hE, hkk, hr, h1, wvC, if_neg hz2]; rfl) (by rw [hE, hkk, hs, ht, h1, wvS, wvR, if_neg hz2, if_neg hz2, nsS', nt_of hP (by omega), rsG'_eq hC hP hC16 hPC]; rfl)
    exact LP19 _ 0 σ ρ (Nat.zero_le _) hv rfl rfl rfl (Nat.lt_succ_self _)
  · skip
    refine v_bipush X dX7_weave_10 (v := (-2 : Int32)) (by decide) ?_
    have hE : wvE v = (-2 : Int32) := by rw [wvE, if_pos c7]
    exact v_iret X rfl dX7_weave_12 (by rw [hE]; rfl) (by rw [hE]; rfl)
def tbE (B : Nat) : Int32 := if B = 0 then -3 else 0
set_option maxRecDepth 100000 in
set_option maxHeartbeats 4000000 in
theorem c_X7_takeBack (l : Launch) (g : Ge) (N o : Nat) (σ ρ : Nat → Int32) (S P : Nat → Nat → Int32) (φ κ τ π : Nat → Int32) (q n : Nat) (hq : π 1 = nI q) (hq6 : q < 6) (hn : π 0 = nI n) (hn6 : n ≤ 6) (B k lt : Nat) (hB8 : σ 8 = nI B) (hB20 : B ≤ 20) (hk : k < 5) (hfl : 0 < B → ρ (2 + 7 * lt) = nI k) (hlt : ρ 140 = nI lt) (hlt20 : lt < 20) : Cb l g yX7_takeBack (.code yX7_takeBack cX7_takeBack 1 (some .int)) 6 [.ref o] N o (xL g o σ ρ S P φ κ τ π) (some (.int (if tbE B = 0 then ltS σ ρ lt k 1 else tbE B))) (xL g o (if tbE B = 0 then ltS σ ρ lt k else σ) (if tbE B = 0 then upd ρ 140 (nI ((lt + 19) % 20)) else ρ) (svS (tbE B) S q σ) (svS (tbE B) P q ρ) φ κ τ (svπ (tbE B) π q n)) := by
  intro f hB0
  have hB : BB g N o 179 := hB0
  refine ct_of (own := RX7) [some (.ref o)] (by decide +kernel) rfl rfl (Nat.le_of_ble_eq_true rfl) ?_
  intro vp ve vs vm va vb vt vc hnm X
  refine v_aload_n X dX7_takeBack_0 (i := 0) rfl rfl ?_
  refine v_getB X hB cf7 0 (Nat.le_of_ble_eq_true rfl) m_fl_X7_12 dX7_takeBack_1 0 (Nat.le_of_ble_eq_true rfl) rfl rfl ?_
  refine v_getB X hB cf4 3 (Nat.le_of_ble_eq_true rfl) m_fl_X7_154 dX7_takeBack_4 1 (Nat.le_of_ble_eq_true rfl) rfl rfl ?_
  refine v_if_gt X dX7_takeBack_7 (tgt := 13) (by decide) (fun c7 => ?_) (fun c7 => ?_)
  · skip
    have hB1 : 0 < B := by
      rcases Nat.eq_zero_or_pos B with z | z
      · subst z; rw [hB8] at c7; exact absurd c7 (by decide)
      · exact z
    have hE : tbE B = (0 : Int32) := by rw [tbE, if_neg (by omega)]
    refine v_aload_n X dX7_takeBack_13 (i := 0) rfl rfl ?_
    refine v_cvB X rfl yv_X7_save m_ml_X7_142 0 0 (c_X7_save l g N o σ ρ S P φ κ τ π q n hq hq6 hn hn6) hB (Nat.le_of_ble_eq_true rfl) rfl (Nat.le_of_ble_eq_true rfl) rfl (L' := (xL g o σ ρ (upS S ((q + 1) % 6) σ) (upS P ((q + 1) % 6) ρ) φ κ τ (upd (upd π 1 (nI ((q + 1) % 6))) 0 (nI (svN n))))) (rfl) rfl (Nat.le_of_ble_eq_true rfl) rfl rfl (Nat.le_of_ble_eq_true rfl) ⟨Nat.le_of_ble_eq_true rfl, Nat.le_of_ble_eq_true rfl⟩ ⟨Nat.le_of_ble_eq_true rfl, Nat.le_of_ble_eq_true rfl⟩ dX7_takeBack_14 rfl ?_
    refine v_aload_n X dX7_takeBack_17 (i := 0) rfl rfl ?_
    refine v_getB X hB cf7 0 (Nat.le_of_ble_eq_true rfl) m_fl_X7_12 dX7_takeBack_18 0 (Nat.le_of_ble_eq_true rfl) rfl rfl ?_
    refine v_cvB X rfl yv_X4_takePickBack m_ml_X7_157 1 1 (c_X4_takePickBack l g N (o + 1) σ ρ k lt hk (hfl hB1) hlt hlt20) hB (Nat.le_of_ble_eq_true rfl) rfl (Nat.le_of_ble_eq_true rfl) rfl (L' := (xL g o (ltS σ ρ lt k) (upd ρ 140 (nI ((lt + 19) % 20))) (upS S ((q + 1) % 6) σ) (upS P ((q + 1) % 6) ρ) φ κ τ (upd (upd π 1 (nI ((q + 1) % 6))) 0 (nI (svN n))))) (xL_now) rfl (Nat.le_of_ble_eq_true rfl) rfl rfl (Nat.le_of_ble_eq_true rfl) ⟨Nat.le_of_ble_eq_true rfl, Nat.le_of_ble_eq_true rfl⟩ ⟨Nat.le_of_ble_eq_true rfl, Nat.le_of_ble_eq_true rfl⟩ dX7_takeBack_21 rfl ?_
    refine v_aload_n X dX7_takeBack_24 (i := 0) rfl rfl ?_
    refine v_getB X hB cf7 0 (Nat.le_of_ble_eq_true rfl) m_fl_X7_12 dX7_takeBack_25 0 (Nat.le_of_ble_eq_true rfl) rfl rfl ?_
    refine v_getB X hB cf4 0 (Nat.le_of_ble_eq_true rfl) m_fl_X7_56 dX7_takeBack_28 1 (Nat.le_of_ble_eq_true rfl) rfl rfl ?_
    refine v_getB X hB cf3 2 (Nat.le_of_ble_eq_true rfl) m_fl_X7_121 dX7_takeBack_31 2 (Nat.le_of_ble_eq_true rfl) rfl rfl ?_
    refine v_getB X hB cf1 4 (Nat.le_of_ble_eq_true rfl) m_fl_X7_140 dX7_takeBack_34 11 (Nat.le_of_ble_eq_true rfl) rfl rfl ?_
    exact v_iret X rfl dX7_takeBack_37 (by rw [hE]; rfl) (by rw [hE]; rfl)
  · skip
    have hB0 : B = 0 := by
      rw [hB8] at c7
      rcases Nat.eq_zero_or_pos B with z | z
      · exact z
      · exact absurd c7 (nI_nle z (by omega))
    have hE : tbE B = (-3 : Int32) := by rw [tbE, if_pos hB0]
    refine v_bipush X dX7_takeBack_10 (v := (-3 : Int32)) (by decide) ?_
    exact v_iret X rfl dX7_takeBack_12 (by rw [hE]; rfl) (by rw [hE]; rfl)
def tyE (v : Int32) (len : Nat) : Int32 := if ¬ ((33 : Int32) ≤ v ∧ v ≤ (126 : Int32)) then -2 else if 80 ≤ len then -4 else 0
theorem ch_nI {k : Nat} (h : k < 65536) : ((nI k).toUInt32 % 65536).toInt32 = nI k := by
  rw [pk_char, pk_tn (by omega), Nat.mod_eq_of_lt h]
theorem ch_nar {k : Nat} (h : k < 65536) : vp_nar .char (nI k) = nI k := by
  unfold vp_nar
  rw [(pk_charN h).1]
set_option maxRecDepth 100000 in
set_option maxHeartbeats 4000000 in
theorem c_X7_type (l : Launch) (g : Ge) (N o : Nat) (σ ρ : Nat → Int32) (S P : Nat → Nat → Int32) (φ κ τ π : Nat → Int32) (v : Int32) (len : Nat) (hlen : π 2 = nI len) (hlen80 : len ≤ 80) : Cb l g yX7_type (.code yX7_type cX7_type 2 (some .int)) 2 [.ref o, .int v] N o (xL g o σ ρ S P φ κ τ π) (some (.int (if tyE v len = 0 then nI (len + 1) else tyE v len))) (xL g o σ ρ S P φ κ (if tyE v len = 0 then upd τ len v else τ) (if tyE v len = 0 then upd π 2 (nI (len + 1)) else π)) := by
  intro f hB0
  have hB : BB g N o 179 := hB0
  refine ct_of (own := RX7) [some (.ref o), some (.int v)] (by decide +kernel) rfl rfl (Nat.le_of_ble_eq_true rfl) ?_
  intro vp ve vs vm va vb vt vc hnm X
  refine v_iload_n X dX7_type_0 (i := 1) rfl rfl ?_
  refine v_bipush X dX7_type_1 (v := (33 : Int32)) (by decide) ?_
  refine v_bipush X dX7_type_3 (v := (126 : Int32)) (by decide) ?_
  refine v_cs X rfl yv_X7_isWithin m_ml_X7_90 (c_X7_isWithin l g v (33 : Int32) (126 : Int32) ) rfl rfl (Nat.le_of_ble_eq_true rfl) ⟨Nat.le_of_ble_eq_true rfl, Nat.le_of_ble_eq_true rfl⟩ ⟨Nat.le_of_ble_eq_true rfl, Nat.le_of_ble_eq_true rfl⟩ dX7_type_5 rfl ?_
  refine v_if_neB X dX7_type_8 (tgt := 14) (by decide) (fun c8 => ?_) (fun c8 => ?_)
  · skip
    obtain ⟨c, hc, rfl⟩ := nI_cases (n := 126) (by omega) (Int32.le_trans (by decide) c8.1) c8.2
    refine v_aload_n X dX7_type_14 (i := 0) rfl rfl ?_
    refine v_getB X hB cf7 7 (Nat.le_of_ble_eq_true rfl) m_fl_X7_45 dX7_type_15 0 (Nat.le_of_ble_eq_true rfl) rfl rfl ?_
    refine v_if_lt X dX7_type_18 (tgt := 30) (by decide) (fun c18 => ?_) (fun c18 => ?_)
    · skip
      exact absurd c18 (by rw [hlen]; exact nI_pos (by omega))
    · skip
      refine v_aload_n X dX7_type_21 (i := 0) rfl rfl ?_
      refine v_getB X hB cf7 7 (Nat.le_of_ble_eq_true rfl) m_fl_X7_45 dX7_type_22 0 (Nat.le_of_ble_eq_true rfl) rfl rfl ?_
      refine v_bipush X dX7_type_25 (v := (80 : Int32)) (by decide) ?_
      refine v_icmp_lt X dX7_type_27 (tgt := 33) (by decide) (fun c27 => ?_) (fun c27 => ?_)
      · skip
        have hl2 : len < 80 := lt_of_nI (b := 80) (by omega) (by omega) (by rw [← hlen]; exact c27)
        refine v_aload_n X dX7_type_33 (i := 0) rfl rfl ?_
        refine v_getB X hB cf7 6 (Nat.le_of_ble_eq_true rfl) m_fl_X7_41 dX7_type_34 0 (Nat.le_of_ble_eq_true rfl) rfl rfl ?_
        refine v_aload_n X dX7_type_37 (i := 0) rfl rfl ?_
        refine v_getB X hB cf7 7 (Nat.le_of_ble_eq_true rfl) m_fl_X7_45 dX7_type_38 0 (Nat.le_of_ble_eq_true rfl) rfl rfl ?_
        refine v_iload_n X dX7_type_41 (i := 1) rfl rfl ?_
        refine v_i2c X dX7_type_42 (v := (nI c)) (ch_nI (by omega)) ?_
        refine v_castB X hB dX7_type_43 40 (Nat.le_of_ble_eq_true rfl) rfl len hlen (by omega) (Nat.le_of_ble_eq_true rfl) (L' := (xL g o σ ρ S P φ κ (upd τ len (vp_nar .char (nI c))) π)) w_x_40 ?_
        refine v_aload_n X dX7_type_44 (i := 0) rfl rfl ?_
        refine v_dup X dX7_type_45 rfl ?_
        refine v_getB X hB cf7 7 (Nat.le_of_ble_eq_true rfl) m_fl_X7_45 dX7_type_46 0 (Nat.le_of_ble_eq_true rfl) rfl rfl ?_
        refine v_iconst X dX7_type_49 (v := (1 : Int32)) (by decide) ?_
        refine v_iadd X dX7_type_50 ?_
        refine v_putB X hB cf7 7 (Nat.le_of_ble_eq_true rfl) rfl m_fl_X7_45 dX7_type_51 0 (Nat.le_of_ble_eq_true rfl) rfl rfl rfl (Nat.le_of_ble_eq_true rfl) (L' := (xL g o σ ρ S P φ κ (upd τ len (vp_nar .char (nI c))) (upd π 2 ((π 2) + (1 : Int32))))) w_x_0_textLength ?_
        refine v_aload_n X dX7_type_54 (i := 0) rfl rfl ?_
        refine v_getB X hB cf7 7 (Nat.le_of_ble_eq_true rfl) m_fl_X7_45 dX7_type_55 0 (Nat.le_of_ble_eq_true rfl) rfl rfl ?_
        have hE : tyE (nI c) len = (0 : Int32) := by rw [tyE, if_neg (not_not_intro c8), if_neg (by omega)]
        exact v_iret X rfl dX7_type_58 (by rw [hE, pk_us, hlen, nI_1]; rfl) (by rw [hE, hlen, nI_1, ch_nar (by omega)]; rfl)
      · skip
        have hl2 : 80 ≤ len := le_of_nI (a := 80) (by omega) (by omega) (by rw [← hlen]; exact c27)
        refine v_bipush X dX7_type_30 (v := (-4 : Int32)) (by decide) ?_
        have hE : tyE (nI c) len = (-4 : Int32) := by rw [tyE, if_neg (not_not_intro c8), if_pos hl2]
        exact v_iret X rfl dX7_type_32 (by rw [hE]; rfl) (by rw [hE]; rfl)
  · skip
    refine v_bipush X dX7_type_11 (v := (-2 : Int32)) (by decide) ?_
    have hE : tyE v len = (-2 : Int32) := by rw [tyE, if_pos c8]
    exact v_iret X rfl dX7_type_13 (by rw [hE]; rfl) (by rw [hE]; rfl)
set_option maxRecDepth 100000 in
set_option maxHeartbeats 4000000 in
theorem c_X7_clearText (l : Launch) (g : Ge) (N o : Nat) (σ ρ : Nat → Int32) (S P : Nat → Nat → Int32) (φ κ τ π : Nat → Int32) : Cb l g yX7_clearText (.code yX7_clearText cX7_clearText 2 (some .int)) 0 [.ref o] N o (xL g o σ ρ S P φ κ τ π) (some (.int (π 2))) (xL g o σ ρ S P φ κ τ (upd π 2 0)) := by
  intro f hB0
  have hB : BB g N o 179 := hB0
  refine ct_of (own := RX7) [some (.ref o), none] (by decide +kernel) rfl rfl (Nat.le_of_ble_eq_true rfl) ?_
  intro vp ve vs vm va vb vt vc hnm X
  refine v_aload_n X dX7_clearText_0 (i := 0) rfl rfl ?_
  refine v_getB X hB cf7 7 (Nat.le_of_ble_eq_true rfl) m_fl_X7_45 dX7_clearText_1 0 (Nat.le_of_ble_eq_true rfl) rfl rfl ?_
  refine v_istore_n X dX7_clearText_4 (i := 1) rfl (Nat.le_of_ble_eq_true rfl) rfl ?_
  refine v_aload_n X dX7_clearText_5 (i := 0) rfl rfl ?_
  refine v_iconst X dX7_clearText_6 (v := (0 : Int32)) (by decide) ?_
  refine v_putB X hB cf7 7 (Nat.le_of_ble_eq_true rfl) rfl m_fl_X7_45 dX7_clearText_7 0 (Nat.le_of_ble_eq_true rfl) rfl rfl rfl (Nat.le_of_ble_eq_true rfl) (L' := (xL g o σ ρ S P φ κ τ (upd π 2 (0 : Int32)))) w_x_0_textLength ?_
  refine v_iload_n X dX7_clearText_10 (i := 1) rfl rfl ?_
  exact v_iret X rfl dX7_clearText_11 (rfl) (rfl)
def ctC (τ : Nat → Int32) : Nat → Int32
  | 0 => 1
  | k + 1 => if τ k = 59 then ctC τ k + 1 else ctC τ k
def auK (κ τ : Nat → Int32) : Nat → Nat → Int32
  | 0 => stK κ
  | k + 1 => acK (auK κ τ k) (τ k)
def seF (κ τ : Nat → Int32) : Nat → Nat → Int32
  | 0, k => if auK κ τ k 3 = 4 then -6 else nI k
  | n + 1, k => if acV (auK κ τ k) (τ k) = 0 then nI k else seF κ τ n (k + 1)
def seK (κ τ : Nat → Int32) : Nat → Nat → Nat → Int32
  | 0, k => auK κ τ k
  | n + 1, k => if acV (auK κ τ k) (τ k) = 0 then auK κ τ (k + 1) else seK κ τ n (k + 1)
set_option maxRecDepth 100000 in
set_option maxHeartbeats 4000000 in
theorem c_X7_cardsInText (l : Launch) (g : Ge) (N o : Nat) (σ ρ : Nat → Int32) (S P : Nat → Nat → Int32) (φ κ τ π : Nat → Int32) (len : Nat) (hlen : π 2 = nI len) (hlen80 : len ≤ 80) : Cb l g yX7_cardsInText (.code yX7_cardsInText cX7_cardsInText 3 (some .int)) 0 [.ref o] N o (xL g o σ ρ S P φ κ τ π) (some (.int (ctC τ len))) (xL g o σ ρ S P φ κ τ π) := by
  intro f hB0
  have hB : BB g N o 179 := hB0
  refine ct_of (own := RX7) [some (.ref o), none, none] (by decide +kernel) rfl rfl (Nat.le_of_ble_eq_true rfl) ?_
  intro vp ve vs vm va vb vt vc hnm X
  refine v_iconst X dX7_cardsInText_0 (v := (1 : Int32)) (by decide) ?_
  refine v_istore_n X dX7_cardsInText_1 (i := 1) rfl (Nat.le_of_ble_eq_true rfl) rfl ?_
  refine v_iconst X dX7_cardsInText_2 (v := (0 : Int32)) (by decide) ?_
  refine v_istore_n X dX7_cardsInText_3 (i := 2) rfl (Nat.le_of_ble_eq_true rfl) rfl ?_
  have LP4 : ∀ (n_ : Nat) (k : Nat), (k ≤ len) → len - k < n_ → Vm vp l ve vs vm va vb vt vc g 0 3 N (some (.int (ctC τ len))) (ovr f o (xL g o σ ρ S P φ κ τ π)) (ovr f o (xL g o σ ρ S P φ κ τ π)) 4 [some (.ref o), some (.int (ctC τ k)), some (.int (nI k))] [] := by
    intro n_
    induction n_ with
    | zero => intro k hk hm_; exact absurd hm_ (Nat.not_lt_zero _)
    | succ n_ ih4 =>
      intro k hk hm4
      refine v_iload_n X dX7_cardsInText_4 (i := 2) rfl rfl ?_
      refine v_aload_n X dX7_cardsInText_5 (i := 0) rfl rfl ?_
      refine v_getB X hB cf7 7 (Nat.le_of_ble_eq_true rfl) m_fl_X7_45 dX7_cardsInText_6 0 (Nat.le_of_ble_eq_true rfl) rfl rfl ?_
      refine v_icmp_ge X dX7_cardsInText_9 (tgt := 38) (by decide) (fun c9 => ?_) (fun c9 => ?_)
      · skip
        have hk2 : k = len := Nat.le_antisymm hk (le_of_nI (by omega) (by omega) (by rw [← hlen]; exact c9))
        refine v_iload_n X dX7_cardsInText_38 (i := 1) rfl rfl ?_
        exact v_iret X rfl dX7_cardsInText_39 (by rw [hk2]) (rfl)
      · skip
        have hk2 : k < len := lt_of_nI (by omega) (by omega) (by rw [← hlen]; exact c9)
        refine v_iload_n X dX7_cardsInText_12 (i := 2) rfl rfl ?_
        refine v_bipush X dX7_cardsInText_13 (v := (80 : Int32)) (by decide) ?_
        refine v_icmp_ge X dX7_cardsInText_15 (tgt := 38) (by decide) (fun c15 => ?_) (fun c15 => ?_)
        · skip
          exact absurd c15 (nI_ge (a := k) (b := 80) (by omega) (by omega))
        · skip
          refine v_aload_n X dX7_cardsInText_18 (i := 0) rfl rfl ?_
          refine v_getB X hB cf7 6 (Nat.le_of_ble_eq_true rfl) m_fl_X7_41 dX7_cardsInText_19 0 (Nat.le_of_ble_eq_true rfl) rfl rfl ?_
          refine v_iload_n X dX7_cardsInText_22 (i := 2) rfl rfl ?_
          refine v_caldB X hB dX7_cardsInText_23 40 (Nat.le_of_ble_eq_true rfl) rfl k rfl (by omega) (Nat.le_of_ble_eq_true rfl) ?_
          refine v_bipush X dX7_cardsInText_24 (v := (59 : Int32)) (by decide) ?_
          refine v_icmp_ne X dX7_cardsInText_26 (tgt := 32) (by decide) (fun c26 => ?_) (fun c26 => ?_)
          · skip
            refine v_iinc X dX7_cardsInText_32 (v := nI (k + 1)) rfl (ix_inc rfl) (Nat.le_of_ble_eq_true rfl) rfl ?_
            refine v_goto X dX7_cardsInText_35 (tgt := 4) (by decide) ?_
            exact V.cast (ih4 (k + 1) (by omega) (by omega)) (by rw [ctC, if_neg c26]; rfl) (rfl) (rfl)
          · skip
            refine v_iinc X dX7_cardsInText_29 (v := ((ctC τ k) + (1))) rfl rfl (Nat.le_of_ble_eq_true rfl) rfl ?_
            refine v_iinc X dX7_cardsInText_32 (v := nI (k + 1)) rfl (ix_inc rfl) (Nat.le_of_ble_eq_true rfl) rfl ?_
            refine v_goto X dX7_cardsInText_35 (tgt := 4) (by decide) ?_
            exact V.cast (ih4 (k + 1) (by omega) (by omega)) (by rw [ctC, if_pos c26]; rfl) (rfl) (rfl)
  exact LP4 _ 0 (Nat.zero_le _) (Nat.lt_succ_self _)
set_option maxRecDepth 100000 in
set_option maxHeartbeats 4000000 in
theorem c_X7_syntaxError (l : Launch) (g : Ge) (N o : Nat) (σ ρ : Nat → Int32) (S P : Nat → Nat → Int32) (φ κ τ π : Nat → Int32) (len : Nat) (hlen : π 2 = nI len) (hlen80 : len ≤ 80) : Cb l g yX7_syntaxError (.code yX7_syntaxError cX7_syntaxError 2 (some .int)) 4 [.ref o] N o (xL g o σ ρ S P φ κ τ π) (some (.int (seF κ τ len 0))) (xL g o σ ρ S P φ (seK κ τ len 0) τ π) := by
  intro f hB0
  have hB : BB g N o 179 := hB0
  refine ct_of (own := RX7) [some (.ref o), none] (by decide +kernel) rfl rfl (Nat.le_of_ble_eq_true rfl) ?_
  intro vp ve vs vm va vb vt vc hnm X
  refine v_aload_n X dX7_syntaxError_0 (i := 0) rfl rfl ?_
  refine v_getB X hB cf7 5 (Nat.le_of_ble_eq_true rfl) m_fl_X7_37 dX7_syntaxError_1 0 (Nat.le_of_ble_eq_true rfl) rfl rfl ?_
  refine v_cvB X rfl yv_X0_start m_ml_X7_222 39 39 (c_X0_start l g N (o + 39) κ ) hB (Nat.le_of_ble_eq_true rfl) rfl (Nat.le_of_ble_eq_true rfl) rfl (L' := (xL g o σ ρ S P φ (stK κ) τ π)) (xL_rd) rfl (Nat.le_of_ble_eq_true rfl) rfl rfl (Nat.le_of_ble_eq_true rfl) ⟨Nat.le_of_ble_eq_true rfl, Nat.le_of_ble_eq_true rfl⟩ ⟨Nat.le_of_ble_eq_true rfl, Nat.le_of_ble_eq_true rfl⟩ dX7_syntaxError_4 rfl ?_
  refine v_iconst X dX7_syntaxError_7 (v := (0 : Int32)) (by decide) ?_
  refine v_istore_n X dX7_syntaxError_8 (i := 1) rfl (Nat.le_of_ble_eq_true rfl) rfl ?_
  have LP9 : ∀ (n_ : Nat) (k : Nat), (k ≤ len) → (seF κ τ len 0 = seF κ τ (len - k) k) → (seK κ τ len 0 = seK κ τ (len - k) k) → len - k < n_ → Vm vp l ve vs vm va vb vt vc g 4 2 N (some (.int (seF κ τ len 0))) (ovr f o (xL g o σ ρ S P φ (seK κ τ len 0) τ π)) (ovr f o (xL g o σ ρ S P φ (auK κ τ k) τ π)) 9 [some (.ref o), some (.int (nI k))] [] := by
    intro n_
    induction n_ with
    | zero => intro k hk hr hs hm_; exact absurd hm_ (Nat.not_lt_zero _)
    | succ n_ ih9 =>
      intro k hk hr hs hm9
      refine v_iload_n X dX7_syntaxError_9 (i := 1) rfl rfl ?_
      refine v_aload_n X dX7_syntaxError_10 (i := 0) rfl rfl ?_
      refine v_getB X hB cf7 7 (Nat.le_of_ble_eq_true rfl) m_fl_X7_45 dX7_syntaxError_11 0 (Nat.le_of_ble_eq_true rfl) rfl rfl ?_
      refine v_icmp_ge X dX7_syntaxError_14 (tgt := 47) (by decide) (fun c14 => ?_) (fun c14 => ?_)
      · skip
        have hk2 : k = len := Nat.le_antisymm hk (le_of_nI (by omega) (by omega) (by rw [← hlen]; exact c14))
        subst hk2
        rw [Nat.sub_self] at hr hs
        refine v_aload_n X dX7_syntaxError_47 (i := 0) rfl rfl ?_
        refine v_getB X hB cf7 5 (Nat.le_of_ble_eq_true rfl) m_fl_X7_37 dX7_syntaxError_48 0 (Nat.le_of_ble_eq_true rfl) rfl rfl ?_
        refine v_cvB X rfl yv_X0_isBehindCard m_ml_X7_229 39 39 (c_X0_isBehindCard l g N (o + 39) (auK κ τ k) ) hB (Nat.le_of_ble_eq_true rfl) rfl (Nat.le_of_ble_eq_true rfl) rfl (L' := (xL g o σ ρ S P φ (auK κ τ k) τ π)) (rfl) rfl (Nat.le_of_ble_eq_true rfl) rfl rfl (Nat.le_of_ble_eq_true rfl) ⟨Nat.le_of_ble_eq_true rfl, Nat.le_of_ble_eq_true rfl⟩ ⟨Nat.le_of_ble_eq_true rfl, Nat.le_of_ble_eq_true rfl⟩ dX7_syntaxError_51 rfl ?_
        refine v_if_eqB X dX7_syntaxError_54 (tgt := 62) (by decide) (fun c54 => ?_) (fun c54 => ?_)
        · skip
          refine v_aload_n X dX7_syntaxError_62 (i := 0) rfl rfl ?_
          refine v_getB X hB cf7 7 (Nat.le_of_ble_eq_true rfl) m_fl_X7_45 dX7_syntaxError_63 0 (Nat.le_of_ble_eq_true rfl) rfl rfl ?_
          exact v_iret X rfl dX7_syntaxError_66 (by rw [hr, seF, if_neg c54, hlen]) (by rw [hs]; rfl)
        · skip
          refine v_bipush X dX7_syntaxError_57 (v := (-6 : Int32)) (by decide) ?_
          refine v_goto X dX7_syntaxError_59 (tgt := 66) (by decide) ?_
          exact v_iret X rfl dX7_syntaxError_66 (by rw [hr, seF, if_pos c54]) (by rw [hs]; rfl)
      · skip
        have hk2 : k < len := lt_of_nI (by omega) (by omega) (by rw [← hlen]; exact c14)
        obtain ⟨n1, h1⟩ : ∃ n1, len - k = n1 + 1 := ⟨len - k - 1, by omega⟩
        refine v_iload_n X dX7_syntaxError_17 (i := 1) rfl rfl ?_
        refine v_bipush X dX7_syntaxError_18 (v := (80 : Int32)) (by decide) ?_
        refine v_icmp_ge X dX7_syntaxError_20 (tgt := 47) (by decide) (fun c20 => ?_) (fun c20 => ?_)
        · skip
          exact absurd c20 (nI_ge (a := k) (b := 80) (by omega) (by omega))
        · skip
          refine v_aload_n X dX7_syntaxError_23 (i := 0) rfl rfl ?_
          refine v_getB X hB cf7 5 (Nat.le_of_ble_eq_true rfl) m_fl_X7_37 dX7_syntaxError_24 0 (Nat.le_of_ble_eq_true rfl) rfl rfl ?_
          refine v_aload_n X dX7_syntaxError_27 (i := 0) rfl rfl ?_
          refine v_getB X hB cf7 6 (Nat.le_of_ble_eq_true rfl) m_fl_X7_41 dX7_syntaxError_28 0 (Nat.le_of_ble_eq_true rfl) rfl rfl ?_
          refine v_iload_n X dX7_syntaxError_31 (i := 1) rfl rfl ?_
          refine v_caldB X hB dX7_syntaxError_32 40 (Nat.le_of_ble_eq_true rfl) rfl k rfl (by omega) (Nat.le_of_ble_eq_true rfl) ?_
          refine v_cvB X rfl yv_X0_accepts m_ml_X7_225 39 39 (c_X0_accepts l g N (o + 39) (auK κ τ k) (τ k) ) hB (Nat.le_of_ble_eq_true rfl) rfl (Nat.le_of_ble_eq_true rfl) rfl (L' := (xL g o σ ρ S P φ (acK (auK κ τ k) (τ k)) τ π)) (xL_rd) rfl (Nat.le_of_ble_eq_true rfl) rfl rfl (Nat.le_of_ble_eq_true rfl) ⟨Nat.le_of_ble_eq_true rfl, Nat.le_of_ble_eq_true rfl⟩ ⟨Nat.le_of_ble_eq_true rfl, Nat.le_of_ble_eq_true rfl⟩ dX7_syntaxError_33 rfl ?_
          refine v_if_ne X dX7_syntaxError_36 (tgt := 41) (by decide) (fun c36 => ?_) (fun c36 => ?_)
          · skip
            refine v_iinc X dX7_syntaxError_41 (v := nI (k + 1)) rfl (ix_inc rfl) (Nat.le_of_ble_eq_true rfl) rfl ?_
            refine v_goto X dX7_syntaxError_44 (tgt := 9) (by decide) ?_
            exact ih9 (k + 1) (by omega) (by rw [hr, h1, seF, if_neg c36]; congr 1; omega) (by rw [hs, h1, seK, if_neg c36]; congr 1; omega) (by omega)
          · skip
            refine v_iload_n X dX7_syntaxError_39 (i := 1) rfl rfl ?_
            exact v_iret X rfl dX7_syntaxError_40 (by rw [hr, h1, seF, if_pos c36]) (by rw [hs, h1, seK, if_pos c36]; rfl)
  exact LP9 _ 0 (Nat.zero_le _) rfl rfl (Nat.lt_succ_self _)
