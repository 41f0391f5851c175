/-! the calls that change the loom -/
def svS (b : Int32) (S : Nat → Nat → Int32) (q : Nat) (σ : Nat → Int32) : Nat → Nat → Int32 := if b = 0 then upS S ((q + 1) % 6) σ else S
def svπ (b : Int32) (π : Nat → Int32) (q n : Nat) : Nat → Int32 := if b = 0 then upd (upd π 1 (nI ((q + 1) % 6))) 0 (nI (svN n)) else π
def rgP (v a b : Int32) : Prop := a ≤ v ∧ v ≤ b
def c8 (σ : Nat → Int32) : Nat → Int32 := upd σ 8 0
theorem c8_o {σ : Nat → Int32} {i : Nat} (h : i ≠ 8) : c8 σ i = σ i := pk_un h
def piE (σ : Nat → Int32) (v a b : Int32) : Int32 := if ¬ ((0 : Int32) ≤ v ∧ v ≤ (4 : Int32)) then (-1 : Int32) else if ¬ ((a = 0 ∧ 0 ≤ b ∧ b ≤ 3) ∨ (a = 1 ∧ 0 ≤ b ∧ b ≤ 1)) then (-1 : Int32) else if ¬ σ (14 + 4 * nt v) = -6 then (-3 : Int32) else if ¬ fnd σ a b = -6 then (-3 : Int32) else 0
set_option maxRecDepth 100000 in
set_option maxHeartbeats 4000000 in
theorem c_X7_putIn (l : Launch) (g : Ge) (N o : Nat) (σ ρ : Nat → Int32) (S P : Nat → Nat → Int32) (φ κ τ π : Nat → Int32) (q n : Nat) (hq : π 1 = nI q) (hq6 : q < 6) (hn : π 0 = nI n) (hn6 : n ≤ 6) (v a b : Int32) : Cb l g yX7_putIn (.code yX7_putIn cX7_putIn 5 (some .int)) 6 [.ref o, .int v, .int a, .int b] N o (xL g o σ ρ S P φ κ τ π) (some (.int (if (piE σ v a b) = 0 then (nbx (upd (upd (c8 σ) (14 + 4 * nt v) a) (15 + 4 * nt v) b) 5) else (piE σ v a b)))) (xL g o (if (piE σ v a b) = 0 then (upd (upd (c8 σ) (14 + 4 * nt v) a) (15 + 4 * nt v) b) else σ) ρ (svS (piE σ v a b) S q σ) (svS (piE σ v a b) P q ρ) φ κ τ (svπ (piE σ v a b) π q n)) := by
  intro f hB0
  have hB : BB g N o 179 := hB0
  refine ct_of (own := RX7) [some (.ref o), some (.int v), some (.int a), some (.int b), none] (by decide +kernel) rfl rfl (Nat.le_of_ble_eq_true rfl) ?_
  intro vp ve vs vm va vb vt vc hnm X
  refine v_iload_n X dX7_putIn_0 (i := 1) rfl rfl ?_
  refine v_cs X rfl yv_X7_isShuttle m_ml_X7_48 (c_X7_isShuttle l g v ) rfl rfl (Nat.le_of_ble_eq_true rfl) ⟨Nat.le_of_ble_eq_true rfl, Nat.le_of_ble_eq_true rfl⟩ ⟨Nat.le_of_ble_eq_true rfl, Nat.le_of_ble_eq_true rfl⟩ dX7_putIn_1 rfl ?_
  refine v_if_eqB X dX7_putIn_4 (tgt := 15) (by decide) (fun c4 => ?_) (fun c4 => ?_)
  · skip
    refine v_iconst X dX7_putIn_15 (v := (-1 : Int32)) (by decide) ?_
    have hE : (piE σ v a b) = (-1 : Int32) := by rw [piE, if_pos c4]
    exact v_iret X rfl dX7_putIn_16 (by rw [hE]; rfl) (by rw [hE]; rfl)
  · skip
    obtain ⟨k, hk, rfl⟩ := nI_cases (n := 4) (by omega) c4.1 c4.2
    refine v_iload_n X dX7_putIn_7 (i := 2) rfl rfl ?_
    refine v_iload_n X dX7_putIn_8 (i := 3) rfl rfl ?_
    refine v_cs X rfl yv_X7_isBox m_ml_X7_52 (c_X7_isBox l g a b ) rfl rfl (Nat.le_of_ble_eq_true rfl) ⟨Nat.le_of_ble_eq_true rfl, Nat.le_of_ble_eq_true rfl⟩ ⟨Nat.le_of_ble_eq_true rfl, Nat.le_of_ble_eq_true rfl⟩ dX7_putIn_9 rfl ?_
    refine v_if_neB X dX7_putIn_12 (tgt := 17) (by decide) (fun c12 => ?_) (fun c12 => ?_)
    · skip
      refine v_aload_n X dX7_putIn_17 (i := 0) rfl rfl ?_
      refine v_getB X hB cf7 0 (Nat.le_of_ble_eq_true rfl) m_fl_X7_12 dX7_putIn_18 0 (Nat.le_of_ble_eq_true rfl) rfl rfl ?_
      refine v_getB X hB cf4 0 (Nat.le_of_ble_eq_true rfl) m_fl_X7_56 dX7_putIn_21 1 (Nat.le_of_ble_eq_true rfl) rfl rfl ?_
      refine v_getB X hB cf3 0 (Nat.le_of_ble_eq_true rfl) m_fl_X7_59 dX7_putIn_24 2 (Nat.le_of_ble_eq_true rfl) rfl rfl ?_
      refine v_astore X dX7_putIn_27 (Nat.le_of_ble_eq_true rfl) rfl ?_
      have hkk : nt (nI k) = k := nt_nI (by omega)
      refine v_aload X dX7_putIn_29 rfl ?_
      refine v_iload_n X dX7_putIn_31 (i := 1) rfl rfl ?_
      refine v_cvB X rfl yv_X5_isInDrawer m_ml_X7_63 3 3 (c_X5_isInDrawer l g N (o + 3) (nI k) k rfl σ hk) hB (Nat.le_of_ble_eq_true rfl) rfl (Nat.le_of_ble_eq_true rfl) rfl (L' := (xL g o σ ρ S P φ κ τ π)) (rfl) rfl (Nat.le_of_ble_eq_true rfl) rfl rfl (Nat.le_of_ble_eq_true rfl) ⟨Nat.le_of_ble_eq_true rfl, Nat.le_of_ble_eq_true rfl⟩ ⟨Nat.le_of_ble_eq_true rfl, Nat.le_of_ble_eq_true rfl⟩ dX7_putIn_32 rfl ?_
      refine v_if_eqB X dX7_putIn_35 (tgt := 50) (by decide) (fun c35 => ?_) (fun c35 => ?_)
      · skip
        refine v_bipush X dX7_putIn_50 (v := (-3 : Int32)) (by decide) ?_
        have hE : (piE σ (nI k) a b) = (-3 : Int32) := by rw [piE, if_neg (not_not_intro c4), if_neg (not_not_intro c12), hkk, if_pos c35]
        exact v_iret X rfl dX7_putIn_52 (by rw [hE]; rfl) (by rw [hE]; rfl)
      · skip
        refine v_aload X dX7_putIn_38 rfl ?_
        refine v_iload_n X dX7_putIn_40 (i := 2) rfl rfl ?_
        refine v_iload_n X dX7_putIn_41 (i := 3) rfl rfl ?_
        refine v_cvB X rfl yv_X5_findIn m_ml_X7_68 3 3 (c_X5_findIn l g N (o + 3) σ a b ) hB (Nat.le_of_ble_eq_true rfl) rfl (Nat.le_of_ble_eq_true rfl) rfl (L' := (xL g o σ ρ S P φ κ τ π)) (rfl) rfl (Nat.le_of_ble_eq_true rfl) rfl rfl (Nat.le_of_ble_eq_true rfl) ⟨Nat.le_of_ble_eq_true rfl, Nat.le_of_ble_eq_true rfl⟩ ⟨Nat.le_of_ble_eq_true rfl, Nat.le_of_ble_eq_true rfl⟩ dX7_putIn_42 rfl ?_
        refine v_bipush X dX7_putIn_45 (v := (-6 : Int32)) (by decide) ?_
        refine v_icmp_eq X dX7_putIn_47 (tgt := 53) (by decide) (fun c47 => ?_) (fun c47 => ?_)
        · skip
          refine v_aload_n X dX7_putIn_53 (i := 0) rfl rfl ?_
          refine v_cvB X rfl yv_X7_saveBeforeChange m_ml_X7_72 0 0 (c_X7_saveBeforeChange l g N o σ ρ S P φ κ τ π q n hq hq6 hn hn6) hB (Nat.le_of_ble_eq_true rfl) rfl (Nat.le_of_ble_eq_true rfl) rfl (L' := (xL g o (upd σ 8 0) ρ (upS S ((q + 1) % 6) σ) (upS P ((q + 1) % 6) ρ) φ κ τ (upd (upd π 1 (nI ((q + 1) % 6))) 0 (nI (svN n))))) (rfl) rfl (Nat.le_of_ble_eq_true rfl) rfl rfl (Nat.le_of_ble_eq_true rfl) ⟨Nat.le_of_ble_eq_true rfl, Nat.le_of_ble_eq_true rfl⟩ ⟨Nat.le_of_ble_eq_true rfl, Nat.le_of_ble_eq_true rfl⟩ dX7_putIn_54 rfl ?_
          refine v_aload X dX7_putIn_57 rfl ?_
          refine v_iload_n X dX7_putIn_59 (i := 1) rfl rfl ?_
          refine v_iload_n X dX7_putIn_60 (i := 2) rfl rfl ?_
          refine v_iload_n X dX7_putIn_61 (i := 3) rfl rfl ?_
          refine v_cvB X rfl yv_X5_place m_ml_X7_75 3 3 (c_X5_place l g N (o + 3) (nI k) k rfl (c8 σ) a b hk) hB (Nat.le_of_ble_eq_true rfl) rfl (Nat.le_of_ble_eq_true rfl) rfl (L' := (xL g o (upd (upd (c8 σ) (14 + 4 * k) a) (15 + 4 * k) b) ρ (upS S ((q + 1) % 6) σ) (upS P ((q + 1) % 6) ρ) φ κ τ (upd (upd π 1 (nI ((q + 1) % 6))) 0 (nI (svN n))))) (f_x_sh_3 (fun i hi => by rw [pk_un (by omega), pk_un (by omega)] <;> rfl)) rfl (Nat.le_of_ble_eq_true rfl) rfl rfl (Nat.le_of_ble_eq_true rfl) ⟨Nat.le_of_ble_eq_true rfl, Nat.le_of_ble_eq_true rfl⟩ ⟨Nat.le_of_ble_eq_true rfl, Nat.le_of_ble_eq_true rfl⟩ dX7_putIn_62 rfl ?_
          refine v_aload X dX7_putIn_65 rfl ?_
          refine v_cvB X rfl yv_X5_numberInBoxes m_ml_X7_79 3 3 (c_X5_numberInBoxes l g N (o + 3) (upd (upd (c8 σ) (14 + 4 * k) a) (15 + 4 * k) b) ) hB (Nat.le_of_ble_eq_true rfl) rfl (Nat.le_of_ble_eq_true rfl) rfl (L' := (xL g o (upd (upd (c8 σ) (14 + 4 * k) a) (15 + 4 * k) b) ρ (upS S ((q + 1) % 6) σ) (upS P ((q + 1) % 6) ρ) φ κ τ (upd (upd π 1 (nI ((q + 1) % 6))) 0 (nI (svN n))))) (rfl) rfl (Nat.le_of_ble_eq_true rfl) rfl rfl (Nat.le_of_ble_eq_true rfl) ⟨Nat.le_of_ble_eq_true rfl, Nat.le_of_ble_eq_true rfl⟩ ⟨Nat.le_of_ble_eq_true rfl, Nat.le_of_ble_eq_true rfl⟩ dX7_putIn_67 rfl ?_
          have hE : (piE σ (nI k) a b) = (0 : Int32) := by rw [piE, if_neg (not_not_intro c4), if_neg (not_not_intro c12), hkk, if_neg (not_not_intro c35), if_neg (not_not_intro c47)]
          exact v_iret X rfl dX7_putIn_70 (by rw [hE, hkk]; rfl) (by rw [hE, hkk]; rfl)
        · skip
          refine v_bipush X dX7_putIn_50 (v := (-3 : Int32)) (by decide) ?_
          have hE : (piE σ (nI k) a b) = (-3 : Int32) := by rw [piE, if_neg (not_not_intro c4), if_neg (not_not_intro c12), hkk, if_neg (not_not_intro c35), if_pos c47]
          exact v_iret X rfl dX7_putIn_52 (by rw [hE]; rfl) (by rw [hE]; rfl)
    · skip
      refine v_iconst X dX7_putIn_15 (v := (-1 : Int32)) (by decide) ?_
      have hE : (piE σ (nI k) a b) = (-1 : Int32) := by rw [piE, if_neg (not_not_intro c4), if_pos c12]
      exact v_iret X rfl dX7_putIn_16 (by rw [hE]; rfl) (by rw [hE]; rfl)
def toE (σ : Nat → Int32) (v : Int32) : Int32 := if ¬ ((0 : Int32) ≤ v ∧ v ≤ (4 : Int32)) then (-1 : Int32) else if σ (14 + 4 * nt v) = -6 then (-3 : Int32) else 0
set_option maxRecDepth 100000 in
set_option maxHeartbeats 4000000 in
theorem c_X7_takeOut (l : Launch) (g : Ge) (N o : Nat) (σ ρ : Nat → Int32) (S P : Nat → Nat → Int32) (φ κ τ π : Nat → Int32) (q n : Nat) (hq : π 1 = nI q) (hq6 : q < 6) (hn : π 0 = nI n) (hn6 : n ≤ 6) (v : Int32) : Cb l g yX7_takeOut (.code yX7_takeOut cX7_takeOut 4 (some .int)) 6 [.ref o, .int v] N o (xL g o σ ρ S P φ κ τ π) (some (.int (if (toE σ v) = 0 then ((10 : Int32) * c8 σ (14 + 4 * nt v) + c8 σ (15 + 4 * nt v)) else (toE σ v)))) (xL g o (if (toE σ v) = 0 then (upd (upd (c8 σ) (14 + 4 * nt v) (-6)) (15 + 4 * nt v) (-6)) else σ) ρ (svS (toE σ v) S q σ) (svS (toE σ v) P q ρ) φ κ τ (svπ (toE σ v) π q n)) := by
  intro f hB0
  have hB : BB g N o 179 := hB0
  refine ct_of (own := RX7) [some (.ref o), some (.int v), none, none] (by decide +kernel) rfl rfl (Nat.le_of_ble_eq_true rfl) ?_
  intro vp ve vs vm va vb vt vc hnm X
  refine v_iload_n X dX7_takeOut_0 (i := 1) rfl rfl ?_
  refine v_cs X rfl yv_X7_isShuttle m_ml_X7_48 (c_X7_isShuttle l g v ) rfl rfl (Nat.le_of_ble_eq_true rfl) ⟨Nat.le_of_ble_eq_true rfl, Nat.le_of_ble_eq_true rfl⟩ ⟨Nat.le_of_ble_eq_true rfl, Nat.le_of_ble_eq_true rfl⟩ dX7_takeOut_1 rfl ?_
  refine v_if_neB X dX7_takeOut_4 (tgt := 9) (by decide) (fun c4 => ?_) (fun c4 => ?_)
  · skip
    obtain ⟨k, hk, rfl⟩ := nI_cases (n := 4) (by omega) c4.1 c4.2
    refine v_aload_n X dX7_takeOut_9 (i := 0) rfl rfl ?_
    refine v_getB X hB cf7 0 (Nat.le_of_ble_eq_true rfl) m_fl_X7_12 dX7_takeOut_10 0 (Nat.le_of_ble_eq_true rfl) rfl rfl ?_
    refine v_getB X hB cf4 0 (Nat.le_of_ble_eq_true rfl) m_fl_X7_56 dX7_takeOut_13 1 (Nat.le_of_ble_eq_true rfl) rfl rfl ?_
    refine v_getB X hB cf3 0 (Nat.le_of_ble_eq_true rfl) m_fl_X7_59 dX7_takeOut_16 2 (Nat.le_of_ble_eq_true rfl) rfl rfl ?_
    refine v_astore_n X dX7_takeOut_19 (i := 2) rfl (Nat.le_of_ble_eq_true rfl) rfl ?_
    have hkk : nt (nI k) = k := nt_nI (by omega)
    refine v_aload_n X dX7_takeOut_20 (i := 2) rfl rfl ?_
    refine v_iload_n X dX7_takeOut_21 (i := 1) rfl rfl ?_
    refine v_cvB X rfl yv_X5_isInDrawer m_ml_X7_63 3 3 (c_X5_isInDrawer l g N (o + 3) (nI k) k rfl σ hk) hB (Nat.le_of_ble_eq_true rfl) rfl (Nat.le_of_ble_eq_true rfl) rfl (L' := (xL g o σ ρ S P φ κ τ π)) (rfl) rfl (Nat.le_of_ble_eq_true rfl) rfl rfl (Nat.le_of_ble_eq_true rfl) ⟨Nat.le_of_ble_eq_true rfl, Nat.le_of_ble_eq_true rfl⟩ ⟨Nat.le_of_ble_eq_true rfl, Nat.le_of_ble_eq_true rfl⟩ dX7_takeOut_22 rfl ?_
    refine v_if_eqB X dX7_takeOut_25 (tgt := 31) (by decide) (fun c25 => ?_) (fun c25 => ?_)
    · skip
      refine v_aload_n X dX7_takeOut_31 (i := 0) rfl rfl ?_
      refine v_cvB X rfl yv_X7_saveBeforeChange m_ml_X7_72 0 0 (c_X7_saveBeforeChange l g N o σ ρ S P φ κ τ π q n hq hq6 hn hn6) hB (Nat.le_of_ble_eq_true rfl) rfl (Nat.le_of_ble_eq_true rfl) rfl (L' := (xL g o (upd σ 8 0) ρ (upS S ((q + 1) % 6) σ) (upS P ((q + 1) % 6) ρ) φ κ τ (upd (upd π 1 (nI ((q + 1) % 6))) 0 (nI (svN n))))) (rfl) rfl (Nat.le_of_ble_eq_true rfl) rfl rfl (Nat.le_of_ble_eq_true rfl) ⟨Nat.le_of_ble_eq_true rfl, Nat.le_of_ble_eq_true rfl⟩ ⟨Nat.le_of_ble_eq_true rfl, Nat.le_of_ble_eq_true rfl⟩ dX7_takeOut_32 rfl ?_
      refine v_bipush X dX7_takeOut_35 (v := (10 : Int32)) (by decide) ?_
      refine v_aload_n X dX7_takeOut_37 (i := 2) rfl rfl ?_
      refine v_getB X hB cf5 2 (Nat.le_of_ble_eq_true rfl) m_fl_X7_83 dX7_takeOut_38 3 (Nat.le_of_ble_eq_true rfl) rfl rfl ?_
      refine v_iload_n X dX7_takeOut_41 (i := 1) rfl rfl ?_
      refine v_iald_vw (b := 14) (s' := 4) X hB dX7_takeOut_42 6 (Nat.le_of_ble_eq_true rfl) rfl k rfl (by omega) (Nat.le_of_ble_eq_true rfl) ?_
      refine v_imul X dX7_takeOut_43 ?_
      refine v_aload_n X dX7_takeOut_44 (i := 2) rfl rfl ?_
      refine v_getB X hB cf5 3 (Nat.le_of_ble_eq_true rfl) m_fl_X7_87 dX7_takeOut_45 3 (Nat.le_of_ble_eq_true rfl) rfl rfl ?_
      refine v_iload_n X dX7_takeOut_48 (i := 1) rfl rfl ?_
      refine v_iald_vw (b := 15) (s' := 4) X hB dX7_takeOut_49 7 (Nat.le_of_ble_eq_true rfl) rfl k rfl (by omega) (Nat.le_of_ble_eq_true rfl) ?_
      refine v_iadd X dX7_takeOut_50 ?_
      refine v_istore_n X dX7_takeOut_51 (i := 3) rfl (Nat.le_of_ble_eq_true rfl) rfl ?_
      refine v_aload_n X dX7_takeOut_52 (i := 2) rfl rfl ?_
      refine v_iload_n X dX7_takeOut_53 (i := 1) rfl rfl ?_
      refine v_bipush X dX7_takeOut_54 (v := (-6 : Int32)) (by decide) ?_
      refine v_bipush X dX7_takeOut_56 (v := (-6 : Int32)) (by decide) ?_
      refine v_cvB X rfl yv_X5_place m_ml_X7_75 3 3 (c_X5_place l g N (o + 3) (nI k) k rfl (c8 σ) (-6 : Int32) (-6 : Int32) hk) hB (Nat.le_of_ble_eq_true rfl) rfl (Nat.le_of_ble_eq_true rfl) rfl (L' := (xL g o (upd (upd (c8 σ) (14 + 4 * k) (-6 : Int32)) (15 + 4 * k) (-6 : Int32)) ρ (upS S ((q + 1) % 6) σ) (upS P ((q + 1) % 6) ρ) φ κ τ (upd (upd π 1 (nI ((q + 1) % 6))) 0 (nI (svN n))))) (f_x_sh_3 (fun i hi => by rw [pk_un (by omega), pk_un (by omega)] <;> rfl)) rfl (Nat.le_of_ble_eq_true rfl) rfl rfl (Nat.le_of_ble_eq_true rfl) ⟨Nat.le_of_ble_eq_true rfl, Nat.le_of_ble_eq_true rfl⟩ ⟨Nat.le_of_ble_eq_true rfl, Nat.le_of_ble_eq_true rfl⟩ dX7_takeOut_58 rfl ?_
      refine v_iload_n X dX7_takeOut_61 (i := 3) rfl rfl ?_
      have hE : (toE σ (nI k)) = (0 : Int32) := by rw [toE, if_neg (not_not_intro c4), hkk, if_neg c25]
      exact v_iret X rfl dX7_takeOut_62 (by rw [hE, hkk]; rfl) (by rw [hE, hkk]; rfl)
    · skip
      refine v_bipush X dX7_takeOut_28 (v := (-3 : Int32)) (by decide) ?_
      have hE : (toE σ (nI k)) = (-3 : Int32) := by rw [toE, if_neg (not_not_intro c4), hkk, if_pos c25]
      exact v_iret X rfl dX7_takeOut_30 (by rw [hE]; rfl) (by rw [hE]; rfl)
  · skip
    refine v_iconst X dX7_takeOut_7 (v := (-1 : Int32)) (by decide) ?_
    have hE : (toE σ v) = (-1 : Int32) := by rw [toE, if_pos c4]
    exact v_iret X rfl dX7_takeOut_8 (by rw [hE]; rfl) (by rw [hE]; rfl)
def wiE (σ : Nat → Int32) (v a b : Int32) : Int32 := if ¬ ((0 : Int32) ≤ v ∧ v ≤ (4 : Int32)) then (-1 : Int32) else if ¬ ((0 : Int32) ≤ a ∧ a ≤ (9 : Int32)) then (-2 : Int32) else if ¬ ((0 : Int32) ≤ b ∧ b ≤ (99 : Int32)) then (-2 : Int32) else if ¬ σ (14 + 4 * nt v) = -6 then (-3 : Int32) else 0
set_option maxRecDepth 100000 in
set_option maxHeartbeats 4000000 in
theorem c_X7_wind (l : Launch) (g : Ge) (N o : Nat) (σ ρ : Nat → Int32) (S P : Nat → Nat → Int32) (φ κ τ π : Nat → Int32) (q n : Nat) (hq : π 1 = nI q) (hq6 : q < 6) (hn : π 0 = nI n) (hn6 : n ≤ 6) (v a b : Int32) : Cb l g yX7_wind (.code yX7_wind cX7_wind 6 (some .int)) 6 [.ref o, .int v, .int a, .int b] N o (xL g o σ ρ S P φ κ τ π) (some (.int (if (wiE σ v a b) = 0 then (c8 σ (13 + 4 * nt v)) else (wiE σ v a b)))) (xL g o (if (wiE σ v a b) = 0 then (upd (upd (c8 σ) (12 + 4 * nt v) a) (13 + 4 * nt v) b) else σ) ρ (svS (wiE σ v a b) S q σ) (svS (wiE σ v a b) P q ρ) φ κ τ (svπ (wiE σ v a b) π q n)) := by
  intro f hB0
  have hB : BB g N o 179 := hB0
  refine ct_of (own := RX7) [some (.ref o), some (.int v), some (.int a), some (.int b), none, none] (by decide +kernel) rfl rfl (Nat.le_of_ble_eq_true rfl) ?_
  intro vp ve vs vm va vb vt vc hnm X
  refine v_iload_n X dX7_wind_0 (i := 1) rfl rfl ?_
  refine v_cs X rfl yv_X7_isShuttle m_ml_X7_48 (c_X7_isShuttle l g v ) rfl rfl (Nat.le_of_ble_eq_true rfl) ⟨Nat.le_of_ble_eq_true rfl, Nat.le_of_ble_eq_true rfl⟩ ⟨Nat.le_of_ble_eq_true rfl, Nat.le_of_ble_eq_true rfl⟩ dX7_wind_1 rfl ?_
  refine v_if_neB X dX7_wind_4 (tgt := 9) (by decide) (fun c4 => ?_) (fun c4 => ?_)
  · skip
    obtain ⟨k, hk, rfl⟩ := nI_cases (n := 4) (by omega) c4.1 c4.2
    refine v_iload_n X dX7_wind_9 (i := 2) rfl rfl ?_
    refine v_iconst X dX7_wind_10 (v := (0 : Int32)) (by decide) ?_
    refine v_bipush X dX7_wind_11 (v := (9 : Int32)) (by decide) ?_
    refine v_cs X rfl yv_X7_isWithin m_ml_X7_90 (c_X7_isWithin l g a (0 : Int32) (9 : Int32) ) rfl rfl (Nat.le_of_ble_eq_true rfl) ⟨Nat.le_of_ble_eq_true rfl, Nat.le_of_ble_eq_true rfl⟩ ⟨Nat.le_of_ble_eq_true rfl, Nat.le_of_ble_eq_true rfl⟩ dX7_wind_13 rfl ?_
    refine v_if_eqB X dX7_wind_16 (tgt := 29) (by decide) (fun c16 => ?_) (fun c16 => ?_)
    · skip
      refine v_bipush X dX7_wind_29 (v := (-2 : Int32)) (by decide) ?_
      have hE : (wiE σ (nI k) a b) = (-2 : Int32) := by rw [wiE, if_neg (not_not_intro c4), if_pos c16]
      exact v_iret X rfl dX7_wind_31 (by rw [hE]; rfl) (by rw [hE]; rfl)
    · skip
      refine v_iload_n X dX7_wind_19 (i := 3) rfl rfl ?_
      refine v_iconst X dX7_wind_20 (v := (0 : Int32)) (by decide) ?_
      refine v_bipush X dX7_wind_21 (v := (99 : Int32)) (by decide) ?_
      refine v_cs X rfl yv_X7_isWithin m_ml_X7_90 (c_X7_isWithin l g b (0 : Int32) (99 : Int32) ) rfl rfl (Nat.le_of_ble_eq_true rfl) ⟨Nat.le_of_ble_eq_true rfl, Nat.le_of_ble_eq_true rfl⟩ ⟨Nat.le_of_ble_eq_true rfl, Nat.le_of_ble_eq_true rfl⟩ dX7_wind_23 rfl ?_
      refine v_if_neB X dX7_wind_26 (tgt := 32) (by decide) (fun c26 => ?_) (fun c26 => ?_)
      · skip
        refine v_aload_n X dX7_wind_32 (i := 0) rfl rfl ?_
        refine v_getB X hB cf7 0 (Nat.le_of_ble_eq_true rfl) m_fl_X7_12 dX7_wind_33 0 (Nat.le_of_ble_eq_true rfl) rfl rfl ?_
        refine v_getB X hB cf4 0 (Nat.le_of_ble_eq_true rfl) m_fl_X7_56 dX7_wind_36 1 (Nat.le_of_ble_eq_true rfl) rfl rfl ?_
        refine v_getB X hB cf3 0 (Nat.le_of_ble_eq_true rfl) m_fl_X7_59 dX7_wind_39 2 (Nat.le_of_ble_eq_true rfl) rfl rfl ?_
        refine v_astore X dX7_wind_42 (Nat.le_of_ble_eq_true rfl) rfl ?_
        have hkk : nt (nI k) = k := nt_nI (by omega)
        refine v_aload X dX7_wind_44 rfl ?_
        refine v_iload_n X dX7_wind_46 (i := 1) rfl rfl ?_
        refine v_cvB X rfl yv_X5_isInDrawer m_ml_X7_63 3 3 (c_X5_isInDrawer l g N (o + 3) (nI k) k rfl σ hk) hB (Nat.le_of_ble_eq_true rfl) rfl (Nat.le_of_ble_eq_true rfl) rfl (L' := (xL g o σ ρ S P φ κ τ π)) (rfl) rfl (Nat.le_of_ble_eq_true rfl) rfl rfl (Nat.le_of_ble_eq_true rfl) ⟨Nat.le_of_ble_eq_true rfl, Nat.le_of_ble_eq_true rfl⟩ ⟨Nat.le_of_ble_eq_true rfl, Nat.le_of_ble_eq_true rfl⟩ dX7_wind_47 rfl ?_
        refine v_if_neB X dX7_wind_50 (tgt := 56) (by decide) (fun c50 => ?_) (fun c50 => ?_)
        · skip
          refine v_aload_n X dX7_wind_56 (i := 0) rfl rfl ?_
          refine v_cvB X rfl yv_X7_saveBeforeChange m_ml_X7_72 0 0 (c_X7_saveBeforeChange l g N o σ ρ S P φ κ τ π q n hq hq6 hn hn6) hB (Nat.le_of_ble_eq_true rfl) rfl (Nat.le_of_ble_eq_true rfl) rfl (L' := (xL g o (upd σ 8 0) ρ (upS S ((q + 1) % 6) σ) (upS P ((q + 1) % 6) ρ) φ κ τ (upd (upd π 1 (nI ((q + 1) % 6))) 0 (nI (svN n))))) (rfl) rfl (Nat.le_of_ble_eq_true rfl) rfl rfl (Nat.le_of_ble_eq_true rfl) ⟨Nat.le_of_ble_eq_true rfl, Nat.le_of_ble_eq_true rfl⟩ ⟨Nat.le_of_ble_eq_true rfl, Nat.le_of_ble_eq_true rfl⟩ dX7_wind_57 rfl ?_
          refine v_aload X dX7_wind_60 rfl ?_
          refine v_getB X hB cf5 1 (Nat.le_of_ble_eq_true rfl) m_fl_X7_94 dX7_wind_62 3 (Nat.le_of_ble_eq_true rfl) rfl rfl ?_
          refine v_iload_n X dX7_wind_65 (i := 1) rfl rfl ?_
          refine v_iald_vw (b := 13) (s' := 4) X hB dX7_wind_66 5 (Nat.le_of_ble_eq_true rfl) rfl k rfl (by omega) (Nat.le_of_ble_eq_true rfl) ?_
          refine v_istore X dX7_wind_67 (Nat.le_of_ble_eq_true rfl) rfl ?_
          refine v_aload X dX7_wind_69 rfl ?_
          refine v_getB X hB cf5 0 (Nat.le_of_ble_eq_true rfl) m_fl_X7_97 dX7_wind_71 3 (Nat.le_of_ble_eq_true rfl) rfl rfl ?_
          refine v_iload_n X dX7_wind_74 (i := 1) rfl rfl ?_
          refine v_iload_n X dX7_wind_75 (i := 2) rfl rfl ?_
          refine v_iastB (n := 5) X hB dX7_wind_76 4 (Nat.le_of_ble_eq_true rfl) rfl k rfl (by omega) (Nat.le_of_ble_eq_true rfl) (L' := (xL g o (upd (c8 σ) (12 + 4 * k) a) ρ (upS S ((q + 1) % 6) σ) (upS P ((q + 1) % 6) ρ) φ κ τ (upd (upd π 1 (nI ((q + 1) % 6))) 0 (nI (svN n))))) (w_x_4 (by omega)) ?_
          refine v_aload X dX7_wind_77 rfl ?_
          refine v_getB X hB cf5 1 (Nat.le_of_ble_eq_true rfl) m_fl_X7_94 dX7_wind_79 3 (Nat.le_of_ble_eq_true rfl) rfl rfl ?_
          refine v_iload_n X dX7_wind_82 (i := 1) rfl rfl ?_
          refine v_iload_n X dX7_wind_83 (i := 3) rfl rfl ?_
          refine v_iastB (n := 5) X hB dX7_wind_84 5 (Nat.le_of_ble_eq_true rfl) rfl k rfl (by omega) (Nat.le_of_ble_eq_true rfl) (L' := (xL g o (upd (upd (c8 σ) (12 + 4 * k) a) (13 + 4 * k) b) ρ (upS S ((q + 1) % 6) σ) (upS P ((q + 1) % 6) ρ) φ κ τ (upd (upd π 1 (nI ((q + 1) % 6))) 0 (nI (svN n))))) (w_x_5 (by omega)) ?_
          refine v_iload X dX7_wind_85 rfl ?_
          have hE : (wiE σ (nI k) a b) = (0 : Int32) := by rw [wiE, if_neg (not_not_intro c4), if_neg (not_not_intro c16), if_neg (not_not_intro c26), hkk, if_neg (not_not_intro c50)]
          exact v_iret X rfl dX7_wind_87 (by rw [hE, hkk]; rfl) (by rw [hE, hkk]; rfl)
        · skip
          refine v_bipush X dX7_wind_53 (v := (-3 : Int32)) (by decide) ?_
          have hE : (wiE σ (nI k) a b) = (-3 : Int32) := by rw [wiE, if_neg (not_not_intro c4), if_neg (not_not_intro c16), if_neg (not_not_intro c26), hkk, if_pos c50]
          exact v_iret X rfl dX7_wind_55 (by rw [hE]; rfl) (by rw [hE]; rfl)
      · skip
        refine v_bipush X dX7_wind_29 (v := (-2 : Int32)) (by decide) ?_
        have hE : (wiE σ (nI k) a b) = (-2 : Int32) := by rw [wiE, if_neg (not_not_intro c4), if_neg (not_not_intro c16), if_pos c26]
        exact v_iret X rfl dX7_wind_31 (by rw [hE]; rfl) (by rw [hE]; rfl)
  · skip
    refine v_iconst X dX7_wind_7 (v := (-1 : Int32)) (by decide) ?_
    have hE : (wiE σ v a b) = (-1 : Int32) := by rw [wiE, if_pos c4]
    exact v_iret X rfl dX7_wind_8 (by rw [hE]; rfl) (by rw [hE]; rfl)
def mbE (a b : Int32) : Int32 := if ¬ ((a = 0 ∧ 0 ≤ b ∧ b ≤ 3) ∨ (a = 1 ∧ 0 ≤ b ∧ b ≤ 1)) then (-1 : Int32) else 0
set_option maxRecDepth 100000 in
set_option maxHeartbeats 4000000 in
theorem c_X7_moveBoxes (l : Launch) (g : Ge) (N o : Nat) (σ ρ : Nat → Int32) (S P : Nat → Nat → Int32) (φ κ τ π : Nat → Int32) (q n : Nat) (hq : π 1 = nI q) (hq6 : q < 6) (hn : π 0 = nI n) (hn6 : n ≤ 6) (a b : Int32) : Cb l g yX7_moveBoxes (.code yX7_moveBoxes cX7_moveBoxes 4 (some .int)) 6 [.ref o, .int a, .int b] N o (xL g o σ ρ S P φ κ τ π) (some (.int (if (mbE a b) = 0 then (c8 σ (3 + 1 * nt a)) else (mbE a b)))) (xL g o (if (mbE a b) = 0 then (upd (c8 σ) (3 + 1 * nt a) b) else σ) ρ (svS (mbE a b) S q σ) (svS (mbE a b) P q ρ) φ κ τ (svπ (mbE a b) π q n)) := by
  intro f hB0
  have hB : BB g N o 179 := hB0
  refine ct_of (own := RX7) [some (.ref o), some (.int a), some (.int b), none] (by decide +kernel) rfl rfl (Nat.le_of_ble_eq_true rfl) ?_
  intro vp ve vs vm va vb vt vc hnm X
  refine v_iload_n X dX7_moveBoxes_0 (i := 1) rfl rfl ?_
  refine v_iload_n X dX7_moveBoxes_1 (i := 2) rfl rfl ?_
  refine v_cs X rfl yv_X7_isBox m_ml_X7_52 (c_X7_isBox l g a b ) rfl rfl (Nat.le_of_ble_eq_true rfl) ⟨Nat.le_of_ble_eq_true rfl, Nat.le_of_ble_eq_true rfl⟩ ⟨Nat.le_of_ble_eq_true rfl, Nat.le_of_ble_eq_true rfl⟩ dX7_moveBoxes_2 rfl ?_
  refine v_if_neB X dX7_moveBoxes_5 (tgt := 10) (by decide) (fun c5 => ?_) (fun c5 => ?_)
  · skip
    obtain ⟨k, hk, rfl⟩ : ∃ k : Nat, k < 2 ∧ a = nI k := by
      rcases c5 with z | z
      · exact ⟨0, by omega, z.1⟩
      · exact ⟨1, by omega, z.1⟩
    have hkk : nt (nI k) = k := nt_nI (by omega)
    refine v_aload_n X dX7_moveBoxes_10 (i := 0) rfl rfl ?_
    refine v_cvB X rfl yv_X7_saveBeforeChange m_ml_X7_72 0 0 (c_X7_saveBeforeChange l g N o σ ρ S P φ κ τ π q n hq hq6 hn hn6) hB (Nat.le_of_ble_eq_true rfl) rfl (Nat.le_of_ble_eq_true rfl) rfl (L' := (xL g o (upd σ 8 0) ρ (upS S ((q + 1) % 6) σ) (upS P ((q + 1) % 6) ρ) φ κ τ (upd (upd π 1 (nI ((q + 1) % 6))) 0 (nI (svN n))))) (rfl) rfl (Nat.le_of_ble_eq_true rfl) rfl rfl (Nat.le_of_ble_eq_true rfl) ⟨Nat.le_of_ble_eq_true rfl, Nat.le_of_ble_eq_true rfl⟩ ⟨Nat.le_of_ble_eq_true rfl, Nat.le_of_ble_eq_true rfl⟩ dX7_moveBoxes_11 rfl ?_
    refine v_aload_n X dX7_moveBoxes_14 (i := 0) rfl rfl ?_
    refine v_getB X hB cf7 0 (Nat.le_of_ble_eq_true rfl) m_fl_X7_12 dX7_moveBoxes_15 0 (Nat.le_of_ble_eq_true rfl) rfl rfl ?_
    refine v_getB X hB cf4 0 (Nat.le_of_ble_eq_true rfl) m_fl_X7_56 dX7_moveBoxes_18 1 (Nat.le_of_ble_eq_true rfl) rfl rfl ?_
    refine v_getB X hB cf3 3 (Nat.le_of_ble_eq_true rfl) m_fl_X7_100 dX7_moveBoxes_21 2 (Nat.le_of_ble_eq_true rfl) rfl rfl ?_
    refine v_iload_n X dX7_moveBoxes_24 (i := 1) rfl rfl ?_
    refine v_iald_vw (b := 3) (s' := 1) X hB dX7_moveBoxes_25 15 (Nat.le_of_ble_eq_true rfl) rfl k rfl (by omega) (Nat.le_of_ble_eq_true rfl) ?_
    refine v_istore_n X dX7_moveBoxes_26 (i := 3) rfl (Nat.le_of_ble_eq_true rfl) rfl ?_
    refine v_aload_n X dX7_moveBoxes_27 (i := 0) rfl rfl ?_
    refine v_getB X hB cf7 0 (Nat.le_of_ble_eq_true rfl) m_fl_X7_12 dX7_moveBoxes_28 0 (Nat.le_of_ble_eq_true rfl) rfl rfl ?_
    refine v_getB X hB cf4 0 (Nat.le_of_ble_eq_true rfl) m_fl_X7_56 dX7_moveBoxes_31 1 (Nat.le_of_ble_eq_true rfl) rfl rfl ?_
    refine v_getB X hB cf3 3 (Nat.le_of_ble_eq_true rfl) m_fl_X7_100 dX7_moveBoxes_34 2 (Nat.le_of_ble_eq_true rfl) rfl rfl ?_
    refine v_iload_n X dX7_moveBoxes_37 (i := 1) rfl rfl ?_
    refine v_iload_n X dX7_moveBoxes_38 (i := 2) rfl rfl ?_
    refine v_iastB (n := 2) X hB dX7_moveBoxes_39 15 (Nat.le_of_ble_eq_true rfl) rfl k rfl (by omega) (Nat.le_of_ble_eq_true rfl) (L' := (xL g o (upd (c8 σ) (3 + 1 * k) b) ρ (upS S ((q + 1) % 6) σ) (upS P ((q + 1) % 6) ρ) φ κ τ (upd (upd π 1 (nI ((q + 1) % 6))) 0 (nI (svN n))))) (w_x_15 (by omega)) ?_
    refine v_iload_n X dX7_moveBoxes_40 (i := 3) rfl rfl ?_
    have hE : (mbE (nI k) b) = (0 : Int32) := by rw [mbE, if_neg (not_not_intro c5)]
    exact v_iret X rfl dX7_moveBoxes_41 (by rw [hE, hkk]; rfl) (by rw [hE, hkk]; rfl)
  · skip
    refine v_iconst X dX7_moveBoxes_8 (v := (-1 : Int32)) (by decide) ?_
    have hE : (mbE a b) = (-1 : Int32) := by rw [mbE, if_pos c5]
    exact v_iret X rfl dX7_moveBoxes_9 (by rw [hE]; rfl) (by rw [hE]; rfl)
def drE (v a : Int32) : Int32 := if ¬ ((0 : Int32) ≤ v ∧ v ≤ (11 : Int32)) then (-1 : Int32) else if ¬ ((0 : Int32) ≤ a ∧ a ≤ (5 : Int32)) then (-1 : Int32) else 0
set_option maxRecDepth 100000 in
set_option maxHeartbeats 4000000 in
theorem c_X7_draw (l : Launch) (g : Ge) (N o : Nat) (σ ρ : Nat → Int32) (S P : Nat → Nat → Int32) (φ κ τ π : Nat → Int32) (q n : Nat) (hq : π 1 = nI q) (hq6 : q < 6) (hn : π 0 = nI n) (hn6 : n ≤ 6) (v a : Int32) : Cb l g yX7_draw (.code yX7_draw cX7_draw 4 (some .int)) 6 [.ref o, .int v, .int a] N o (xL g o σ ρ S P φ κ τ π) (some (.int (if (drE v a) = 0 then (c8 σ (32 + 2 * nt v)) else (drE v a)))) (xL g o (if (drE v a) = 0 then (upd (c8 σ) (32 + 2 * nt v) a) else σ) ρ (svS (drE v a) S q σ) (svS (drE v a) P q ρ) φ κ τ (svπ (drE v a) π q n)) := by
  intro f hB0
  have hB : BB g N o 179 := hB0
  refine ct_of (own := RX7) [some (.ref o), some (.int v), some (.int a), none] (by decide +kernel) rfl rfl (Nat.le_of_ble_eq_true rfl) ?_
  intro vp ve vs vm va vb vt vc hnm X
  refine v_iload_n X dX7_draw_0 (i := 1) rfl rfl ?_
  refine v_cs X rfl yv_X7_isThread m_ml_X7_103 (c_X7_isThread l g v ) rfl rfl (Nat.le_of_ble_eq_true rfl) ⟨Nat.le_of_ble_eq_true rfl, Nat.le_of_ble_eq_true rfl⟩ ⟨Nat.le_of_ble_eq_true rfl, Nat.le_of_ble_eq_true rfl⟩ dX7_draw_1 rfl ?_
  refine v_if_eqB X dX7_draw_4 (tgt := 16) (by decide) (fun c4 => ?_) (fun c4 => ?_)
  · skip
    refine v_iconst X dX7_draw_16 (v := (-1 : Int32)) (by decide) ?_
    have hE : (drE v a) = (-1 : Int32) := by rw [drE, if_pos c4]
    exact v_iret X rfl dX7_draw_17 (by rw [hE]; rfl) (by rw [hE]; rfl)
  · skip
    obtain ⟨k, hk, rfl⟩ := nI_cases (n := 11) (by omega) c4.1 c4.2
    refine v_iload_n X dX7_draw_7 (i := 2) rfl rfl ?_
    refine v_iconst X dX7_draw_8 (v := (0 : Int32)) (by decide) ?_
    refine v_iconst X dX7_draw_9 (v := (5 : Int32)) (by decide) ?_
    refine v_cs X rfl yv_X7_isWithin m_ml_X7_90 (c_X7_isWithin l g a (0 : Int32) (5 : Int32) ) rfl rfl (Nat.le_of_ble_eq_true rfl) ⟨Nat.le_of_ble_eq_true rfl, Nat.le_of_ble_eq_true rfl⟩ ⟨Nat.le_of_ble_eq_true rfl, Nat.le_of_ble_eq_true rfl⟩ dX7_draw_10 rfl ?_
    refine v_if_neB X dX7_draw_13 (tgt := 18) (by decide) (fun c13 => ?_) (fun c13 => ?_)
    · skip
      have hkk : nt (nI k) = k := nt_nI (by omega)
      refine v_aload_n X dX7_draw_18 (i := 0) rfl rfl ?_
      refine v_cvB X rfl yv_X7_saveBeforeChange m_ml_X7_72 0 0 (c_X7_saveBeforeChange l g N o σ ρ S P φ κ τ π q n hq hq6 hn hn6) hB (Nat.le_of_ble_eq_true rfl) rfl (Nat.le_of_ble_eq_true rfl) rfl (L' := (xL g o (upd σ 8 0) ρ (upS S ((q + 1) % 6) σ) (upS P ((q + 1) % 6) ρ) φ κ τ (upd (upd π 1 (nI ((q + 1) % 6))) 0 (nI (svN n))))) (rfl) rfl (Nat.le_of_ble_eq_true rfl) rfl rfl (Nat.le_of_ble_eq_true rfl) ⟨Nat.le_of_ble_eq_true rfl, Nat.le_of_ble_eq_true rfl⟩ ⟨Nat.le_of_ble_eq_true rfl, Nat.le_of_ble_eq_true rfl⟩ dX7_draw_19 rfl ?_
      refine v_aload_n X dX7_draw_22 (i := 0) rfl rfl ?_
      refine v_getB X hB cf7 0 (Nat.le_of_ble_eq_true rfl) m_fl_X7_12 dX7_draw_23 0 (Nat.le_of_ble_eq_true rfl) rfl rfl ?_
      refine v_getB X hB cf4 0 (Nat.le_of_ble_eq_true rfl) m_fl_X7_56 dX7_draw_26 1 (Nat.le_of_ble_eq_true rfl) rfl rfl ?_
      refine v_getB X hB cf3 1 (Nat.le_of_ble_eq_true rfl) m_fl_X7_106 dX7_draw_29 2 (Nat.le_of_ble_eq_true rfl) rfl rfl ?_
      refine v_getB X hB cf6 0 (Nat.le_of_ble_eq_true rfl) m_fl_X7_110 dX7_draw_32 8 (Nat.le_of_ble_eq_true rfl) rfl rfl ?_
      refine v_iload_n X dX7_draw_35 (i := 1) rfl rfl ?_
      refine v_iald_vw (b := 32) (s' := 2) X hB dX7_draw_36 9 (Nat.le_of_ble_eq_true rfl) rfl k rfl (by omega) (Nat.le_of_ble_eq_true rfl) ?_
      refine v_istore_n X dX7_draw_37 (i := 3) rfl (Nat.le_of_ble_eq_true rfl) rfl ?_
      refine v_aload_n X dX7_draw_38 (i := 0) rfl rfl ?_
      refine v_getB X hB cf7 0 (Nat.le_of_ble_eq_true rfl) m_fl_X7_12 dX7_draw_39 0 (Nat.le_of_ble_eq_true rfl) rfl rfl ?_
      refine v_getB X hB cf4 0 (Nat.le_of_ble_eq_true rfl) m_fl_X7_56 dX7_draw_42 1 (Nat.le_of_ble_eq_true rfl) rfl rfl ?_
      refine v_getB X hB cf3 1 (Nat.le_of_ble_eq_true rfl) m_fl_X7_106 dX7_draw_45 2 (Nat.le_of_ble_eq_true rfl) rfl rfl ?_
      refine v_getB X hB cf6 0 (Nat.le_of_ble_eq_true rfl) m_fl_X7_110 dX7_draw_48 8 (Nat.le_of_ble_eq_true rfl) rfl rfl ?_
      refine v_iload_n X dX7_draw_51 (i := 1) rfl rfl ?_
      refine v_iload_n X dX7_draw_52 (i := 2) rfl rfl ?_
      refine v_iastB (n := 12) X hB dX7_draw_53 9 (Nat.le_of_ble_eq_true rfl) rfl k rfl (by omega) (Nat.le_of_ble_eq_true rfl) (L' := (xL g o (upd (c8 σ) (32 + 2 * k) a) ρ (upS S ((q + 1) % 6) σ) (upS P ((q + 1) % 6) ρ) φ κ τ (upd (upd π 1 (nI ((q + 1) % 6))) 0 (nI (svN n))))) (w_x_9 (by omega)) ?_
      refine v_iload_n X dX7_draw_54 (i := 3) rfl rfl ?_
      have hE : (drE (nI k) a) = (0 : Int32) := by rw [drE, if_neg (not_not_intro c4), if_neg (not_not_intro c13)]
      exact v_iret X rfl dX7_draw_55 (by rw [hE, hkk]; rfl) (by rw [hE, hkk]; rfl)
    · skip
      refine v_iconst X dX7_draw_16 (v := (-1 : Int32)) (by decide) ?_
      have hE : (drE (nI k) a) = (-1 : Int32) := by rw [drE, if_neg (not_not_intro c4), if_pos c13]
      exact v_iret X rfl dX7_draw_17 (by rw [hE]; rfl) (by rw [hE]; rfl)
def meE (v a : Int32) : Int32 := if ¬ ((0 : Int32) ≤ v ∧ v ≤ (11 : Int32)) then (-1 : Int32) else if ¬ ((0 : Int32) ≤ a ∧ a ≤ (99 : Int32)) then (-2 : Int32) else 0
set_option maxRecDepth 100000 in
set_option maxHeartbeats 4000000 in
theorem c_X7_mend (l : Launch) (g : Ge) (N o : Nat) (σ ρ : Nat → Int32) (S P : Nat → Nat → Int32) (φ κ τ π : Nat → Int32) (q n : Nat) (hq : π 1 = nI q) (hq6 : q < 6) (hn : π 0 = nI n) (hn6 : n ≤ 6) (v a : Int32) : Cb l g yX7_mend (.code yX7_mend cX7_mend 4 (some .int)) 6 [.ref o, .int v, .int a] N o (xL g o σ ρ S P φ κ τ π) (some (.int (if (meE v a) = 0 then (c8 σ (33 + 2 * nt v)) else (meE v a)))) (xL g o (if (meE v a) = 0 then (upd (c8 σ) (33 + 2 * nt v) a) else σ) ρ (svS (meE v a) S q σ) (svS (meE v a) P q ρ) φ κ τ (svπ (meE v a) π q n)) := by
  intro f hB0
  have hB : BB g N o 179 := hB0
  refine ct_of (own := RX7) [some (.ref o), some (.int v), some (.int a), none] (by decide +kernel) rfl rfl (Nat.le_of_ble_eq_true rfl) ?_
  intro vp ve vs vm va vb vt vc hnm X
  refine v_iload_n X dX7_mend_0 (i := 1) rfl rfl ?_
  refine v_cs X rfl yv_X7_isThread m_ml_X7_103 (c_X7_isThread l g v ) rfl rfl (Nat.le_of_ble_eq_true rfl) ⟨Nat.le_of_ble_eq_true rfl, Nat.le_of_ble_eq_true rfl⟩ ⟨Nat.le_of_ble_eq_true rfl, Nat.le_of_ble_eq_true rfl⟩ dX7_mend_1 rfl ?_
  refine v_if_neB X dX7_mend_4 (tgt := 9) (by decide) (fun c4 => ?_) (fun c4 => ?_)
  · skip
    obtain ⟨k, hk, rfl⟩ := nI_cases (n := 11) (by omega) c4.1 c4.2
    refine v_iload_n X dX7_mend_9 (i := 2) rfl rfl ?_
    refine v_iconst X dX7_mend_10 (v := (0 : Int32)) (by decide) ?_
    refine v_bipush X dX7_mend_11 (v := (99 : Int32)) (by decide) ?_
    refine v_cs X rfl yv_X7_isWithin m_ml_X7_90 (c_X7_isWithin l g a (0 : Int32) (99 : Int32) ) rfl rfl (Nat.le_of_ble_eq_true rfl) ⟨Nat.le_of_ble_eq_true rfl, Nat.le_of_ble_eq_true rfl⟩ ⟨Nat.le_of_ble_eq_true rfl, Nat.le_of_ble_eq_true rfl⟩ dX7_mend_13 rfl ?_
    refine v_if_neB X dX7_mend_16 (tgt := 22) (by decide) (fun c16 => ?_) (fun c16 => ?_)
    · skip
      have hkk : nt (nI k) = k := nt_nI (by omega)
      refine v_aload_n X dX7_mend_22 (i := 0) rfl rfl ?_
      refine v_cvB X rfl yv_X7_saveBeforeChange m_ml_X7_72 0 0 (c_X7_saveBeforeChange l g N o σ ρ S P φ κ τ π q n hq hq6 hn hn6) hB (Nat.le_of_ble_eq_true rfl) rfl (Nat.le_of_ble_eq_true rfl) rfl (L' := (xL g o (upd σ 8 0) ρ (upS S ((q + 1) % 6) σ) (upS P ((q + 1) % 6) ρ) φ κ τ (upd (upd π 1 (nI ((q + 1) % 6))) 0 (nI (svN n))))) (rfl) rfl (Nat.le_of_ble_eq_true rfl) rfl rfl (Nat.le_of_ble_eq_true rfl) ⟨Nat.le_of_ble_eq_true rfl, Nat.le_of_ble_eq_true rfl⟩ ⟨Nat.le_of_ble_eq_true rfl, Nat.le_of_ble_eq_true rfl⟩ dX7_mend_23 rfl ?_
      refine v_aload_n X dX7_mend_26 (i := 0) rfl rfl ?_
      refine v_getB X hB cf7 0 (Nat.le_of_ble_eq_true rfl) m_fl_X7_12 dX7_mend_27 0 (Nat.le_of_ble_eq_true rfl) rfl rfl ?_
      refine v_getB X hB cf4 0 (Nat.le_of_ble_eq_true rfl) m_fl_X7_56 dX7_mend_30 1 (Nat.le_of_ble_eq_true rfl) rfl rfl ?_
      refine v_getB X hB cf3 1 (Nat.le_of_ble_eq_true rfl) m_fl_X7_106 dX7_mend_33 2 (Nat.le_of_ble_eq_true rfl) rfl rfl ?_
      refine v_getB X hB cf6 1 (Nat.le_of_ble_eq_true rfl) m_fl_X7_115 dX7_mend_36 8 (Nat.le_of_ble_eq_true rfl) rfl rfl ?_
      refine v_iload_n X dX7_mend_39 (i := 1) rfl rfl ?_
      refine v_iald_vw (b := 33) (s' := 2) X hB dX7_mend_40 10 (Nat.le_of_ble_eq_true rfl) rfl k rfl (by omega) (Nat.le_of_ble_eq_true rfl) ?_
      refine v_istore_n X dX7_mend_41 (i := 3) rfl (Nat.le_of_ble_eq_true rfl) rfl ?_
      refine v_aload_n X dX7_mend_42 (i := 0) rfl rfl ?_
      refine v_getB X hB cf7 0 (Nat.le_of_ble_eq_true rfl) m_fl_X7_12 dX7_mend_43 0 (Nat.le_of_ble_eq_true rfl) rfl rfl ?_
      refine v_getB X hB cf4 0 (Nat.le_of_ble_eq_true rfl) m_fl_X7_56 dX7_mend_46 1 (Nat.le_of_ble_eq_true rfl) rfl rfl ?_
      refine v_getB X hB cf3 1 (Nat.le_of_ble_eq_true rfl) m_fl_X7_106 dX7_mend_49 2 (Nat.le_of_ble_eq_true rfl) rfl rfl ?_
      refine v_getB X hB cf6 1 (Nat.le_of_ble_eq_true rfl) m_fl_X7_115 dX7_mend_52 8 (Nat.le_of_ble_eq_true rfl) rfl rfl ?_
      refine v_iload_n X dX7_mend_55 (i := 1) rfl rfl ?_
      refine v_iload_n X dX7_mend_56 (i := 2) rfl rfl ?_
      refine v_iastB (n := 12) X hB dX7_mend_57 10 (Nat.le_of_ble_eq_true rfl) rfl k rfl (by omega) (Nat.le_of_ble_eq_true rfl) (L' := (xL g o (upd (c8 σ) (33 + 2 * k) a) ρ (upS S ((q + 1) % 6) σ) (upS P ((q + 1) % 6) ρ) φ κ τ (upd (upd π 1 (nI ((q + 1) % 6))) 0 (nI (svN n))))) (w_x_10 (by omega)) ?_
      refine v_iload_n X dX7_mend_58 (i := 3) rfl rfl ?_
      have hE : (meE (nI k) a) = (0 : Int32) := by rw [meE, if_neg (not_not_intro c4), if_neg (not_not_intro c16)]
      exact v_iret X rfl dX7_mend_59 (by rw [hE, hkk]; rfl) (by rw [hE, hkk]; rfl)
    · skip
      refine v_bipush X dX7_mend_19 (v := (-2 : Int32)) (by decide) ?_
      have hE : (meE (nI k) a) = (-2 : Int32) := by rw [meE, if_neg (not_not_intro c4), if_pos c16]
      exact v_iret X rfl dX7_mend_21 (by rw [hE]; rfl) (by rw [hE]; rfl)
  · skip
    refine v_iconst X dX7_mend_7 (v := (-1 : Int32)) (by decide) ?_
    have hE : (meE v a) = (-1 : Int32) := by rw [meE, if_pos c4]
    exact v_iret X rfl dX7_mend_8 (by rw [hE]; rfl) (by rw [hE]; rfl)
def ssE (v : Int32) : Int32 := if ¬ ((1 : Int32) ≤ v ∧ v ≤ (3 : Int32)) then (-2 : Int32) else 0
set_option maxRecDepth 100000 in
set_option maxHeartbeats 4000000 in
theorem c_X7_setSpeed (l : Launch) (g : Ge) (N o : Nat) (σ ρ : Nat → Int32) (S P : Nat → Nat → Int32) (φ κ τ π : Nat → Int32) (q n : Nat) (hq : π 1 = nI q) (hq6 : q < 6) (hn : π 0 = nI n) (hn6 : n ≤ 6) (v : Int32) : Cb l g yX7_setSpeed (.code yX7_setSpeed cX7_setSpeed 3 (some .int)) 6 [.ref o, .int v] N o (xL g o σ ρ S P φ κ τ π) (some (.int (if (ssE v) = 0 then (c8 σ 2) else (ssE v)))) (xL g o (if (ssE v) = 0 then (upd (c8 σ) 2 v) else σ) ρ (svS (ssE v) S q σ) (svS (ssE v) P q ρ) φ κ τ (svπ (ssE v) π q n)) := by
  intro f hB0
  have hB : BB g N o 179 := hB0
  refine ct_of (own := RX7) [some (.ref o), some (.int v), none] (by decide +kernel) rfl rfl (Nat.le_of_ble_eq_true rfl) ?_
  intro vp ve vs vm va vb vt vc hnm X
  refine v_iload_n X dX7_setSpeed_0 (i := 1) rfl rfl ?_
  refine v_iconst X dX7_setSpeed_1 (v := (1 : Int32)) (by decide) ?_
  refine v_iconst X dX7_setSpeed_2 (v := (3 : Int32)) (by decide) ?_
  refine v_cs X rfl yv_X7_isWithin m_ml_X7_90 (c_X7_isWithin l g v (1 : Int32) (3 : Int32) ) rfl rfl (Nat.le_of_ble_eq_true rfl) ⟨Nat.le_of_ble_eq_true rfl, Nat.le_of_ble_eq_true rfl⟩ ⟨Nat.le_of_ble_eq_true rfl, Nat.le_of_ble_eq_true rfl⟩ dX7_setSpeed_3 rfl ?_
  refine v_if_neB X dX7_setSpeed_6 (tgt := 12) (by decide) (fun c6 => ?_) (fun c6 => ?_)
  · skip
    refine v_aload_n X dX7_setSpeed_12 (i := 0) rfl rfl ?_
    refine v_cvB X rfl yv_X7_saveBeforeChange m_ml_X7_72 0 0 (c_X7_saveBeforeChange l g N o σ ρ S P φ κ τ π q n hq hq6 hn hn6) hB (Nat.le_of_ble_eq_true rfl) rfl (Nat.le_of_ble_eq_true rfl) rfl (L' := (xL g o (upd σ 8 0) ρ (upS S ((q + 1) % 6) σ) (upS P ((q + 1) % 6) ρ) φ κ τ (upd (upd π 1 (nI ((q + 1) % 6))) 0 (nI (svN n))))) (rfl) rfl (Nat.le_of_ble_eq_true rfl) rfl rfl (Nat.le_of_ble_eq_true rfl) ⟨Nat.le_of_ble_eq_true rfl, Nat.le_of_ble_eq_true rfl⟩ ⟨Nat.le_of_ble_eq_true rfl, Nat.le_of_ble_eq_true rfl⟩ dX7_setSpeed_13 rfl ?_
    refine v_aload_n X dX7_setSpeed_16 (i := 0) rfl rfl ?_
    refine v_getB X hB cf7 0 (Nat.le_of_ble_eq_true rfl) m_fl_X7_12 dX7_setSpeed_17 0 (Nat.le_of_ble_eq_true rfl) rfl rfl ?_
    refine v_getB X hB cf4 0 (Nat.le_of_ble_eq_true rfl) m_fl_X7_56 dX7_setSpeed_20 1 (Nat.le_of_ble_eq_true rfl) rfl rfl ?_
    refine v_getB X hB cf3 4 (Nat.le_of_ble_eq_true rfl) m_fl_X7_118 dX7_setSpeed_23 2 (Nat.le_of_ble_eq_true rfl) rfl rfl ?_
    refine v_istore_n X dX7_setSpeed_26 (i := 2) rfl (Nat.le_of_ble_eq_true rfl) rfl ?_
    refine v_aload_n X dX7_setSpeed_27 (i := 0) rfl rfl ?_
    refine v_getB X hB cf7 0 (Nat.le_of_ble_eq_true rfl) m_fl_X7_12 dX7_setSpeed_28 0 (Nat.le_of_ble_eq_true rfl) rfl rfl ?_
    refine v_getB X hB cf4 0 (Nat.le_of_ble_eq_true rfl) m_fl_X7_56 dX7_setSpeed_31 1 (Nat.le_of_ble_eq_true rfl) rfl rfl ?_
    refine v_iload_n X dX7_setSpeed_34 (i := 1) rfl rfl ?_
    refine v_putB X hB cf3 4 (Nat.le_of_ble_eq_true rfl) rfl m_fl_X7_118 dX7_setSpeed_35 2 (Nat.le_of_ble_eq_true rfl) rfl rfl rfl (Nat.le_of_ble_eq_true rfl) (L' := (xL g o (upd (c8 σ) 2 v) ρ (upS S ((q + 1) % 6) σ) (upS P ((q + 1) % 6) ρ) φ κ τ (upd (upd π 1 (nI ((q + 1) % 6))) 0 (nI (svN n))))) w_x_2_speed ?_
    refine v_iload_n X dX7_setSpeed_38 (i := 2) rfl rfl ?_
    have hE : (ssE v) = (0 : Int32) := by rw [ssE, if_neg (not_not_intro c6)]
    exact v_iret X rfl dX7_setSpeed_39 (by rw [hE]; rfl) (by rw [hE]; rfl)
  · skip
    refine v_bipush X dX7_setSpeed_9 (v := (-2 : Int32)) (by decide) ?_
    have hE : (ssE v) = (-2 : Int32) := by rw [ssE, if_pos c6]
    exact v_iret X rfl dX7_setSpeed_11 (by rw [hE]; rfl) (by rw [hE]; rfl)
def acE (C : Nat) (v a b : Int32) : Int32 := if ¬ ((0 : Int32) ≤ v ∧ v ≤ (63 : Int32)) then (-2 : Int32) else if ¬ (((0 : Int32) = 0 ∧ 0 ≤ a ∧ a ≤ 3) ∨ ((0 : Int32) = 1 ∧ 0 ≤ a ∧ a ≤ 1)) then (-1 : Int32) else if ¬ (((1 : Int32) = 0 ∧ 0 ≤ b ∧ b ≤ 3) ∨ ((1 : Int32) = 1 ∧ 0 ≤ b ∧ b ≤ 1)) then (-1 : Int32) else if 16 ≤ C then (-4 : Int32) else 0
set_option maxRecDepth 100000 in
set_option maxHeartbeats 4000000 in
theorem c_X7_addCard (l : Launch) (g : Ge) (N o : Nat) (σ ρ : Nat → Int32) (S P : Nat → Nat → Int32) (φ κ τ π : Nat → Int32) (q n : Nat) (hq : π 1 = nI q) (hq6 : q < 6) (hn : π 0 = nI n) (hn6 : n ≤ 6) (v a b : Int32) (C : Nat) (hC : σ 0 = nI C) (hC16 : C ≤ 16) : Cb l g yX7_addCard (.code yX7_addCard cX7_addCard 5 (some .int)) 6 [.ref o, .int v, .int a, .int b] N o (xL g o σ ρ S P φ κ τ π) (some (.int (if (acE C v a b) = 0 then (apS (c8 σ) C v a b 0 - 1) else (acE C v a b)))) (xL g o (if (acE C v a b) = 0 then (apS (c8 σ) C v a b) else σ) ρ (svS (acE C v a b) S q σ) (svS (acE C v a b) P q ρ) φ κ τ (svπ (acE C v a b) π q n)) := by
  intro f hB0
  have hB : BB g N o 179 := hB0
  refine ct_of (own := RX7) [some (.ref o), some (.int v), some (.int a), some (.int b), none] (by decide +kernel) rfl rfl (Nat.le_of_ble_eq_true rfl) ?_
  intro vp ve vs vm va vb vt vc hnm X
  refine v_iload_n X dX7_addCard_0 (i := 1) rfl rfl ?_
  refine v_iconst X dX7_addCard_1 (v := (0 : Int32)) (by decide) ?_
  refine v_bipush X dX7_addCard_2 (v := (63 : Int32)) (by decide) ?_
  refine v_cs X rfl yv_X7_isWithin m_ml_X7_90 (c_X7_isWithin l g v (0 : Int32) (63 : Int32) ) rfl rfl (Nat.le_of_ble_eq_true rfl) ⟨Nat.le_of_ble_eq_true rfl, Nat.le_of_ble_eq_true rfl⟩ ⟨Nat.le_of_ble_eq_true rfl, Nat.le_of_ble_eq_true rfl⟩ dX7_addCard_4 rfl ?_
  refine v_if_neB X dX7_addCard_7 (tgt := 13) (by decide) (fun c7 => ?_) (fun c7 => ?_)
  · skip
    refine v_iconst X dX7_addCard_13 (v := (0 : Int32)) (by decide) ?_
    refine v_iload_n X dX7_addCard_14 (i := 2) rfl rfl ?_
    refine v_cs X rfl yv_X7_isBox m_ml_X7_52 (c_X7_isBox l g (0 : Int32) a ) rfl rfl (Nat.le_of_ble_eq_true rfl) ⟨Nat.le_of_ble_eq_true rfl, Nat.le_of_ble_eq_true rfl⟩ ⟨Nat.le_of_ble_eq_true rfl, Nat.le_of_ble_eq_true rfl⟩ dX7_addCard_15 rfl ?_
    refine v_if_eqB X dX7_addCard_18 (tgt := 29) (by decide) (fun c18 => ?_) (fun c18 => ?_)
    · skip
      refine v_iconst X dX7_addCard_29 (v := (-1 : Int32)) (by decide) ?_
      have hE : (acE C v a b) = (-1 : Int32) := by rw [acE, if_neg (not_not_intro c7), if_pos c18]
      exact v_iret X rfl dX7_addCard_30 (by rw [hE]; rfl) (by rw [hE]; rfl)
    · skip
      refine v_iconst X dX7_addCard_21 (v := (1 : Int32)) (by decide) ?_
      refine v_iload_n X dX7_addCard_22 (i := 3) rfl rfl ?_
      refine v_cs X rfl yv_X7_isBox m_ml_X7_52 (c_X7_isBox l g (1 : Int32) b ) rfl rfl (Nat.le_of_ble_eq_true rfl) ⟨Nat.le_of_ble_eq_true rfl, Nat.le_of_ble_eq_true rfl⟩ ⟨Nat.le_of_ble_eq_true rfl, Nat.le_of_ble_eq_true rfl⟩ dX7_addCard_23 rfl ?_
      refine v_if_neB X dX7_addCard_26 (tgt := 31) (by decide) (fun c26 => ?_) (fun c26 => ?_)
      · skip
        refine v_aload_n X dX7_addCard_31 (i := 0) rfl rfl ?_
        refine v_getB X hB cf7 0 (Nat.le_of_ble_eq_true rfl) m_fl_X7_12 dX7_addCard_32 0 (Nat.le_of_ble_eq_true rfl) rfl rfl ?_
        refine v_getB X hB cf4 0 (Nat.le_of_ble_eq_true rfl) m_fl_X7_56 dX7_addCard_35 1 (Nat.le_of_ble_eq_true rfl) rfl rfl ?_
        refine v_getB X hB cf3 2 (Nat.le_of_ble_eq_true rfl) m_fl_X7_121 dX7_addCard_38 2 (Nat.le_of_ble_eq_true rfl) rfl rfl ?_
        refine v_astore X dX7_addCard_41 (Nat.le_of_ble_eq_true rfl) rfl ?_
        refine v_aload X dX7_addCard_43 rfl ?_
        refine v_getB X hB cf1 3 (Nat.le_of_ble_eq_true rfl) m_fl_X7_125 dX7_addCard_45 11 (Nat.le_of_ble_eq_true rfl) rfl rfl ?_
        refine v_bipush X dX7_addCard_48 (v := (16 : Int32)) (by decide) ?_
        refine v_icmp_lt X dX7_addCard_50 (tgt := 56) (by decide) (fun c50 => ?_) (fun c50 => ?_)
        · skip
          have hlt : C < 16 := lt_of_nI (b := 16) (by omega) (by omega) (by rw [← hC]; exact c50)
          refine v_aload_n X dX7_addCard_56 (i := 0) rfl rfl ?_
          refine v_cvB X rfl yv_X7_saveBeforeChange m_ml_X7_72 0 0 (c_X7_saveBeforeChange l g N o σ ρ S P φ κ τ π q n hq hq6 hn hn6) hB (Nat.le_of_ble_eq_true rfl) rfl (Nat.le_of_ble_eq_true rfl) rfl (L' := (xL g o (upd σ 8 0) ρ (upS S ((q + 1) % 6) σ) (upS P ((q + 1) % 6) ρ) φ κ τ (upd (upd π 1 (nI ((q + 1) % 6))) 0 (nI (svN n))))) (rfl) rfl (Nat.le_of_ble_eq_true rfl) rfl rfl (Nat.le_of_ble_eq_true rfl) ⟨Nat.le_of_ble_eq_true rfl, Nat.le_of_ble_eq_true rfl⟩ ⟨Nat.le_of_ble_eq_true rfl, Nat.le_of_ble_eq_true rfl⟩ dX7_addCard_57 rfl ?_
          refine v_aload X dX7_addCard_60 rfl ?_
          refine v_iload_n X dX7_addCard_62 (i := 1) rfl rfl ?_
          refine v_iload_n X dX7_addCard_63 (i := 2) rfl rfl ?_
          refine v_iload_n X dX7_addCard_64 (i := 3) rfl rfl ?_
          refine v_cvB X rfl yv_X1_append m_ml_X7_130 11 11 (c_X1_append l g N (o + 11) (c8 σ) C v a b ((c8_o (by omega)).trans hC) hlt) hB (Nat.le_of_ble_eq_true rfl) rfl (Nat.le_of_ble_eq_true rfl) rfl (L' := (xL g o (apS (c8 σ) C v a b) ρ (upS S ((q + 1) % 6) σ) (upS P ((q + 1) % 6) ρ) φ κ τ (upd (upd π 1 (nI ((q + 1) % 6))) 0 (nI (svN n))))) (f_x_ch_11 (fun i hi => by unfold apS; rw [pk_un (by omega), pk_un (by omega), pk_un (by omega), pk_un (by omega)] <;> rfl)) rfl (Nat.le_of_ble_eq_true rfl) rfl rfl (Nat.le_of_ble_eq_true rfl) ⟨Nat.le_of_ble_eq_true rfl, Nat.le_of_ble_eq_true rfl⟩ ⟨Nat.le_of_ble_eq_true rfl, Nat.le_of_ble_eq_true rfl⟩ dX7_addCard_65 rfl ?_
          refine v_aload X dX7_addCard_68 rfl ?_
          refine v_getB X hB cf1 3 (Nat.le_of_ble_eq_true rfl) m_fl_X7_125 dX7_addCard_70 11 (Nat.le_of_ble_eq_true rfl) rfl rfl ?_
          refine v_iconst X dX7_addCard_73 (v := (1 : Int32)) (by decide) ?_
          refine v_isub X dX7_addCard_74 ?_
          have hE : (acE C v a b) = (0 : Int32) := by rw [acE, if_neg (not_not_intro c7), if_neg (not_not_intro c18), if_neg (not_not_intro c26), if_neg (Nat.not_le.mpr hlt)]
          exact v_iret X rfl dX7_addCard_75 (by rw [hE]; rfl) (by rw [hE]; rfl)
        · skip
          have hge : 16 ≤ C := le_of_nI (a := 16) (by omega) (by omega) (by rw [← hC]; exact c50)
          refine v_bipush X dX7_addCard_53 (v := (-4 : Int32)) (by decide) ?_
          have hE : (acE C v a b) = (-4 : Int32) := by rw [acE, if_neg (not_not_intro c7), if_neg (not_not_intro c18), if_neg (not_not_intro c26), if_pos hge]
          exact v_iret X rfl dX7_addCard_55 (by rw [hE]; rfl) (by rw [hE]; rfl)
      · skip
        refine v_iconst X dX7_addCard_29 (v := (-1 : Int32)) (by decide) ?_
        have hE : (acE C v a b) = (-1 : Int32) := by rw [acE, if_neg (not_not_intro c7), if_neg (not_not_intro c18), if_pos c26]
        exact v_iret X rfl dX7_addCard_30 (by rw [hE]; rfl) (by rw [hE]; rfl)
  · skip
    refine v_bipush X dX7_addCard_10 (v := (-2 : Int32)) (by decide) ?_
    have hE : (acE C v a b) = (-2 : Int32) := by rw [acE, if_pos c7]
    exact v_iret X rfl dX7_addCard_12 (by rw [hE]; rfl) (by rw [hE]; rfl)
def rcE (σ : Nat → Int32) (v : Int32) : Int32 := if ¬ ((0 : Int32) ≤ v ∧ v < σ 0 ∧ v < 16) then (-1 : Int32) else 0
set_option maxRecDepth 100000 in
set_option maxHeartbeats 4000000 in
theorem c_X7_removeCard (l : Launch) (g : Ge) (N o : Nat) (σ ρ : Nat → Int32) (S P : Nat → Nat → Int32) (φ κ τ π : Nat → Int32) (q n : Nat) (hq : π 1 = nI q) (hq6 : q < 6) (hn : π 0 = nI n) (hn6 : n ≤ 6) (v : Int32) (C P0 : Nat) (hC : σ 0 = nI C) (hP : σ 1 = nI P0) (hPC : P0 < C ∨ (C = 0 ∧ P0 = 0)) (hC16 : C ≤ 16) : Cb l g yX7_removeCard (.code yX7_removeCard cX7_removeCard 3 (some .int)) 6 [.ref o, .int v] N o (xL g o σ ρ S P φ κ τ π) (some (.int (if (rcE σ v) = 0 then (rmS (c8 σ) (nt v) P0 C 0) else (rcE σ v)))) (xL g o (if (rcE σ v) = 0 then (rmS (c8 σ) (nt v) P0 C) else σ) ρ (svS (rcE σ v) S q σ) (svS (rcE σ v) P q ρ) φ κ τ (svπ (rcE σ v) π q n)) := by
  intro f hB0
  have hB : BB g N o 179 := hB0
  refine ct_of (own := RX7) [some (.ref o), some (.int v), none] (by decide +kernel) rfl rfl (Nat.le_of_ble_eq_true rfl) ?_
  intro vp ve vs vm va vb vt vc hnm X
  refine v_aload_n X dX7_removeCard_0 (i := 0) rfl rfl ?_
  refine v_getB X hB cf7 0 (Nat.le_of_ble_eq_true rfl) m_fl_X7_12 dX7_removeCard_1 0 (Nat.le_of_ble_eq_true rfl) rfl rfl ?_
  refine v_getB X hB cf4 0 (Nat.le_of_ble_eq_true rfl) m_fl_X7_56 dX7_removeCard_4 1 (Nat.le_of_ble_eq_true rfl) rfl rfl ?_
  refine v_getB X hB cf3 2 (Nat.le_of_ble_eq_true rfl) m_fl_X7_121 dX7_removeCard_7 2 (Nat.le_of_ble_eq_true rfl) rfl rfl ?_
  refine v_astore_n X dX7_removeCard_10 (i := 2) rfl (Nat.le_of_ble_eq_true rfl) rfl ?_
  refine v_aload_n X dX7_removeCard_11 (i := 2) rfl rfl ?_
  refine v_iload_n X dX7_removeCard_12 (i := 1) rfl rfl ?_
  refine v_cvB X rfl yv_X1_has m_ml_X7_133 11 11 (c_X1_has l g N (o + 11) σ v ) hB (Nat.le_of_ble_eq_true rfl) rfl (Nat.le_of_ble_eq_true rfl) rfl (L' := (xL g o σ ρ S P φ κ τ π)) (rfl) rfl (Nat.le_of_ble_eq_true rfl) rfl rfl (Nat.le_of_ble_eq_true rfl) ⟨Nat.le_of_ble_eq_true rfl, Nat.le_of_ble_eq_true rfl⟩ ⟨Nat.le_of_ble_eq_true rfl, Nat.le_of_ble_eq_true rfl⟩ dX7_removeCard_13 rfl ?_
  refine v_if_neB X dX7_removeCard_16 (tgt := 21) (by decide) (fun c16 => ?_) (fun c16 => ?_)
  · skip
    obtain ⟨k, hk, rfl⟩ := of_has hC hC16 c16
    have hPC : P0 < C := by omega
    have hkk : nt (nI k) = k := nt_nI (by omega)
    refine v_aload_n X dX7_removeCard_21 (i := 0) rfl rfl ?_
    refine v_cvB X rfl yv_X7_saveBeforeChange m_ml_X7_72 0 0 (c_X7_saveBeforeChange l g N o σ ρ S P φ κ τ π q n hq hq6 hn hn6) hB (Nat.le_of_ble_eq_true rfl) rfl (Nat.le_of_ble_eq_true rfl) rfl (L' := (xL g o (upd σ 8 0) ρ (upS S ((q + 1) % 6) σ) (upS P ((q + 1) % 6) ρ) φ κ τ (upd (upd π 1 (nI ((q + 1) % 6))) 0 (nI (svN n))))) (rfl) rfl (Nat.le_of_ble_eq_true rfl) rfl rfl (Nat.le_of_ble_eq_true rfl) ⟨Nat.le_of_ble_eq_true rfl, Nat.le_of_ble_eq_true rfl⟩ ⟨Nat.le_of_ble_eq_true rfl, Nat.le_of_ble_eq_true rfl⟩ dX7_removeCard_22 rfl ?_
    refine v_aload_n X dX7_removeCard_25 (i := 2) rfl rfl ?_
    refine v_iload_n X dX7_removeCard_26 (i := 1) rfl rfl ?_
    refine v_cvB X rfl yv_X1_remove m_ml_X7_136 11 11 (c_X1_remove l g N (o + 11) (nI k) k rfl (c8 σ) P0 C ((c8_o (by omega)).trans hC) ((c8_o (by omega)).trans hP) hk hPC hC16) hB (Nat.le_of_ble_eq_true rfl) rfl (Nat.le_of_ble_eq_true rfl) rfl (L' := (xL g o (rmS (c8 σ) k P0 C) ρ (upS S ((q + 1) % 6) σ) (upS P ((q + 1) % 6) ρ) φ κ τ (upd (upd π 1 (nI ((q + 1) % 6))) 0 (nI (svN n))))) (f_x_ch_11 (fun i hi => by unfold rmS; rw [pk_un (by omega), pk_un (by omega), shK_lo (by omega)] <;> rfl)) rfl (Nat.le_of_ble_eq_true rfl) rfl rfl (Nat.le_of_ble_eq_true rfl) ⟨Nat.le_of_ble_eq_true rfl, Nat.le_of_ble_eq_true rfl⟩ ⟨Nat.le_of_ble_eq_true rfl, Nat.le_of_ble_eq_true rfl⟩ dX7_removeCard_27 rfl ?_
    refine v_aload_n X dX7_removeCard_30 (i := 2) rfl rfl ?_
    refine v_getB X hB cf1 3 (Nat.le_of_ble_eq_true rfl) m_fl_X7_125 dX7_removeCard_31 11 (Nat.le_of_ble_eq_true rfl) rfl rfl ?_
    have hE : (rcE σ (nI k)) = (0 : Int32) := by rw [rcE, if_neg (not_not_intro c16)]
    exact v_iret X rfl dX7_removeCard_34 (by rw [hE, hkk]; rfl) (by rw [hE, hkk]; rfl)
  · skip
    refine v_iconst X dX7_removeCard_19 (v := (-1 : Int32)) (by decide) ?_
    have hE : (rcE σ v) = (-1 : Int32) := by rw [rcE, if_pos c16]
    exact v_iret X rfl dX7_removeCard_20 (by rw [hE]; rfl) (by rw [hE]; rfl)
set_option maxRecDepth 100000 in
set_option maxHeartbeats 4000000 in
theorem c_X7_turnTo (l : Launch) (g : Ge) (N o : Nat) (σ ρ : Nat → Int32) (S P : Nat → Nat → Int32) (φ κ τ π : Nat → Int32) (q n : Nat) (hq : π 1 = nI q) (hq6 : q < 6) (hn : π 0 = nI n) (hn6 : n ≤ 6) (v : Int32) : Cb l g yX7_turnTo (.code yX7_turnTo cX7_turnTo 4 (some .int)) 6 [.ref o, .int v] N o (xL g o σ ρ S P φ κ τ π) (some (.int (if (rcE σ v) = 0 then (c8 σ 1) else (rcE σ v)))) (xL g o (if (rcE σ v) = 0 then (upd (c8 σ) 1 v) else σ) ρ (svS (rcE σ v) S q σ) (svS (rcE σ v) P q ρ) φ κ τ (svπ (rcE σ v) π q n)) := by
  intro f hB0
  have hB : BB g N o 179 := hB0
  refine ct_of (own := RX7) [some (.ref o), some (.int v), none, none] (by decide +kernel) rfl rfl (Nat.le_of_ble_eq_true rfl) ?_
  intro vp ve vs vm va vb vt vc hnm X
  refine v_aload_n X dX7_turnTo_0 (i := 0) rfl rfl ?_
  refine v_getB X hB cf7 0 (Nat.le_of_ble_eq_true rfl) m_fl_X7_12 dX7_turnTo_1 0 (Nat.le_of_ble_eq_true rfl) rfl rfl ?_
  refine v_getB X hB cf4 0 (Nat.le_of_ble_eq_true rfl) m_fl_X7_56 dX7_turnTo_4 1 (Nat.le_of_ble_eq_true rfl) rfl rfl ?_
  refine v_getB X hB cf3 2 (Nat.le_of_ble_eq_true rfl) m_fl_X7_121 dX7_turnTo_7 2 (Nat.le_of_ble_eq_true rfl) rfl rfl ?_
  refine v_astore_n X dX7_turnTo_10 (i := 2) rfl (Nat.le_of_ble_eq_true rfl) rfl ?_
  refine v_aload_n X dX7_turnTo_11 (i := 2) rfl rfl ?_
  refine v_iload_n X dX7_turnTo_12 (i := 1) rfl rfl ?_
  refine v_cvB X rfl yv_X1_has m_ml_X7_133 11 11 (c_X1_has l g N (o + 11) σ v ) hB (Nat.le_of_ble_eq_true rfl) rfl (Nat.le_of_ble_eq_true rfl) rfl (L' := (xL g o σ ρ S P φ κ τ π)) (rfl) rfl (Nat.le_of_ble_eq_true rfl) rfl rfl (Nat.le_of_ble_eq_true rfl) ⟨Nat.le_of_ble_eq_true rfl, Nat.le_of_ble_eq_true rfl⟩ ⟨Nat.le_of_ble_eq_true rfl, Nat.le_of_ble_eq_true rfl⟩ dX7_turnTo_13 rfl ?_
  refine v_if_neB X dX7_turnTo_16 (tgt := 21) (by decide) (fun c16 => ?_) (fun c16 => ?_)
  · skip
    refine v_aload_n X dX7_turnTo_21 (i := 0) rfl rfl ?_
    refine v_cvB X rfl yv_X7_saveBeforeChange m_ml_X7_72 0 0 (c_X7_saveBeforeChange l g N o σ ρ S P φ κ τ π q n hq hq6 hn hn6) hB (Nat.le_of_ble_eq_true rfl) rfl (Nat.le_of_ble_eq_true rfl) rfl (L' := (xL g o (upd σ 8 0) ρ (upS S ((q + 1) % 6) σ) (upS P ((q + 1) % 6) ρ) φ κ τ (upd (upd π 1 (nI ((q + 1) % 6))) 0 (nI (svN n))))) (rfl) rfl (Nat.le_of_ble_eq_true rfl) rfl rfl (Nat.le_of_ble_eq_true rfl) ⟨Nat.le_of_ble_eq_true rfl, Nat.le_of_ble_eq_true rfl⟩ ⟨Nat.le_of_ble_eq_true rfl, Nat.le_of_ble_eq_true rfl⟩ dX7_turnTo_22 rfl ?_
    refine v_aload_n X dX7_turnTo_25 (i := 2) rfl rfl ?_
    refine v_getB X hB cf1 4 (Nat.le_of_ble_eq_true rfl) m_fl_X7_140 dX7_turnTo_26 11 (Nat.le_of_ble_eq_true rfl) rfl rfl ?_
    refine v_istore_n X dX7_turnTo_29 (i := 3) rfl (Nat.le_of_ble_eq_true rfl) rfl ?_
    refine v_aload_n X dX7_turnTo_30 (i := 2) rfl rfl ?_
    refine v_iload_n X dX7_turnTo_31 (i := 1) rfl rfl ?_
    refine v_putB X hB cf1 4 (Nat.le_of_ble_eq_true rfl) rfl m_fl_X7_140 dX7_turnTo_32 11 (Nat.le_of_ble_eq_true rfl) rfl rfl rfl (Nat.le_of_ble_eq_true rfl) (L' := (xL g o (upd (c8 σ) 1 v) ρ (upS S ((q + 1) % 6) σ) (upS P ((q + 1) % 6) ρ) φ κ τ (upd (upd π 1 (nI ((q + 1) % 6))) 0 (nI (svN n))))) w_x_11_place ?_
    refine v_iload_n X dX7_turnTo_35 (i := 3) rfl rfl ?_
    have hE : (rcE σ v) = (0 : Int32) := by rw [rcE, if_neg (not_not_intro c16)]
    exact v_iret X rfl dX7_turnTo_36 (by rw [hE]; rfl) (by rw [hE]; rfl)
  · skip
    refine v_iconst X dX7_turnTo_19 (v := (-1 : Int32)) (by decide) ?_
    have hE : (rcE σ v) = (-1 : Int32) := by rw [rcE, if_pos c16]
    exact v_iret X rfl dX7_turnTo_20 (by rw [hE]; rfl) (by rw [hE]; rfl)
