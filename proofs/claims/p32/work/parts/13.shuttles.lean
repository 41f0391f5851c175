/-! the static helpers and the shuttles -/
set_option maxRecDepth 100000 in
set_option maxHeartbeats 4000000 in
theorem c_X7_isWithin (l : Launch) (g : Ge) (v a b : Int32) : Cs l g yX7_isWithin (.code yX7_isWithin cX7_isWithin 3 (some .boolean)) 0 [.int v, .int a, .int b] (some (.int (bI (a ≤ v ∧ v ≤ b)))) := by
  intro N f
  refine ct_of (own := RX7) [some (.int v), some (.int a), some (.int b)] (by decide +kernel) rfl rfl (Nat.le_of_ble_eq_true rfl) ?_
  intro vp ve vs vm va vb vt vc hnm X
  refine v_iload_n X dX7_isWithin_0 (i := 0) rfl rfl ?_
  refine v_iload_n X dX7_isWithin_1 (i := 1) rfl rfl ?_
  refine v_icmp_lt X dX7_isWithin_2 (tgt := 14) (by decide) (fun c2 => ?_) (fun c2 => ?_)
  · skip
    refine v_iconst X dX7_isWithin_14 (v := (0 : Int32)) (by decide) ?_
    exact v_zret X rfl dX7_isWithin_15 (rfl) (by simp [bI, c2, Int32.not_le.mpr c2]) (rfl)
  · skip
    refine v_iload_n X dX7_isWithin_5 (i := 0) rfl rfl ?_
    refine v_iload_n X dX7_isWithin_6 (i := 2) rfl rfl ?_
    refine v_icmp_gt X dX7_isWithin_7 (tgt := 14) (by decide) (fun c7 => ?_) (fun c7 => ?_)
    · skip
      refine v_iconst X dX7_isWithin_14 (v := (0 : Int32)) (by decide) ?_
      exact v_zret X rfl dX7_isWithin_15 (rfl) (by simp [bI, c2, Int32.not_lt.mpr c2, c7, Int32.not_le.mpr c7]) (rfl)
    · skip
      refine v_iconst X dX7_isWithin_10 (v := (1 : Int32)) (by decide) ?_
      refine v_goto X dX7_isWithin_11 (tgt := 15) (by decide) ?_
      exact v_zret X rfl dX7_isWithin_15 (rfl) (by simp [bI, c2, Int32.not_lt.mpr c2, c7, Int32.not_lt.mpr c7]) (rfl)
set_option maxRecDepth 100000 in
set_option maxHeartbeats 4000000 in
theorem c_X7_isShuttle (l : Launch) (g : Ge) (v : Int32) : Cs l g yX7_isShuttle (.code yX7_isShuttle cX7_isShuttle 1 (some .boolean)) 1 [.int v] (some (.int (bI ((0 : Int32) ≤ v ∧ v ≤ (4 : Int32))))) := by
  intro N f
  refine ct_of (own := RX7) [some (.int v)] (by decide +kernel) rfl rfl (Nat.le_of_ble_eq_true rfl) ?_
  intro vp ve vs vm va vb vt vc hnm X
  refine v_iload_n X dX7_isShuttle_0 (i := 0) rfl rfl ?_
  refine v_iconst X dX7_isShuttle_1 (v := (0 : Int32)) (by decide) ?_
  refine v_iconst X dX7_isShuttle_2 (v := (4 : Int32)) (by decide) ?_
  refine v_cs X rfl yv_X7_isWithin m_ml_X7_90 (c_X7_isWithin l g v (0 : Int32) (4 : Int32) ) rfl rfl (Nat.le_of_ble_eq_true rfl) ⟨Nat.le_of_ble_eq_true rfl, Nat.le_of_ble_eq_true rfl⟩ ⟨Nat.le_of_ble_eq_true rfl, Nat.le_of_ble_eq_true rfl⟩ dX7_isShuttle_3 rfl ?_
  exact v_zret X rfl dX7_isShuttle_6 (nar_b) (rfl) (rfl)
set_option maxRecDepth 100000 in
set_option maxHeartbeats 4000000 in
theorem c_X7_isThread (l : Launch) (g : Ge) (v : Int32) : Cs l g yX7_isThread (.code yX7_isThread cX7_isThread 1 (some .boolean)) 1 [.int v] (some (.int (bI ((0 : Int32) ≤ v ∧ v ≤ (11 : Int32))))) := by
  intro N f
  refine ct_of (own := RX7) [some (.int v)] (by decide +kernel) rfl rfl (Nat.le_of_ble_eq_true rfl) ?_
  intro vp ve vs vm va vb vt vc hnm X
  refine v_iload_n X dX7_isThread_0 (i := 0) rfl rfl ?_
  refine v_iconst X dX7_isThread_1 (v := (0 : Int32)) (by decide) ?_
  refine v_bipush X dX7_isThread_2 (v := (11 : Int32)) (by decide) ?_
  refine v_cs X rfl yv_X7_isWithin m_ml_X7_90 (c_X7_isWithin l g v (0 : Int32) (11 : Int32) ) rfl rfl (Nat.le_of_ble_eq_true rfl) ⟨Nat.le_of_ble_eq_true rfl, Nat.le_of_ble_eq_true rfl⟩ ⟨Nat.le_of_ble_eq_true rfl, Nat.le_of_ble_eq_true rfl⟩ dX7_isThread_4 rfl ?_
  exact v_zret X rfl dX7_isThread_7 (nar_b) (rfl) (rfl)
set_option maxRecDepth 100000 in
set_option maxHeartbeats 4000000 in
theorem c_X7_isBox (l : Launch) (g : Ge) (s b : Int32) : Cs l g yX7_isBox (.code yX7_isBox cX7_isBox 2 (some .boolean)) 1 [.int s, .int b] (some (.int (bI ((s = 0 ∧ 0 ≤ b ∧ b ≤ 3) ∨ (s = 1 ∧ 0 ≤ b ∧ b ≤ 1))))) := by
  intro N f
  refine ct_of (own := RX7) [some (.int s), some (.int b)] (by decide +kernel) rfl rfl (Nat.le_of_ble_eq_true rfl) ?_
  intro vp ve vs vm va vb vt vc hnm X
  refine v_iload_n X dX7_isBox_0 (i := 0) rfl rfl ?_
  refine v_if_ne X dX7_isBox_1 (tgt := 13) (by decide) (fun c1 => ?_) (fun c1 => ?_)
  · skip
    refine v_iload_n X dX7_isBox_13 (i := 0) rfl rfl ?_
    refine v_iconst X dX7_isBox_14 (v := (1 : Int32)) (by decide) ?_
    refine v_icmp_ne X dX7_isBox_15 (tgt := 31) (by decide) (fun c15 => ?_) (fun c15 => ?_)
    · skip
      refine v_iconst X dX7_isBox_31 (v := (0 : Int32)) (by decide) ?_
      exact v_zret X rfl dX7_isBox_32 (rfl) (by simp [bI, c1, c15]) (rfl)
    · skip
      refine v_iload_n X dX7_isBox_18 (i := 1) rfl rfl ?_
      refine v_iconst X dX7_isBox_19 (v := (0 : Int32)) (by decide) ?_
      refine v_iconst X dX7_isBox_20 (v := (1 : Int32)) (by decide) ?_
      refine v_cs X rfl yv_X7_isWithin m_ml_X7_90 (c_X7_isWithin l g b (0 : Int32) (1 : Int32) ) rfl rfl (Nat.le_of_ble_eq_true rfl) ⟨Nat.le_of_ble_eq_true rfl, Nat.le_of_ble_eq_true rfl⟩ ⟨Nat.le_of_ble_eq_true rfl, Nat.le_of_ble_eq_true rfl⟩ dX7_isBox_21 rfl ?_
      refine v_if_eqB X dX7_isBox_24 (tgt := 31) (by decide) (fun c24 => ?_) (fun c24 => ?_)
      · skip
        refine v_iconst X dX7_isBox_31 (v := (0 : Int32)) (by decide) ?_
        exact v_zret X rfl dX7_isBox_32 (rfl) (by simp [bI, c1, c15, c24]) (rfl)
      · skip
        refine v_iconst X dX7_isBox_27 (v := (1 : Int32)) (by decide) ?_
        refine v_goto X dX7_isBox_28 (tgt := 32) (by decide) ?_
        exact v_zret X rfl dX7_isBox_32 (rfl) (by simp [bI, c1, c15, c24]) (rfl)
  · skip
    refine v_iload_n X dX7_isBox_4 (i := 1) rfl rfl ?_
    refine v_iconst X dX7_isBox_5 (v := (0 : Int32)) (by decide) ?_
    refine v_iconst X dX7_isBox_6 (v := (3 : Int32)) (by decide) ?_
    refine v_cs X rfl yv_X7_isWithin m_ml_X7_90 (c_X7_isWithin l g b (0 : Int32) (3 : Int32) ) rfl rfl (Nat.le_of_ble_eq_true rfl) ⟨Nat.le_of_ble_eq_true rfl, Nat.le_of_ble_eq_true rfl⟩ ⟨Nat.le_of_ble_eq_true rfl, Nat.le_of_ble_eq_true rfl⟩ dX7_isBox_7 rfl ?_
    refine v_if_neB X dX7_isBox_10 (tgt := 27) (by decide) (fun c10 => ?_) (fun c10 => ?_)
    · skip
      refine v_iconst X dX7_isBox_27 (v := (1 : Int32)) (by decide) ?_
      refine v_goto X dX7_isBox_28 (tgt := 32) (by decide) ?_
      exact v_zret X rfl dX7_isBox_32 (rfl) (by simp [bI, c1, c10]) (rfl)
    · skip
      refine v_iload_n X dX7_isBox_13 (i := 0) rfl rfl ?_
      refine v_iconst X dX7_isBox_14 (v := (1 : Int32)) (by decide) ?_
      refine v_icmp_ne X dX7_isBox_15 (tgt := 31) (by decide) (fun c15 => ?_) (fun c15 => ?_)
      · skip
        refine v_iconst X dX7_isBox_31 (v := (0 : Int32)) (by decide) ?_
        exact v_zret X rfl dX7_isBox_32 (rfl) (by simp [bI, c1, c10, c15]) (rfl)
      · skip
        exact absurd (c1.symm.trans c15) (by decide)
set_option maxRecDepth 100000 in
set_option maxHeartbeats 4000000 in
theorem c_X7_contains (l : Launch) (g : Ge) (s k : Int32) : Cs l g yX7_contains (.code yX7_contains cX7_contains 2 (some .boolean)) 0 [.int s, .int k] (some (.int (bI ((s >>> (k &&& 31)) &&& 1 = 1)))) := by
  intro N f
  refine ct_of (own := RX7) [some (.int s), some (.int k)] (by decide +kernel) rfl rfl (Nat.le_of_ble_eq_true rfl) ?_
  intro vp ve vs vm va vb vt vc hnm X
  refine v_iload_n X dX7_contains_0 (i := 0) rfl rfl ?_
  refine v_iload_n X dX7_contains_1 (i := 1) rfl rfl ?_
  refine v_ishr X dX7_contains_2 ?_
  refine v_iconst X dX7_contains_3 (v := (1 : Int32)) (by decide) ?_
  refine v_iand X dX7_contains_4 ?_
  refine v_iconst X dX7_contains_5 (v := (1 : Int32)) (by decide) ?_
  refine v_icmp_ne X dX7_contains_6 (tgt := 13) (by decide) (fun c6 => ?_) (fun c6 => ?_)
  · skip
    refine v_iconst X dX7_contains_13 (v := (0 : Int32)) (by decide) ?_
    exact v_zret X rfl dX7_contains_14 (rfl) (by simp [bI, c6]) (rfl)
  · skip
    refine v_iconst X dX7_contains_9 (v := (1 : Int32)) (by decide) ?_
    refine v_goto X dX7_contains_10 (tgt := 14) (by decide) ?_
    exact v_zret X rfl dX7_contains_14 (rfl) (by simp [bI, c6]) (rfl)
def fndF (σ : Nat → Int32) (a b : Int32) : Nat → Nat → Int32
  | 0, _ => -6
  | n + 1, k => if σ (14 + 4 * k) = a ∧ σ (15 + 4 * k) = b then nI k else fndF σ a b n (k + 1)
def fnd (σ : Nat → Int32) (a b : Int32) : Int32 := fndF σ a b 5 0
theorem fndF_hit {σ : Nat → Int32} {a b : Int32} {k : Nat} (hk : k < 5) (h1 : σ (14 + 4 * k) = a) (h2 : σ (15 + 4 * k) = b) : fndF σ a b (5 - k) k = nI k := by
  obtain ⟨n, hn⟩ : ∃ n, 5 - k = n + 1 := ⟨5 - k - 1, by omega⟩
  rw [hn, fndF, if_pos ⟨h1, h2⟩]
theorem fndF_miss {σ : Nat → Int32} {a b : Int32} {k : Nat} (hk : k < 5) (h : ¬ (σ (14 + 4 * k) = a ∧ σ (15 + 4 * k) = b)) : fndF σ a b (5 - k) k = fndF σ a b (5 - (k + 1)) (k + 1) := by
  obtain ⟨n, hn⟩ : ∃ n, 5 - k = n + 1 := ⟨5 - k - 1, by omega⟩
  rw [hn, fndF, if_neg h]
  congr 1; omega
def nbx (σ : Nat → Int32) : Nat → Int32
  | 0 => 0
  | k + 1 => if σ (14 + 4 * k) = -6 then nbx σ k else nbx σ k + 1
theorem lt_of_nI {a b : Nat} (ha : a < 2 ^ 31) (hb : b < 2 ^ 31) (h : nI a < nI b) : a < b := (nI_ltI ha hb).mp h
theorem le_of_nI {a b : Nat} (ha : a < 2 ^ 31) (hb : b < 2 ^ 31) (h : nI a ≤ nI b) : a ≤ b := (nI_leI ha hb).mp h
theorem rng5 {k : Nat} (hk : k < 5) : (0 : Int32) ≤ nI k ∧ nI k ≤ (4 : Int32) := ⟨(nI_leI (a := 0) (by omega) (by omega)).mpr (by omega), (nI_leI (b := 4) (by omega) (by omega)).mpr (by omega)⟩
set_option maxRecDepth 100000 in
set_option maxHeartbeats 4000000 in
theorem c_X5_isInDrawer (l : Launch) (g : Ge) (N o : Nat) (x_k : Int32) (k : Nat) (hx_k : x_k = nI k) (σ : Nat → Int32) (hk : k < 5) : Cb l g yX5_isInDrawer (.code yX5_isInDrawer cX5_isInDrawer 2 (some .boolean)) 2 [.ref o, .int x_k] N o (shL g o σ) (some (.int (bI (σ (14 + 4 * k) = -6)))) (shL g o σ) := by
  intro f hB0
  have hB : BB g N o 5 := hB0
  subst hx_k
  refine ct_of (own := RX5) [some (.ref o), some (.int (nI k))] (by decide +kernel) rfl rfl (Nat.le_of_ble_eq_true rfl) ?_
  intro vp ve vs vm va vb vt vc hnm X
  refine v_iload_n X dX5_isInDrawer_0 (i := 1) rfl rfl ?_
  refine v_csN X rfl yv_X7_isShuttle m_mn_X5_30 (c_X7_isShuttle l g (nI k) ) rfl rfl (Nat.le_of_ble_eq_true rfl) ⟨Nat.le_of_ble_eq_true rfl, Nat.le_of_ble_eq_true rfl⟩ ⟨Nat.le_of_ble_eq_true rfl, Nat.le_of_ble_eq_true rfl⟩ dX5_isInDrawer_1 rfl ?_
  refine v_if_eqB X dX5_isInDrawer_4 (tgt := 22) (by decide) (fun c4 => ?_) (fun c4 => ?_)
  · skip
    exact absurd (rng5 hk) c4
  · skip
    refine v_aload_n X dX5_isInDrawer_7 (i := 0) rfl rfl ?_
    refine v_getB X hB cf5 2 (Nat.le_of_ble_eq_true rfl) m_fl_X5_18 dX5_isInDrawer_8 0 (Nat.le_of_ble_eq_true rfl) rfl rfl ?_
    refine v_iload_n X dX5_isInDrawer_11 (i := 1) rfl rfl ?_
    refine v_iald_vw (b := 14) (s' := 4) X hB dX5_isInDrawer_12 3 (Nat.le_of_ble_eq_true rfl) rfl k rfl (by omega) (Nat.le_of_ble_eq_true rfl) ?_
    refine v_bipush X dX5_isInDrawer_13 (v := (-6 : Int32)) (by decide) ?_
    refine v_icmp_ne X dX5_isInDrawer_15 (tgt := 22) (by decide) (fun c15 => ?_) (fun c15 => ?_)
    · skip
      refine v_iconst X dX5_isInDrawer_22 (v := (0 : Int32)) (by decide) ?_
      exact v_zret X rfl dX5_isInDrawer_23 (rfl) (by simp [bI, c4, c15]) (rfl)
    · skip
      refine v_iconst X dX5_isInDrawer_18 (v := (1 : Int32)) (by decide) ?_
      refine v_goto X dX5_isInDrawer_19 (tgt := 23) (by decide) ?_
      exact v_zret X rfl dX5_isInDrawer_23 (rfl) (by simp [bI, c4, c15]) (rfl)
set_option maxRecDepth 100000 in
set_option maxHeartbeats 4000000 in
theorem c_X5_isOnLeft (l : Launch) (g : Ge) (N o : Nat) (x_k : Int32) (k : Nat) (hx_k : x_k = nI k) (σ : Nat → Int32) (hk : k < 5) : Cb l g yX5_isOnLeft (.code yX5_isOnLeft cX5_isOnLeft 2 (some .boolean)) 2 [.ref o, .int x_k] N o (shL g o σ) (some (.int (bI (σ (14 + 4 * k) = 0)))) (shL g o σ) := by
  intro f hB0
  have hB : BB g N o 5 := hB0
  subst hx_k
  refine ct_of (own := RX5) [some (.ref o), some (.int (nI k))] (by decide +kernel) rfl rfl (Nat.le_of_ble_eq_true rfl) ?_
  intro vp ve vs vm va vb vt vc hnm X
  refine v_iload_n X dX5_isOnLeft_0 (i := 1) rfl rfl ?_
  refine v_csN X rfl yv_X7_isShuttle m_mn_X5_30 (c_X7_isShuttle l g (nI k) ) rfl rfl (Nat.le_of_ble_eq_true rfl) ⟨Nat.le_of_ble_eq_true rfl, Nat.le_of_ble_eq_true rfl⟩ ⟨Nat.le_of_ble_eq_true rfl, Nat.le_of_ble_eq_true rfl⟩ dX5_isOnLeft_1 rfl ?_
  refine v_if_eqB X dX5_isOnLeft_4 (tgt := 20) (by decide) (fun c4 => ?_) (fun c4 => ?_)
  · skip
    exact absurd (rng5 hk) c4
  · skip
    refine v_aload_n X dX5_isOnLeft_7 (i := 0) rfl rfl ?_
    refine v_getB X hB cf5 2 (Nat.le_of_ble_eq_true rfl) m_fl_X5_18 dX5_isOnLeft_8 0 (Nat.le_of_ble_eq_true rfl) rfl rfl ?_
    refine v_iload_n X dX5_isOnLeft_11 (i := 1) rfl rfl ?_
    refine v_iald_vw (b := 14) (s' := 4) X hB dX5_isOnLeft_12 3 (Nat.le_of_ble_eq_true rfl) rfl k rfl (by omega) (Nat.le_of_ble_eq_true rfl) ?_
    refine v_if_ne X dX5_isOnLeft_13 (tgt := 20) (by decide) (fun c13 => ?_) (fun c13 => ?_)
    · skip
      refine v_iconst X dX5_isOnLeft_20 (v := (0 : Int32)) (by decide) ?_
      exact v_zret X rfl dX5_isOnLeft_21 (rfl) (by simp [bI, c4, c13]) (rfl)
    · skip
      refine v_iconst X dX5_isOnLeft_16 (v := (1 : Int32)) (by decide) ?_
      refine v_goto X dX5_isOnLeft_17 (tgt := 21) (by decide) ?_
      exact v_zret X rfl dX5_isOnLeft_21 (rfl) (by simp [bI, c4, c13]) (rfl)
set_option maxRecDepth 100000 in
set_option maxHeartbeats 4000000 in
theorem c_X5_hasYarn (l : Launch) (g : Ge) (N o : Nat) (x_k : Int32) (k : Nat) (hx_k : x_k = nI k) (σ : Nat → Int32) (hk : k < 5) : Cb l g yX5_hasYarn (.code yX5_hasYarn cX5_hasYarn 2 (some .boolean)) 2 [.ref o, .int x_k] N o (shL g o σ) (some (.int (bI (0 < σ (13 + 4 * k))))) (shL g o σ) := by
  intro f hB0
  have hB : BB g N o 5 := hB0
  subst hx_k
  refine ct_of (own := RX5) [some (.ref o), some (.int (nI k))] (by decide +kernel) rfl rfl (Nat.le_of_ble_eq_true rfl) ?_
  intro vp ve vs vm va vb vt vc hnm X
  refine v_iload_n X dX5_hasYarn_0 (i := 1) rfl rfl ?_
  refine v_csN X rfl yv_X7_isShuttle m_mn_X5_30 (c_X7_isShuttle l g (nI k) ) rfl rfl (Nat.le_of_ble_eq_true rfl) ⟨Nat.le_of_ble_eq_true rfl, Nat.le_of_ble_eq_true rfl⟩ ⟨Nat.le_of_ble_eq_true rfl, Nat.le_of_ble_eq_true rfl⟩ dX5_hasYarn_1 rfl ?_
  refine v_if_eqB X dX5_hasYarn_4 (tgt := 20) (by decide) (fun c4 => ?_) (fun c4 => ?_)
  · skip
    exact absurd (rng5 hk) c4
  · skip
    refine v_aload_n X dX5_hasYarn_7 (i := 0) rfl rfl ?_
    refine v_getB X hB cf5 1 (Nat.le_of_ble_eq_true rfl) m_fl_X5_15 dX5_hasYarn_8 0 (Nat.le_of_ble_eq_true rfl) rfl rfl ?_
    refine v_iload_n X dX5_hasYarn_11 (i := 1) rfl rfl ?_
    refine v_iald_vw (b := 13) (s' := 4) X hB dX5_hasYarn_12 2 (Nat.le_of_ble_eq_true rfl) rfl k rfl (by omega) (Nat.le_of_ble_eq_true rfl) ?_
    refine v_if_le X dX5_hasYarn_13 (tgt := 20) (by decide) (fun c13 => ?_) (fun c13 => ?_)
    · skip
      refine v_iconst X dX5_hasYarn_20 (v := (0 : Int32)) (by decide) ?_
      exact v_zret X rfl dX5_hasYarn_21 (rfl) (by simp [bI, c4, c13, Int32.not_lt.mpr c13]) (rfl)
    · skip
      refine v_iconst X dX5_hasYarn_16 (v := (1 : Int32)) (by decide) ?_
      refine v_goto X dX5_hasYarn_17 (tgt := 21) (by decide) ?_
      exact v_zret X rfl dX5_hasYarn_21 (rfl) (by simp [bI, c4, c13, Int32.not_le.mpr c13]) (rfl)
set_option maxRecDepth 100000 in
set_option maxHeartbeats 4000000 in
theorem c_X5_colourOf (l : Launch) (g : Ge) (N o : Nat) (x_k : Int32) (k : Nat) (hx_k : x_k = nI k) (σ : Nat → Int32) (hk : k < 5) : Cb l g yX5_colourOf (.code yX5_colourOf cX5_colourOf 2 (some .int)) 2 [.ref o, .int x_k] N o (shL g o σ) (some (.int (σ (12 + 4 * k)))) (shL g o σ) := by
  intro f hB0
  have hB : BB g N o 5 := hB0
  subst hx_k
  refine ct_of (own := RX5) [some (.ref o), some (.int (nI k))] (by decide +kernel) rfl rfl (Nat.le_of_ble_eq_true rfl) ?_
  intro vp ve vs vm va vb vt vc hnm X
  refine v_iload_n X dX5_colourOf_0 (i := 1) rfl rfl ?_
  refine v_csN X rfl yv_X7_isShuttle m_mn_X5_30 (c_X7_isShuttle l g (nI k) ) rfl rfl (Nat.le_of_ble_eq_true rfl) ⟨Nat.le_of_ble_eq_true rfl, Nat.le_of_ble_eq_true rfl⟩ ⟨Nat.le_of_ble_eq_true rfl, Nat.le_of_ble_eq_true rfl⟩ dX5_colourOf_1 rfl ?_
  refine v_if_eqB X dX5_colourOf_4 (tgt := 16) (by decide) (fun c4 => ?_) (fun c4 => ?_)
  · skip
    exact absurd (rng5 hk) c4
  · skip
    refine v_aload_n X dX5_colourOf_7 (i := 0) rfl rfl ?_
    refine v_getB X hB cf5 0 (Nat.le_of_ble_eq_true rfl) m_fl_X5_9 dX5_colourOf_8 0 (Nat.le_of_ble_eq_true rfl) rfl rfl ?_
    refine v_iload_n X dX5_colourOf_11 (i := 1) rfl rfl ?_
    refine v_iald_vw (b := 12) (s' := 4) X hB dX5_colourOf_12 1 (Nat.le_of_ble_eq_true rfl) rfl k rfl (by omega) (Nat.le_of_ble_eq_true rfl) ?_
    refine v_goto X dX5_colourOf_13 (tgt := 18) (by decide) ?_
    exact v_iret X rfl dX5_colourOf_18 (rfl) (rfl)
set_option maxRecDepth 100000 in
set_option maxHeartbeats 4000000 in
theorem c_X5_place (l : Launch) (g : Ge) (N o : Nat) (x_k : Int32) (k : Nat) (hx_k : x_k = nI k) (σ : Nat → Int32) (a b : Int32) (hk : k < 5) : Cb l g yX5_place (.code yX5_place cX5_place 4 none) 2 [.ref o, .int x_k, .int a, .int b] N o (shL g o σ) none (shL g o (upd (upd σ (14 + 4 * k) a) (15 + 4 * k) b)) := by
  intro f hB0
  have hB : BB g N o 5 := hB0
  subst hx_k
  refine ct_of (own := RX5) [some (.ref o), some (.int (nI k)), some (.int a), some (.int b)] (by decide +kernel) rfl rfl (Nat.le_of_ble_eq_true rfl) ?_
  intro vp ve vs vm va vb vt vc hnm X
  refine v_iload_n X dX5_place_0 (i := 1) rfl rfl ?_
  refine v_csN X rfl yv_X7_isShuttle m_mn_X5_30 (c_X7_isShuttle l g (nI k) ) rfl rfl (Nat.le_of_ble_eq_true rfl) ⟨Nat.le_of_ble_eq_true rfl, Nat.le_of_ble_eq_true rfl⟩ ⟨Nat.le_of_ble_eq_true rfl, Nat.le_of_ble_eq_true rfl⟩ dX5_place_1 rfl ?_
  refine v_if_eqB X dX5_place_4 (tgt := 21) (by decide) (fun c4 => ?_) (fun c4 => ?_)
  · skip
    exact absurd (rng5 hk) c4
  · skip
    refine v_aload_n X dX5_place_7 (i := 0) rfl rfl ?_
    refine v_getB X hB cf5 2 (Nat.le_of_ble_eq_true rfl) m_fl_X5_18 dX5_place_8 0 (Nat.le_of_ble_eq_true rfl) rfl rfl ?_
    refine v_iload_n X dX5_place_11 (i := 1) rfl rfl ?_
    refine v_iload_n X dX5_place_12 (i := 2) rfl rfl ?_
    refine v_iastB (n := 5) X hB dX5_place_13 3 (Nat.le_of_ble_eq_true rfl) rfl k rfl (by omega) (Nat.le_of_ble_eq_true rfl) (L' := (shL g o (upd σ (14 + 4 * k) a))) (w_sh_3 (by omega)) ?_
    refine v_aload_n X dX5_place_14 (i := 0) rfl rfl ?_
    refine v_getB X hB cf5 3 (Nat.le_of_ble_eq_true rfl) m_fl_X5_21 dX5_place_15 0 (Nat.le_of_ble_eq_true rfl) rfl rfl ?_
    refine v_iload_n X dX5_place_18 (i := 1) rfl rfl ?_
    refine v_iload_n X dX5_place_19 (i := 3) rfl rfl ?_
    refine v_iastB (n := 5) X hB dX5_place_20 4 (Nat.le_of_ble_eq_true rfl) rfl k rfl (by omega) (Nat.le_of_ble_eq_true rfl) (L' := (shL g o (upd (upd σ (14 + 4 * k) a) (15 + 4 * k) b))) (w_sh_4 (by omega)) ?_
    exact v_vret X rfl dX5_place_21 (rfl) (rfl)
set_option maxRecDepth 100000 in
set_option maxHeartbeats 4000000 in
theorem c_X5_addYarn (l : Launch) (g : Ge) (N o : Nat) (x_k : Int32) (k : Nat) (hx_k : x_k = nI k) (σ : Nat → Int32) (a : Int32) (hk : k < 5) : Cb l g yX5_addYarn (.code yX5_addYarn cX5_addYarn 3 none) 2 [.ref o, .int x_k, .int a] N o (shL g o σ) none (shL g o (upd σ (13 + 4 * k) (σ (13 + 4 * k) + a))) := by
  intro f hB0
  have hB : BB g N o 5 := hB0
  subst hx_k
  refine ct_of (own := RX5) [some (.ref o), some (.int (nI k)), some (.int a)] (by decide +kernel) rfl rfl (Nat.le_of_ble_eq_true rfl) ?_
  intro vp ve vs vm va vb vt vc hnm X
  refine v_iload_n X dX5_addYarn_0 (i := 1) rfl rfl ?_
  refine v_csN X rfl yv_X7_isShuttle m_mn_X5_30 (c_X7_isShuttle l g (nI k) ) rfl rfl (Nat.le_of_ble_eq_true rfl) ⟨Nat.le_of_ble_eq_true rfl, Nat.le_of_ble_eq_true rfl⟩ ⟨Nat.le_of_ble_eq_true rfl, Nat.le_of_ble_eq_true rfl⟩ dX5_addYarn_1 rfl ?_
  refine v_if_eqB X dX5_addYarn_4 (tgt := 17) (by decide) (fun c4 => ?_) (fun c4 => ?_)
  · skip
    exact absurd (rng5 hk) c4
  · skip
    refine v_aload_n X dX5_addYarn_7 (i := 0) rfl rfl ?_
    refine v_getB X hB cf5 1 (Nat.le_of_ble_eq_true rfl) m_fl_X5_15 dX5_addYarn_8 0 (Nat.le_of_ble_eq_true rfl) rfl rfl ?_
    refine v_iload_n X dX5_addYarn_11 (i := 1) rfl rfl ?_
    refine v_dup2 X dX5_addYarn_12 rfl rfl ?_
    refine v_iald_vw (b := 13) (s' := 4) X hB dX5_addYarn_13 2 (Nat.le_of_ble_eq_true rfl) rfl k rfl (by omega) (Nat.le_of_ble_eq_true rfl) ?_
    refine v_iload_n X dX5_addYarn_14 (i := 2) rfl rfl ?_
    refine v_iadd X dX5_addYarn_15 ?_
    refine v_iastB (n := 5) X hB dX5_addYarn_16 2 (Nat.le_of_ble_eq_true rfl) rfl k rfl (by omega) (Nat.le_of_ble_eq_true rfl) (L' := (shL g o (upd σ (13 + 4 * k) ((σ (13 + 4 * k)) + a)))) (w_sh_2 (by omega)) ?_
    exact v_vret X rfl dX5_addYarn_17 (rfl) (rfl)
set_option maxRecDepth 100000 in
set_option maxHeartbeats 4000000 in
theorem c_X5_findIn (l : Launch) (g : Ge) (N o : Nat) (σ : Nat → Int32) (a b : Int32) : Cb l g yX5_findIn (.code yX5_findIn cX5_findIn 4 (some .int)) 0 [.ref o, .int a, .int b] N o (shL g o σ) (some (.int (fnd σ a b))) (shL g o σ) := by
  intro f hB0
  have hB : BB g N o 5 := hB0
  refine ct_of (own := RX5) [some (.ref o), some (.int a), some (.int b), none] (by decide +kernel) rfl rfl (Nat.le_of_ble_eq_true rfl) ?_
  intro vp ve vs vm va vb vt vc hnm X
  refine v_iconst X dX5_findIn_0 (v := (0 : Int32)) (by decide) ?_
  refine v_istore_n X dX5_findIn_1 (i := 3) rfl (Nat.le_of_ble_eq_true rfl) rfl ?_
  have LP2 : ∀ (n_ : Nat) (k : Nat), (k ≤ 5) → (fnd σ a b = fndF σ a b (5 - k) k) → 5 - k < n_ → Vm vp l ve vs vm va vb vt vc g 0 4 N (some (.int (fnd σ a b))) (ovr f o (shL g o σ)) (ovr f o (shL g o σ)) 2 [some (.ref o), some (.int a), some (.int b), some (.int (nI k))] [] := by
    intro n_
    induction n_ with
    | zero => intro k hk hr hm_; exact absurd hm_ (Nat.not_lt_zero _)
    | succ n_ ih2 =>
      intro k hk hr hm2
      refine v_iload_n X dX5_findIn_2 (i := 3) rfl rfl ?_
      refine v_iconst X dX5_findIn_3 (v := (5 : Int32)) (by decide) ?_
      refine v_icmp_ge X dX5_findIn_4 (tgt := 35) (by decide) (fun c4 => ?_) (fun c4 => ?_)
      · skip
        have hk5 : k = 5 := Nat.le_antisymm hk (le_of_nI (a := 5) (by omega) (by omega) c4)
        refine v_bipush X dX5_findIn_35 (v := (-6 : Int32)) (by decide) ?_
        exact v_iret X rfl dX5_findIn_37 (by rw [hr, hk5]; rfl) (rfl)
      · skip
        have hk5 : k < 5 := lt_of_nI (b := 5) (by omega) (by omega) c4
        refine v_aload_n X dX5_findIn_7 (i := 0) rfl rfl ?_
        refine v_getB X hB cf5 2 (Nat.le_of_ble_eq_true rfl) m_fl_X5_18 dX5_findIn_8 0 (Nat.le_of_ble_eq_true rfl) rfl rfl ?_
        refine v_iload_n X dX5_findIn_11 (i := 3) rfl rfl ?_
        refine v_iald_vw (b := 14) (s' := 4) X hB dX5_findIn_12 3 (Nat.le_of_ble_eq_true rfl) rfl k rfl (by omega) (Nat.le_of_ble_eq_true rfl) ?_
        refine v_iload_n X dX5_findIn_13 (i := 1) rfl rfl ?_
        refine v_icmp_ne X dX5_findIn_14 (tgt := 29) (by decide) (fun c14 => ?_) (fun c14 => ?_)
        · skip
          refine v_iinc X dX5_findIn_29 (v := nI (k + 1)) rfl (ix_inc rfl) (Nat.le_of_ble_eq_true rfl) rfl ?_
          refine v_goto X dX5_findIn_32 (tgt := 2) (by decide) ?_
          exact ih2 (k + 1) (by omega) (hr.trans (fndF_miss hk5 (fun q => c14 q.1))) (by omega)
        · skip
          refine v_aload_n X dX5_findIn_17 (i := 0) rfl rfl ?_
          refine v_getB X hB cf5 3 (Nat.le_of_ble_eq_true rfl) m_fl_X5_21 dX5_findIn_18 0 (Nat.le_of_ble_eq_true rfl) rfl rfl ?_
          refine v_iload_n X dX5_findIn_21 (i := 3) rfl rfl ?_
          refine v_iald_vw (b := 15) (s' := 4) X hB dX5_findIn_22 4 (Nat.le_of_ble_eq_true rfl) rfl k rfl (by omega) (Nat.le_of_ble_eq_true rfl) ?_
          refine v_iload_n X dX5_findIn_23 (i := 2) rfl rfl ?_
          refine v_icmp_ne X dX5_findIn_24 (tgt := 29) (by decide) (fun c24 => ?_) (fun c24 => ?_)
          · skip
            refine v_iinc X dX5_findIn_29 (v := nI (k + 1)) rfl (ix_inc rfl) (Nat.le_of_ble_eq_true rfl) rfl ?_
            refine v_goto X dX5_findIn_32 (tgt := 2) (by decide) ?_
            exact ih2 (k + 1) (by omega) (hr.trans (fndF_miss hk5 (fun q => c24 q.2))) (by omega)
          · skip
            refine v_iload_n X dX5_findIn_27 (i := 3) rfl rfl ?_
            exact v_iret X rfl dX5_findIn_28 (congrArg (fun z => some (Value.int z)) (hr.trans (fndF_hit hk5 c14 c24)).symm) (rfl)
  exact LP2 _ 0 (Nat.zero_le _) rfl (Nat.lt_succ_self _)
set_option maxRecDepth 100000 in
set_option maxHeartbeats 4000000 in
theorem c_X5_numberInBoxes (l : Launch) (g : Ge) (N o : Nat) (σ : Nat → Int32) : Cb l g yX5_numberInBoxes (.code yX5_numberInBoxes cX5_numberInBoxes 3 (some .int)) 0 [.ref o] N o (shL g o σ) (some (.int (nbx σ 5))) (shL g o σ) := by
  intro f hB0
  have hB : BB g N o 5 := hB0
  refine ct_of (own := RX5) [some (.ref o), none, none] (by decide +kernel) rfl rfl (Nat.le_of_ble_eq_true rfl) ?_
  intro vp ve vs vm va vb vt vc hnm X
  refine v_iconst X dX5_numberInBoxes_0 (v := (0 : Int32)) (by decide) ?_
  refine v_istore_n X dX5_numberInBoxes_1 (i := 1) rfl (Nat.le_of_ble_eq_true rfl) rfl ?_
  refine v_iconst X dX5_numberInBoxes_2 (v := (0 : Int32)) (by decide) ?_
  refine v_istore_n X dX5_numberInBoxes_3 (i := 2) rfl (Nat.le_of_ble_eq_true rfl) rfl ?_
  have LP4 : ∀ (n_ : Nat) (k : Nat), (k ≤ 5) → 5 - k < n_ → Vm vp l ve vs vm va vb vt vc g 0 3 N (some (.int (nbx σ 5))) (ovr f o (shL g o σ)) (ovr f o (shL g o σ)) 4 [some (.ref o), some (.int (nbx σ k)), some (.int (nI k))] [] := by
    intro n_
    induction n_ with
    | zero => intro k hk hm_; exact absurd hm_ (Nat.not_lt_zero _)
    | succ n_ ih4 =>
      intro k hk hm4
      refine v_iload_n X dX5_numberInBoxes_4 (i := 2) rfl rfl ?_
      refine v_iconst X dX5_numberInBoxes_5 (v := (5 : Int32)) (by decide) ?_
      refine v_icmp_ge X dX5_numberInBoxes_6 (tgt := 29) (by decide) (fun c6 => ?_) (fun c6 => ?_)
      · skip
        have hk5 : k = 5 := Nat.le_antisymm hk (le_of_nI (a := 5) (by omega) (by omega) c6)
        refine v_iload_n X dX5_numberInBoxes_29 (i := 1) rfl rfl ?_
        exact v_iret X rfl dX5_numberInBoxes_30 (by rw [hk5]) (rfl)
      · skip
        have hk5 : k < 5 := lt_of_nI (b := 5) (by omega) (by omega) c6
        refine v_aload_n X dX5_numberInBoxes_9 (i := 0) rfl rfl ?_
        refine v_getB X hB cf5 2 (Nat.le_of_ble_eq_true rfl) m_fl_X5_18 dX5_numberInBoxes_10 0 (Nat.le_of_ble_eq_true rfl) rfl rfl ?_
        refine v_iload_n X dX5_numberInBoxes_13 (i := 2) rfl rfl ?_
        refine v_iald_vw (b := 14) (s' := 4) X hB dX5_numberInBoxes_14 3 (Nat.le_of_ble_eq_true rfl) rfl k rfl (by omega) (Nat.le_of_ble_eq_true rfl) ?_
        refine v_bipush X dX5_numberInBoxes_15 (v := (-6 : Int32)) (by decide) ?_
        refine v_icmp_eq X dX5_numberInBoxes_17 (tgt := 23) (by decide) (fun c17 => ?_) (fun c17 => ?_)
        · skip
          refine v_iinc X dX5_numberInBoxes_23 (v := nI (k + 1)) rfl (ix_inc rfl) (Nat.le_of_ble_eq_true rfl) rfl ?_
          refine v_goto X dX5_numberInBoxes_26 (tgt := 4) (by decide) ?_
          exact V.cast (ih4 (k + 1) (by omega) (by omega)) (by simp only [nbx, if_pos c17]; rfl) (rfl) (rfl)
        · skip
          refine v_iinc X dX5_numberInBoxes_20 (v := ((nbx σ k) + (1))) rfl rfl (Nat.le_of_ble_eq_true rfl) rfl ?_
          refine v_iinc X dX5_numberInBoxes_23 (v := nI (k + 1)) rfl (ix_inc rfl) (Nat.le_of_ble_eq_true rfl) rfl ?_
          refine v_goto X dX5_numberInBoxes_26 (tgt := 4) (by decide) ?_
          exact V.cast (ih4 (k + 1) (by omega) (by omega)) (by simp only [nbx, if_neg c17]; rfl) (rfl) (rfl)
  exact LP4 _ 0 (Nat.zero_le _) (Nat.lt_succ_self _)
def stdB (σ σ2 : Nat → Int32) : Nat → Bool
  | 0 => true
  | k + 1 => stdB σ σ2 k && (decide (σ (14 + 4 * k) = σ2 (14 + 4 * k)) && decide (σ (15 + 4 * k) = σ2 (15 + 4 * k)))
theorem stdB_iff {σ σ2 : Nat → Int32} : ∀ {n : Nat}, stdB σ σ2 n = true ↔ ∀ i, i < n → σ (14 + 4 * i) = σ2 (14 + 4 * i) ∧ σ (15 + 4 * i) = σ2 (15 + 4 * i)
  | 0 => by simp [stdB]
  | n + 1 => by
    rw [stdB, Bool.and_eq_true, Bool.and_eq_true, decide_eq_true_eq, decide_eq_true_eq, stdB_iff]
    constructor
    · rintro ⟨h1, h2⟩ i hi
      rcases Nat.lt_succ_iff_lt_or_eq.mp hi with h | h
      · exact h1 i h
      · subst h; exact h2
    · intro h
      exact ⟨fun i hi => h i (by omega), h n (by omega)⟩
set_option maxRecDepth 100000 in
set_option maxHeartbeats 4000000 in
theorem c_X5_standAs (l : Launch) (g : Ge) (N o o2 : Nat) (σ σ2 : Nat → Int32) : Cb2 l g yX5_standAs (.code yX5_standAs cX5_standAs 3 (some .boolean)) 0 [.ref o, .ref o2] N o (shL g o σ) o2 (shL g o2 σ2) (some (.int (bI (stdB σ σ2 5 = true)))) (shL g o σ) := by
  intro f hB0 hO0
  have hB : BB g N o 5 := hB0
  have hO : OB g N f o 5 o2 5 (shL g o2 σ2) := hO0
  refine ct_of (own := RX5) [some (.ref o), some (.ref o2), none] (by decide +kernel) rfl rfl (Nat.le_of_ble_eq_true rfl) ?_
  intro vp ve vs vm va vb vt vc hnm X
  refine v_iconst X dX5_standAs_0 (v := (0 : Int32)) (by decide) ?_
  refine v_istore_n X dX5_standAs_1 (i := 2) rfl (Nat.le_of_ble_eq_true rfl) rfl ?_
  have LP2 : ∀ (n_ : Nat) (k : Nat), (k ≤ 5) → (∀ i, i < k → σ (14 + 4 * i) = σ2 (14 + 4 * i) ∧ σ (15 + 4 * i) = σ2 (15 + 4 * i)) → 5 - k < n_ → Vm vp l ve vs vm va vb vt vc g 0 3 N (some (.int (bI (stdB σ σ2 5 = true)))) (ovr f o (shL g o σ)) (ovr f o (shL g o σ)) 2 [some (.ref o), some (.ref o2), some (.int (nI k))] [] := by
    intro n_
    induction n_ with
    | zero => intro k hk hr hm_; exact absurd hm_ (Nat.not_lt_zero _)
    | succ n_ ih2 =>
      intro k hk hr hm2
      refine v_iload_n X dX5_standAs_2 (i := 2) rfl rfl ?_
      refine v_iconst X dX5_standAs_3 (v := (5 : Int32)) (by decide) ?_
      refine v_icmp_ge X dX5_standAs_4 (tgt := 45) (by decide) (fun c4 => ?_) (fun c4 => ?_)
      · skip
        have hk5 : k = 5 := Nat.le_antisymm hk (le_of_nI (a := 5) (by omega) (by omega) c4)
        refine v_iconst X dX5_standAs_45 (v := (1 : Int32)) (by decide) ?_
        exact v_zret X rfl dX5_standAs_46 (rfl) (congrArg (fun z => some (Value.int z)) (bI_t (stdB_iff.mpr (hk5 ▸ hr))).symm) (rfl)
      · skip
        have hk5 : k < 5 := lt_of_nI (b := 5) (by omega) (by omega) c4
        refine v_aload_n X dX5_standAs_7 (i := 0) rfl rfl ?_
        refine v_getB X hB cf5 2 (Nat.le_of_ble_eq_true rfl) m_fl_X5_18 dX5_standAs_8 0 (Nat.le_of_ble_eq_true rfl) rfl rfl ?_
        refine v_iload_n X dX5_standAs_11 (i := 2) rfl rfl ?_
        refine v_iald_vw (b := 14) (s' := 4) X hB dX5_standAs_12 3 (Nat.le_of_ble_eq_true rfl) rfl k rfl (by omega) (Nat.le_of_ble_eq_true rfl) ?_
        refine v_aload_n X dX5_standAs_13 (i := 1) rfl rfl ?_
        refine v_getO X hO rfl cf5 2 (Nat.le_of_ble_eq_true rfl) m_fl_X5_18 dX5_standAs_14 0 rfl rfl ?_
        refine v_iload_n X dX5_standAs_17 (i := 2) rfl rfl ?_
        refine v_ialdO (b := 14) (s' := 4) X hO rfl dX5_standAs_18 3 rfl k rfl (by omega) (Nat.le_of_ble_eq_true rfl) ?_
        refine v_icmp_ne X dX5_standAs_19 (tgt := 37) (by decide) (fun c19 => ?_) (fun c19 => ?_)
        · skip
          refine v_iconst X dX5_standAs_37 (v := (0 : Int32)) (by decide) ?_
          exact v_zret X rfl dX5_standAs_38 (rfl) (congrArg (fun z => some (Value.int z)) (bI_f (fun q => by first | exact c19 (stdB_iff.mp q k hk5).1 | exact c34 (stdB_iff.mp q k hk5).2)).symm) (rfl)
        · skip
          refine v_aload_n X dX5_standAs_22 (i := 0) rfl rfl ?_
          refine v_getB X hB cf5 3 (Nat.le_of_ble_eq_true rfl) m_fl_X5_21 dX5_standAs_23 0 (Nat.le_of_ble_eq_true rfl) rfl rfl ?_
          refine v_iload_n X dX5_standAs_26 (i := 2) rfl rfl ?_
          refine v_iald_vw (b := 15) (s' := 4) X hB dX5_standAs_27 4 (Nat.le_of_ble_eq_true rfl) rfl k rfl (by omega) (Nat.le_of_ble_eq_true rfl) ?_
          refine v_aload_n X dX5_standAs_28 (i := 1) rfl rfl ?_
          refine v_getO X hO rfl cf5 3 (Nat.le_of_ble_eq_true rfl) m_fl_X5_21 dX5_standAs_29 0 rfl rfl ?_
          refine v_iload_n X dX5_standAs_32 (i := 2) rfl rfl ?_
          refine v_ialdO (b := 15) (s' := 4) X hO rfl dX5_standAs_33 4 rfl k rfl (by omega) (Nat.le_of_ble_eq_true rfl) ?_
          refine v_icmp_eq X dX5_standAs_34 (tgt := 39) (by decide) (fun c34 => ?_) (fun c34 => ?_)
          · skip
            refine v_iinc X dX5_standAs_39 (v := nI (k + 1)) rfl (ix_inc rfl) (Nat.le_of_ble_eq_true rfl) rfl ?_
            refine v_goto X dX5_standAs_42 (tgt := 2) (by decide) ?_
            exact ih2 (k + 1) (by omega) (fun i hi => by rcases Nat.lt_succ_iff_lt_or_eq.mp hi with h | h; exact hr i h; subst h; exact ⟨c19, c34⟩) (by omega)
          · skip
            refine v_iconst X dX5_standAs_37 (v := (0 : Int32)) (by decide) ?_
            exact v_zret X rfl dX5_standAs_38 (rfl) (congrArg (fun z => some (Value.int z)) (bI_f (fun q => by first | exact c19 (stdB_iff.mp q k hk5).1 | exact c34 (stdB_iff.mp q k hk5).2)).symm) (rfl)
  exact LP2 _ 0 (Nat.zero_le _) (fun i hi => absurd hi (Nat.not_lt_zero i)) (Nat.lt_succ_self _)
set_option maxRecDepth 100000 in
set_option maxHeartbeats 4000000 in
theorem c_X5_copyFrom (l : Launch) (g : Ge) (N o o2 : Nat) (σ σ2 : Nat → Int32) : Cb2 l g yX5_copyFrom (.code yX5_copyFrom cX5_copyFrom 2 none) 1 [.ref o, .ref o2] N o (shL g o σ) o2 (shL g o2 σ2) none (shL g o σ2) := by
  intro f hB0 hO0
  have hB : BB g N o 5 := hB0
  have hO : OB g N f o 5 o2 5 (shL g o2 σ2) := hO0
  refine ct_of (own := RX5) [some (.ref o), some (.ref o2)] (by decide +kernel) rfl rfl (Nat.le_of_ble_eq_true rfl) ?_
  intro vp ve vs vm va vb vt vc hnm X
  refine v_aload_n X dX5_copyFrom_0 (i := 1) rfl rfl ?_
  refine v_getO X hO rfl cf5 0 (Nat.le_of_ble_eq_true rfl) m_fl_X5_9 dX5_copyFrom_1 0 rfl rfl ?_
  refine v_iconst X dX5_copyFrom_4 (v := (0 : Int32)) (by decide) ?_
  refine v_aload_n X dX5_copyFrom_5 (i := 0) rfl rfl ?_
  refine v_getB X hB cf5 0 (Nat.le_of_ble_eq_true rfl) m_fl_X5_9 dX5_copyFrom_6 0 (Nat.le_of_ble_eq_true rfl) rfl rfl ?_
  refine v_iconst X dX5_copyFrom_9 (v := (0 : Int32)) (by decide) ?_
  refine v_iconst X dX5_copyFrom_10 (v := (5 : Int32)) (by decide) ?_
  refine v_copyW (n := 5) (b := 12) (s' := 4) X hO rfl hB m_ml_X5_24 rfl rfl rfl (Nat.le_of_ble_eq_true rfl) 1 rfl 1 (Nat.le_of_ble_eq_true rfl) rfl (L' := _) (rfl) (Nat.le_of_ble_eq_true rfl) ⟨Nat.le_of_ble_eq_true rfl, Nat.le_of_ble_eq_true rfl⟩ dX5_copyFrom_11 ?_
  refine v_aload_n X dX5_copyFrom_14 (i := 1) rfl rfl ?_
  refine v_getO X hO rfl cf5 1 (Nat.le_of_ble_eq_true rfl) m_fl_X5_15 dX5_copyFrom_15 0 rfl rfl ?_
  refine v_iconst X dX5_copyFrom_18 (v := (0 : Int32)) (by decide) ?_
  refine v_aload_n X dX5_copyFrom_19 (i := 0) rfl rfl ?_
  refine v_getB X hB cf5 1 (Nat.le_of_ble_eq_true rfl) m_fl_X5_15 dX5_copyFrom_20 0 (Nat.le_of_ble_eq_true rfl) rfl rfl ?_
  refine v_iconst X dX5_copyFrom_23 (v := (0 : Int32)) (by decide) ?_
  refine v_iconst X dX5_copyFrom_24 (v := (5 : Int32)) (by decide) ?_
  refine v_copyW (n := 5) (b := 13) (s' := 4) X hO rfl hB m_ml_X5_24 rfl rfl rfl (Nat.le_of_ble_eq_true rfl) 2 rfl 2 (Nat.le_of_ble_eq_true rfl) rfl (L' := _) (rfl) (Nat.le_of_ble_eq_true rfl) ⟨Nat.le_of_ble_eq_true rfl, Nat.le_of_ble_eq_true rfl⟩ dX5_copyFrom_25 ?_
  refine v_aload_n X dX5_copyFrom_28 (i := 1) rfl rfl ?_
  refine v_getO X hO rfl cf5 2 (Nat.le_of_ble_eq_true rfl) m_fl_X5_18 dX5_copyFrom_29 0 rfl rfl ?_
  refine v_iconst X dX5_copyFrom_32 (v := (0 : Int32)) (by decide) ?_
  refine v_aload_n X dX5_copyFrom_33 (i := 0) rfl rfl ?_
  refine v_getB X hB cf5 2 (Nat.le_of_ble_eq_true rfl) m_fl_X5_18 dX5_copyFrom_34 0 (Nat.le_of_ble_eq_true rfl) rfl rfl ?_
  refine v_iconst X dX5_copyFrom_37 (v := (0 : Int32)) (by decide) ?_
  refine v_iconst X dX5_copyFrom_38 (v := (5 : Int32)) (by decide) ?_
  refine v_copyW (n := 5) (b := 14) (s' := 4) X hO rfl hB m_ml_X5_24 rfl rfl rfl (Nat.le_of_ble_eq_true rfl) 3 rfl 3 (Nat.le_of_ble_eq_true rfl) rfl (L' := _) (rfl) (Nat.le_of_ble_eq_true rfl) ⟨Nat.le_of_ble_eq_true rfl, Nat.le_of_ble_eq_true rfl⟩ dX5_copyFrom_39 ?_
  refine v_aload_n X dX5_copyFrom_42 (i := 1) rfl rfl ?_
  refine v_getO X hO rfl cf5 3 (Nat.le_of_ble_eq_true rfl) m_fl_X5_21 dX5_copyFrom_43 0 rfl rfl ?_
  refine v_iconst X dX5_copyFrom_46 (v := (0 : Int32)) (by decide) ?_
  refine v_aload_n X dX5_copyFrom_47 (i := 0) rfl rfl ?_
  refine v_getB X hB cf5 3 (Nat.le_of_ble_eq_true rfl) m_fl_X5_21 dX5_copyFrom_48 0 (Nat.le_of_ble_eq_true rfl) rfl rfl ?_
  refine v_iconst X dX5_copyFrom_51 (v := (0 : Int32)) (by decide) ?_
  refine v_iconst X dX5_copyFrom_52 (v := (5 : Int32)) (by decide) ?_
  refine v_copyW (n := 5) (b := 15) (s' := 4) X hO rfl hB m_ml_X5_24 rfl rfl rfl (Nat.le_of_ble_eq_true rfl) 4 rfl 4 (Nat.le_of_ble_eq_true rfl) rfl (L' := _) (rfl) (Nat.le_of_ble_eq_true rfl) ⟨Nat.le_of_ble_eq_true rfl, Nat.le_of_ble_eq_true rfl⟩ dX5_copyFrom_53 ?_
  exact v_vret X rfl dX5_copyFrom_56 (rfl) (rfl)
