/-! the model class: the asks -/
def ofT (μ : Nat → Int32) (k w : Nat) : Int32 := if w < 2 then μ (32 + w + 2 * k) else (μ 5 >>> (μ (32 + 2 * k) &&& 31)) &&& 1
def ofC (μ : Nat → Int32) (k w : Nat) : Int32 := if w < 3 then μ (56 + w + 3 * k) else thS μ (μ (56 + 3 * k)) 12
def thM (μ : Nat → Int32) (v w : Int32) : Int32 := if (0 : Int32) ≤ v ∧ v ≤ (11 : Int32) then (if (0 : Int32) ≤ w ∧ w ≤ (2 : Int32) then ofT μ (nt v) (nt w) else -2) else -1
def cdM (μ : Nat → Int32) (v w : Int32) : Int32 := if (0 : Int32) ≤ v ∧ v < μ 0 ∧ v < 16 then (if (0 : Int32) ≤ w ∧ w ≤ (3 : Int32) then ofC μ (nt v) (nt w) else -2) else -1
def shM (μ : Nat → Int32) (r : Nat) (t : Int32) : Int32 := if (μ (105 + 9 * r) >>> (t &&& 31)) &&& 1 = 1 then 100 + t else μ (104 + 9 * r)
def clM (μ : Nat → Int32) (v t : Int32) : Int32 := if (0 : Int32) ≤ v ∧ v ≤ μ 7 - 1 then (if (0 : Int32) ≤ t ∧ t ≤ (11 : Int32) then shM μ (nt v) t else -1) else -1
set_option maxRecDepth 100000 in
set_option maxHeartbeats 4000000 in
theorem c_X8_count (l : Launch) (g : Ge) (N o : Nat) (μ kp hs tx ι : Nat → Int32) (v : Int32) : Cb l g yX8_count (.code yX8_count cX8_count 2 (some .int)) 1 [.ref o, .int v] N o (mdL g o μ kp hs tx ι) (some (.int (cnF μ v))) (mdL g o μ kp hs tx ι) := by
  intro f hB0
  have hB : BB g N o 5 := hB0
  refine ct_of (own := RX8) [some (.ref o), some (.int v)] (by decide +kernel) rfl rfl (Nat.le_of_ble_eq_true rfl) ?_
  intro vp ve vs vm va vb vt vc hnm X
  refine v_iload_n X dX8_count_0 (i := 1) rfl rfl ?_
  refine v_iconst X dX8_count_1 (v := (0 : Int32)) (by decide) ?_
  refine v_bipush X dX8_count_2 (v := (11 : Int32)) (by decide) ?_
  refine v_cs X rfl yv_X8_within m_ml_X8_40 (c_X8_within l g v (0 : Int32) (11 : Int32) ) rfl rfl (Nat.le_of_ble_eq_true rfl) ⟨Nat.le_of_ble_eq_true rfl, Nat.le_of_ble_eq_true rfl⟩ ⟨Nat.le_of_ble_eq_true rfl, Nat.le_of_ble_eq_true rfl⟩ dX8_count_4 rfl ?_
  refine v_if_eqB X dX8_count_7 (tgt := 19) (by decide) (fun c7 => ?_) (fun c7 => ?_)
  · skip
    refine v_bipush X dX8_count_19 (v := (-2 : Int32)) (by decide) ?_
    exact v_iret X rfl dX8_count_21 (by rw [cnF, if_neg c7]) (rfl)
  · skip
    obtain ⟨k, hk, rfl⟩ := nI_cases (n := 11) (by omega) c7.1 c7.2
    have hkk : nt (nI k) = k := nt_nI (by omega)
    refine v_aload_n X dX8_count_10 (i := 0) rfl rfl ?_
    refine v_getB X hB cf8 0 (Nat.le_of_ble_eq_true rfl) m_fl_X8_7 dX8_count_11 0 (Nat.le_of_ble_eq_true rfl) rfl rfl ?_
    refine v_iload_n X dX8_count_14 (i := 1) rfl rfl ?_
    refine v_ialdB X hB dX8_count_15 1 (Nat.le_of_ble_eq_true rfl) rfl k rfl (by omega) (Nat.le_of_ble_eq_true rfl) ?_
    refine v_goto X dX8_count_16 (tgt := 21) (by decide) ?_
    exact v_iret X rfl dX8_count_21 (by rw [cnF, if_pos c7, hkk]) (rfl)
set_option maxRecDepth 100000 in
set_option maxHeartbeats 4000000 in
theorem c_X8_shuttle (l : Launch) (g : Ge) (N o : Nat) (μ kp hs tx ι : Nat → Int32) (v w : Int32) : Cb l g yX8_shuttle (.code yX8_shuttle cX8_shuttle 3 (some .int)) 2 [.ref o, .int v, .int w] N o (mdL g o μ kp hs tx ι) (some (.int (shF μ v w))) (mdL g o μ kp hs tx ι) := by
  intro f hB0
  have hB : BB g N o 5 := hB0
  refine ct_of (own := RX8) [some (.ref o), some (.int v), some (.int w)] (by decide +kernel) rfl rfl (Nat.le_of_ble_eq_true rfl) ?_
  intro vp ve vs vm va vb vt vc hnm X
  refine v_iload_n X dX8_shuttle_0 (i := 1) rfl rfl ?_
  refine v_cs X rfl yv_X8_isShuttle m_ml_X8_92 (c_X8_isShuttle l g v ) rfl rfl (Nat.le_of_ble_eq_true rfl) ⟨Nat.le_of_ble_eq_true rfl, Nat.le_of_ble_eq_true rfl⟩ ⟨Nat.le_of_ble_eq_true rfl, Nat.le_of_ble_eq_true rfl⟩ dX8_shuttle_1 rfl ?_
  refine v_if_neB X dX8_shuttle_4 (tgt := 9) (by decide) (fun c4 => ?_) (fun c4 => ?_)
  · skip
    obtain ⟨k, hk, rfl⟩ := nI_cases (n := 4) (by omega) c4.1 c4.2
    have hkk : nt (nI k) = k := nt_nI (by omega)
    refine v_iload_n X dX8_shuttle_9 (i := 2) rfl rfl ?_
    refine v_iconst X dX8_shuttle_10 (v := (0 : Int32)) (by decide) ?_
    refine v_iconst X dX8_shuttle_11 (v := (3 : Int32)) (by decide) ?_
    refine v_cs X rfl yv_X8_within m_ml_X8_40 (c_X8_within l g w (0 : Int32) (3 : Int32) ) rfl rfl (Nat.le_of_ble_eq_true rfl) ⟨Nat.le_of_ble_eq_true rfl, Nat.le_of_ble_eq_true rfl⟩ ⟨Nat.le_of_ble_eq_true rfl, Nat.le_of_ble_eq_true rfl⟩ dX8_shuttle_12 rfl ?_
    refine v_if_eqB X dX8_shuttle_15 (tgt := 27) (by decide) (fun c15 => ?_) (fun c15 => ?_)
    · skip
      refine v_bipush X dX8_shuttle_27 (v := (-2 : Int32)) (by decide) ?_
      exact v_iret X rfl dX8_shuttle_29 (by rw [shF, if_pos c4, if_neg c15]) (rfl)
    · skip
      obtain ⟨w9, hw9, rfl⟩ := nI_cases (n := 3) (by omega) c15.1 c15.2
      have hww : nt (nI w9) = w9 := nt_nI (by omega)
      refine v_aload_n X dX8_shuttle_18 (i := 0) rfl rfl ?_
      refine v_iload_n X dX8_shuttle_19 (i := 1) rfl rfl ?_
      refine v_iload_n X dX8_shuttle_20 (i := 2) rfl rfl ?_
      refine v_cvB X rfl yv_X8_shuttlePart m_ml_X8_44 0 0 (c_X8_shuttlePart l g N o (nI k) k rfl (nI w9) w9 rfl μ kp hs tx ι hk hw9) hB (Nat.le_of_ble_eq_true rfl) rfl (Nat.le_of_ble_eq_true rfl) rfl (L' := (mdL g o μ kp hs tx ι)) (rfl) rfl (Nat.le_of_ble_eq_true rfl) rfl rfl (Nat.le_of_ble_eq_true rfl) ⟨Nat.le_of_ble_eq_true rfl, Nat.le_of_ble_eq_true rfl⟩ ⟨Nat.le_of_ble_eq_true rfl, Nat.le_of_ble_eq_true rfl⟩ dX8_shuttle_21 rfl ?_
      refine v_goto X dX8_shuttle_24 (tgt := 29) (by decide) ?_
      exact v_iret X rfl dX8_shuttle_29 (by rw [shF, if_pos c4, if_pos c15, hkk, hww, show 12 + 4 * k + w9 = 12 + w9 + 4 * k by omega]) (rfl)
  · skip
    refine v_iconst X dX8_shuttle_7 (v := (-1 : Int32)) (by decide) ?_
    exact v_iret X rfl dX8_shuttle_8 (by rw [shF, if_neg c4]) (rfl)
set_option maxRecDepth 100000 in
set_option maxHeartbeats 4000000 in
theorem c_X8_inBox (l : Launch) (g : Ge) (N o : Nat) (μ kp hs tx ι : Nat → Int32) (a b : Int32) (hU : UN μ) : Cb l g yX8_inBox (.code yX8_inBox cX8_inBox 3 (some .int)) 2 [.ref o, .int a, .int b] N o (mdL g o μ kp hs tx ι) (some (.int (ibF μ a b))) (mdL g o μ kp hs tx ι) := by
  intro f hB0
  have hB : BB g N o 5 := hB0
  refine ct_of (own := RX8) [some (.ref o), some (.int a), some (.int b)] (by decide +kernel) rfl rfl (Nat.le_of_ble_eq_true rfl) ?_
  intro vp ve vs vm va vb vt vc hnm X
  refine v_iload_n X dX8_inBox_0 (i := 1) rfl rfl ?_
  refine v_iload_n X dX8_inBox_1 (i := 2) rfl rfl ?_
  refine v_cs X rfl yv_X8_isBox m_ml_X8_95 (c_X8_isBox l g a b ) rfl rfl (Nat.le_of_ble_eq_true rfl) ⟨Nat.le_of_ble_eq_true rfl, Nat.le_of_ble_eq_true rfl⟩ ⟨Nat.le_of_ble_eq_true rfl, Nat.le_of_ble_eq_true rfl⟩ dX8_inBox_2 rfl ?_
  refine v_if_eqB X dX8_inBox_5 (tgt := 17) (by decide) (fun c5 => ?_) (fun c5 => ?_)
  · skip
    refine v_iconst X dX8_inBox_17 (v := (-1 : Int32)) (by decide) ?_
    exact v_iret X rfl dX8_inBox_18 (by rw [ibF, if_neg c5]) (rfl)
  · skip
    refine v_aload_n X dX8_inBox_8 (i := 0) rfl rfl ?_
    refine v_iload_n X dX8_inBox_9 (i := 1) rfl rfl ?_
    refine v_iload_n X dX8_inBox_10 (i := 2) rfl rfl ?_
    refine v_cvB X rfl yv_X8_shuttleIn m_ml_X8_60 0 0 (c_X8_shuttleIn l g N o μ kp hs tx ι a b (lst_fnd hU (by rcases c5 with q | q <;> rw [q.1] <;> decide))) hB (Nat.le_of_ble_eq_true rfl) rfl (Nat.le_of_ble_eq_true rfl) rfl (L' := (mdL g o μ kp hs tx ι)) (rfl) rfl (Nat.le_of_ble_eq_true rfl) rfl rfl (Nat.le_of_ble_eq_true rfl) ⟨Nat.le_of_ble_eq_true rfl, Nat.le_of_ble_eq_true rfl⟩ ⟨Nat.le_of_ble_eq_true rfl, Nat.le_of_ble_eq_true rfl⟩ dX8_inBox_11 rfl ?_
    refine v_goto X dX8_inBox_14 (tgt := 18) (by decide) ?_
    exact v_iret X rfl dX8_inBox_18 (by rw [ibF, if_pos c5]) (rfl)
set_option maxRecDepth 100000 in
set_option maxHeartbeats 4000000 in
theorem c_X8_ofThread (l : Launch) (g : Ge) (N o : Nat) (x_k : Int32) (k : Nat) (hx_k : x_k = nI k) (x_w : Int32) (w : Nat) (hx_w : x_w = nI w) (μ kp hs tx ι : Nat → Int32) (hk : k < 12) (hw : w < 3) : Cb l g yX8_ofThread (.code yX8_ofThread cX8_ofThread 3 (some .int)) 1 [.ref o, .int x_k, .int x_w] N o (mdL g o μ kp hs tx ι) (some (.int (ofT μ k w))) (mdL g o μ kp hs tx ι) := by
  intro f hB0
  have hB : BB g N o 5 := hB0
  subst hx_k
  subst hx_w
  refine ct_of (own := RX8) [some (.ref o), some (.int (nI k)), some (.int (nI w))] (by decide +kernel) rfl rfl (Nat.le_of_ble_eq_true rfl) ?_
  intro vp ve vs vm va vb vt vc hnm X
  refine v_iload_n X dX8_ofThread_0 (i := 2) rfl rfl ?_
  refine v_iconst X dX8_ofThread_1 (v := (2 : Int32)) (by decide) ?_
  refine v_icmp_ge X dX8_ofThread_2 (tgt := 14) (by decide) (fun c2 => ?_) (fun c2 => ?_)
  · skip
    have hw2 : ¬ w < 2 := Nat.not_lt.mpr (le_of_nI (a := 2) (by omega) (by omega) c2)
    refine v_aload_n X dX8_ofThread_14 (i := 0) rfl rfl ?_
    refine v_getB X hB cf8 0 (Nat.le_of_ble_eq_true rfl) m_fl_X8_7 dX8_ofThread_15 0 (Nat.le_of_ble_eq_true rfl) rfl rfl ?_
    refine v_iconst X dX8_ofThread_18 (v := (5 : Int32)) (by decide) ?_
    refine v_ialdB X hB dX8_ofThread_19 1 (Nat.le_of_ble_eq_true rfl) rfl 5 rfl (by omega) (Nat.le_of_ble_eq_true rfl) ?_
    refine v_aload_n X dX8_ofThread_20 (i := 0) rfl rfl ?_
    refine v_iload_n X dX8_ofThread_21 (i := 1) rfl rfl ?_
    refine v_iconst X dX8_ofThread_22 (v := (0 : Int32)) (by decide) ?_
    refine v_cvB X rfl yv_X8_threadPart m_ml_X8_48 0 0 (c_X8_threadPart l g N o (nI k) k rfl (0 : Int32) 0 rfl μ kp hs tx ι hk (by omega)) hB (Nat.le_of_ble_eq_true rfl) rfl (Nat.le_of_ble_eq_true rfl) rfl (L' := (mdL g o μ kp hs tx ι)) (rfl) rfl (Nat.le_of_ble_eq_true rfl) rfl rfl (Nat.le_of_ble_eq_true rfl) ⟨Nat.le_of_ble_eq_true rfl, Nat.le_of_ble_eq_true rfl⟩ ⟨Nat.le_of_ble_eq_true rfl, Nat.le_of_ble_eq_true rfl⟩ dX8_ofThread_23 rfl ?_
    refine v_ishr X dX8_ofThread_26 ?_
    refine v_iconst X dX8_ofThread_27 (v := (1 : Int32)) (by decide) ?_
    refine v_iand X dX8_ofThread_28 ?_
    exact v_iret X rfl dX8_ofThread_29 (by rw [ofT, if_neg hw2]) (rfl)
  · skip
    have hw2 : w < 2 := lt_of_nI (b := 2) (by omega) (by omega) c2
    refine v_aload_n X dX8_ofThread_5 (i := 0) rfl rfl ?_
    refine v_iload_n X dX8_ofThread_6 (i := 1) rfl rfl ?_
    refine v_iload_n X dX8_ofThread_7 (i := 2) rfl rfl ?_
    refine v_cvB X rfl yv_X8_threadPart m_ml_X8_48 0 0 (c_X8_threadPart l g N o (nI k) k rfl (nI w) w rfl μ kp hs tx ι hk hw2) hB (Nat.le_of_ble_eq_true rfl) rfl (Nat.le_of_ble_eq_true rfl) rfl (L' := (mdL g o μ kp hs tx ι)) (rfl) rfl (Nat.le_of_ble_eq_true rfl) rfl rfl (Nat.le_of_ble_eq_true rfl) ⟨Nat.le_of_ble_eq_true rfl, Nat.le_of_ble_eq_true rfl⟩ ⟨Nat.le_of_ble_eq_true rfl, Nat.le_of_ble_eq_true rfl⟩ dX8_ofThread_8 rfl ?_
    refine v_goto X dX8_ofThread_11 (tgt := 29) (by decide) ?_
    exact v_iret X rfl dX8_ofThread_29 (by rw [ofT, if_pos hw2]) (rfl)
set_option maxRecDepth 100000 in
set_option maxHeartbeats 4000000 in
theorem c_X8_thread (l : Launch) (g : Ge) (N o : Nat) (μ kp hs tx ι : Nat → Int32) (v w : Int32) : Cb l g yX8_thread (.code yX8_thread cX8_thread 3 (some .int)) 2 [.ref o, .int v, .int w] N o (mdL g o μ kp hs tx ι) (some (.int (thM μ v w))) (mdL g o μ kp hs tx ι) := by
  intro f hB0
  have hB : BB g N o 5 := hB0
  refine ct_of (own := RX8) [some (.ref o), some (.int v), some (.int w)] (by decide +kernel) rfl rfl (Nat.le_of_ble_eq_true rfl) ?_
  intro vp ve vs vm va vb vt vc hnm X
  refine v_iload_n X dX8_thread_0 (i := 1) rfl rfl ?_
  refine v_cs X rfl yv_X8_isThread m_ml_X8_108 (c_X8_isThread l g v ) rfl rfl (Nat.le_of_ble_eq_true rfl) ⟨Nat.le_of_ble_eq_true rfl, Nat.le_of_ble_eq_true rfl⟩ ⟨Nat.le_of_ble_eq_true rfl, Nat.le_of_ble_eq_true rfl⟩ dX8_thread_1 rfl ?_
  refine v_if_neB X dX8_thread_4 (tgt := 9) (by decide) (fun c4 => ?_) (fun c4 => ?_)
  · skip
    obtain ⟨k, hk, rfl⟩ := nI_cases (n := 11) (by omega) c4.1 c4.2
    have hkk : nt (nI k) = k := nt_nI (by omega)
    refine v_iload_n X dX8_thread_9 (i := 2) rfl rfl ?_
    refine v_iconst X dX8_thread_10 (v := (0 : Int32)) (by decide) ?_
    refine v_iconst X dX8_thread_11 (v := (2 : Int32)) (by decide) ?_
    refine v_cs X rfl yv_X8_within m_ml_X8_40 (c_X8_within l g w (0 : Int32) (2 : Int32) ) rfl rfl (Nat.le_of_ble_eq_true rfl) ⟨Nat.le_of_ble_eq_true rfl, Nat.le_of_ble_eq_true rfl⟩ ⟨Nat.le_of_ble_eq_true rfl, Nat.le_of_ble_eq_true rfl⟩ dX8_thread_12 rfl ?_
    refine v_if_eqB X dX8_thread_15 (tgt := 27) (by decide) (fun c15 => ?_) (fun c15 => ?_)
    · skip
      refine v_bipush X dX8_thread_27 (v := (-2 : Int32)) (by decide) ?_
      exact v_iret X rfl dX8_thread_29 (by rw [thM, if_pos c4, if_neg c15]) (rfl)
    · skip
      obtain ⟨w9, hw9, rfl⟩ := nI_cases (n := 2) (by omega) c15.1 c15.2
      have hww : nt (nI w9) = w9 := nt_nI (by omega)
      refine v_aload_n X dX8_thread_18 (i := 0) rfl rfl ?_
      refine v_iload_n X dX8_thread_19 (i := 1) rfl rfl ?_
      refine v_iload_n X dX8_thread_20 (i := 2) rfl rfl ?_
      refine v_cvB X rfl yv_X8_ofThread m_ml_X8_117 0 0 (c_X8_ofThread l g N o (nI k) k rfl (nI w9) w9 rfl μ kp hs tx ι hk hw9) hB (Nat.le_of_ble_eq_true rfl) rfl (Nat.le_of_ble_eq_true rfl) rfl (L' := (mdL g o μ kp hs tx ι)) (rfl) rfl (Nat.le_of_ble_eq_true rfl) rfl rfl (Nat.le_of_ble_eq_true rfl) ⟨Nat.le_of_ble_eq_true rfl, Nat.le_of_ble_eq_true rfl⟩ ⟨Nat.le_of_ble_eq_true rfl, Nat.le_of_ble_eq_true rfl⟩ dX8_thread_21 rfl ?_
      refine v_goto X dX8_thread_24 (tgt := 29) (by decide) ?_
      exact v_iret X rfl dX8_thread_29 (by rw [thM, if_pos c4, if_pos c15, hkk, hww]) (rfl)
  · skip
    refine v_iconst X dX8_thread_7 (v := (-1 : Int32)) (by decide) ?_
    exact v_iret X rfl dX8_thread_8 (by rw [thM, if_neg c4]) (rfl)
set_option maxRecDepth 100000 in
set_option maxHeartbeats 4000000 in
theorem c_X8_ofCard (l : Launch) (g : Ge) (N o : Nat) (x_k : Int32) (k : Nat) (hx_k : x_k = nI k) (x_w : Int32) (w : Nat) (hx_w : x_w = nI w) (μ kp hs tx ι : Nat → Int32) (hk : k < 16) (hw : w < 4) : Cb l g yX8_ofCard (.code yX8_ofCard cX8_ofCard 3 (some .int)) 2 [.ref o, .int x_k, .int x_w] N o (mdL g o μ kp hs tx ι) (some (.int (ofC μ k w))) (mdL g o μ kp hs tx ι) := by
  intro f hB0
  have hB : BB g N o 5 := hB0
  subst hx_k
  subst hx_w
  refine ct_of (own := RX8) [some (.ref o), some (.int (nI k)), some (.int (nI w))] (by decide +kernel) rfl rfl (Nat.le_of_ble_eq_true rfl) ?_
  intro vp ve vs vm va vb vt vc hnm X
  refine v_iload_n X dX8_ofCard_0 (i := 2) rfl rfl ?_
  refine v_iconst X dX8_ofCard_1 (v := (3 : Int32)) (by decide) ?_
  refine v_icmp_ge X dX8_ofCard_2 (tgt := 14) (by decide) (fun c2 => ?_) (fun c2 => ?_)
  · skip
    have hw2 : ¬ w < 3 := Nat.not_lt.mpr (le_of_nI (a := 3) (by omega) (by omega) c2)
    refine v_aload_n X dX8_ofCard_14 (i := 0) rfl rfl ?_
    refine v_aload_n X dX8_ofCard_15 (i := 0) rfl rfl ?_
    refine v_iload_n X dX8_ofCard_16 (i := 1) rfl rfl ?_
    refine v_iconst X dX8_ofCard_17 (v := (0 : Int32)) (by decide) ?_
    refine v_cvB X rfl yv_X8_cardPart m_ml_X8_51 0 0 (c_X8_cardPart l g N o (nI k) k rfl (0 : Int32) 0 rfl μ kp hs tx ι hk (by omega)) hB (Nat.le_of_ble_eq_true rfl) rfl (Nat.le_of_ble_eq_true rfl) rfl (L' := (mdL g o μ kp hs tx ι)) (rfl) rfl (Nat.le_of_ble_eq_true rfl) rfl rfl (Nat.le_of_ble_eq_true rfl) ⟨Nat.le_of_ble_eq_true rfl, Nat.le_of_ble_eq_true rfl⟩ ⟨Nat.le_of_ble_eq_true rfl, Nat.le_of_ble_eq_true rfl⟩ dX8_ofCard_18 rfl ?_
    refine v_cvB X rfl yv_X8_threadsOf m_ml_X8_75 0 0 (c_X8_threadsOf l g N o μ kp hs tx ι (μ (56 + 3 * k)) ) hB (Nat.le_of_ble_eq_true rfl) rfl (Nat.le_of_ble_eq_true rfl) rfl (L' := (mdL g o μ kp hs tx ι)) (rfl) rfl (Nat.le_of_ble_eq_true rfl) rfl rfl (Nat.le_of_ble_eq_true rfl) ⟨Nat.le_of_ble_eq_true rfl, Nat.le_of_ble_eq_true rfl⟩ ⟨Nat.le_of_ble_eq_true rfl, Nat.le_of_ble_eq_true rfl⟩ dX8_ofCard_21 rfl ?_
    exact v_iret X rfl dX8_ofCard_24 (by rw [ofC, if_neg hw2]) (rfl)
  · skip
    have hw2 : w < 3 := lt_of_nI (b := 3) (by omega) (by omega) c2
    refine v_aload_n X dX8_ofCard_5 (i := 0) rfl rfl ?_
    refine v_iload_n X dX8_ofCard_6 (i := 1) rfl rfl ?_
    refine v_iload_n X dX8_ofCard_7 (i := 2) rfl rfl ?_
    refine v_cvB X rfl yv_X8_cardPart m_ml_X8_51 0 0 (c_X8_cardPart l g N o (nI k) k rfl (nI w) w rfl μ kp hs tx ι hk hw2) hB (Nat.le_of_ble_eq_true rfl) rfl (Nat.le_of_ble_eq_true rfl) rfl (L' := (mdL g o μ kp hs tx ι)) (rfl) rfl (Nat.le_of_ble_eq_true rfl) rfl rfl (Nat.le_of_ble_eq_true rfl) ⟨Nat.le_of_ble_eq_true rfl, Nat.le_of_ble_eq_true rfl⟩ ⟨Nat.le_of_ble_eq_true rfl, Nat.le_of_ble_eq_true rfl⟩ dX8_ofCard_8 rfl ?_
    refine v_goto X dX8_ofCard_11 (tgt := 24) (by decide) ?_
    exact v_iret X rfl dX8_ofCard_24 (by rw [ofC, if_pos hw2]) (rfl)
set_option maxRecDepth 100000 in
set_option maxHeartbeats 4000000 in
theorem c_X8_card (l : Launch) (g : Ge) (N o : Nat) (μ kp hs tx ι : Nat → Int32) (v w : Int32) (C : Nat) (hC : μ 0 = nI C) (hC16 : C ≤ 16) : Cb l g yX8_card (.code yX8_card cX8_card 3 (some .int)) 3 [.ref o, .int v, .int w] N o (mdL g o μ kp hs tx ι) (some (.int (cdM μ v w))) (mdL g o μ kp hs tx ι) := by
  intro f hB0
  have hB : BB g N o 5 := hB0
  refine ct_of (own := RX8) [some (.ref o), some (.int v), some (.int w)] (by decide +kernel) rfl rfl (Nat.le_of_ble_eq_true rfl) ?_
  intro vp ve vs vm va vb vt vc hnm X
  refine v_aload_n X dX8_card_0 (i := 0) rfl rfl ?_
  refine v_iload_n X dX8_card_1 (i := 1) rfl rfl ?_
  refine v_cvB X rfl yv_X8_isCard m_ml_X8_114 0 0 (c_X8_isCard l g N o μ kp hs tx ι v C hC hC16) hB (Nat.le_of_ble_eq_true rfl) rfl (Nat.le_of_ble_eq_true rfl) rfl (L' := (mdL g o μ kp hs tx ι)) (rfl) rfl (Nat.le_of_ble_eq_true rfl) rfl rfl (Nat.le_of_ble_eq_true rfl) ⟨Nat.le_of_ble_eq_true rfl, Nat.le_of_ble_eq_true rfl⟩ ⟨Nat.le_of_ble_eq_true rfl, Nat.le_of_ble_eq_true rfl⟩ dX8_card_2 rfl ?_
  refine v_if_neB X dX8_card_5 (tgt := 10) (by decide) (fun c5 => ?_) (fun c5 => ?_)
  · skip
    obtain ⟨k, hk, rfl⟩ := of_has hC hC16 c5
    have hkk : nt (nI k) = k := nt_nI (by omega)
    refine v_iload_n X dX8_card_10 (i := 2) rfl rfl ?_
    refine v_iconst X dX8_card_11 (v := (0 : Int32)) (by decide) ?_
    refine v_iconst X dX8_card_12 (v := (3 : Int32)) (by decide) ?_
    refine v_cs X rfl yv_X8_within m_ml_X8_40 (c_X8_within l g w (0 : Int32) (3 : Int32) ) rfl rfl (Nat.le_of_ble_eq_true rfl) ⟨Nat.le_of_ble_eq_true rfl, Nat.le_of_ble_eq_true rfl⟩ ⟨Nat.le_of_ble_eq_true rfl, Nat.le_of_ble_eq_true rfl⟩ dX8_card_13 rfl ?_
    refine v_if_eqB X dX8_card_16 (tgt := 28) (by decide) (fun c16 => ?_) (fun c16 => ?_)
    · skip
      refine v_bipush X dX8_card_28 (v := (-2 : Int32)) (by decide) ?_
      exact v_iret X rfl dX8_card_30 (by rw [cdM, if_pos c5, if_neg c16]) (rfl)
    · skip
      obtain ⟨w9, hw9, rfl⟩ := nI_cases (n := 3) (by omega) c16.1 c16.2
      have hww : nt (nI w9) = w9 := nt_nI (by omega)
      refine v_aload_n X dX8_card_19 (i := 0) rfl rfl ?_
      refine v_iload_n X dX8_card_20 (i := 1) rfl rfl ?_
      refine v_iload_n X dX8_card_21 (i := 2) rfl rfl ?_
      refine v_cvB X rfl yv_X8_ofCard m_ml_X8_120 0 0 (c_X8_ofCard l g N o (nI k) k rfl (nI w9) w9 rfl μ kp hs tx ι (by omega) hw9) hB (Nat.le_of_ble_eq_true rfl) rfl (Nat.le_of_ble_eq_true rfl) rfl (L' := (mdL g o μ kp hs tx ι)) (rfl) rfl (Nat.le_of_ble_eq_true rfl) rfl rfl (Nat.le_of_ble_eq_true rfl) ⟨Nat.le_of_ble_eq_true rfl, Nat.le_of_ble_eq_true rfl⟩ ⟨Nat.le_of_ble_eq_true rfl, Nat.le_of_ble_eq_true rfl⟩ dX8_card_22 rfl ?_
      refine v_goto X dX8_card_25 (tgt := 30) (by decide) ?_
      exact v_iret X rfl dX8_card_30 (by rw [cdM, if_pos c5, if_pos c16, hkk, hww]) (rfl)
  · skip
    refine v_iconst X dX8_card_8 (v := (-1 : Int32)) (by decide) ?_
    exact v_iret X rfl dX8_card_9 (by rw [cdM, if_neg c5]) (rfl)
set_option maxRecDepth 100000 in
set_option maxHeartbeats 4000000 in
theorem c_X8_shown (l : Launch) (g : Ge) (N o : Nat) (x_r : Int32) (r : Nat) (hx_r : x_r = nI r) (μ kp hs tx ι : Nat → Int32) (t : Int32) (hr : r < 20) : Cb l g yX8_shown (.code yX8_shown cX8_shown 3 (some .int)) 1 [.ref o, .int x_r, .int t] N o (mdL g o μ kp hs tx ι) (some (.int (shM μ r t))) (mdL g o μ kp hs tx ι) := by
  intro f hB0
  have hB : BB g N o 5 := hB0
  subst hx_r
  refine ct_of (own := RX8) [some (.ref o), some (.int (nI r)), some (.int t)] (by decide +kernel) rfl rfl (Nat.le_of_ble_eq_true rfl) ?_
  intro vp ve vs vm va vb vt vc hnm X
  refine v_aload_n X dX8_shown_0 (i := 0) rfl rfl ?_
  refine v_iload_n X dX8_shown_1 (i := 1) rfl rfl ?_
  refine v_iconst X dX8_shown_2 (v := (1 : Int32)) (by decide) ?_
  refine v_cvB X rfl yv_X8_rowPart m_ml_X8_89 0 0 (c_X8_rowPart l g N o (nI r) r rfl (1 : Int32) 1 rfl μ kp hs tx ι hr (by omega)) hB (Nat.le_of_ble_eq_true rfl) rfl (Nat.le_of_ble_eq_true rfl) rfl (L' := (mdL g o μ kp hs tx ι)) (rfl) rfl (Nat.le_of_ble_eq_true rfl) rfl rfl (Nat.le_of_ble_eq_true rfl) ⟨Nat.le_of_ble_eq_true rfl, Nat.le_of_ble_eq_true rfl⟩ ⟨Nat.le_of_ble_eq_true rfl, Nat.le_of_ble_eq_true rfl⟩ dX8_shown_3 rfl ?_
  refine v_iload_n X dX8_shown_6 (i := 2) rfl rfl ?_
  refine v_ishr X dX8_shown_7 ?_
  refine v_iconst X dX8_shown_8 (v := (1 : Int32)) (by decide) ?_
  refine v_iand X dX8_shown_9 ?_
  refine v_iconst X dX8_shown_10 (v := (1 : Int32)) (by decide) ?_
  refine v_icmp_ne X dX8_shown_11 (tgt := 21) (by decide) (fun c11 => ?_) (fun c11 => ?_)
  · skip
    refine v_aload_n X dX8_shown_21 (i := 0) rfl rfl ?_
    refine v_iload_n X dX8_shown_22 (i := 1) rfl rfl ?_
    refine v_iconst X dX8_shown_23 (v := (0 : Int32)) (by decide) ?_
    refine v_cvB X rfl yv_X8_rowPart m_ml_X8_89 0 0 (c_X8_rowPart l g N o (nI r) r rfl (0 : Int32) 0 rfl μ kp hs tx ι hr (by omega)) hB (Nat.le_of_ble_eq_true rfl) rfl (Nat.le_of_ble_eq_true rfl) rfl (L' := (mdL g o μ kp hs tx ι)) (rfl) rfl (Nat.le_of_ble_eq_true rfl) rfl rfl (Nat.le_of_ble_eq_true rfl) ⟨Nat.le_of_ble_eq_true rfl, Nat.le_of_ble_eq_true rfl⟩ ⟨Nat.le_of_ble_eq_true rfl, Nat.le_of_ble_eq_true rfl⟩ dX8_shown_24 rfl ?_
    exact v_iret X rfl dX8_shown_27 (by rw [shM, if_neg c11]) (rfl)
  · skip
    refine v_bipush X dX8_shown_14 (v := (100 : Int32)) (by decide) ?_
    refine v_iload_n X dX8_shown_16 (i := 2) rfl rfl ?_
    refine v_iadd X dX8_shown_17 ?_
    refine v_goto X dX8_shown_18 (tgt := 27) (by decide) ?_
    exact v_iret X rfl dX8_shown_27 (by rw [shM, if_pos c11]) (rfl)
theorem rw_lt {μ : Nat → Int32} {v : Int32} {R : Nat} (hR : μ 7 = nI R) (hR20 : R ≤ 20) (h : (0 : Int32) ≤ v ∧ v ≤ μ 7 - 1) : ∃ r, r < R ∧ v = nI r := by
  rcases Nat.eq_zero_or_pos R with q | q
  · rw [hR, q] at h
    exact absurd (Int32.le_trans h.1 h.2) (by decide)
  · rw [hR, show nI R - 1 = nI (R - 1) from pk_sub (b := 1) (by omega)] at h
    obtain ⟨r, hr, e⟩ := nI_cases (n := R - 1) (by omega) h.1 h.2
    exact ⟨r, by omega, e⟩
set_option maxRecDepth 100000 in
set_option maxHeartbeats 4000000 in
theorem c_X8_cloth (l : Launch) (g : Ge) (N o : Nat) (μ kp hs tx ι : Nat → Int32) (v t : Int32) (R : Nat) (hR : μ 7 = nI R) (hR20 : R ≤ 20) : Cb l g yX8_cloth (.code yX8_cloth cX8_cloth 3 (some .int)) 2 [.ref o, .int v, .int t] N o (mdL g o μ kp hs tx ι) (some (.int (clM μ v t))) (mdL g o μ kp hs tx ι) := by
  intro f hB0
  have hB : BB g N o 5 := hB0
  refine ct_of (own := RX8) [some (.ref o), some (.int v), some (.int t)] (by decide +kernel) rfl rfl (Nat.le_of_ble_eq_true rfl) ?_
  intro vp ve vs vm va vb vt vc hnm X
  refine v_iload_n X dX8_cloth_0 (i := 1) rfl rfl ?_
  refine v_iconst X dX8_cloth_1 (v := (0 : Int32)) (by decide) ?_
  refine v_aload_n X dX8_cloth_2 (i := 0) rfl rfl ?_
  refine v_getB X hB cf8 0 (Nat.le_of_ble_eq_true rfl) m_fl_X8_7 dX8_cloth_3 0 (Nat.le_of_ble_eq_true rfl) rfl rfl ?_
  refine v_bipush X dX8_cloth_6 (v := (7 : Int32)) (by decide) ?_
  refine v_ialdB X hB dX8_cloth_8 1 (Nat.le_of_ble_eq_true rfl) rfl 7 rfl (by omega) (Nat.le_of_ble_eq_true rfl) ?_
  refine v_iconst X dX8_cloth_9 (v := (1 : Int32)) (by decide) ?_
  refine v_isub X dX8_cloth_10 ?_
  refine v_cs X rfl yv_X8_within m_ml_X8_40 (c_X8_within l g v (0 : Int32) ((μ 7) - (1 : Int32)) ) rfl rfl (Nat.le_of_ble_eq_true rfl) ⟨Nat.le_of_ble_eq_true rfl, Nat.le_of_ble_eq_true rfl⟩ ⟨Nat.le_of_ble_eq_true rfl, Nat.le_of_ble_eq_true rfl⟩ dX8_cloth_11 rfl ?_
  refine v_if_eqB X dX8_cloth_14 (tgt := 33) (by decide) (fun c14 => ?_) (fun c14 => ?_)
  · skip
    refine v_iconst X dX8_cloth_33 (v := (-1 : Int32)) (by decide) ?_
    exact v_iret X rfl dX8_cloth_34 (by rw [clM, if_neg c14]) (rfl)
  · skip
    obtain ⟨r, hr, rfl⟩ := rw_lt hR hR20 c14
    have hkk : nt (nI r) = r := nt_nI (by omega)
    refine v_iload_n X dX8_cloth_17 (i := 2) rfl rfl ?_
    refine v_cs X rfl yv_X8_isThread m_ml_X8_108 (c_X8_isThread l g t ) rfl rfl (Nat.le_of_ble_eq_true rfl) ⟨Nat.le_of_ble_eq_true rfl, Nat.le_of_ble_eq_true rfl⟩ ⟨Nat.le_of_ble_eq_true rfl, Nat.le_of_ble_eq_true rfl⟩ dX8_cloth_18 rfl ?_
    refine v_if_eqB X dX8_cloth_21 (tgt := 33) (by decide) (fun c21 => ?_) (fun c21 => ?_)
    · skip
      refine v_iconst X dX8_cloth_33 (v := (-1 : Int32)) (by decide) ?_
      exact v_iret X rfl dX8_cloth_34 (by rw [clM, if_pos c14, if_neg c21]) (rfl)
    · skip
      refine v_aload_n X dX8_cloth_24 (i := 0) rfl rfl ?_
      refine v_iload_n X dX8_cloth_25 (i := 1) rfl rfl ?_
      refine v_iload_n X dX8_cloth_26 (i := 2) rfl rfl ?_
      refine v_cvB X rfl yv_X8_shown m_ml_X8_123 0 0 (c_X8_shown l g N o (nI r) r rfl μ kp hs tx ι t (by omega)) hB (Nat.le_of_ble_eq_true rfl) rfl (Nat.le_of_ble_eq_true rfl) rfl (L' := (mdL g o μ kp hs tx ι)) (rfl) rfl (Nat.le_of_ble_eq_true rfl) rfl rfl (Nat.le_of_ble_eq_true rfl) ⟨Nat.le_of_ble_eq_true rfl, Nat.le_of_ble_eq_true rfl⟩ ⟨Nat.le_of_ble_eq_true rfl, Nat.le_of_ble_eq_true rfl⟩ dX8_cloth_27 rfl ?_
      refine v_goto X dX8_cloth_30 (tgt := 34) (by decide) ?_
      exact v_iret X rfl dX8_cloth_34 (by rw [clM, if_pos c14, if_pos c21, hkk]) (rfl)
