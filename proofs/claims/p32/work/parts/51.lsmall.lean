/-! the law's small methods -/
def lwF (v : Int32) (m : Nat) : Int32 := (v &&& 2147483647) - (v &&& 2147483647) / nI m * nI m
theorem lwF_lt {v : Int32} {m : Nat} (h0 : 0 < m) (hm : m < 1000) : ∃ k, k < m ∧ lwF v m = nI k := by
  obtain ⟨j, hj, e⟩ := pk_andE v (m := 2147483647) 31 (by decide)
  exact ⟨j % m, Nat.mod_lt _ h0, by rw [lwF, e, pk_rem (by omega) h0 (by omega)]⟩
def rsn (x : Int32) : Int32 := if x < 100 then x / 10 else x / 100
def nbr (x : Int32) : Int32 := if x < 100 then -6 else x - x / 100 * 100 - 6
def inF (h : Nat → Int32) (x : Int32) : Nat → Nat → Int32
  | 0, _ => -6
  | n + 1, k => if h (3 * k + 2) = x then nI k else inF h x n (k + 1)
theorem inF_hit {h : Nat → Int32} {x : Int32} {k : Nat} (hk : k < 5) (h1 : h (3 * k + 2) = x) : inF h x (5 - k) k = nI k := by
  obtain ⟨n, hn⟩ : ∃ n, 5 - k = n + 1 := ⟨5 - k - 1, by omega⟩
  rw [hn, inF, if_pos h1]
theorem inF_miss {h : Nat → Int32} {x : Int32} {k : Nat} (hk : k < 5) (h1 : ¬ h (3 * k + 2) = x) : inF h x (5 - k) k = inF h x (5 - (k + 1)) (k + 1) := by
  obtain ⟨n, hn⟩ : ∃ n, 5 - k = n + 1 := ⟨5 - k - 1, by omega⟩
  rw [hn, inF, if_neg h1, show 5 - (k + 1) = n by omega]
def thW (fr : Int32) (t : Nat → Int32) : Nat → Int32
  | 0 => 0
  | k + 1 => if fr &&& ((1 : Int32) <<< (t (2 * k) &&& 31)) = 0 then thW fr t k else thW fr t k ||| ((1 : Int32) <<< (nI k &&& 31))
set_option maxRecDepth 100000 in
set_option maxHeartbeats 4000000 in
theorem c_L_low (l : Launch) (g : Ge) (x_m : Int32) (m : Nat) (hx_m : x_m = nI m) (v : Int32) (hm0 : 0 < m) (hm : m < 1000) : Cs l g yL_low (.code yL_low cL_low 2 (some .int)) 0 [.int v, .int x_m] (some (.int (lwF v m))) := by
  intro N f
  subst hx_m
  refine ct_of (own := RL) [some (.int v), some (.int (nI m))] (by decide +kernel) rfl rfl (Nat.le_of_ble_eq_true rfl) ?_
  intro vp ve vs vm va vb vt vc hnm X
  refine v_iload_n X dL_low_0 (i := 0) rfl rfl ?_
  refine v_ldc X dL_low_1 m_ki_L_9 ?_
  refine v_iand X dL_low_3 ?_
  refine v_iload_n X dL_low_4 (i := 1) rfl rfl ?_
  refine v_irem X dL_low_5 (nI_ne0 hm0 (by omega)) ?_
  exact v_iret X rfl dL_low_6 (rfl) (rfl)
set_option maxRecDepth 100000 in
set_option maxHeartbeats 4000000 in
theorem c_L_reason (l : Launch) (g : Ge) (x : Int32) : Cs l g yL_reason (.code yL_reason cL_reason 1 (some .int)) 0 [.int x] (some (.int (rsn x))) := by
  intro N f
  refine ct_of (own := RL) [some (.int x)] (by decide +kernel) rfl rfl (Nat.le_of_ble_eq_true rfl) ?_
  intro vp ve vs vm va vb vt vc hnm X
  refine v_iload_n X dL_reason_0 (i := 0) rfl rfl ?_
  refine v_bipush X dL_reason_1 (v := (100 : Int32)) (by decide) ?_
  refine v_icmp_ge X dL_reason_3 (tgt := 13) (by decide) (fun c3 => ?_) (fun c3 => ?_)
  · skip
    refine v_iload_n X dL_reason_13 (i := 0) rfl rfl ?_
    refine v_bipush X dL_reason_14 (v := (100 : Int32)) (by decide) ?_
    refine v_idiv X dL_reason_16 (by decide) ?_
    exact v_iret X rfl dL_reason_17 (by rw [rsn, if_neg (Int32.not_lt.mpr c3)]) (rfl)
  · skip
    refine v_iload_n X dL_reason_6 (i := 0) rfl rfl ?_
    refine v_bipush X dL_reason_7 (v := (10 : Int32)) (by decide) ?_
    refine v_idiv X dL_reason_9 (by decide) ?_
    refine v_goto X dL_reason_10 (tgt := 17) (by decide) ?_
    exact v_iret X rfl dL_reason_17 (by rw [rsn, if_pos c3]) (rfl)
set_option maxRecDepth 100000 in
set_option maxHeartbeats 4000000 in
theorem c_L_number (l : Launch) (g : Ge) (x : Int32) : Cs l g yL_number (.code yL_number cL_number 1 (some .int)) 0 [.int x] (some (.int (nbr x))) := by
  intro N f
  refine ct_of (own := RL) [some (.int x)] (by decide +kernel) rfl rfl (Nat.le_of_ble_eq_true rfl) ?_
  intro vp ve vs vm va vb vt vc hnm X
  refine v_iload_n X dL_number_0 (i := 0) rfl rfl ?_
  refine v_bipush X dL_number_1 (v := (100 : Int32)) (by decide) ?_
  refine v_icmp_ge X dL_number_3 (tgt := 11) (by decide) (fun c3 => ?_) (fun c3 => ?_)
  · skip
    refine v_iload_n X dL_number_11 (i := 0) rfl rfl ?_
    refine v_bipush X dL_number_12 (v := (100 : Int32)) (by decide) ?_
    refine v_irem X dL_number_14 (by decide) ?_
    refine v_bipush X dL_number_15 (v := (6 : Int32)) (by decide) ?_
    refine v_isub X dL_number_17 ?_
    exact v_iret X rfl dL_number_18 (by rw [nbr, if_neg (Int32.not_lt.mpr c3)]) (rfl)
  · skip
    refine v_bipush X dL_number_6 (v := (-6 : Int32)) (by decide) ?_
    refine v_goto X dL_number_8 (tgt := 18) (by decide) ?_
    exact v_iret X rfl dL_number_18 (by rw [nbr, if_pos c3]) (rfl)
set_option maxRecDepth 100000 in
set_option maxHeartbeats 4000000 in
theorem c_L_in (l : Launch) (g : Ge) (N o : Nat) (h : Nat → Int32) (x : Int32) : Cb l g yL_in (.code yL_in cL_in 3 (some .int)) 0 [.int x, .ref o] N o (hhL g o h) (some (.int (inF h x 5 0))) (hhL g o h) := by
  intro f hB0
  have hB : BB g N o 1 := hB0
  refine ct_of (own := RL) [some (.int x), some (.ref o), none] (by decide +kernel) rfl rfl (Nat.le_of_ble_eq_true rfl) ?_
  intro vp ve vs vm va vb vt vc hnm X
  refine v_iconst X dL_in_0 (v := (0 : Int32)) (by decide) ?_
  refine v_istore_n X dL_in_1 (i := 2) rfl (Nat.le_of_ble_eq_true rfl) rfl ?_
  have LP2 : ∀ (n_ : Nat) (k : Nat), (k ≤ 5) → (inF h x 5 0 = inF h x (5 - k) k) → 5 - k < n_ → Vm vp l ve vs vm va vb vt vc g 0 3 N (some (.int (inF h x 5 0))) (ovr f o (hhL g o h)) (ovr f o (hhL g o h)) 2 [some (.int x), some (.ref o), some (.int (nI k))] [] := by
    intro n_
    induction n_ with
    | zero => intro k hk hr hm_; exact absurd hm_ (Nat.not_lt_zero _)
    | succ n_ ih2 =>
      intro k hk hr hm2
      refine v_iload_n X dL_in_2 (i := 2) rfl rfl ?_
      refine v_iconst X dL_in_3 (v := (5 : Int32)) (by decide) ?_
      refine v_icmp_ge X dL_in_4 (tgt := 26) (by decide) (fun c4 => ?_) (fun c4 => ?_)
      · skip
        have hk5 : k = 5 := Nat.le_antisymm hk (le_of_nI (a := 5) (by omega) (by omega) c4)
        refine v_bipush X dL_in_26 (v := (-6 : Int32)) (by decide) ?_
        exact v_iret X rfl dL_in_28 (by rw [hr, hk5, Nat.sub_self, inF]) (rfl)
      · skip
        have hk5 : k < 5 := lt_of_nI (b := 5) (by omega) (by omega) c4
        refine v_aload_n X dL_in_7 (i := 1) rfl rfl ?_
        refine v_iconst X dL_in_8 (v := (3 : Int32)) (by decide) ?_
        refine v_iload_n X dL_in_9 (i := 2) rfl rfl ?_
        refine v_imul X dL_in_10 ?_
        refine v_iconst X dL_in_11 (v := (2 : Int32)) (by decide) ?_
        refine v_iadd X dL_in_12 ?_
        refine v_ialdB X hB dL_in_13 0 (Nat.le_of_ble_eq_true rfl) rfl ((3 * k) + 2) (ix_add (ix_mul rfl rfl) rfl) (by omega) (Nat.le_of_ble_eq_true rfl) ?_
        refine v_iload_n X dL_in_14 (i := 0) rfl rfl ?_
        refine v_icmp_ne X dL_in_15 (tgt := 20) (by decide) (fun c15 => ?_) (fun c15 => ?_)
        · skip
          refine v_iinc X dL_in_20 (v := nI (k + 1)) rfl (ix_inc rfl) (Nat.le_of_ble_eq_true rfl) rfl ?_
          refine v_goto X dL_in_23 (tgt := 2) (by decide) ?_
          exact ih2 (k + 1) (by omega) (hr.trans (inF_miss hk5 c15)) (by omega)
        · skip
          refine v_iload_n X dL_in_18 (i := 2) rfl rfl ?_
          exact v_iret X rfl dL_in_19 (by rw [hr, inF_hit hk5 c15]) (rfl)
  exact LP2 _ 0 (Nat.zero_le _) rfl (Nat.lt_succ_self _)
set_option maxRecDepth 100000 in
set_option maxHeartbeats 4000000 in
theorem c_L_threads (l : Launch) (g : Ge) (N o : Nat) (t : Nat → Int32) (fr : Int32) : Cb l g yL_threads (.code yL_threads cL_threads 4 (some .int)) 0 [.int fr, .ref o] N o (ttL g o t) (some (.int (thW fr t 12))) (ttL g o t) := by
  intro f hB0
  have hB : BB g N o 1 := hB0
  refine ct_of (own := RL) [some (.int fr), some (.ref o), none, none] (by decide +kernel) rfl rfl (Nat.le_of_ble_eq_true rfl) ?_
  intro vp ve vs vm va vb vt vc hnm X
  refine v_iconst X dL_threads_0 (v := (0 : Int32)) (by decide) ?_
  refine v_istore_n X dL_threads_1 (i := 2) rfl (Nat.le_of_ble_eq_true rfl) rfl ?_
  refine v_iconst X dL_threads_2 (v := (0 : Int32)) (by decide) ?_
  refine v_istore_n X dL_threads_3 (i := 3) rfl (Nat.le_of_ble_eq_true rfl) rfl ?_
  have LP4 : ∀ (n_ : Nat) (k : Nat), (k ≤ 12) → 12 - k < n_ → Vm vp l ve vs vm va vb vt vc g 0 4 N (some (.int (thW fr t 12))) (ovr f o (ttL g o t)) (ovr f o (ttL g o t)) 4 [some (.int fr), some (.ref o), some (.int (thW fr t k)), some (.int (nI k))] [] := by
    intro n_
    induction n_ with
    | zero => intro k hk hm_; exact absurd hm_ (Nat.not_lt_zero _)
    | succ n_ ih4 =>
      intro k hk hm4
      refine v_iload_n X dL_threads_4 (i := 3) rfl rfl ?_
      refine v_bipush X dL_threads_5 (v := (12 : Int32)) (by decide) ?_
      refine v_icmp_ge X dL_threads_7 (tgt := 34) (by decide) (fun c7 => ?_) (fun c7 => ?_)
      · skip
        have hk5 : k = 12 := Nat.le_antisymm hk (le_of_nI (a := 12) (by omega) (by omega) c7)
        refine v_iload_n X dL_threads_34 (i := 2) rfl rfl ?_
        exact v_iret X rfl dL_threads_35 (by rw [hk5]) (rfl)
      · skip
        have hk5 : k < 12 := lt_of_nI (b := 12) (by omega) (by omega) c7
        refine v_iload_n X dL_threads_10 (i := 0) rfl rfl ?_
        refine v_iconst X dL_threads_11 (v := (1 : Int32)) (by decide) ?_
        refine v_aload_n X dL_threads_12 (i := 1) rfl rfl ?_
        refine v_iconst X dL_threads_13 (v := (2 : Int32)) (by decide) ?_
        refine v_iload_n X dL_threads_14 (i := 3) rfl rfl ?_
        refine v_imul X dL_threads_15 ?_
        refine v_ialdB X hB dL_threads_16 0 (Nat.le_of_ble_eq_true rfl) rfl (2 * k) (ix_mul rfl rfl) (by omega) (Nat.le_of_ble_eq_true rfl) ?_
        refine v_ishl X dL_threads_17 ?_
        refine v_iand X dL_threads_18 ?_
        refine v_if_eq X dL_threads_19 (tgt := 28) (by decide) (fun c19 => ?_) (fun c19 => ?_)
        · skip
          refine v_iinc X dL_threads_28 (v := nI (k + 1)) rfl (ix_inc rfl) (Nat.le_of_ble_eq_true rfl) rfl ?_
          refine v_goto X dL_threads_31 (tgt := 4) (by decide) ?_
          exact V.cast (ih4 (k + 1) (by omega) (by omega)) (by rw [thW, if_pos c19]; rfl) (rfl) (rfl)
        · skip
          refine v_iload_n X dL_threads_22 (i := 2) rfl rfl ?_
          refine v_iconst X dL_threads_23 (v := (1 : Int32)) (by decide) ?_
          refine v_iload_n X dL_threads_24 (i := 3) rfl rfl ?_
          refine v_ishl X dL_threads_25 ?_
          refine v_ior X dL_threads_26 ?_
          refine v_istore_n X dL_threads_27 (i := 2) rfl (Nat.le_of_ble_eq_true rfl) rfl ?_
          refine v_iinc X dL_threads_28 (v := nI (k + 1)) rfl (ix_inc rfl) (Nat.le_of_ble_eq_true rfl) rfl ?_
          refine v_goto X dL_threads_31 (tgt := 4) (by decide) ?_
          exact V.cast (ih4 (k + 1) (by omega) (by omega)) (by rw [thW, if_neg c19]; rfl) (rfl) (rfl)
  exact LP4 _ 0 (Nat.zero_le _) (Nat.lt_succ_self _)
