/-! the model class: faults of the text, cards of the text -/
theorem dgE_le {tx : Nat → Int32} {len : Nat} : ∀ n a l, a ≤ dgE tx len n a l ∧ dgE tx len n a l ≤ a + n
  | 0, a, l => ⟨Nat.le_refl _, Nat.le_refl _⟩
  | n + 1, a, l => by
    rw [dgE]
    by_cases h : (48 : Int32) + l + 1 ≤ cC tx len a ∧ cC tx len a ≤ 53
    · rw [if_pos h]
      have := dgE_le (tx := tx) (len := len) n (a + 1) (cC tx len a - 48)
      omega
    · rw [if_neg h]; omega
theorem rqE_le {tx : Nat → Int32} {len a : Nat} (h : a ≤ len) : a ≤ rqE tx len a ∧ rqE tx len a ≤ len := by
  have := dgE_le (tx := tx) (len := len) (len - a) a (-1)
  rw [rqE]; omega
theorem qD1_lt {tx : Nat → Int32} {len e : Nat} (h : qD1 tx len e = true) : e < len := cC_lt (by rw [show cC tx len e = 76 from of_decide_eq_true h]; decide)
theorem qD2_lt {tx : Nat → Int32} {len e : Nat} (h : qD2 tx len e = true) : e < len := cC_lt (Int32.le_trans (by decide) (show (48 : Int32) ≤ cC tx len e ∧ cC tx len e ≤ 51 from of_decide_eq_true h).1)
theorem qD3_lt {tx : Nat → Int32} {len e : Nat} (h : qD3 tx len e = true) : e < len := cC_lt (by rw [show cC tx len e = 82 from of_decide_eq_true h]; decide)
theorem qD4_lt {tx : Nat → Int32} {len e : Nat} (h : qD4 tx len e = true) : e < len := cC_lt (Int32.le_trans (by decide) (show (48 : Int32) ≤ cC tx len e ∧ cC tx len e ≤ 49 from of_decide_eq_true h).1)
theorem rqP_le {tx : Nat → Int32} {len e : Nat} (h : e ≤ len) : e ≤ rqP tx len e ∧ rqP tx len e ≤ len := by
  unfold rqP
  by_cases h1 : qD1 tx len e = true
  · have := qD1_lt h1
    rw [if_pos h1]
    by_cases h2 : qD2 tx len (e + 1) = true
    · have := qD2_lt h2
      rw [if_pos h2]
      by_cases h3 : qD3 tx len (e + 2) = true
      · have := qD3_lt h3
        rw [if_pos h3]
        by_cases h4 : qD4 tx len (e + 3) = true
        · have := qD4_lt h4
          rw [if_pos h4]; omega
        · rw [if_neg h4]; omega
      · rw [if_neg h3]; omega
    · rw [if_neg h2]; omega
  · rw [if_neg h1]; omega
theorem rqB_4 {tx : Nat → Int32} {len e : Nat} (h : ¬ rqB tx len e = 0) : rqP tx len e = e + 4 ∧ qD1 tx len e = true ∧ qD2 tx len (e + 1) = true ∧ qD3 tx len (e + 2) = true ∧ qD4 tx len (e + 3) = true := by
  unfold rqB at h
  by_cases h1 : qD1 tx len e = true
  · rw [if_pos h1] at h
    by_cases h2 : qD2 tx len (e + 1) = true
    · rw [if_pos h2] at h
      by_cases h3 : qD3 tx len (e + 2) = true
      · rw [if_pos h3] at h
        by_cases h4 : qD4 tx len (e + 3) = true
        · exact ⟨by rw [rqP, if_pos h1, if_pos h2, if_pos h3, if_pos h4], h1, h2, h3, h4⟩
        · rw [if_neg h4] at h; exact absurd rfl h
      · rw [if_neg h3] at h; exact absurd rfl h
    · rw [if_neg h2] at h; exact absurd rfl h
  · rw [if_neg h1] at h; exact absurd rfl h
/-- where a card that begins at a ends -/
def cdE (tx : Nat → Int32) (len a : Nat) : Nat := rqP tx len (rqE tx len a)
def cdB (tx : Nat → Int32) (len a : Nat) : Int32 := rqB tx len (rqE tx len a)
theorem cdE_le {tx : Nat → Int32} {len a : Nat} (h : a ≤ len) : a ≤ cdE tx len a ∧ cdE tx len a ≤ len := by
  have h1 := rqE_le (tx := tx) h
  have h2 := rqP_le (tx := tx) h1.2
  rw [cdE]; omega
theorem cdB_4 {tx : Nat → Int32} {len a : Nat} (h : ¬ cdB tx len a = 0) (ha : a ≤ len) : a + 4 ≤ cdE tx len a := by
  have h1 := rqE_le (tx := tx) ha
  have h2 := (rqB_4 h).1
  rw [cdE, h2]; omega
/-- the reader's numbers behind a card -/
def rdI (tx : Nat → Int32) (len : Nat) (ι : Nat → Int32) : Nat → Int32 := ιP ι (cdE tx len (nt (ι 4))) (rqF tx len (nt (ι 4))) (rqL tx len (rqE tx len (nt (ι 4))) (ι 6)) (rqR tx len (rqE tx len (nt (ι 4))) (ι 7))
def nxI (tx : Nat → Int32) (len : Nat) (ι : Nat → Int32) : Nat → Int32 := upd ι 4 (nI (if cC tx len (nt (ι 4)) = 59 then nt (ι 4) + 1 else nt (ι 4)))
theorem rdI_eq {tx : Nat → Int32} {len a : Nat} {ι : Nat → Int32} (h : ι 4 = nI a) (ha : a ≤ 80) : ιP ι (rqP tx len (rqE tx len a)) (rqF tx len a) (rqL tx len (rqE tx len a) (ι 6)) (rqR tx len (rqE tx len a) (ι 7)) = rdI tx len ι := by
  rw [rdI, nt_of h (by omega), cdE]
theorem rdI_4 {tx : Nat → Int32} {len a : Nat} {ι : Nat → Int32} (h : ι 4 = nI a) (ha : a ≤ 80) : rdI tx len ι 4 = nI (cdE tx len a) := by
  rw [rdI, ιP_4, nt_of h (by omega)]
theorem rdI_o {tx : Nat → Int32} {len i : Nat} {ι : Nat → Int32} (hi : i < 4) : rdI tx len ι i = ι i := by rw [rdI, ιP_o hi]
theorem nxI_eq {tx : Nat → Int32} {len a : Nat} {ι : Nat → Int32} (h : ι 4 = nI a) (ha : a ≤ 80) : upd ι 4 (nI (if cC tx len a = 59 then a + 1 else a)) = nxI tx len ι := by
  rw [nxI, nt_of h (by omega)]
theorem nxI_4 {tx : Nat → Int32} {len a : Nat} {ι : Nat → Int32} (h : ι 4 = nI a) (ha : a ≤ 80) : nxI tx len ι 4 = nI (if cC tx len a = 59 then a + 1 else a) := by
  rw [nxI, pk_us, nt_of h (by omega)]
theorem nxI_o {tx : Nat → Int32} {len i : Nat} {ι : Nat → Int32} (hi : i ≠ 4) : nxI tx len ι i = ι i := by rw [nxI, pk_un hi]
def fdA (tx : Nat → Int32) (len : Nat) : Nat → Nat → Int32
  | 0, _ => 0
  | n + 1, a => if cdB tx len a = 0 then nI (cdE tx len a) else if cdE tx len a = len then -6 else if cC tx len (cdE tx len a) = 59 then fdA tx len n (cdE tx len a + 1) else nI (cdE tx len a)
def fdI (tx : Nat → Int32) (len : Nat) : Nat → (Nat → Int32) → Nat → Int32
  | 0, ι => ι
  | n + 1, ι => if cdB tx len (nt (ι 4)) = 0 then rdI tx len ι else if nt (rdI tx len ι 4) = len then rdI tx len ι else if cC tx len (nt (rdI tx len ι 4)) = 59 then fdI tx len n (nxI tx len (rdI tx len ι)) else nxI tx len (rdI tx len ι)
theorem fdI_o {tx : Nat → Int32} {len i : Nat} (hi : i < 4) : ∀ n (ι : Nat → Int32), fdI tx len n ι i = ι i
  | 0, ι => rfl
  | n + 1, ι => by
    rw [fdI]
    by_cases h1 : cdB tx len (nt (ι 4)) = 0
    · rw [if_pos h1, rdI_o hi]
    rw [if_neg h1]
    by_cases h2 : nt (rdI tx len ι 4) = len
    · rw [if_pos h2, rdI_o hi]
    rw [if_neg h2]
    by_cases h3 : cC tx len (nt (rdI tx len ι 4)) = 59
    · rw [if_pos h3, fdI_o hi n _, nxI_o (by omega), rdI_o hi]
    · rw [if_neg h3, nxI_o (by omega), rdI_o hi]
set_option maxRecDepth 100000 in
set_option maxHeartbeats 4000000 in
theorem c_X8_findError (l : Launch) (g : Ge) (N o : Nat) (μ kp hs tx ι : Nat → Int32) (len : Nat) (hlen : ι 1 = nI len) (hlen80 : len ≤ 80) : Cb l g yX8_findError (.code yX8_findError cX8_findError 1 (some .int)) 3 [.ref o] N o (mdL g o μ kp hs tx ι) (some (.int (fdA tx len (len + 1) 0))) (mdL g o μ kp hs tx (fdI tx len (len + 1) (upd ι 4 0))) := by
  intro f hB0
  have hB : BB g N o 5 := hB0
  refine ct_of (own := RX8) [some (.ref o)] (by decide +kernel) rfl rfl (Nat.le_of_ble_eq_true rfl) ?_
  intro vp ve vs vm va vb vt vc hnm X
  refine v_aload_n X dX8_findError_0 (i := 0) rfl rfl ?_
  refine v_iconst X dX8_findError_1 (v := (0 : Int32)) (by decide) ?_
  refine v_putB X hB cf8 8 (Nat.le_of_ble_eq_true rfl) rfl m_fl_X8_144 dX8_findError_2 0 (Nat.le_of_ble_eq_true rfl) rfl rfl rfl (Nat.le_of_ble_eq_true rfl) (L' := (mdL g o μ kp hs tx (upd ι 4 (0 : Int32)))) w_md_0_at ?_
  have LP5 : ∀ (n_ : Nat) (a : Nat) (ιk : Nat → Int32) (m : Nat), (ιk 4 = nI a) → (a ≤ len) → (ιk 1 = nI len) → (len < a + m) → (fdA tx len (len + 1) 0 = fdA tx len m a) → (fdI tx len (len + 1) (upd ι 4 0) = fdI tx len m ιk) → len - a < n_ → Vm vp l ve vs vm va vb vt vc g 3 1 N (some (.int (fdA tx len (len + 1) 0))) (ovr f o (mdL g o μ kp hs tx (fdI tx len (len + 1) (upd ι 4 0)))) (ovr f o (mdL g o μ kp hs tx ιk)) 5 [some (.ref o)] [] := by
    intro n_
    induction n_ with
    | zero => intro a ιk m ha4 hal hl1 hm9 hr hq hm_; exact absurd hm_ (Nat.not_lt_zero _)
    | succ n_ ih5 =>
      intro a ιk m ha4 hal hl1 hm9 hr hq hm5
      refine v_aload_n X dX8_findError_5 (i := 0) rfl rfl ?_
      refine v_cvB X rfl yv_X8_readsCard m_ml_X8_162 0 0 (c_X8_readsCard l g N o μ kp hs tx ιk a len hl1 hlen80 ha4 hal) hB (Nat.le_of_ble_eq_true rfl) rfl (Nat.le_of_ble_eq_true rfl) rfl (L' := (mdL g o μ kp hs tx (ιP ιk (rqP tx len (rqE tx len a)) (rqF tx len a) (rqL tx len (rqE tx len a) (ιk 6)) (rqR tx len (rqE tx len a) (ιk 7))))) (rfl) rfl (Nat.le_of_ble_eq_true rfl) rfl rfl (Nat.le_of_ble_eq_true rfl) ⟨Nat.le_of_ble_eq_true rfl, Nat.le_of_ble_eq_true rfl⟩ ⟨Nat.le_of_ble_eq_true rfl, Nat.le_of_ble_eq_true rfl⟩ dX8_findError_6 rfl ?_
      obtain ⟨m1, h1⟩ : ∃ m1, m = m1 + 1 := ⟨m - 1, by omega⟩
      have hce := cdE_le (tx := tx) hal
      have h44 : rdI tx len ιk 4 = nI (cdE tx len a) := rdI_4 ha4 (by omega)
      refine V.cast (f' := ovr f o (mdL g o μ kp hs tx (rdI tx len ιk))) ?_ rfl rfl (congrArg (fun z => ovr f o (mdL g o μ kp hs tx z)) (rdI_eq ha4 (by omega)))
      refine v_if_ne X dX8_findError_9 (tgt := 17) (by decide) (fun c9 => ?_) (fun c9 => ?_)
      · skip
        refine v_aload_n X dX8_findError_17 (i := 0) rfl rfl ?_
        refine v_getB X hB cf8 8 (Nat.le_of_ble_eq_true rfl) m_fl_X8_144 dX8_findError_18 0 (Nat.le_of_ble_eq_true rfl) rfl rfl ?_
        refine v_aload_n X dX8_findError_21 (i := 0) rfl rfl ?_
        refine v_getB X hB cf8 5 (Nat.le_of_ble_eq_true rfl) m_fl_X8_141 dX8_findError_22 0 (Nat.le_of_ble_eq_true rfl) rfl rfl ?_
        refine v_icmp_ne X dX8_findError_25 (tgt := 31) (by decide) (fun c25 => ?_) (fun c25 => ?_)
        · skip
          have hne : ¬ cdE tx len a = len := fun q => c25 (by rw [h44, rdI_o (by omega), hl1, q])
          refine v_aload_n X dX8_findError_31 (i := 0) rfl rfl ?_
          refine v_bipush X dX8_findError_32 (v := (59 : Int32)) (by decide) ?_
          refine v_cvB X rfl yv_X8_isNext m_ml_X8_153 0 0 (c_X8_isNext l g N o μ kp hs tx (rdI tx len ιk) (59 : Int32) (cdE tx len a) len ((rdI_o (by omega)).trans hl1) hlen80 h44 (by omega)) hB (Nat.le_of_ble_eq_true rfl) rfl (Nat.le_of_ble_eq_true rfl) rfl (L' := (mdL g o μ kp hs tx (upd (rdI tx len ιk) 4 (nI (if cC tx len (cdE tx len a) = (59 : Int32) then (cdE tx len a) + 1 else (cdE tx len a)))))) (rfl) rfl (Nat.le_of_ble_eq_true rfl) rfl rfl (Nat.le_of_ble_eq_true rfl) ⟨Nat.le_of_ble_eq_true rfl, Nat.le_of_ble_eq_true rfl⟩ ⟨Nat.le_of_ble_eq_true rfl, Nat.le_of_ble_eq_true rfl⟩ dX8_findError_34 rfl ?_
          refine V.cast (f' := ovr f o (mdL g o μ kp hs tx (nxI tx len (rdI tx len ιk)))) ?_ rfl rfl (congrArg (fun z => ovr f o (mdL g o μ kp hs tx z)) (nxI_eq h44 (by omega)))
          refine v_if_neB X dX8_findError_37 (tgt := 5) (by decide) (fun c37 => ?_) (fun c37 => ?_)
          · skip
            have hpl : cdE tx len a < len := cC_lt (by rw [c37]; decide)
            have hn4 : nxI tx len (rdI tx len ιk) 4 = nI (cdE tx len a + 1) := by rw [nxI_4 h44 (by omega), if_pos c37]
            have hn5 : cdE tx len a + 1 ≤ len := by omega
            exact ih5 (cdE tx len a + 1) (nxI tx len (rdI tx len ιk)) m1 hn4 hn5 ((nxI_o (by omega)).trans ((rdI_o (by omega)).trans hl1)) (by omega) (by rw [hr, h1, fdA, if_neg (show ¬ cdB tx len a = 0 from c9), if_neg hne, if_pos c37]) (by rw [hq, h1, fdI, nt_of ha4 (by omega), if_neg (show ¬ cdB tx len a = 0 from c9), nt_of h44 (by omega), if_neg hne, if_pos c37]) (by omega)
          · skip
            refine v_aload_n X dX8_findError_40 (i := 0) rfl rfl ?_
            refine v_getB X hB cf8 8 (Nat.le_of_ble_eq_true rfl) m_fl_X8_144 dX8_findError_41 0 (Nat.le_of_ble_eq_true rfl) rfl rfl ?_
            exact v_iret X rfl dX8_findError_44 (by rw [nxI_4 h44 (by omega), if_neg c37, hr, h1, fdA, if_neg (show ¬ cdB tx len a = 0 from c9), if_neg hne, if_neg c37]) (by rw [hq, h1, fdI, nt_of ha4 (by omega), if_neg (show ¬ cdB tx len a = 0 from c9), nt_of h44 (by omega), if_neg hne, if_neg c37])
        · skip
          have hne : cdE tx len a = len := by
            rw [h44, rdI_o (by omega), hl1] at c25
            exact (nI_eq (by omega) (by omega)).mp c25
          refine v_bipush X dX8_findError_28 (v := (-6 : Int32)) (by decide) ?_
          exact v_iret X rfl dX8_findError_30 (by rw [hr, h1, fdA, if_neg (show ¬ cdB tx len a = 0 from c9), if_pos hne]) (by rw [hq, h1, fdI, nt_of ha4 (by omega), if_neg (show ¬ cdB tx len a = 0 from c9), nt_of h44 (by omega), if_pos hne])
      · skip
        refine v_aload_n X dX8_findError_12 (i := 0) rfl rfl ?_
        refine v_getB X hB cf8 8 (Nat.le_of_ble_eq_true rfl) m_fl_X8_144 dX8_findError_13 0 (Nat.le_of_ble_eq_true rfl) rfl rfl ?_
        exact v_iret X rfl dX8_findError_16 (by rw [h44, hr, h1, fdA, if_pos (show cdB tx len a = 0 from c9)]) (by rw [hq, h1, fdI, nt_of ha4 (by omega), if_pos (show cdB tx len a = 0 from c9)])
  exact LP5 _ 0 (upd ι 4 0) (len + 1) pk_us (Nat.zero_le _) ((pk_un (by omega)).trans hlen) (by omega) rfl rfl (Nat.lt_succ_self _)
set_option maxRecDepth 100000 in
set_option maxHeartbeats 4000000 in
theorem c_X8_syntaxError (l : Launch) (g : Ge) (N o : Nat) (μ kp hs tx ι : Nat → Int32) (len : Nat) (hlen : ι 1 = nI len) (hlen80 : len ≤ 80) : Cb l g yX8_syntaxError (.code yX8_syntaxError cX8_syntaxError 1 (some .int)) 4 [.ref o] N o (mdL g o μ kp hs tx ι) (some (.int (fdA tx len (len + 1) 0))) (mdL g o μ kp hs tx (fdI tx len (len + 1) (upd ι 4 0))) := by
  intro f hB0
  have hB : BB g N o 5 := hB0
  refine ct_of (own := RX8) [some (.ref o)] (by decide +kernel) rfl rfl (Nat.le_of_ble_eq_true rfl) ?_
  intro vp ve vs vm va vb vt vc hnm X
  refine v_aload_n X dX8_syntaxError_0 (i := 0) rfl rfl ?_
  refine v_cvB X rfl yv_X8_findError m_ml_X8_166 0 0 (c_X8_findError l g N o μ kp hs tx ι len hlen hlen80) hB (Nat.le_of_ble_eq_true rfl) rfl (Nat.le_of_ble_eq_true rfl) rfl (L' := (mdL g o μ kp hs tx (fdI tx len (len + 1) (upd ι 4 0)))) (rfl) rfl (Nat.le_of_ble_eq_true rfl) rfl rfl (Nat.le_of_ble_eq_true rfl) ⟨Nat.le_of_ble_eq_true rfl, Nat.le_of_ble_eq_true rfl⟩ ⟨Nat.le_of_ble_eq_true rfl, Nat.le_of_ble_eq_true rfl⟩ dX8_syntaxError_1 rfl ?_
  exact v_iret X rfl dX8_syntaxError_4 (rfl) (rfl)
set_option maxRecDepth 100000 in
set_option maxHeartbeats 4000000 in
theorem c_X8_addsCard2 (l : Launch) (g : Ge) (N o : Nat) (μ kp hs tx ι : Nat → Int32) (a b c : Int32) (C : Nat) (hC : μ 0 = nI C) (hC16 : C < 75) : Cb l g yX8_addsCard (.code yX8_addsCard cX8_addsCard 5 none) 0 [.ref o, .int a, .int b, .int c] N o (mdL g o μ kp hs tx ι) none (mdL g o (apS μ C a b c) kp hs tx ι) := by
  intro f hB0
  have hB : BB g N o 5 := hB0
  refine ct_of (own := RX8) [some (.ref o), some (.int a), some (.int b), some (.int c), none] (by decide +kernel) rfl rfl (Nat.le_of_ble_eq_true rfl) ?_
  intro vp ve vs vm va vb vt vc hnm X
  refine v_bipush X dX8_addsCard_0 (v := (56 : Int32)) (by decide) ?_
  refine v_iconst X dX8_addsCard_2 (v := (3 : Int32)) (by decide) ?_
  refine v_aload_n X dX8_addsCard_3 (i := 0) rfl rfl ?_
  refine v_getB X hB cf8 0 (Nat.le_of_ble_eq_true rfl) m_fl_X8_7 dX8_addsCard_4 0 (Nat.le_of_ble_eq_true rfl) rfl rfl ?_
  refine v_iconst X dX8_addsCard_7 (v := (0 : Int32)) (by decide) ?_
  refine v_ialdB X hB dX8_addsCard_8 1 (Nat.le_of_ble_eq_true rfl) rfl 0 rfl (by omega) (Nat.le_of_ble_eq_true rfl) ?_
  refine v_imul X dX8_addsCard_9 ?_
  refine v_iadd X dX8_addsCard_10 ?_
  refine v_istore X dX8_addsCard_11 (Nat.le_of_ble_eq_true rfl) rfl ?_
  refine v_aload_n X dX8_addsCard_13 (i := 0) rfl rfl ?_
  refine v_getB X hB cf8 0 (Nat.le_of_ble_eq_true rfl) m_fl_X8_7 dX8_addsCard_14 0 (Nat.le_of_ble_eq_true rfl) rfl rfl ?_
  refine v_iload X dX8_addsCard_17 rfl ?_
  refine v_iconst X dX8_addsCard_19 (v := (0 : Int32)) (by decide) ?_
  refine v_iadd X dX8_addsCard_20 ?_
  refine v_iload_n X dX8_addsCard_21 (i := 1) rfl rfl ?_
  refine v_iastB X hB dX8_addsCard_22 1 (Nat.le_of_ble_eq_true rfl) rfl (56 + (3 * C) + 0) (ix_add (ix_add rfl (ix_mul rfl hC)) rfl) (by omega) (Nat.le_of_ble_eq_true rfl) (L' := (mdL g o (upd μ (56 + (3 * C) + 0) a) kp hs tx ι)) rfl ?_
  refine v_aload_n X dX8_addsCard_23 (i := 0) rfl rfl ?_
  refine v_getB X hB cf8 0 (Nat.le_of_ble_eq_true rfl) m_fl_X8_7 dX8_addsCard_24 0 (Nat.le_of_ble_eq_true rfl) rfl rfl ?_
  refine v_iload X dX8_addsCard_27 rfl ?_
  refine v_iconst X dX8_addsCard_29 (v := (1 : Int32)) (by decide) ?_
  refine v_iadd X dX8_addsCard_30 ?_
  refine v_iload_n X dX8_addsCard_31 (i := 2) rfl rfl ?_
  refine v_iastB X hB dX8_addsCard_32 1 (Nat.le_of_ble_eq_true rfl) rfl (56 + (3 * C) + 1) (ix_add (ix_add rfl (ix_mul rfl hC)) rfl) (by omega) (Nat.le_of_ble_eq_true rfl) (L' := (mdL g o (upd (upd μ (56 + (3 * C) + 0) a) (56 + (3 * C) + 1) b) kp hs tx ι)) rfl ?_
  refine v_aload_n X dX8_addsCard_33 (i := 0) rfl rfl ?_
  refine v_getB X hB cf8 0 (Nat.le_of_ble_eq_true rfl) m_fl_X8_7 dX8_addsCard_34 0 (Nat.le_of_ble_eq_true rfl) rfl rfl ?_
  refine v_iload X dX8_addsCard_37 rfl ?_
  refine v_iconst X dX8_addsCard_39 (v := (1 : Int32)) (by decide) ?_
  refine v_iadd X dX8_addsCard_40 ?_
  refine v_iconst X dX8_addsCard_41 (v := (1 : Int32)) (by decide) ?_
  refine v_iadd X dX8_addsCard_42 ?_
  refine v_iload_n X dX8_addsCard_43 (i := 3) rfl rfl ?_
  refine v_iastB X hB dX8_addsCard_44 1 (Nat.le_of_ble_eq_true rfl) rfl (56 + (3 * C) + 1 + 1) (ix_add (ix_add (ix_add rfl (ix_mul rfl hC)) rfl) rfl) (by omega) (Nat.le_of_ble_eq_true rfl) (L' := (mdL g o (upd (upd (upd μ (56 + (3 * C) + 0) a) (56 + (3 * C) + 1) b) (56 + (3 * C) + 1 + 1) c) kp hs tx ι)) rfl ?_
  refine v_aload_n X dX8_addsCard_45 (i := 0) rfl rfl ?_
  refine v_getB X hB cf8 0 (Nat.le_of_ble_eq_true rfl) m_fl_X8_7 dX8_addsCard_46 0 (Nat.le_of_ble_eq_true rfl) rfl rfl ?_
  refine v_iconst X dX8_addsCard_49 (v := (0 : Int32)) (by decide) ?_
  refine v_dup2 X dX8_addsCard_50 rfl rfl ?_
  refine v_ialdB X hB dX8_addsCard_51 1 (Nat.le_of_ble_eq_true rfl) rfl 0 rfl (by omega) (Nat.le_of_ble_eq_true rfl) ?_
  refine v_iconst X dX8_addsCard_52 (v := (1 : Int32)) (by decide) ?_
  refine v_iadd X dX8_addsCard_53 ?_
  refine v_iastB X hB dX8_addsCard_54 1 (Nat.le_of_ble_eq_true rfl) rfl 0 rfl (by omega) (Nat.le_of_ble_eq_true rfl) (L' := (mdL g o (upd (upd (upd (upd μ (56 + (3 * C) + 0) a) (56 + (3 * C) + 1) b) (56 + (3 * C) + 1 + 1) c) 0 (((upd (upd (upd μ (56 + (3 * C) + 0) a) (56 + (3 * C) + 1) b) (56 + (3 * C) + 1 + 1) c) 0) + (1 : Int32))) kp hs tx ι)) rfl ?_
  exact v_vret X rfl dX8_addsCard_55 (rfl) (by rw [pk_un (show 0 ≠ 56 + 3 * C + 1 + 1 by omega), pk_un (show 0 ≠ 56 + 3 * C + 1 by omega), pk_un (show 0 ≠ 56 + 3 * C + 0 by omega), hC, nI_1, apS, show 57 + 3 * C = 56 + 3 * C + 1 by omega, show 58 + 3 * C = 56 + 3 * C + 1 + 1 by omega]; rfl)
def rkI (tx : Nat → Int32) (len : Nat) : Nat → (Nat → Int32) → Nat → Int32
  | 0, ι => ι
  | n + 1, ι => if nt (ι 4) < len then rkI tx len n (nxI tx len (rdI tx len ι)) else ι
def rkS (tx : Nat → Int32) (len : Nat) : Nat → (Nat → Int32) → (Nat → Int32) → Nat → Int32
  | 0, _, μ => μ
  | n + 1, ι, μ => if nt (ι 4) < len then rkS tx len n (nxI tx len (rdI tx len ι)) (apS μ (nt (μ 0)) (nxI tx len (rdI tx len ι) 5) (nxI tx len (rdI tx len ι) 6) (nxI tx len (rdI tx len ι) 7)) else μ
theorem rkI_o {tx : Nat → Int32} {len i : Nat} (hi : i < 4) : ∀ n (ι : Nat → Int32), rkI tx len n ι i = ι i
  | 0, ι => rfl
  | n + 1, ι => by
    rw [rkI]
    by_cases h1 : nt (ι 4) < len
    · rw [if_pos h1, rkI_o hi n _, nxI_o (by omega), rdI_o hi]
    · rw [if_neg h1]
theorem rk_end {tx : Nat → Int32} {len a : Nat} {ι μ : Nat → Int32} (h : ι 4 = nI a) (ha : a ≤ 80) (hn : ¬ a < len) : ∀ m, rkI tx len m ι = ι ∧ rkS tx len m ι μ = μ
  | 0 => ⟨rfl, rfl⟩
  | m + 1 => by
    rw [rkI, rkS, nt_of h (by omega), if_neg hn, if_neg hn]
    exact ⟨rfl, rfl⟩
def reE (tx μ : Nat → Int32) (len : Nat) : Int32 := if ¬ fdA tx len (len + 1) 0 = -6 then -5 else if 16 < μ 0 + ctC tx len then -4 else 0
def i1 (tx ι : Nat → Int32) (len : Nat) : Nat → Int32 := fdI tx len (len + 1) (upd ι 4 0)
def i2 (tx ι : Nat → Int32) (len n : Nat) : Nat → Int32 := upd (rcI (i1 tx ι len) n) 4 0
theorem nI_n6' {k : Nat} (hk : k < 100) : ¬ nI k = -6 := by
  intro h
  have h1 : (nI k).toInt = k := nI_toInt (by omega)
  rw [h] at h1
  have : (-6 : Int32).toInt = -6 := by decide
  omega
/-- a text without a fault, from a card's beginning on -/
theorem fd_step {tx : Nat → Int32} {len m a : Nat} (hl : len ≤ 80) (ha : a ≤ len) (h : fdA tx len m a = -6) : ∃ m1, m = m1 + 1 ∧ ¬ cdB tx len a = 0 ∧ (cdE tx len a = len ∨ (cC tx len (cdE tx len a) = 59 ∧ cdE tx len a < len ∧ fdA tx len m1 (cdE tx len a + 1) = -6)) := by
  have hc := cdE_le (tx := tx) ha
  cases m with
  | zero => exact absurd h (by rw [fdA]; decide)
  | succ m1 =>
    refine ⟨m1, rfl, ?_⟩
    rw [fdA] at h
    by_cases h1 : cdB tx len a = 0
    · rw [if_pos h1] at h; exact absurd h (nI_n6' (by omega))
    rw [if_neg h1] at h
    refine ⟨h1, ?_⟩
    by_cases h2 : cdE tx len a = len
    · exact Or.inl h2
    rw [if_neg h2] at h
    by_cases h3 : cC tx len (cdE tx len a) = 59
    · rw [if_pos h3] at h
      exact Or.inr ⟨h3, by omega, h⟩
    · rw [if_neg h3] at h; exact absurd h (nI_n6' (by omega))
set_option maxRecDepth 100000 in
set_option maxHeartbeats 4000000 in
theorem c_X8_readCards (l : Launch) (g : Ge) (N o : Nat) (μ kp hs tx ι : Nat → Int32) (len : Nat) (hlen : ι 1 = nI len) (hlen80 : len ≤ 80) (n : Nat) (hn : ι 0 = nI n) (hn6 : n ≤ 6) (C0 : Nat) (hC0 : μ 0 = nI C0) (hC016 : C0 ≤ 16) : Cb l g yX8_readCards (.code yX8_readCards cX8_readCards 3 (some .int)) 4 [.ref o] N o (mdL g o μ kp hs tx ι) (some (.int (if (reE tx μ len) = 0 then rkS tx len (len + 1) (i2 tx ι len n) (c8 μ) 0 else (reE tx μ len)))) (mdL g o (if (reE tx μ len) = 0 then rkS tx len (len + 1) (i2 tx ι len n) (c8 μ) else μ) kp (if (reE tx μ len) = 0 then rcH hs n μ else hs) tx (if (reE tx μ len) = 0 then upd (rkI tx len (len + 1) (i2 tx ι len n)) 1 0 else (i1 tx ι len))) := by
  intro f hB0
  have hB : BB g N o 5 := hB0
  have hl9 : (i1 tx ι len) 1 = nI len := (fdI_o (by omega) _ _).trans ((pk_un (by omega)).trans hlen)
  have hn9 : (i1 tx ι len) 0 = nI n := (fdI_o (by omega) _ _).trans ((pk_un (by omega)).trans hn)
  refine ct_of (own := RX8) [some (.ref o), none, none] (by decide +kernel) rfl rfl (Nat.le_of_ble_eq_true rfl) ?_
  intro vp ve vs vm va vb vt vc hnm X
  refine v_aload_n X dX8_readCards_0 (i := 0) rfl rfl ?_
  refine v_cvB X rfl yv_X8_findError m_ml_X8_166 0 0 (c_X8_findError l g N o μ kp hs tx ι len hlen hlen80) hB (Nat.le_of_ble_eq_true rfl) rfl (Nat.le_of_ble_eq_true rfl) rfl (L' := (mdL g o μ kp hs tx (fdI tx len (len + 1) (upd ι 4 0)))) (rfl) rfl (Nat.le_of_ble_eq_true rfl) rfl rfl (Nat.le_of_ble_eq_true rfl) ⟨Nat.le_of_ble_eq_true rfl, Nat.le_of_ble_eq_true rfl⟩ ⟨Nat.le_of_ble_eq_true rfl, Nat.le_of_ble_eq_true rfl⟩ dX8_readCards_1 rfl ?_
  refine v_bipush X dX8_readCards_4 (v := (-6 : Int32)) (by decide) ?_
  refine v_icmp_eq X dX8_readCards_6 (tgt := 12) (by decide) (fun c6 => ?_) (fun c6 => ?_)
  · skip
    refine v_iconst X dX8_readCards_12 (v := (1 : Int32)) (by decide) ?_
    refine v_istore_n X dX8_readCards_13 (i := 1) rfl (Nat.le_of_ble_eq_true rfl) rfl ?_
    refine v_iconst X dX8_readCards_14 (v := (0 : Int32)) (by decide) ?_
    refine v_istore_n X dX8_readCards_15 (i := 2) rfl (Nat.le_of_ble_eq_true rfl) rfl ?_
    have LP16 : ∀ (n_ : Nat) (k : Nat), (k ≤ len) → len - k < n_ → Vm vp l ve vs vm va vb vt vc g 4 3 N (some (.int (if (reE tx μ len) = 0 then rkS tx len (len + 1) (i2 tx ι len n) (c8 μ) 0 else (reE tx μ len)))) (ovr f o (mdL g o (if (reE tx μ len) = 0 then rkS tx len (len + 1) (i2 tx ι len n) (c8 μ) else μ) kp (if (reE tx μ len) = 0 then rcH hs n μ else hs) tx (if (reE tx μ len) = 0 then upd (rkI tx len (len + 1) (i2 tx ι len n)) 1 0 else (i1 tx ι len)))) (ovr f o (mdL g o μ kp hs tx (i1 tx ι len))) 16 [some (.ref o), some (.int (ctC tx k)), some (.int (nI k))] [] := by
      intro n_
      induction n_ with
      | zero => intro k hk hm_; exact absurd hm_ (Nat.not_lt_zero _)
      | succ n_ ih16 =>
        intro k hk hm16
        refine v_iload_n X dX8_readCards_16 (i := 2) rfl rfl ?_
        refine v_aload_n X dX8_readCards_17 (i := 0) rfl rfl ?_
        refine v_getB X hB cf8 5 (Nat.le_of_ble_eq_true rfl) m_fl_X8_141 dX8_readCards_18 0 (Nat.le_of_ble_eq_true rfl) rfl rfl ?_
        refine v_icmp_ge X dX8_readCards_21 (tgt := 49) (by decide) (fun c21 => ?_) (fun c21 => ?_)
        · skip
          have hk2 : k = len := Nat.le_antisymm hk (le_of_nI (by omega) (by omega) (by rw [← hl9]; exact c21))
          have hfd : fdA tx len (len + 1) 0 = -6 := c6
          refine v_aload_n X dX8_readCards_49 (i := 0) rfl rfl ?_
          refine v_getB X hB cf8 0 (Nat.le_of_ble_eq_true rfl) m_fl_X8_7 dX8_readCards_50 0 (Nat.le_of_ble_eq_true rfl) rfl rfl ?_
          refine v_iconst X dX8_readCards_53 (v := (0 : Int32)) (by decide) ?_
          refine v_ialdB X hB dX8_readCards_54 1 (Nat.le_of_ble_eq_true rfl) rfl 0 rfl (by omega) (Nat.le_of_ble_eq_true rfl) ?_
          refine v_iload_n X dX8_readCards_55 (i := 1) rfl rfl ?_
          refine v_iadd X dX8_readCards_56 ?_
          refine v_bipush X dX8_readCards_57 (v := (16 : Int32)) (by decide) ?_
          refine v_icmp_le X dX8_readCards_59 (tgt := 65) (by decide) (fun c59 => ?_) (fun c59 => ?_)
          · skip
            refine v_aload_n X dX8_readCards_65 (i := 0) rfl rfl ?_
            refine v_cvB X rfl yv_X8_recordOther m_ml_X8_99 0 0 (c_X8_recordOther l g N o μ kp hs tx (i1 tx ι len) n hn9 hn6) hB (Nat.le_of_ble_eq_true rfl) rfl (Nat.le_of_ble_eq_true rfl) rfl (L' := (mdL g o (c8 μ) kp (rcH hs n μ) tx (rcI (i1 tx ι len) n))) (rfl) rfl (Nat.le_of_ble_eq_true rfl) rfl rfl (Nat.le_of_ble_eq_true rfl) ⟨Nat.le_of_ble_eq_true rfl, Nat.le_of_ble_eq_true rfl⟩ ⟨Nat.le_of_ble_eq_true rfl, Nat.le_of_ble_eq_true rfl⟩ dX8_readCards_66 rfl ?_
            refine v_aload_n X dX8_readCards_69 (i := 0) rfl rfl ?_
            refine v_iconst X dX8_readCards_70 (v := (0 : Int32)) (by decide) ?_
            refine v_putB X hB cf8 8 (Nat.le_of_ble_eq_true rfl) rfl m_fl_X8_144 dX8_readCards_71 0 (Nat.le_of_ble_eq_true rfl) rfl rfl rfl (Nat.le_of_ble_eq_true rfl) (L' := (mdL g o (c8 μ) kp (rcH hs n μ) tx (upd (rcI (i1 tx ι len) n) 4 (0 : Int32)))) w_md_0_at ?_
            have LP74 : ∀ (n_ : Nat) (a : Nat) (ιk : Nat → Int32) (μk : Nat → Int32) (Ck : Nat) (m : Nat) (m2 : Nat), (ιk 4 = nI a) → (a ≤ len) → (ιk 1 = nI len) → (μk 0 = nI Ck) → (4 * Ck ≤ 4 * C0 + a) → (len < a + m2) → (a = len ∨ fdA tx len m a = -6) → (rkI tx len (len + 1) (i2 tx ι len n) = rkI tx len m2 ιk) → (rkS tx len (len + 1) (i2 tx ι len n) (c8 μ) = rkS tx len m2 ιk μk) → len - a < n_ → Vm vp l ve vs vm va vb vt vc g 4 3 N (some (.int (if (reE tx μ len) = 0 then rkS tx len (len + 1) (i2 tx ι len n) (c8 μ) 0 else (reE tx μ len)))) (ovr f o (mdL g o (if (reE tx μ len) = 0 then rkS tx len (len + 1) (i2 tx ι len n) (c8 μ) else μ) kp (if (reE tx μ len) = 0 then rcH hs n μ else hs) tx (if (reE tx μ len) = 0 then upd (rkI tx len (len + 1) (i2 tx ι len n)) 1 0 else (i1 tx ι len)))) (ovr f o (mdL g o μk kp (rcH hs n μ) tx ιk)) 74 [some (.ref o), some (.int (ctC tx k)), some (.int (nI k))] [] := by
              intro n_
              induction n_ with
              | zero => intro a ιk μk Ck m m2 ha4 hal hl1 hCk hCa hm9 hV hq hs2 hm_; exact absurd hm_ (Nat.not_lt_zero _)
              | succ n_ ih74 =>
                intro a ιk μk Ck m m2 ha4 hal hl1 hCk hCa hm9 hV hq hs2 hm74
                refine v_aload_n X dX8_readCards_74 (i := 0) rfl rfl ?_
                refine v_getB X hB cf8 8 (Nat.le_of_ble_eq_true rfl) m_fl_X8_144 dX8_readCards_75 0 (Nat.le_of_ble_eq_true rfl) rfl rfl ?_
                refine v_aload_n X dX8_readCards_78 (i := 0) rfl rfl ?_
                refine v_getB X hB cf8 5 (Nat.le_of_ble_eq_true rfl) m_fl_X8_141 dX8_readCards_79 0 (Nat.le_of_ble_eq_true rfl) rfl rfl ?_
                refine v_icmp_ge X dX8_readCards_82 (tgt := 116) (by decide) (fun c82 => ?_) (fun c82 => ?_)
                · skip
                  have ha2 : ¬ a < len := Nat.not_lt.mpr (le_of_nI (by omega) (by omega) (by rw [← ha4, ← hl1]; exact c82))
                  have hen := rk_end (tx := tx) (len := len) (μ := μk) ha4 (by omega) ha2 m2
                  refine v_aload_n X dX8_readCards_116 (i := 0) rfl rfl ?_
                  refine v_iconst X dX8_readCards_117 (v := (0 : Int32)) (by decide) ?_
                  refine v_putB X hB cf8 5 (Nat.le_of_ble_eq_true rfl) rfl m_fl_X8_141 dX8_readCards_118 0 (Nat.le_of_ble_eq_true rfl) rfl rfl rfl (Nat.le_of_ble_eq_true rfl) (L' := (mdL g o μk kp (rcH hs n μ) tx (upd ιk 1 (0 : Int32)))) w_md_0_textLength ?_
                  refine v_aload_n X dX8_readCards_121 (i := 0) rfl rfl ?_
                  refine v_getB X hB cf8 0 (Nat.le_of_ble_eq_true rfl) m_fl_X8_7 dX8_readCards_122 0 (Nat.le_of_ble_eq_true rfl) rfl rfl ?_
                  refine v_iconst X dX8_readCards_125 (v := (0 : Int32)) (by decide) ?_
                  refine v_ialdB X hB dX8_readCards_126 1 (Nat.le_of_ble_eq_true rfl) rfl 0 rfl (by omega) (Nat.le_of_ble_eq_true rfl) ?_
                  have hE : reE tx μ len = (0 : Int32) := by rw [reE, if_neg (not_not_intro c6), if_neg (by rw [← hk2]; exact Int32.not_lt.mpr c59)]
                  exact v_iret X rfl dX8_readCards_127 (by rw [hE, hs2, hen.2]; rfl) (by rw [hE, hs2, hq, hen.1, hen.2]; rfl)
                · skip
                  have ha2 : a < len := lt_of_nI (by omega) (by omega) (by rw [← ha4, ← hl1]; exact c82)
                  obtain ⟨m1, h1, hcb, hst⟩ := fd_step hlen80 hal (hV.resolve_left (by omega))
                  obtain ⟨m3, h3⟩ : ∃ m3, m2 = m3 + 1 := ⟨m2 - 1, by omega⟩
                  have hc4 := cdB_4 hcb hal
                  have hb1 : (if cC tx len (cdE tx len a) = 59 then cdE tx len a + 1 else cdE tx len a) ≤ len ∧ cdE tx len a ≤ (if cC tx len (cdE tx len a) = 59 then cdE tx len a + 1 else cdE tx len a) ∧ ((if cC tx len (cdE tx len a) = 59 then cdE tx len a + 1 else cdE tx len a) = len ∨ fdA tx len m1 (if cC tx len (cdE tx len a) = 59 then cdE tx len a + 1 else cdE tx len a) = -6) := by
                    have hce := cdE_le (tx := tx) hal
                    rcases hst with q | ⟨q1, q2, q3⟩
                    · rw [if_neg (fun z => absurd (cC_lt (tx := tx) (len := len) (a := cdE tx len a) (by rw [z]; decide)) (by omega))]
                      exact ⟨by omega, by omega, Or.inl q⟩
                    · rw [if_pos q1]
                      exact ⟨by omega, by omega, Or.inr q3⟩
                  refine v_aload_n X dX8_readCards_85 (i := 0) rfl rfl ?_
                  refine v_cvB X rfl yv_X8_readsCard m_ml_X8_162 0 0 (c_X8_readsCard l g N o μk kp (rcH hs n μ) tx ιk a len hl1 hlen80 ha4 hal) hB (Nat.le_of_ble_eq_true rfl) rfl (Nat.le_of_ble_eq_true rfl) rfl (L' := (mdL g o μk kp (rcH hs n μ) tx (ιP ιk (rqP tx len (rqE tx len a)) (rqF tx len a) (rqL tx len (rqE tx len a) (ιk 6)) (rqR tx len (rqE tx len a) (ιk 7))))) (rfl) rfl (Nat.le_of_ble_eq_true rfl) rfl rfl (Nat.le_of_ble_eq_true rfl) ⟨Nat.le_of_ble_eq_true rfl, Nat.le_of_ble_eq_true rfl⟩ ⟨Nat.le_of_ble_eq_true rfl, Nat.le_of_ble_eq_true rfl⟩ dX8_readCards_86 rfl ?_
                  have hce := cdE_le (tx := tx) hal
                  have h44 : rdI tx len ιk 4 = nI (cdE tx len a) := rdI_4 ha4 (by omega)
                  refine V.cast (f' := ovr f o (mdL g o μk kp (rcH hs n μ) tx (rdI tx len ιk))) ?_ rfl rfl (congrArg (fun z => ovr f o (mdL g o μk kp (rcH hs n μ) tx z)) (rdI_eq ha4 (by omega)))
                  refine v_pop X dX8_readCards_89 rfl ?_
                  refine v_aload_n X dX8_readCards_90 (i := 0) rfl rfl ?_
                  refine v_bipush X dX8_readCards_91 (v := (59 : Int32)) (by decide) ?_
                  refine v_cvB X rfl yv_X8_isNext m_ml_X8_153 0 0 (c_X8_isNext l g N o μk kp (rcH hs n μ) tx (rdI tx len ιk) (59 : Int32) (cdE tx len a) len ((rdI_o (by omega)).trans hl1) hlen80 h44 (by omega)) hB (Nat.le_of_ble_eq_true rfl) rfl (Nat.le_of_ble_eq_true rfl) rfl (L' := (mdL g o μk kp (rcH hs n μ) tx (upd (rdI tx len ιk) 4 (nI (if cC tx len (cdE tx len a) = (59 : Int32) then (cdE tx len a) + 1 else (cdE tx len a)))))) (rfl) rfl (Nat.le_of_ble_eq_true rfl) rfl rfl (Nat.le_of_ble_eq_true rfl) ⟨Nat.le_of_ble_eq_true rfl, Nat.le_of_ble_eq_true rfl⟩ ⟨Nat.le_of_ble_eq_true rfl, Nat.le_of_ble_eq_true rfl⟩ dX8_readCards_93 rfl ?_
                  refine V.cast (f' := ovr f o (mdL g o μk kp (rcH hs n μ) tx (nxI tx len (rdI tx len ιk)))) ?_ rfl rfl (congrArg (fun z => ovr f o (mdL g o μk kp (rcH hs n μ) tx z)) (nxI_eq h44 (by omega)))
                  refine v_pop X dX8_readCards_96 rfl ?_
                  refine v_aload_n X dX8_readCards_97 (i := 0) rfl rfl ?_
                  refine v_aload_n X dX8_readCards_98 (i := 0) rfl rfl ?_
                  refine v_getB X hB cf8 9 (Nat.le_of_ble_eq_true rfl) m_fl_X8_150 dX8_readCards_99 0 (Nat.le_of_ble_eq_true rfl) rfl rfl ?_
                  refine v_aload_n X dX8_readCards_102 (i := 0) rfl rfl ?_
                  refine v_getB X hB cf8 10 (Nat.le_of_ble_eq_true rfl) m_fl_X8_156 dX8_readCards_103 0 (Nat.le_of_ble_eq_true rfl) rfl rfl ?_
                  refine v_aload_n X dX8_readCards_106 (i := 0) rfl rfl ?_
                  refine v_getB X hB cf8 11 (Nat.le_of_ble_eq_true rfl) m_fl_X8_159 dX8_readCards_107 0 (Nat.le_of_ble_eq_true rfl) rfl rfl ?_
                  refine v_cvB X rfl yv_X8_addsCard m_ml_X8_111 0 0 (c_X8_addsCard2 l g N o μk kp (rcH hs n μ) tx (nxI tx len (rdI tx len ιk)) ((nxI tx len (rdI tx len ιk)) 5) ((nxI tx len (rdI tx len ιk)) 6) ((nxI tx len (rdI tx len ιk)) 7) Ck hCk (by omega)) hB (Nat.le_of_ble_eq_true rfl) rfl (Nat.le_of_ble_eq_true rfl) rfl (L' := (mdL g o (apS μk Ck ((nxI tx len (rdI tx len ιk)) 5) ((nxI tx len (rdI tx len ιk)) 6) ((nxI tx len (rdI tx len ιk)) 7)) kp (rcH hs n μ) tx (nxI tx len (rdI tx len ιk)))) (rfl) rfl (Nat.le_of_ble_eq_true rfl) rfl rfl (Nat.le_of_ble_eq_true rfl) ⟨Nat.le_of_ble_eq_true rfl, Nat.le_of_ble_eq_true rfl⟩ ⟨Nat.le_of_ble_eq_true rfl, Nat.le_of_ble_eq_true rfl⟩ dX8_readCards_110 rfl ?_
                  refine v_goto X dX8_readCards_113 (tgt := 74) (by decide) ?_
                  exact ih74 (if cC tx len (cdE tx len a) = 59 then cdE tx len a + 1 else cdE tx len a) (nxI tx len (rdI tx len ιk)) (apS μk Ck ((nxI tx len (rdI tx len ιk)) 5) ((nxI tx len (rdI tx len ιk)) 6) ((nxI tx len (rdI tx len ιk)) 7)) (Ck + 1) m1 m3 (nxI_4 h44 (by omega)) hb1.1 ((nxI_o (by omega)).trans ((rdI_o (by omega)).trans hl1)) (by rw [apS, pk_us]) (by omega) (by omega) hb1.2.2 (by rw [hq, h3, rkI, nt_of ha4 (by omega), if_pos ha2]) (by rw [hs2, h3, rkS, nt_of ha4 (by omega), if_pos ha2, nt_of hCk (by omega)]) (by omega)
            exact LP74 _ 0 (i2 tx ι len n) (c8 μ) C0 (len + 1) (len + 1) pk_us (Nat.zero_le _) ((pk_un (by omega)).trans ((pk_un (by omega)).trans hl9)) ((c8_o (by omega)).trans hC0) (by omega) (by omega) (Or.inr hfd) rfl rfl (Nat.lt_succ_self _)
          · skip
            refine v_bipush X dX8_readCards_62 (v := (-4 : Int32)) (by decide) ?_
            have hE : reE tx μ len = (-4 : Int32) := by rw [reE, if_neg (not_not_intro c6), if_pos (by rw [← hk2]; exact c59)]
            exact v_iret X rfl dX8_readCards_64 (by rw [hE]; rfl) (by rw [hE]; rfl)
        · skip
          have hk2 : k < len := lt_of_nI (by omega) (by omega) (by rw [← hl9]; exact c21)
          refine v_iload_n X dX8_readCards_24 (i := 1) rfl rfl ?_
          refine v_aload_n X dX8_readCards_25 (i := 0) rfl rfl ?_
          refine v_getB X hB cf8 4 (Nat.le_of_ble_eq_true rfl) m_fl_X8_19 dX8_readCards_26 0 (Nat.le_of_ble_eq_true rfl) rfl rfl ?_
          refine v_iload_n X dX8_readCards_29 (i := 2) rfl rfl ?_
          refine v_ialdB X hB dX8_readCards_30 4 (Nat.le_of_ble_eq_true rfl) rfl k rfl (by omega) (Nat.le_of_ble_eq_true rfl) ?_
          refine v_bipush X dX8_readCards_31 (v := (59 : Int32)) (by decide) ?_
          refine v_icmp_ne X dX8_readCards_33 (tgt := 40) (by decide) (fun c33 => ?_) (fun c33 => ?_)
          · skip
            refine v_iconst X dX8_readCards_40 (v := (0 : Int32)) (by decide) ?_
            refine v_iadd X dX8_readCards_41 ?_
            refine v_istore_n X dX8_readCards_42 (i := 1) rfl (Nat.le_of_ble_eq_true rfl) rfl ?_
            refine v_iinc X dX8_readCards_43 (v := nI (k + 1)) rfl (ix_inc rfl) (Nat.le_of_ble_eq_true rfl) rfl ?_
            refine v_goto X dX8_readCards_46 (tgt := 16) (by decide) ?_
            exact V.cast (ih16 (k + 1) (by omega) (by omega)) (by rw [ctC, if_neg c33, Int32.add_zero]; rfl) (rfl) (rfl)
          · skip
            refine v_iconst X dX8_readCards_36 (v := (1 : Int32)) (by decide) ?_
            refine v_goto X dX8_readCards_37 (tgt := 41) (by decide) ?_
            refine v_iadd X dX8_readCards_41 ?_
            refine v_istore_n X dX8_readCards_42 (i := 1) rfl (Nat.le_of_ble_eq_true rfl) rfl ?_
            refine v_iinc X dX8_readCards_43 (v := nI (k + 1)) rfl (ix_inc rfl) (Nat.le_of_ble_eq_true rfl) rfl ?_
            refine v_goto X dX8_readCards_46 (tgt := 16) (by decide) ?_
            exact V.cast (ih16 (k + 1) (by omega) (by omega)) (by rw [ctC, if_pos c33]; rfl) (rfl) (rfl)
    exact LP16 _ 0 (Nat.zero_le _) (Nat.lt_succ_self _)
  · skip
    refine v_bipush X dX8_readCards_9 (v := (-5 : Int32)) (by decide) ?_
    have hE : reE tx μ len = (-5 : Int32) := by rw [reE, if_pos c6]
    exact v_iret X rfl dX8_readCards_11 (by rw [hE]; rfl) (by rw [hE]; rfl)
