/-! the model class: the text is read -/
/-- the sign at a place, -1 behind the text -/
def cC (tx : Nat → Int32) (len a : Nat) : Int32 := if a < len then tx a else -1
def ιP (ι : Nat → Int32) (a : Nat) (f l r : Int32) : Nat → Int32 := upd (upd (upd (upd ι 4 (nI a)) 5 f) 6 l) 7 r
theorem ιP_4 {ι : Nat → Int32} {a : Nat} {f l r : Int32} : ιP ι a f l r 4 = nI a := by rw [ιP, pk_un (by omega), pk_un (by omega), pk_un (by omega), pk_us]
theorem ιP_5 {ι : Nat → Int32} {a : Nat} {f l r : Int32} : ιP ι a f l r 5 = f := by rw [ιP, pk_un (by omega), pk_un (by omega), pk_us]
theorem ιP_6 {ι : Nat → Int32} {a : Nat} {f l r : Int32} : ιP ι a f l r 6 = l := by rw [ιP, pk_un (by omega), pk_us]
theorem ιP_7 {ι : Nat → Int32} {a : Nat} {f l r : Int32} : ιP ι a f l r 7 = r := by rw [ιP, pk_us]
theorem ιP_o {ι : Nat → Int32} {a i : Nat} {f l r : Int32} (h : i < 4) : ιP ι a f l r i = ι i := by rw [ιP, pk_un (by omega), pk_un (by omega), pk_un (by omega), pk_un (by omega)]
theorem upd_cm {f : Nat → Int32} {i j : Nat} {a b : Int32} (h : i ≠ j) : upd (upd f i a) j b = upd (upd f j b) i a := by
  funext x
  by_cases e : x = j
  · subst e; rw [pk_us, pk_un (fun z => h z.symm), pk_us]
  · rw [pk_un e]
    by_cases e2 : x = i
    · subst e2; rw [pk_us, pk_us]
    · rw [pk_un e2, pk_un e2, pk_un e]
theorem ιP_u4 {ι : Nat → Int32} {a b : Nat} {f l r x : Int32} (hx : x = nI b) : upd (ιP ι a f l r) 4 x = ιP ι b f l r := by
  subst hx
  rw [ιP, upd_cm (by omega), upd_cm (f := upd (upd ι 4 (nI a)) 5 f) (by omega), upd_cm (f := upd ι 4 (nI a)) (by omega), upu, ιP]
theorem ιP_u5 {ι : Nat → Int32} {a : Nat} {f l r x : Int32} : upd (ιP ι a f l r) 5 x = ιP ι a x l r := by
  rw [ιP, upd_cm (by omega), upd_cm (f := upd (upd ι 4 (nI a)) 5 f) (by omega), upu, ιP]
theorem ιP_u6 {ι : Nat → Int32} {a : Nat} {f l r x : Int32} : upd (ιP ι a f l r) 6 x = ιP ι a f x r := by
  rw [ιP, upd_cm (by omega), upu, ιP]
theorem ιP_u7 {ι : Nat → Int32} {a : Nat} {f l r x : Int32} : upd (ιP ι a f l r) 7 x = ιP ι a f l x := by
  rw [ιP, upu, ιP]
theorem ιP_id {ι : Nat → Int32} {a : Nat} (h : ι 4 = nI a) : ιP ι a (ι 5) (ι 6) (ι 7) = ι := by
  funext i
  by_cases e7 : i = 7
  · subst e7; exact ιP_7
  by_cases e6 : i = 6
  · subst e6; exact ιP_6
  by_cases e5 : i = 5
  · subst e5; exact ιP_5
  by_cases e4 : i = 4
  · subst e4; rw [ιP_4, h]
  rw [ιP, pk_un e7, pk_un e6, pk_un e5, pk_un e4]
theorem ιP_P {ι : Nat → Int32} {a b : Nat} {f l r f' l' r' : Int32} : ιP (ιP ι a f l r) b f' l' r' = ιP ι b f' l' r' := by
  rw [ιP, ιP_u4 rfl, ιP_u5, ιP_u6, ιP_u7]
/-- where the frames end, and their set -/
def dgE (tx : Nat → Int32) (len : Nat) : Nat → Nat → Int32 → Nat
  | 0, a, _ => a
  | n + 1, a, l => if (48 : Int32) + l + 1 ≤ cC tx len a ∧ cC tx len a ≤ 53 then dgE tx len n (a + 1) (cC tx len a - 48) else a
def dgR (tx : Nat → Int32) (len : Nat) : Nat → Nat → Int32 → Int32 → Int32
  | 0, _, _, f => f
  | n + 1, a, l, f => if (48 : Int32) + l + 1 ≤ cC tx len a ∧ cC tx len a ≤ 53 then dgR tx len n (a + 1) (cC tx len a - 48) (f ||| ((1 : Int32) <<< ((cC tx len a - 48) &&& 31))) else f
def rqE (tx : Nat → Int32) (len a : Nat) : Nat := dgE tx len (len - a) a (-1)
def rqF (tx : Nat → Int32) (len a : Nat) : Int32 := dgR tx len (len - a) a (-1) 0

def qD1 (tx : Nat → Int32) (len e : Nat) : Bool := decide (cC tx len e = 76)
def qD2 (tx : Nat → Int32) (len e : Nat) : Bool := decide ((48 : Int32) ≤ cC tx len e ∧ cC tx len e ≤ 51)
def qD3 (tx : Nat → Int32) (len e : Nat) : Bool := decide (cC tx len e = 82)
def qD4 (tx : Nat → Int32) (len e : Nat) : Bool := decide ((48 : Int32) ≤ cC tx len e ∧ cC tx len e ≤ 49)
/-- how far a card is read whose frames end at e -/
def rqP (tx : Nat → Int32) (len e : Nat) : Nat := if qD1 tx len e = true then (if qD2 tx len (e + 1) = true then (if qD3 tx len (e + 2) = true then (if qD4 tx len (e + 3) = true then e + 4 else e + 3) else e + 2) else e + 1) else e
def rqL (tx : Nat → Int32) (len e : Nat) (l : Int32) : Int32 := if qD1 tx len e = true then (if qD2 tx len (e + 1) = true then cC tx len (e + 1) - 48 else l) else l
def rqR (tx : Nat → Int32) (len e : Nat) (r : Int32) : Int32 := if qD1 tx len e = true then (if qD2 tx len (e + 1) = true then (if qD3 tx len (e + 2) = true then (if qD4 tx len (e + 3) = true then cC tx len (e + 3) - 48 else r) else r) else r) else r
def rqB (tx : Nat → Int32) (len e : Nat) : Int32 := if qD1 tx len e = true then (if qD2 tx len (e + 1) = true then (if qD3 tx len (e + 2) = true then (if qD4 tx len (e + 3) = true then 1 else 0) else 0) else 0) else 0
theorem cC_lt {tx : Nat → Int32} {len a : Nat} (h : 0 ≤ cC tx len a) : a < len := by
  rcases Nat.lt_or_ge a len with q | q
  · exact q
  · rw [cC, if_neg (by omega)] at h; exact absurd h (by decide)
theorem dg_hit {tx : Nat → Int32} {len a : Nat} {l f : Int32} (ha : a < len) (h : (48 : Int32) + l + 1 ≤ cC tx len a ∧ cC tx len a ≤ 53) : dgE tx len (len - a) a l = dgE tx len (len - (a + 1)) (a + 1) (cC tx len a - 48) ∧ dgR tx len (len - a) a l f = dgR tx len (len - (a + 1)) (a + 1) (cC tx len a - 48) (f ||| ((1 : Int32) <<< ((cC tx len a - 48) &&& 31))) := by
  obtain ⟨n, hn⟩ : ∃ n, len - a = n + 1 := ⟨len - a - 1, by omega⟩
  have e : len - (a + 1) = n := by omega
  rw [hn, e, dgE, dgR, if_pos h, if_pos h]
  exact ⟨rfl, rfl⟩
theorem dg_miss {tx : Nat → Int32} {len a : Nat} {l f : Int32} (h : ¬ ((48 : Int32) + l + 1 ≤ cC tx len a ∧ cC tx len a ≤ 53)) : dgE tx len (len - a) a l = a ∧ dgR tx len (len - a) a l f = f := by
  cases len - a with
  | zero => exact ⟨rfl, rfl⟩
  | succ n => rw [dgE, dgR, if_neg h, if_neg h]; exact ⟨rfl, rfl⟩
/-- the last frame that was read: -1 to 5 -/
def lsP (l : Int32) : Prop := ∃ k : Nat, k < 7 ∧ l = nI k - 1
theorem lsP_0 : lsP (-1) := ⟨0, by omega, by decide⟩
theorem lsP_n {l c : Int32} (hl : lsP l) (h : (48 : Int32) + l + 1 ≤ c ∧ c ≤ 53) : lsP (c - 48) ∧ 0 ≤ c := by
  obtain ⟨k, hk, rfl⟩ := hl
  have h0 : (0 : Int32) ≤ 48 + (nI k - 1) + 1 := by
    have e : k = 0 ∨ k = 1 ∨ k = 2 ∨ k = 3 ∨ k = 4 ∨ k = 5 ∨ k = 6 := by omega
    rcases e with rfl | rfl | rfl | rfl | rfl | rfl | rfl <;> decide
  have hc : (0 : Int32) ≤ c := Int32.le_trans h0 h.1
  have h48 : (48 : Int32) ≤ 48 + (nI k - 1) + 1 := by
    have e : k = 0 ∨ k = 1 ∨ k = 2 ∨ k = 3 ∨ k = 4 ∨ k = 5 ∨ k = 6 := by omega
    rcases e with rfl | rfl | rfl | rfl | rfl | rfl | rfl <;> decide
  refine ⟨?_, hc⟩
  obtain ⟨j, hj, rfl⟩ := nI_cases (n := 53) (by omega) hc h.2
  have h2 : 48 ≤ j := (nI_leI (a := 48) (by omega) (by omega)).mp (Int32.le_trans h48 h.1)
  refine ⟨j - 47, by omega, ?_⟩
  rw [show nI j - 48 = nI (j - 48) from pk_sub (b := 48) (by omega), show nI (j - 47) - 1 = nI (j - 47 - 1) from pk_sub (b := 1) (by omega)]
  congr 1
set_option maxRecDepth 100000 in
set_option maxHeartbeats 4000000 in
theorem c_X8_character (l : Launch) (g : Ge) (N o : Nat) (x_a : Int32) (a : Nat) (hx_a : x_a = nI a) (μ kp hs tx ι : Nat → Int32) (len : Nat) (hlen : ι 1 = nI len) (hlen80 : len ≤ 80) (ha80 : a ≤ 80) : Cb l g yX8_character (.code yX8_character cX8_character 2 (some .int)) 0 [.ref o, .int x_a] N o (mdL g o μ kp hs tx ι) (some (.int (cC tx len a))) (mdL g o μ kp hs tx ι) := by
  intro f hB0
  have hB : BB g N o 5 := hB0
  subst hx_a
  refine ct_of (own := RX8) [some (.ref o), some (.int (nI a))] (by decide +kernel) rfl rfl (Nat.le_of_ble_eq_true rfl) ?_
  intro vp ve vs vm va vb vt vc hnm X
  refine v_iload_n X dX8_character_0 (i := 1) rfl rfl ?_
  refine v_aload_n X dX8_character_1 (i := 0) rfl rfl ?_
  refine v_getB X hB cf8 5 (Nat.le_of_ble_eq_true rfl) m_fl_X8_141 dX8_character_2 0 (Nat.le_of_ble_eq_true rfl) rfl rfl ?_
  refine v_icmp_ge X dX8_character_5 (tgt := 17) (by decide) (fun c5 => ?_) (fun c5 => ?_)
  · skip
    have ha2 : ¬ a < len := Nat.not_lt.mpr (le_of_nI (by omega) (by omega) (by rw [← hlen]; exact c5))
    refine v_iconst X dX8_character_17 (v := (-1 : Int32)) (by decide) ?_
    exact v_iret X rfl dX8_character_18 (by rw [cC, if_neg ha2]) (rfl)
  · skip
    have ha2 : a < len := lt_of_nI (by omega) (by omega) (by rw [← hlen]; exact c5)
    refine v_aload_n X dX8_character_8 (i := 0) rfl rfl ?_
    refine v_getB X hB cf8 4 (Nat.le_of_ble_eq_true rfl) m_fl_X8_19 dX8_character_9 0 (Nat.le_of_ble_eq_true rfl) rfl rfl ?_
    refine v_iload_n X dX8_character_12 (i := 1) rfl rfl ?_
    refine v_ialdB X hB dX8_character_13 4 (Nat.le_of_ble_eq_true rfl) rfl a rfl (by omega) (Nat.le_of_ble_eq_true rfl) ?_
    refine v_goto X dX8_character_14 (tgt := 18) (by decide) ?_
    exact v_iret X rfl dX8_character_18 (by rw [cC, if_pos ha2]) (rfl)
theorem cC_1 {ι : Nat → Int32} {len a : Nat} {f l r : Int32} (h : ι 1 = nI len) : ιP ι a f l r 1 = nI len := by rw [ιP_o (by omega), h]
set_option maxRecDepth 100000 in
set_option maxHeartbeats 4000000 in
theorem c_X8_isNext (l : Launch) (g : Ge) (N o : Nat) (μ kp hs tx ι : Nat → Int32) (x : Int32) (a : Nat) (len : Nat) (hlen : ι 1 = nI len) (hlen80 : len ≤ 80) (ha4 : ι 4 = nI a) (ha80 : a ≤ 80) : Cb l g yX8_isNext (.code yX8_isNext cX8_isNext 3 (some .boolean)) 1 [.ref o, .int x] N o (mdL g o μ kp hs tx ι) (some (.int (bI (cC tx len a = x)))) (mdL g o μ kp hs tx (upd ι 4 (nI (if cC tx len a = x then a + 1 else a)))) := by
  intro f hB0
  have hB : BB g N o 5 := hB0
  refine ct_of (own := RX8) [some (.ref o), some (.int x), none] (by decide +kernel) rfl rfl (Nat.le_of_ble_eq_true rfl) ?_
  intro vp ve vs vm va vb vt vc hnm X
  refine v_aload_n X dX8_isNext_0 (i := 0) rfl rfl ?_
  refine v_aload_n X dX8_isNext_1 (i := 0) rfl rfl ?_
  refine v_getB X hB cf8 8 (Nat.le_of_ble_eq_true rfl) m_fl_X8_144 dX8_isNext_2 0 (Nat.le_of_ble_eq_true rfl) rfl rfl ?_
  refine v_cvB X rfl yv_X8_character m_ml_X8_147 0 0 (c_X8_character l g N o (ι 4) a ha4 μ kp hs tx ι len hlen hlen80 (by omega)) hB (Nat.le_of_ble_eq_true rfl) rfl (Nat.le_of_ble_eq_true rfl) rfl (L' := (mdL g o μ kp hs tx ι)) (rfl) rfl (Nat.le_of_ble_eq_true rfl) rfl rfl (Nat.le_of_ble_eq_true rfl) ⟨Nat.le_of_ble_eq_true rfl, Nat.le_of_ble_eq_true rfl⟩ ⟨Nat.le_of_ble_eq_true rfl, Nat.le_of_ble_eq_true rfl⟩ dX8_isNext_5 rfl ?_
  refine v_iload_n X dX8_isNext_8 (i := 1) rfl rfl ?_
  refine v_icmp_ne X dX8_isNext_9 (tgt := 16) (by decide) (fun c9 => ?_) (fun c9 => ?_)
  · skip
    refine v_iconst X dX8_isNext_16 (v := (0 : Int32)) (by decide) ?_
    refine v_istore_n X dX8_isNext_17 (i := 2) rfl (Nat.le_of_ble_eq_true rfl) rfl ?_
    refine v_aload_n X dX8_isNext_18 (i := 0) rfl rfl ?_
    refine v_dup X dX8_isNext_19 rfl ?_
    refine v_getB X hB cf8 8 (Nat.le_of_ble_eq_true rfl) m_fl_X8_144 dX8_isNext_20 0 (Nat.le_of_ble_eq_true rfl) rfl rfl ?_
    refine v_iload_n X dX8_isNext_23 (i := 2) rfl rfl ?_
    refine v_if_eq X dX8_isNext_24 (tgt := 31) (by decide) (fun c24 => ?_) (fun c24 => ?_)
    · skip
      refine v_iconst X dX8_isNext_31 (v := (0 : Int32)) (by decide) ?_
      refine v_iadd X dX8_isNext_32 ?_
      refine v_putB X hB cf8 8 (Nat.le_of_ble_eq_true rfl) rfl m_fl_X8_144 dX8_isNext_33 0 (Nat.le_of_ble_eq_true rfl) rfl rfl rfl (Nat.le_of_ble_eq_true rfl) (L' := (mdL g o μ kp hs tx (upd ι 4 ((ι 4) + (0 : Int32))))) w_md_0_at ?_
      refine v_iload_n X dX8_isNext_36 (i := 2) rfl rfl ?_
      exact v_zret X rfl dX8_isNext_37 (rfl) (congrArg (fun z => some (Value.int z)) (bI_f c9).symm) (by rw [if_neg c9, ha4, Int32.add_zero])
    · skip
      exact absurd c24 (by decide)
  · skip
    refine v_iconst X dX8_isNext_12 (v := (1 : Int32)) (by decide) ?_
    refine v_goto X dX8_isNext_13 (tgt := 17) (by decide) ?_
    refine v_istore_n X dX8_isNext_17 (i := 2) rfl (Nat.le_of_ble_eq_true rfl) rfl ?_
    refine v_aload_n X dX8_isNext_18 (i := 0) rfl rfl ?_
    refine v_dup X dX8_isNext_19 rfl ?_
    refine v_getB X hB cf8 8 (Nat.le_of_ble_eq_true rfl) m_fl_X8_144 dX8_isNext_20 0 (Nat.le_of_ble_eq_true rfl) rfl rfl ?_
    refine v_iload_n X dX8_isNext_23 (i := 2) rfl rfl ?_
    refine v_if_eq X dX8_isNext_24 (tgt := 31) (by decide) (fun c24 => ?_) (fun c24 => ?_)
    · skip
      exact absurd c24 (by decide)
    · skip
      refine v_iconst X dX8_isNext_27 (v := (1 : Int32)) (by decide) ?_
      refine v_goto X dX8_isNext_28 (tgt := 32) (by decide) ?_
      refine v_iadd X dX8_isNext_32 ?_
      refine v_putB X hB cf8 8 (Nat.le_of_ble_eq_true rfl) rfl m_fl_X8_144 dX8_isNext_33 0 (Nat.le_of_ble_eq_true rfl) rfl rfl rfl (Nat.le_of_ble_eq_true rfl) (L' := (mdL g o μ kp hs tx (upd ι 4 ((ι 4) + (1 : Int32))))) w_md_0_at ?_
      refine v_iload_n X dX8_isNext_36 (i := 2) rfl rfl ?_
      exact v_zret X rfl dX8_isNext_37 (rfl) (congrArg (fun z => some (Value.int z)) (bI_t c9).symm) (by rw [if_pos c9, ha4, nI_1])
set_option maxRecDepth 100000 in
set_option maxHeartbeats 4000000 in
theorem c_X8_readsCard (l : Launch) (g : Ge) (N o : Nat) (μ kp hs tx ι : Nat → Int32) (a : Nat) (len : Nat) (hlen : ι 1 = nI len) (hlen80 : len ≤ 80) (ha4 : ι 4 = nI a) (hal : a ≤ len) : Cb l g yX8_readsCard (.code yX8_readsCard cX8_readsCard 2 (some .boolean)) 2 [.ref o] N o (mdL g o μ kp hs tx ι) (some (.int (rqB tx len (rqE tx len a)))) (mdL g o μ kp hs tx (ιP ι (rqP tx len (rqE tx len a)) (rqF tx len a) (rqL tx len (rqE tx len a) (ι 6)) (rqR tx len (rqE tx len a) (ι 7)))) := by
  intro f hB0
  have hB : BB g N o 5 := hB0
  refine ct_of (own := RX8) [some (.ref o), none] (by decide +kernel) rfl rfl (Nat.le_of_ble_eq_true rfl) ?_
  intro vp ve vs vm va vb vt vc hnm X
  refine v_aload_n X dX8_readsCard_0 (i := 0) rfl rfl ?_
  refine v_iconst X dX8_readsCard_1 (v := (0 : Int32)) (by decide) ?_
  refine v_putB X hB cf8 9 (Nat.le_of_ble_eq_true rfl) rfl m_fl_X8_150 dX8_readsCard_2 0 (Nat.le_of_ble_eq_true rfl) rfl rfl rfl (Nat.le_of_ble_eq_true rfl) (L' := (mdL g o μ kp hs tx (upd ι 5 (0 : Int32)))) w_md_0_framesRead ?_
  refine v_iconst X dX8_readsCard_5 (v := (-1 : Int32)) (by decide) ?_
  refine v_istore_n X dX8_readsCard_6 (i := 1) rfl (Nat.le_of_ble_eq_true rfl) rfl ?_
  have LP7 : ∀ (n_ : Nat) (j : Nat) (f2 : Int32) (ls : Int32), (j ≤ len) → (lsP ls) → (rqE tx len a = dgE tx len (len - j) j ls) → (rqF tx len a = dgR tx len (len - j) j ls f2) → len - j < n_ → Vm vp l ve vs vm va vb vt vc g 2 2 N (some (.int (rqB tx len (rqE tx len a)))) (ovr f o (mdL g o μ kp hs tx (ιP ι (rqP tx len (rqE tx len a)) (rqF tx len a) (rqL tx len (rqE tx len a) (ι 6)) (rqR tx len (rqE tx len a) (ι 7))))) (ovr f o (mdL g o μ kp hs tx (ιP ι j f2 (ι 6) (ι 7)))) 7 [some (.ref o), some (.int ls)] [] := by
    intro n_
    induction n_ with
    | zero => intro j f2 ls hj hls hE1 hF1 hm_; exact absurd hm_ (Nat.not_lt_zero _)
    | succ n_ ih7 =>
      intro j f2 ls hj hls hE1 hF1 hm7
      refine v_aload_n X dX8_readsCard_7 (i := 0) rfl rfl ?_
      refine v_aload_n X dX8_readsCard_8 (i := 0) rfl rfl ?_
      refine v_getB X hB cf8 8 (Nat.le_of_ble_eq_true rfl) m_fl_X8_144 dX8_readsCard_9 0 (Nat.le_of_ble_eq_true rfl) rfl rfl ?_
      refine v_cvB X rfl yv_X8_character m_ml_X8_147 0 0 (c_X8_character l g N o ((ιP ι j f2 (ι 6) (ι 7)) 4) j ιP_4 μ kp hs tx (ιP ι j f2 (ι 6) (ι 7)) len (cC_1 hlen) hlen80 (by omega)) hB (Nat.le_of_ble_eq_true rfl) rfl (Nat.le_of_ble_eq_true rfl) rfl (L' := (mdL g o μ kp hs tx (ιP ι j f2 (ι 6) (ι 7)))) (rfl) rfl (Nat.le_of_ble_eq_true rfl) rfl rfl (Nat.le_of_ble_eq_true rfl) ⟨Nat.le_of_ble_eq_true rfl, Nat.le_of_ble_eq_true rfl⟩ ⟨Nat.le_of_ble_eq_true rfl, Nat.le_of_ble_eq_true rfl⟩ dX8_readsCard_12 rfl ?_
      refine v_bipush X dX8_readsCard_15 (v := (48 : Int32)) (by decide) ?_
      refine v_iload_n X dX8_readsCard_17 (i := 1) rfl rfl ?_
      refine v_iadd X dX8_readsCard_18 ?_
      refine v_iconst X dX8_readsCard_19 (v := (1 : Int32)) (by decide) ?_
      refine v_iadd X dX8_readsCard_20 ?_
      refine v_bipush X dX8_readsCard_21 (v := (53 : Int32)) (by decide) ?_
      refine v_cs X rfl yv_X8_within m_ml_X8_40 (c_X8_within l g (cC tx len j) (((48 : Int32) + ls) + (1 : Int32)) (53 : Int32) ) rfl rfl (Nat.le_of_ble_eq_true rfl) ⟨Nat.le_of_ble_eq_true rfl, Nat.le_of_ble_eq_true rfl⟩ ⟨Nat.le_of_ble_eq_true rfl, Nat.le_of_ble_eq_true rfl⟩ dX8_readsCard_23 rfl ?_
      refine v_if_eqB X dX8_readsCard_26 (tgt := 66) (by decide) (fun c26 => ?_) (fun c26 => ?_)
      · skip
        have he : rqE tx len a = j := hE1.trans (dg_miss (f := f2) c26).1
        have hf2 : rqF tx len a = f2 := hF1.trans (dg_miss c26).2
        refine v_aload_n X dX8_readsCard_66 (i := 0) rfl rfl ?_
        refine v_bipush X dX8_readsCard_67 (v := (76 : Int32)) (by decide) ?_
        refine v_cvB X rfl yv_X8_isNext m_ml_X8_153 0 0 (c_X8_isNext l g N o μ kp hs tx (ιP ι j f2 (ι 6) (ι 7)) (76 : Int32) j len (cC_1 hlen) hlen80 ιP_4 (by omega)) hB (Nat.le_of_ble_eq_true rfl) rfl (Nat.le_of_ble_eq_true rfl) rfl (L' := (mdL g o μ kp hs tx (upd (ιP ι j f2 (ι 6) (ι 7)) 4 (nI (if cC tx len j = (76 : Int32) then j + 1 else j))))) (rfl) rfl (Nat.le_of_ble_eq_true rfl) rfl rfl (Nat.le_of_ble_eq_true rfl) ⟨Nat.le_of_ble_eq_true rfl, Nat.le_of_ble_eq_true rfl⟩ ⟨Nat.le_of_ble_eq_true rfl, Nat.le_of_ble_eq_true rfl⟩ dX8_readsCard_69 rfl ?_
        refine v_if_eqB X dX8_readsCard_72 (tgt := 93) (by decide) (fun c72 => ?_) (fun c72 => ?_)
        · skip
          have k1 : ¬ qD1 tx len j = true := fun q => c72 (of_decide_eq_true q)
          refine V.cast (f' := ovr f o (mdL g o μ kp hs tx (ιP ι j f2 (ι 6) (ι 7)))) ?_ rfl rfl (congrArg (fun z => ovr f o (mdL g o μ kp hs tx z)) ((ιP_u4 (b := j) (by rw [if_neg c72]))))
          refine v_iconst X dX8_readsCard_93 (v := (0 : Int32)) (by decide) ?_
          exact v_zret X rfl dX8_readsCard_94 (rfl) (by rw [he, rqB, if_neg k1]) (by rw [he, hf2, rqP, if_neg k1, rqL, if_neg k1, rqR, if_neg k1])
        · skip
          have k1 : qD1 tx len j = true := decide_eq_true c72
          have hl1 : j < len := cC_lt (by rw [c72]; decide)
          refine V.cast (f' := ovr f o (mdL g o μ kp hs tx (ιP ι (j + 1) f2 (ι 6) (ι 7)))) ?_ rfl rfl (congrArg (fun z => ovr f o (mdL g o μ kp hs tx z)) ((ιP_u4 (b := j + 1) (by rw [if_pos c72]))))
          refine v_aload_n X dX8_readsCard_75 (i := 0) rfl rfl ?_
          refine v_aload_n X dX8_readsCard_76 (i := 0) rfl rfl ?_
          refine v_getB X hB cf8 8 (Nat.le_of_ble_eq_true rfl) m_fl_X8_144 dX8_readsCard_77 0 (Nat.le_of_ble_eq_true rfl) rfl rfl ?_
          refine v_cvB X rfl yv_X8_character m_ml_X8_147 0 0 (c_X8_character l g N o ((ιP ι (j + 1) f2 (ι 6) (ι 7)) 4) (j + 1) ιP_4 μ kp hs tx (ιP ι (j + 1) f2 (ι 6) (ι 7)) len (cC_1 hlen) hlen80 (by omega)) hB (Nat.le_of_ble_eq_true rfl) rfl (Nat.le_of_ble_eq_true rfl) rfl (L' := (mdL g o μ kp hs tx (ιP ι (j + 1) f2 (ι 6) (ι 7)))) (rfl) rfl (Nat.le_of_ble_eq_true rfl) rfl rfl (Nat.le_of_ble_eq_true rfl) ⟨Nat.le_of_ble_eq_true rfl, Nat.le_of_ble_eq_true rfl⟩ ⟨Nat.le_of_ble_eq_true rfl, Nat.le_of_ble_eq_true rfl⟩ dX8_readsCard_80 rfl ?_
          refine v_bipush X dX8_readsCard_83 (v := (48 : Int32)) (by decide) ?_
          refine v_bipush X dX8_readsCard_85 (v := (51 : Int32)) (by decide) ?_
          refine v_cs X rfl yv_X8_within m_ml_X8_40 (c_X8_within l g (cC tx len (j + 1)) (48 : Int32) (51 : Int32) ) rfl rfl (Nat.le_of_ble_eq_true rfl) ⟨Nat.le_of_ble_eq_true rfl, Nat.le_of_ble_eq_true rfl⟩ ⟨Nat.le_of_ble_eq_true rfl, Nat.le_of_ble_eq_true rfl⟩ dX8_readsCard_87 rfl ?_
          refine v_if_neB X dX8_readsCard_90 (tgt := 95) (by decide) (fun c90 => ?_) (fun c90 => ?_)
          · skip
            have k2 : qD2 tx len (j + 1) = true := decide_eq_true c90
            have hl2 : j + 1 < len := cC_lt (Int32.le_trans (by decide) c90.1)
            refine v_aload_n X dX8_readsCard_95 (i := 0) rfl rfl ?_
            refine v_aload_n X dX8_readsCard_96 (i := 0) rfl rfl ?_
            refine v_aload_n X dX8_readsCard_97 (i := 0) rfl rfl ?_
            refine v_getB X hB cf8 8 (Nat.le_of_ble_eq_true rfl) m_fl_X8_144 dX8_readsCard_98 0 (Nat.le_of_ble_eq_true rfl) rfl rfl ?_
            refine v_cvB X rfl yv_X8_character m_ml_X8_147 0 0 (c_X8_character l g N o ((ιP ι (j + 1) f2 (ι 6) (ι 7)) 4) (j + 1) ιP_4 μ kp hs tx (ιP ι (j + 1) f2 (ι 6) (ι 7)) len (cC_1 hlen) hlen80 (by omega)) hB (Nat.le_of_ble_eq_true rfl) rfl (Nat.le_of_ble_eq_true rfl) rfl (L' := (mdL g o μ kp hs tx (ιP ι (j + 1) f2 (ι 6) (ι 7)))) (rfl) rfl (Nat.le_of_ble_eq_true rfl) rfl rfl (Nat.le_of_ble_eq_true rfl) ⟨Nat.le_of_ble_eq_true rfl, Nat.le_of_ble_eq_true rfl⟩ ⟨Nat.le_of_ble_eq_true rfl, Nat.le_of_ble_eq_true rfl⟩ dX8_readsCard_101 rfl ?_
            refine v_bipush X dX8_readsCard_104 (v := (48 : Int32)) (by decide) ?_
            refine v_isub X dX8_readsCard_106 ?_
            refine v_putB X hB cf8 10 (Nat.le_of_ble_eq_true rfl) rfl m_fl_X8_156 dX8_readsCard_107 0 (Nat.le_of_ble_eq_true rfl) rfl rfl rfl (Nat.le_of_ble_eq_true rfl) (L' := (mdL g o μ kp hs tx (upd (ιP ι (j + 1) f2 (ι 6) (ι 7)) 6 ((cC tx len (j + 1)) - (48 : Int32))))) w_md_0_leftRead ?_
            refine v_aload_n X dX8_readsCard_110 (i := 0) rfl rfl ?_
            refine v_dup X dX8_readsCard_111 rfl ?_
            refine v_getB X hB cf8 8 (Nat.le_of_ble_eq_true rfl) m_fl_X8_144 dX8_readsCard_112 0 (Nat.le_of_ble_eq_true rfl) rfl rfl ?_
            refine v_iconst X dX8_readsCard_115 (v := (1 : Int32)) (by decide) ?_
            refine v_iadd X dX8_readsCard_116 ?_
            refine v_putB X hB cf8 8 (Nat.le_of_ble_eq_true rfl) rfl m_fl_X8_144 dX8_readsCard_117 0 (Nat.le_of_ble_eq_true rfl) rfl rfl rfl (Nat.le_of_ble_eq_true rfl) (L' := (mdL g o μ kp hs tx (upd (upd (ιP ι (j + 1) f2 (ι 6) (ι 7)) 6 ((cC tx len (j + 1)) - (48 : Int32))) 4 (((upd (ιP ι (j + 1) f2 (ι 6) (ι 7)) 6 ((cC tx len (j + 1)) - (48 : Int32))) 4) + (1 : Int32))))) w_md_0_at ?_
            refine V.cast (f' := ovr f o (mdL g o μ kp hs tx (ιP ι (j + 2) f2 (cC tx len (j + 1) - 48) (ι 7)))) ?_ rfl rfl (congrArg (fun z => ovr f o (mdL g o μ kp hs tx z)) (by rw [ιP_u6, ιP_4, ιP_u4 (b := j + 2) (nI_1 (j + 1))]))
            refine v_aload_n X dX8_readsCard_120 (i := 0) rfl rfl ?_
            refine v_bipush X dX8_readsCard_121 (v := (82 : Int32)) (by decide) ?_
            refine v_cvB X rfl yv_X8_isNext m_ml_X8_153 0 0 (c_X8_isNext l g N o μ kp hs tx (ιP ι (j + 2) f2 (cC tx len (j + 1) - 48) (ι 7)) (82 : Int32) (j + 2) len (cC_1 hlen) hlen80 ιP_4 (by omega)) hB (Nat.le_of_ble_eq_true rfl) rfl (Nat.le_of_ble_eq_true rfl) rfl (L' := (mdL g o μ kp hs tx (upd (ιP ι (j + 2) f2 (cC tx len (j + 1) - 48) (ι 7)) 4 (nI (if cC tx len (j + 2) = (82 : Int32) then (j + 2) + 1 else (j + 2)))))) (rfl) rfl (Nat.le_of_ble_eq_true rfl) rfl rfl (Nat.le_of_ble_eq_true rfl) ⟨Nat.le_of_ble_eq_true rfl, Nat.le_of_ble_eq_true rfl⟩ ⟨Nat.le_of_ble_eq_true rfl, Nat.le_of_ble_eq_true rfl⟩ dX8_readsCard_123 rfl ?_
            refine v_if_eqB X dX8_readsCard_126 (tgt := 147) (by decide) (fun c126 => ?_) (fun c126 => ?_)
            · skip
              have k3 : ¬ qD3 tx len (j + 2) = true := fun q => c126 (of_decide_eq_true q)
              refine V.cast (f' := ovr f o (mdL g o μ kp hs tx (ιP ι (j + 2) f2 (cC tx len (j + 1) - 48) (ι 7)))) ?_ rfl rfl (congrArg (fun z => ovr f o (mdL g o μ kp hs tx z)) ((ιP_u4 (b := j + 2) (by rw [if_neg c126]))))
              refine v_iconst X dX8_readsCard_147 (v := (0 : Int32)) (by decide) ?_
              exact v_zret X rfl dX8_readsCard_148 (rfl) (by rw [he, rqB, if_pos k1, if_pos k2, if_neg k3]) (by rw [he, hf2, rqP, if_pos k1, if_pos k2, if_neg k3, rqL, if_pos k1, if_pos k2, rqR, if_pos k1, if_pos k2, if_neg k3])
            · skip
              have k3 : qD3 tx len (j + 2) = true := decide_eq_true c126
              have hl3 : j + 2 < len := cC_lt (by rw [c126]; decide)
              refine V.cast (f' := ovr f o (mdL g o μ kp hs tx (ιP ι (j + 3) f2 (cC tx len (j + 1) - 48) (ι 7)))) ?_ rfl rfl (congrArg (fun z => ovr f o (mdL g o μ kp hs tx z)) ((ιP_u4 (b := j + 3) (by rw [if_pos c126]))))
              refine v_aload_n X dX8_readsCard_129 (i := 0) rfl rfl ?_
              refine v_aload_n X dX8_readsCard_130 (i := 0) rfl rfl ?_
              refine v_getB X hB cf8 8 (Nat.le_of_ble_eq_true rfl) m_fl_X8_144 dX8_readsCard_131 0 (Nat.le_of_ble_eq_true rfl) rfl rfl ?_
              refine v_cvB X rfl yv_X8_character m_ml_X8_147 0 0 (c_X8_character l g N o ((ιP ι (j + 3) f2 (cC tx len (j + 1) - 48) (ι 7)) 4) (j + 3) ιP_4 μ kp hs tx (ιP ι (j + 3) f2 (cC tx len (j + 1) - 48) (ι 7)) len (cC_1 hlen) hlen80 (by omega)) hB (Nat.le_of_ble_eq_true rfl) rfl (Nat.le_of_ble_eq_true rfl) rfl (L' := (mdL g o μ kp hs tx (ιP ι (j + 3) f2 (cC tx len (j + 1) - 48) (ι 7)))) (rfl) rfl (Nat.le_of_ble_eq_true rfl) rfl rfl (Nat.le_of_ble_eq_true rfl) ⟨Nat.le_of_ble_eq_true rfl, Nat.le_of_ble_eq_true rfl⟩ ⟨Nat.le_of_ble_eq_true rfl, Nat.le_of_ble_eq_true rfl⟩ dX8_readsCard_134 rfl ?_
              refine v_bipush X dX8_readsCard_137 (v := (48 : Int32)) (by decide) ?_
              refine v_bipush X dX8_readsCard_139 (v := (49 : Int32)) (by decide) ?_
              refine v_cs X rfl yv_X8_within m_ml_X8_40 (c_X8_within l g (cC tx len (j + 3)) (48 : Int32) (49 : Int32) ) rfl rfl (Nat.le_of_ble_eq_true rfl) ⟨Nat.le_of_ble_eq_true rfl, Nat.le_of_ble_eq_true rfl⟩ ⟨Nat.le_of_ble_eq_true rfl, Nat.le_of_ble_eq_true rfl⟩ dX8_readsCard_141 rfl ?_
              refine v_if_neB X dX8_readsCard_144 (tgt := 149) (by decide) (fun c144 => ?_) (fun c144 => ?_)
              · skip
                have k4 : qD4 tx len (j + 3) = true := decide_eq_true c144
                have hl4 : j + 3 < len := cC_lt (Int32.le_trans (by decide) c144.1)
                refine v_aload_n X dX8_readsCard_149 (i := 0) rfl rfl ?_
                refine v_aload_n X dX8_readsCard_150 (i := 0) rfl rfl ?_
                refine v_aload_n X dX8_readsCard_151 (i := 0) rfl rfl ?_
                refine v_getB X hB cf8 8 (Nat.le_of_ble_eq_true rfl) m_fl_X8_144 dX8_readsCard_152 0 (Nat.le_of_ble_eq_true rfl) rfl rfl ?_
                refine v_cvB X rfl yv_X8_character m_ml_X8_147 0 0 (c_X8_character l g N o ((ιP ι (j + 3) f2 (cC tx len (j + 1) - 48) (ι 7)) 4) (j + 3) ιP_4 μ kp hs tx (ιP ι (j + 3) f2 (cC tx len (j + 1) - 48) (ι 7)) len (cC_1 hlen) hlen80 (by omega)) hB (Nat.le_of_ble_eq_true rfl) rfl (Nat.le_of_ble_eq_true rfl) rfl (L' := (mdL g o μ kp hs tx (ιP ι (j + 3) f2 (cC tx len (j + 1) - 48) (ι 7)))) (rfl) rfl (Nat.le_of_ble_eq_true rfl) rfl rfl (Nat.le_of_ble_eq_true rfl) ⟨Nat.le_of_ble_eq_true rfl, Nat.le_of_ble_eq_true rfl⟩ ⟨Nat.le_of_ble_eq_true rfl, Nat.le_of_ble_eq_true rfl⟩ dX8_readsCard_155 rfl ?_
                refine v_bipush X dX8_readsCard_158 (v := (48 : Int32)) (by decide) ?_
                refine v_isub X dX8_readsCard_160 ?_
                refine v_putB X hB cf8 11 (Nat.le_of_ble_eq_true rfl) rfl m_fl_X8_159 dX8_readsCard_161 0 (Nat.le_of_ble_eq_true rfl) rfl rfl rfl (Nat.le_of_ble_eq_true rfl) (L' := (mdL g o μ kp hs tx (upd (ιP ι (j + 3) f2 (cC tx len (j + 1) - 48) (ι 7)) 7 ((cC tx len (j + 3)) - (48 : Int32))))) w_md_0_rightRead ?_
                refine v_aload_n X dX8_readsCard_164 (i := 0) rfl rfl ?_
                refine v_dup X dX8_readsCard_165 rfl ?_
                refine v_getB X hB cf8 8 (Nat.le_of_ble_eq_true rfl) m_fl_X8_144 dX8_readsCard_166 0 (Nat.le_of_ble_eq_true rfl) rfl rfl ?_
                refine v_iconst X dX8_readsCard_169 (v := (1 : Int32)) (by decide) ?_
                refine v_iadd X dX8_readsCard_170 ?_
                refine v_putB X hB cf8 8 (Nat.le_of_ble_eq_true rfl) rfl m_fl_X8_144 dX8_readsCard_171 0 (Nat.le_of_ble_eq_true rfl) rfl rfl rfl (Nat.le_of_ble_eq_true rfl) (L' := (mdL g o μ kp hs tx (upd (upd (ιP ι (j + 3) f2 (cC tx len (j + 1) - 48) (ι 7)) 7 ((cC tx len (j + 3)) - (48 : Int32))) 4 (((upd (ιP ι (j + 3) f2 (cC tx len (j + 1) - 48) (ι 7)) 7 ((cC tx len (j + 3)) - (48 : Int32))) 4) + (1 : Int32))))) w_md_0_at ?_
                refine V.cast (f' := ovr f o (mdL g o μ kp hs tx (ιP ι (j + 4) f2 (cC tx len (j + 1) - 48) (cC tx len (j + 3) - 48)))) ?_ rfl rfl (congrArg (fun z => ovr f o (mdL g o μ kp hs tx z)) (by rw [ιP_u7, ιP_4, ιP_u4 (b := j + 4) (nI_1 (j + 3))]))
                refine v_iconst X dX8_readsCard_174 (v := (1 : Int32)) (by decide) ?_
                exact v_zret X rfl dX8_readsCard_175 (rfl) (by rw [he, rqB, if_pos k1, if_pos k2, if_pos k3, if_pos k4]) (by rw [he, hf2, rqP, if_pos k1, if_pos k2, if_pos k3, if_pos k4, rqL, if_pos k1, if_pos k2, rqR, if_pos k1, if_pos k2, if_pos k3, if_pos k4])
              · skip
                have k4 : ¬ qD4 tx len (j + 3) = true := fun q => c144 (of_decide_eq_true q)
                refine v_iconst X dX8_readsCard_147 (v := (0 : Int32)) (by decide) ?_
                exact v_zret X rfl dX8_readsCard_148 (rfl) (by rw [he, rqB, if_pos k1, if_pos k2, if_pos k3, if_neg k4]) (by rw [he, hf2, rqP, if_pos k1, if_pos k2, if_pos k3, if_neg k4, rqL, if_pos k1, if_pos k2, rqR, if_pos k1, if_pos k2, if_pos k3, if_neg k4])
          · skip
            have k2 : ¬ qD2 tx len (j + 1) = true := fun q => c90 (of_decide_eq_true q)
            refine v_iconst X dX8_readsCard_93 (v := (0 : Int32)) (by decide) ?_
            exact v_zret X rfl dX8_readsCard_94 (rfl) (by rw [he, rqB, if_pos k1, if_neg k2]) (by rw [he, hf2, rqP, if_pos k1, if_neg k2, rqL, if_pos k1, if_neg k2, rqR, if_pos k1, if_neg k2])
      · skip
        have hj2 : j < len := cC_lt (lsP_n hls c26).2
        refine v_aload_n X dX8_readsCard_29 (i := 0) rfl rfl ?_
        refine v_aload_n X dX8_readsCard_30 (i := 0) rfl rfl ?_
        refine v_getB X hB cf8 8 (Nat.le_of_ble_eq_true rfl) m_fl_X8_144 dX8_readsCard_31 0 (Nat.le_of_ble_eq_true rfl) rfl rfl ?_
        refine v_cvB X rfl yv_X8_character m_ml_X8_147 0 0 (c_X8_character l g N o ((ιP ι j f2 (ι 6) (ι 7)) 4) j ιP_4 μ kp hs tx (ιP ι j f2 (ι 6) (ι 7)) len (cC_1 hlen) hlen80 (by omega)) hB (Nat.le_of_ble_eq_true rfl) rfl (Nat.le_of_ble_eq_true rfl) rfl (L' := (mdL g o μ kp hs tx (ιP ι j f2 (ι 6) (ι 7)))) (rfl) rfl (Nat.le_of_ble_eq_true rfl) rfl rfl (Nat.le_of_ble_eq_true rfl) ⟨Nat.le_of_ble_eq_true rfl, Nat.le_of_ble_eq_true rfl⟩ ⟨Nat.le_of_ble_eq_true rfl, Nat.le_of_ble_eq_true rfl⟩ dX8_readsCard_34 rfl ?_
        refine v_bipush X dX8_readsCard_37 (v := (48 : Int32)) (by decide) ?_
        refine v_isub X dX8_readsCard_39 ?_
        refine v_istore_n X dX8_readsCard_40 (i := 1) rfl (Nat.le_of_ble_eq_true rfl) rfl ?_
        refine v_aload_n X dX8_readsCard_41 (i := 0) rfl rfl ?_
        refine v_dup X dX8_readsCard_42 rfl ?_
        refine v_getB X hB cf8 9 (Nat.le_of_ble_eq_true rfl) m_fl_X8_150 dX8_readsCard_43 0 (Nat.le_of_ble_eq_true rfl) rfl rfl ?_
        refine v_iconst X dX8_readsCard_46 (v := (1 : Int32)) (by decide) ?_
        refine v_iload_n X dX8_readsCard_47 (i := 1) rfl rfl ?_
        refine v_ishl X dX8_readsCard_48 ?_
        refine v_ior X dX8_readsCard_49 ?_
        refine v_putB X hB cf8 9 (Nat.le_of_ble_eq_true rfl) rfl m_fl_X8_150 dX8_readsCard_50 0 (Nat.le_of_ble_eq_true rfl) rfl rfl rfl (Nat.le_of_ble_eq_true rfl) (L' := (mdL g o μ kp hs tx (upd (ιP ι j f2 (ι 6) (ι 7)) 5 (((ιP ι j f2 (ι 6) (ι 7)) 5) ||| ((1 : Int32) <<< (((cC tx len j) - (48 : Int32)) &&& 31)))))) w_md_0_framesRead ?_
        refine v_aload_n X dX8_readsCard_53 (i := 0) rfl rfl ?_
        refine v_dup X dX8_readsCard_54 rfl ?_
        refine v_getB X hB cf8 8 (Nat.le_of_ble_eq_true rfl) m_fl_X8_144 dX8_readsCard_55 0 (Nat.le_of_ble_eq_true rfl) rfl rfl ?_
        refine v_iconst X dX8_readsCard_58 (v := (1 : Int32)) (by decide) ?_
        refine v_iadd X dX8_readsCard_59 ?_
        refine v_putB X hB cf8 8 (Nat.le_of_ble_eq_true rfl) rfl m_fl_X8_144 dX8_readsCard_60 0 (Nat.le_of_ble_eq_true rfl) rfl rfl rfl (Nat.le_of_ble_eq_true rfl) (L' := (mdL g o μ kp hs tx (upd (upd (ιP ι j f2 (ι 6) (ι 7)) 5 (((ιP ι j f2 (ι 6) (ι 7)) 5) ||| ((1 : Int32) <<< (((cC tx len j) - (48 : Int32)) &&& 31)))) 4 (((upd (ιP ι j f2 (ι 6) (ι 7)) 5 (((ιP ι j f2 (ι 6) (ι 7)) 5) ||| ((1 : Int32) <<< (((cC tx len j) - (48 : Int32)) &&& 31)))) 4) + (1 : Int32))))) w_md_0_at ?_
        refine v_goto X dX8_readsCard_63 (tgt := 7) (by decide) ?_
        exact V.cast (ih7 (j + 1) (f2 ||| ((1 : Int32) <<< ((cC tx len j - 48) &&& 31))) (cC tx len j - 48) (by omega) ((lsP_n hls c26).1) (hE1.trans (dg_hit (f := f2) hj2 c26).1) (hF1.trans (dg_hit hj2 c26).2) (by omega)) (rfl) (rfl) (by rw [ιP_5, ιP_u5, ιP_4, ιP_u4 (b := j + 1) (nI_1 j)])
  exact V.cast (LP7 _ a 0 (-1) hal lsP_0 (by rw [rqE]) (by rw [rqF]) (Nat.lt_succ_self _)) (by rfl) (rfl) (by rw [← ιP_u5 (f := ι 5), ιP_id ha4])
