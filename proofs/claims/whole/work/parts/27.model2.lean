/-! the model class: reasons, records -/
theorem bxS_n {μ : Nat → Int32} {P s : Nat} (hs : s < 2) : bxS μ P (nI s) = μ (56 + (1 + s) + 3 * P) := by
  have e : s = 0 ∨ s = 1 := by omega
  rcases e with rfl | rfl
  · exact if_pos (by decide)
  · exact if_neg (by decide)
theorem far_n {μ : Nat → Int32} {P s : Nat} (hs : s < 2) : farV μ P s (nI s) = if 0 ≤ μ (3 + s) - μ (56 + (1 + s) + 3 * P) then μ (3 + s) - μ (56 + (1 + s) + 3 * P) else -(μ (3 + s) - μ (56 + (1 + s) + 3 * P)) := by
  rw [farV, bxS_n hs, Nat.one_mul, Int32.zero_sub]
theorem onS_0 {μ : Nat → Int32} {P : Nat} : onS μ P 0 = fnd μ 0 (μ (57 + 3 * P)) := by rw [onS, bxS, if_pos rfl]
theorem onS_1 {μ : Nat → Int32} {P : Nat} : onS μ P 1 = fnd μ 1 (μ (58 + 3 * P)) := by rw [onS, bxS, if_neg (by decide)]
/-- the number that the model keeps beside a reason -/
def rnM (μ : Nat → Int32) (P : Nat) (r : Int32) : Int32 := if r = 0 then flyN μ P else nTold μ P r
def ιR (ι : Nat → Int32) (r n : Int32) : Nat → Int32 := upd (upd ι 2 r) 3 n
set_option maxRecDepth 100000 in
set_option maxHeartbeats 4000000 in
theorem c_X8_isTooFar (l : Launch) (g : Ge) (N o : Nat) (x_s : Int32) (s : Nat) (hx_s : x_s = nI s) (μ kp hs tx ι : Nat → Int32) (C P : Nat) (hC : μ 0 = nI C) (hP : μ 1 = nI P) (hPC : P < C) (hC16 : C ≤ 16) (hs2 : s < 2) : Cb l g yX8_isTooFar (.code yX8_isTooFar cX8_isTooFar 3 (some .boolean)) 1 [.ref o, .int x_s] N o (mdL g o μ kp hs tx ι) (some (.int (bI (4 - μ 2 < farV μ P s (nI s))))) (mdL g o μ kp hs tx ι) := by
  intro f hB0
  have hB : BB g N o 5 := hB0
  subst hx_s
  refine ct_of (own := RX8) [some (.ref o), some (.int (nI s)), none] (by decide +kernel) rfl rfl (Nat.le_of_ble_eq_true rfl) ?_
  intro vp ve vs vm va vb vt vc hnm X
  refine v_aload_n X dX8_isTooFar_0 (i := 0) rfl rfl ?_
  refine v_getB X hB cf8 0 (Nat.le_of_ble_eq_true rfl) m_fl_X8_7 dX8_isTooFar_1 0 (Nat.le_of_ble_eq_true rfl) rfl rfl ?_
  refine v_iconst X dX8_isTooFar_4 (v := (3 : Int32)) (by decide) ?_
  refine v_iload_n X dX8_isTooFar_5 (i := 1) rfl rfl ?_
  refine v_iadd X dX8_isTooFar_6 ?_
  refine v_ialdB X hB dX8_isTooFar_7 1 (Nat.le_of_ble_eq_true rfl) rfl (3 + s) (ix_add rfl rfl) (by omega) (Nat.le_of_ble_eq_true rfl) ?_
  refine v_aload_n X dX8_isTooFar_8 (i := 0) rfl rfl ?_
  refine v_aload_n X dX8_isTooFar_9 (i := 0) rfl rfl ?_
  refine v_getB X hB cf8 0 (Nat.le_of_ble_eq_true rfl) m_fl_X8_7 dX8_isTooFar_10 0 (Nat.le_of_ble_eq_true rfl) rfl rfl ?_
  refine v_iconst X dX8_isTooFar_13 (v := (1 : Int32)) (by decide) ?_
  refine v_ialdB X hB dX8_isTooFar_14 1 (Nat.le_of_ble_eq_true rfl) rfl 1 rfl (by omega) (Nat.le_of_ble_eq_true rfl) ?_
  refine v_iconst X dX8_isTooFar_15 (v := (1 : Int32)) (by decide) ?_
  refine v_iload_n X dX8_isTooFar_16 (i := 1) rfl rfl ?_
  refine v_iadd X dX8_isTooFar_17 ?_
  refine v_cvB X rfl yv_X8_cardPart m_ml_X8_51 0 0 (c_X8_cardPart l g N o (μ 1) P hP ((1 : Int32) + (nI s)) (1 + s) (ix_add rfl rfl) μ kp hs tx ι (by omega) (by omega)) hB (Nat.le_of_ble_eq_true rfl) rfl (Nat.le_of_ble_eq_true rfl) rfl (L' := (mdL g o μ kp hs tx ι)) (rfl) rfl (Nat.le_of_ble_eq_true rfl) rfl rfl (Nat.le_of_ble_eq_true rfl) ⟨Nat.le_of_ble_eq_true rfl, Nat.le_of_ble_eq_true rfl⟩ ⟨Nat.le_of_ble_eq_true rfl, Nat.le_of_ble_eq_true rfl⟩ dX8_isTooFar_18 rfl ?_
  refine v_isub X dX8_isTooFar_21 ?_
  refine v_istore_n X dX8_isTooFar_22 (i := 2) rfl (Nat.le_of_ble_eq_true rfl) rfl ?_
  refine v_iload_n X dX8_isTooFar_23 (i := 2) rfl rfl ?_
  refine v_if_ge X dX8_isTooFar_24 (tgt := 32) (by decide) (fun c24 => ?_) (fun c24 => ?_)
  · skip
    refine v_iload_n X dX8_isTooFar_32 (i := 2) rfl rfl ?_
    refine v_iconst X dX8_isTooFar_33 (v := (4 : Int32)) (by decide) ?_
    refine v_aload_n X dX8_isTooFar_34 (i := 0) rfl rfl ?_
    refine v_getB X hB cf8 0 (Nat.le_of_ble_eq_true rfl) m_fl_X8_7 dX8_isTooFar_35 0 (Nat.le_of_ble_eq_true rfl) rfl rfl ?_
    refine v_iconst X dX8_isTooFar_38 (v := (2 : Int32)) (by decide) ?_
    refine v_ialdB X hB dX8_isTooFar_39 1 (Nat.le_of_ble_eq_true rfl) rfl 2 rfl (by omega) (Nat.le_of_ble_eq_true rfl) ?_
    refine v_isub X dX8_isTooFar_40 ?_
    refine v_icmp_le X dX8_isTooFar_41 (tgt := 48) (by decide) (fun c41 => ?_) (fun c41 => ?_)
    · skip
      refine v_iconst X dX8_isTooFar_48 (v := (0 : Int32)) (by decide) ?_
      exact v_zret X rfl dX8_isTooFar_49 (rfl) (congrArg (fun z => some (Value.int z)) (bI_f (by rw [far_n hs2, if_pos c24]; exact Int32.not_lt.mpr c41)).symm) (rfl)
    · skip
      refine v_iconst X dX8_isTooFar_44 (v := (1 : Int32)) (by decide) ?_
      refine v_goto X dX8_isTooFar_45 (tgt := 49) (by decide) ?_
      exact v_zret X rfl dX8_isTooFar_49 (rfl) (congrArg (fun z => some (Value.int z)) (bI_t (by rw [far_n hs2, if_pos c24]; exact c41)).symm) (rfl)
  · skip
    refine v_iload_n X dX8_isTooFar_27 (i := 2) rfl rfl ?_
    refine v_ineg X dX8_isTooFar_28 ?_
    refine v_goto X dX8_isTooFar_29 (tgt := 33) (by decide) ?_
    refine v_iconst X dX8_isTooFar_33 (v := (4 : Int32)) (by decide) ?_
    refine v_aload_n X dX8_isTooFar_34 (i := 0) rfl rfl ?_
    refine v_getB X hB cf8 0 (Nat.le_of_ble_eq_true rfl) m_fl_X8_7 dX8_isTooFar_35 0 (Nat.le_of_ble_eq_true rfl) rfl rfl ?_
    refine v_iconst X dX8_isTooFar_38 (v := (2 : Int32)) (by decide) ?_
    refine v_ialdB X hB dX8_isTooFar_39 1 (Nat.le_of_ble_eq_true rfl) rfl 2 rfl (by omega) (Nat.le_of_ble_eq_true rfl) ?_
    refine v_isub X dX8_isTooFar_40 ?_
    refine v_icmp_le X dX8_isTooFar_41 (tgt := 48) (by decide) (fun c41 => ?_) (fun c41 => ?_)
    · skip
      refine v_iconst X dX8_isTooFar_48 (v := (0 : Int32)) (by decide) ?_
      exact v_zret X rfl dX8_isTooFar_49 (rfl) (congrArg (fun z => some (Value.int z)) (bI_f (by rw [far_n hs2, if_neg (Int32.not_le.mpr c24)]; exact Int32.not_lt.mpr c41)).symm) (rfl)
    · skip
      refine v_iconst X dX8_isTooFar_44 (v := (1 : Int32)) (by decide) ?_
      refine v_goto X dX8_isTooFar_45 (tgt := 49) (by decide) ?_
      exact v_zret X rfl dX8_isTooFar_49 (rfl) (congrArg (fun z => some (Value.int z)) (bI_t (by rw [far_n hs2, if_neg (Int32.not_le.mpr c24)]; exact c41)).symm) (rfl)
set_option maxRecDepth 100000 in
set_option maxHeartbeats 4000000 in
theorem c_X8_says (l : Launch) (g : Ge) (N o : Nat) (μ kp hs tx ι : Nat → Int32) (a b : Int32) : Cb l g yX8_says (.code yX8_says cX8_says 3 none) 0 [.ref o, .int a, .int b] N o (mdL g o μ kp hs tx ι) none (mdL g o μ kp hs tx (ιR ι a b)) := by
  intro f hB0
  have hB : BB g N o 5 := hB0
  refine ct_of (own := RX8) [some (.ref o), some (.int a), some (.int b)] (by decide +kernel) rfl rfl (Nat.le_of_ble_eq_true rfl) ?_
  intro vp ve vs vm va vb vt vc hnm X
  refine v_aload_n X dX8_says_0 (i := 0) rfl rfl ?_
  refine v_iload_n X dX8_says_1 (i := 1) rfl rfl ?_
  refine v_putB X hB cf8 6 (Nat.le_of_ble_eq_true rfl) rfl m_fl_X8_54 dX8_says_2 0 (Nat.le_of_ble_eq_true rfl) rfl rfl rfl (Nat.le_of_ble_eq_true rfl) (L' := (mdL g o μ kp hs tx (upd ι 2 a))) w_md_0_reason ?_
  refine v_aload_n X dX8_says_5 (i := 0) rfl rfl ?_
  refine v_iload_n X dX8_says_6 (i := 2) rfl rfl ?_
  refine v_putB X hB cf8 7 (Nat.le_of_ble_eq_true rfl) rfl m_fl_X8_57 dX8_says_7 0 (Nat.le_of_ble_eq_true rfl) rfl rfl rfl (Nat.le_of_ble_eq_true rfl) (L' := (mdL g o μ kp hs tx (upd (upd ι 2 a) 3 b))) w_md_0_reasonNumber ?_
  exact v_vret X rfl dX8_says_10 (rfl) (rfl)
theorem pos_ne {x : Int32} (h : 0 ≤ x) (h2 : ¬ x = 0) : 0 < x := by
  rcases Int32.le_iff_lt_or_eq.mp h with q | q
  · exact q
  · exact absurd q.symm h2
/-- no shuttle has less than no yarn -/
def YN (μ : Nat → Int32) : Prop := ∀ k, k < 5 → 0 ≤ μ (13 + 4 * k)
def cpA (a : Nat → Int32) (x : Nat) (b : Nat → Int32) (y n : Nat) : Nat → Int32 := fun i => if y ≤ i ∧ i < y + n then a (x + (i - y)) else b i
theorem cpA_0 {a b : Nat → Int32} {x y : Nat} : cpA a x b y 0 = b := by
  funext i
  rw [cpA, if_neg (by omega)]
theorem cpA_1 {a b : Nat → Int32} {x y n : Nat} : upd (cpA a x b y n) (y + n) (a (x + n)) = cpA a x b y (n + 1) := by
  funext i
  by_cases e : i = y + n
  · subst e
    rw [pk_us, cpA, if_pos (by omega)]
    congr 1; omega
  · rw [pk_un e, cpA, cpA]
    have : (y ≤ i ∧ i < y + n) ↔ (y ≤ i ∧ i < y + (n + 1)) := by omega
    simp only [this]
def s6 (hs : Nat → Int32) (n : Nat) : Nat → Int32 := fun i => if i < n then hs (i + 284) else hs i
theorem s6_1 {hs : Nat → Int32} {n : Nat} : upd (s6 hs n) n (s6 hs n (n + 284)) = s6 hs (n + 1) := by
  funext i
  by_cases e : i = n
  · subst e
    rw [pk_us, s6, s6, if_neg (by omega), if_pos (by omega)]
  · rw [pk_un e, s6, s6]
    have : i < n ↔ i < n + 1 := by omega
    simp only [this]
/-- the history after a record of μ, n records before -/
def rcH (hs : Nat → Int32) (n : Nat) (μ : Nat → Int32) : Nat → Int32 := if n = 6 then cpA μ 0 (s6 hs 1420) 1420 284 else cpA μ 0 hs (n * 284) 284
def rcI (ι : Nat → Int32) (n : Nat) : Nat → Int32 := upd ι 0 (nI (if n = 6 then 6 else n + 1))
set_option maxRecDepth 100000 in
set_option maxHeartbeats 4000000 in
theorem c_X8_copies_sh (l : Launch) (g : Ge) (N o : Nat) (x_m : Int32) (m : Nat) (hx_m : x_m = nI m) (μ kp hs tx ι : Nat → Int32) (hm : m ≤ 1420) : Cb l g yX8_copies (.code yX8_copies cX8_copies 5 none) 0 [.ref (o + 1), .int (0 : Int32), .ref (o + 3), .int x_m] N o (mdL g o μ kp hs tx ι) none (mdL g o μ kp (cpA μ 0 hs m 284) tx ι) := by
  intro f hB0
  have hB : BB g N o 5 := hB0
  subst hx_m
  refine ct_of (own := RX8) [some (.ref (o + 1)), some (.int (0 : Int32)), some (.ref (o + 3)), some (.int (nI m)), none] (by decide +kernel) rfl rfl (Nat.le_of_ble_eq_true rfl) ?_
  intro vp ve vs vm va vb vt vc hnm X
  refine v_iconst X dX8_copies_0 (v := (0 : Int32)) (by decide) ?_
  refine v_istore X dX8_copies_1 (Nat.le_of_ble_eq_true rfl) rfl ?_
  have LP3 : ∀ (n_ : Nat) (k : Nat), (k ≤ 284) → 284 - k < n_ → Vm vp l ve vs vm va vb vt vc g 0 5 N none (ovr f o (mdL g o μ kp (cpA μ 0 hs m 284) tx ι)) (ovr f o (mdL g o μ kp (cpA μ 0 hs m k) tx ι)) 3 [some (.ref (o + 1)), some (.int (0 : Int32)), some (.ref (o + 3)), some (.int (nI m)), some (.int (nI k))] [] := by
    intro n_
    induction n_ with
    | zero => intro k hk hm_; exact absurd hm_ (Nat.not_lt_zero _)
    | succ n_ ih3 =>
      intro k hk hm3
      refine v_iload X dX8_copies_3 rfl ?_
      refine v_sipush X dX8_copies_5 (v := (284 : Int32)) (by decide) ?_
      refine v_icmp_ge X dX8_copies_8 (tgt := 29) (by decide) (fun c8 => ?_) (fun c8 => ?_)
      · skip
        have hk5 : k = 284 := Nat.le_antisymm hk (le_of_nI (a := 284) (by omega) (by omega) c8)
        exact v_vret X rfl dX8_copies_29 (rfl) (by rw [hk5])
      · skip
        have hk5 : k < 284 := lt_of_nI (b := 284) (by omega) (by omega) c8
        refine v_aload_n X dX8_copies_11 (i := 2) rfl rfl ?_
        refine v_iload_n X dX8_copies_12 (i := 3) rfl rfl ?_
        refine v_iload X dX8_copies_13 rfl ?_
        refine v_iadd X dX8_copies_15 ?_
        refine v_aload_n X dX8_copies_16 (i := 0) rfl rfl ?_
        refine v_iload_n X dX8_copies_17 (i := 1) rfl rfl ?_
        refine v_iload X dX8_copies_18 rfl ?_
        refine v_iadd X dX8_copies_20 ?_
        refine v_ialdB X hB dX8_copies_21 1 (Nat.le_of_ble_eq_true rfl) rfl (0 + k) (ix_add rfl rfl) (by omega) (Nat.le_of_ble_eq_true rfl) ?_
        refine v_iastB X hB dX8_copies_22 3 (Nat.le_of_ble_eq_true rfl) rfl (m + k) (ix_add rfl rfl) (by omega) (Nat.le_of_ble_eq_true rfl) (L' := (mdL g o μ kp (upd (cpA μ 0 hs m k) (m + k) (μ (0 + k))) tx ι)) rfl ?_
        refine v_iinc X dX8_copies_23 (v := nI (k + 1)) rfl (ix_inc rfl) (Nat.le_of_ble_eq_true rfl) rfl ?_
        refine v_goto X dX8_copies_26 (tgt := 3) (by decide) ?_
        exact V.cast (ih3 (k + 1) (by omega) (by omega)) (rfl) (rfl) (by rw [← cpA_1])
  exact V.cast (LP3 _ 0 (Nat.zero_le _) (Nat.lt_succ_self _)) (rfl) (rfl) (by rw [cpA_0])
set_option maxRecDepth 100000 in
set_option maxHeartbeats 4000000 in
theorem c_X8_copies_sk (l : Launch) (g : Ge) (N o : Nat) (μ kp hs tx ι : Nat → Int32) : Cb l g yX8_copies (.code yX8_copies cX8_copies 5 none) 0 [.ref (o + 1), .int (0 : Int32), .ref (o + 2), .int (0 : Int32)] N o (mdL g o μ kp hs tx ι) none (mdL g o μ (cpA μ 0 kp 0 284) hs tx ι) := by
  intro f hB0
  have hB : BB g N o 5 := hB0
  refine ct_of (own := RX8) [some (.ref (o + 1)), some (.int (0 : Int32)), some (.ref (o + 2)), some (.int (0 : Int32)), none] (by decide +kernel) rfl rfl (Nat.le_of_ble_eq_true rfl) ?_
  intro vp ve vs vm va vb vt vc hnm X
  refine v_iconst X dX8_copies_0 (v := (0 : Int32)) (by decide) ?_
  refine v_istore X dX8_copies_1 (Nat.le_of_ble_eq_true rfl) rfl ?_
  have LP3 : ∀ (n_ : Nat) (k : Nat), (k ≤ 284) → 284 - k < n_ → Vm vp l ve vs vm va vb vt vc g 0 5 N none (ovr f o (mdL g o μ (cpA μ 0 kp 0 284) hs tx ι)) (ovr f o (mdL g o μ (cpA μ 0 kp 0 k) hs tx ι)) 3 [some (.ref (o + 1)), some (.int (0 : Int32)), some (.ref (o + 2)), some (.int (0 : Int32)), some (.int (nI k))] [] := by
    intro n_
    induction n_ with
    | zero => intro k hk hm_; exact absurd hm_ (Nat.not_lt_zero _)
    | succ n_ ih3 =>
      intro k hk hm3
      refine v_iload X dX8_copies_3 rfl ?_
      refine v_sipush X dX8_copies_5 (v := (284 : Int32)) (by decide) ?_
      refine v_icmp_ge X dX8_copies_8 (tgt := 29) (by decide) (fun c8 => ?_) (fun c8 => ?_)
      · skip
        have hk5 : k = 284 := Nat.le_antisymm hk (le_of_nI (a := 284) (by omega) (by omega) c8)
        exact v_vret X rfl dX8_copies_29 (rfl) (by rw [hk5])
      · skip
        have hk5 : k < 284 := lt_of_nI (b := 284) (by omega) (by omega) c8
        refine v_aload_n X dX8_copies_11 (i := 2) rfl rfl ?_
        refine v_iload_n X dX8_copies_12 (i := 3) rfl rfl ?_
        refine v_iload X dX8_copies_13 rfl ?_
        refine v_iadd X dX8_copies_15 ?_
        refine v_aload_n X dX8_copies_16 (i := 0) rfl rfl ?_
        refine v_iload_n X dX8_copies_17 (i := 1) rfl rfl ?_
        refine v_iload X dX8_copies_18 rfl ?_
        refine v_iadd X dX8_copies_20 ?_
        refine v_ialdB X hB dX8_copies_21 1 (Nat.le_of_ble_eq_true rfl) rfl (0 + k) (ix_add rfl rfl) (by omega) (Nat.le_of_ble_eq_true rfl) ?_
        refine v_iastB X hB dX8_copies_22 2 (Nat.le_of_ble_eq_true rfl) rfl (0 + k) (ix_add rfl rfl) (by omega) (Nat.le_of_ble_eq_true rfl) (L' := (mdL g o μ (upd (cpA μ 0 kp 0 k) (0 + k) (μ (0 + k))) hs tx ι)) rfl ?_
        refine v_iinc X dX8_copies_23 (v := nI (k + 1)) rfl (ix_inc rfl) (Nat.le_of_ble_eq_true rfl) rfl ?_
        refine v_goto X dX8_copies_26 (tgt := 3) (by decide) ?_
        exact V.cast (ih3 (k + 1) (by omega) (by omega)) (rfl) (rfl) (by rw [← cpA_1])
  exact V.cast (LP3 _ 0 (Nat.zero_le _) (Nat.lt_succ_self _)) (rfl) (rfl) (by rw [cpA_0])
set_option maxRecDepth 100000 in
set_option maxHeartbeats 4000000 in
theorem c_X8_copies_ks (l : Launch) (g : Ge) (N o : Nat) (μ kp hs tx ι : Nat → Int32) : Cb l g yX8_copies (.code yX8_copies cX8_copies 5 none) 0 [.ref (o + 2), .int (0 : Int32), .ref (o + 1), .int (0 : Int32)] N o (mdL g o μ kp hs tx ι) none (mdL g o (cpA kp 0 μ 0 284) kp hs tx ι) := by
  intro f hB0
  have hB : BB g N o 5 := hB0
  refine ct_of (own := RX8) [some (.ref (o + 2)), some (.int (0 : Int32)), some (.ref (o + 1)), some (.int (0 : Int32)), none] (by decide +kernel) rfl rfl (Nat.le_of_ble_eq_true rfl) ?_
  intro vp ve vs vm va vb vt vc hnm X
  refine v_iconst X dX8_copies_0 (v := (0 : Int32)) (by decide) ?_
  refine v_istore X dX8_copies_1 (Nat.le_of_ble_eq_true rfl) rfl ?_
  have LP3 : ∀ (n_ : Nat) (k : Nat), (k ≤ 284) → 284 - k < n_ → Vm vp l ve vs vm va vb vt vc g 0 5 N none (ovr f o (mdL g o (cpA kp 0 μ 0 284) kp hs tx ι)) (ovr f o (mdL g o (cpA kp 0 μ 0 k) kp hs tx ι)) 3 [some (.ref (o + 2)), some (.int (0 : Int32)), some (.ref (o + 1)), some (.int (0 : Int32)), some (.int (nI k))] [] := by
    intro n_
    induction n_ with
    | zero => intro k hk hm_; exact absurd hm_ (Nat.not_lt_zero _)
    | succ n_ ih3 =>
      intro k hk hm3
      refine v_iload X dX8_copies_3 rfl ?_
      refine v_sipush X dX8_copies_5 (v := (284 : Int32)) (by decide) ?_
      refine v_icmp_ge X dX8_copies_8 (tgt := 29) (by decide) (fun c8 => ?_) (fun c8 => ?_)
      · skip
        have hk5 : k = 284 := Nat.le_antisymm hk (le_of_nI (a := 284) (by omega) (by omega) c8)
        exact v_vret X rfl dX8_copies_29 (rfl) (by rw [hk5])
      · skip
        have hk5 : k < 284 := lt_of_nI (b := 284) (by omega) (by omega) c8
        refine v_aload_n X dX8_copies_11 (i := 2) rfl rfl ?_
        refine v_iload_n X dX8_copies_12 (i := 3) rfl rfl ?_
        refine v_iload X dX8_copies_13 rfl ?_
        refine v_iadd X dX8_copies_15 ?_
        refine v_aload_n X dX8_copies_16 (i := 0) rfl rfl ?_
        refine v_iload_n X dX8_copies_17 (i := 1) rfl rfl ?_
        refine v_iload X dX8_copies_18 rfl ?_
        refine v_iadd X dX8_copies_20 ?_
        refine v_ialdB X hB dX8_copies_21 2 (Nat.le_of_ble_eq_true rfl) rfl (0 + k) (ix_add rfl rfl) (by omega) (Nat.le_of_ble_eq_true rfl) ?_
        refine v_iastB X hB dX8_copies_22 1 (Nat.le_of_ble_eq_true rfl) rfl (0 + k) (ix_add rfl rfl) (by omega) (Nat.le_of_ble_eq_true rfl) (L' := (mdL g o (upd (cpA kp 0 μ 0 k) (0 + k) (kp (0 + k))) kp hs tx ι)) rfl ?_
        refine v_iinc X dX8_copies_23 (v := nI (k + 1)) rfl (ix_inc rfl) (Nat.le_of_ble_eq_true rfl) rfl ?_
        refine v_goto X dX8_copies_26 (tgt := 3) (by decide) ?_
        exact V.cast (ih3 (k + 1) (by omega) (by omega)) (rfl) (rfl) (by rw [← cpA_1])
  exact V.cast (LP3 _ 0 (Nat.zero_le _) (Nat.lt_succ_self _)) (rfl) (rfl) (by rw [cpA_0])
set_option maxRecDepth 100000 in
set_option maxHeartbeats 4000000 in
theorem c_X8_copies_hs (l : Launch) (g : Ge) (N o : Nat) (x_m : Int32) (m : Nat) (hx_m : x_m = nI m) (μ kp hs tx ι : Nat → Int32) (hm : m ≤ 1420) : Cb l g yX8_copies (.code yX8_copies cX8_copies 5 none) 0 [.ref (o + 3), .int x_m, .ref (o + 1), .int (0 : Int32)] N o (mdL g o μ kp hs tx ι) none (mdL g o (cpA hs m μ 0 284) kp hs tx ι) := by
  intro f hB0
  have hB : BB g N o 5 := hB0
  subst hx_m
  refine ct_of (own := RX8) [some (.ref (o + 3)), some (.int (nI m)), some (.ref (o + 1)), some (.int (0 : Int32)), none] (by decide +kernel) rfl rfl (Nat.le_of_ble_eq_true rfl) ?_
  intro vp ve vs vm va vb vt vc hnm X
  refine v_iconst X dX8_copies_0 (v := (0 : Int32)) (by decide) ?_
  refine v_istore X dX8_copies_1 (Nat.le_of_ble_eq_true rfl) rfl ?_
  have LP3 : ∀ (n_ : Nat) (k : Nat), (k ≤ 284) → 284 - k < n_ → Vm vp l ve vs vm va vb vt vc g 0 5 N none (ovr f o (mdL g o (cpA hs m μ 0 284) kp hs tx ι)) (ovr f o (mdL g o (cpA hs m μ 0 k) kp hs tx ι)) 3 [some (.ref (o + 3)), some (.int (nI m)), some (.ref (o + 1)), some (.int (0 : Int32)), some (.int (nI k))] [] := by
    intro n_
    induction n_ with
    | zero => intro k hk hm_; exact absurd hm_ (Nat.not_lt_zero _)
    | succ n_ ih3 =>
      intro k hk hm3
      refine v_iload X dX8_copies_3 rfl ?_
      refine v_sipush X dX8_copies_5 (v := (284 : Int32)) (by decide) ?_
      refine v_icmp_ge X dX8_copies_8 (tgt := 29) (by decide) (fun c8 => ?_) (fun c8 => ?_)
      · skip
        have hk5 : k = 284 := Nat.le_antisymm hk (le_of_nI (a := 284) (by omega) (by omega) c8)
        exact v_vret X rfl dX8_copies_29 (rfl) (by rw [hk5])
      · skip
        have hk5 : k < 284 := lt_of_nI (b := 284) (by omega) (by omega) c8
        refine v_aload_n X dX8_copies_11 (i := 2) rfl rfl ?_
        refine v_iload_n X dX8_copies_12 (i := 3) rfl rfl ?_
        refine v_iload X dX8_copies_13 rfl ?_
        refine v_iadd X dX8_copies_15 ?_
        refine v_aload_n X dX8_copies_16 (i := 0) rfl rfl ?_
        refine v_iload_n X dX8_copies_17 (i := 1) rfl rfl ?_
        refine v_iload X dX8_copies_18 rfl ?_
        refine v_iadd X dX8_copies_20 ?_
        refine v_ialdB X hB dX8_copies_21 3 (Nat.le_of_ble_eq_true rfl) rfl (m + k) (ix_add rfl rfl) (by omega) (Nat.le_of_ble_eq_true rfl) ?_
        refine v_iastB X hB dX8_copies_22 1 (Nat.le_of_ble_eq_true rfl) rfl (0 + k) (ix_add rfl rfl) (by omega) (Nat.le_of_ble_eq_true rfl) (L' := (mdL g o (upd (cpA hs m μ 0 k) (0 + k) (hs (m + k))) kp hs tx ι)) rfl ?_
        refine v_iinc X dX8_copies_23 (v := nI (k + 1)) rfl (ix_inc rfl) (Nat.le_of_ble_eq_true rfl) rfl ?_
        refine v_goto X dX8_copies_26 (tgt := 3) (by decide) ?_
        exact V.cast (ih3 (k + 1) (by omega) (by omega)) (rfl) (rfl) (by rw [← cpA_1])
  exact V.cast (LP3 _ 0 (Nat.zero_le _) (Nat.lt_succ_self _)) (rfl) (rfl) (by rw [cpA_0])
