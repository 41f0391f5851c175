/-! the model class: a card less, a pick taken back -/
/-- the cells from a on, up to j, three ahead -/
def shJ (σ : Nat → Int32) (d a j : Nat) : Nat → Int32 := fun i => if a ≤ i ∧ i < j then σ (i + d) else σ i
theorem shJ_0 {σ : Nat → Int32} {d a : Nat} : shJ σ d a a = σ := by
  funext i
  rw [shJ, if_neg (by omega)]
theorem shJ_1 {σ : Nat → Int32} {d a j m : Nat} (h : a ≤ j) (hm : m = j + d) (hd : 0 < d) : upd (shJ σ d a j) j (shJ σ d a j m) = shJ σ d a (j + 1) := by
  subst hm
  funext i
  by_cases e : i = j
  · subst e
    rw [pk_us, shJ, shJ, if_neg (by omega), if_pos (by omega)]
  · rw [pk_un e, shJ, shJ]
    have : (a ≤ i ∧ i < j) ↔ (a ≤ i ∧ i < j + 1) := by omega
    simp only [this]
def zrJ (σ : Nat → Int32) (b w : Nat) : Nat → Int32 := fun i => if b ≤ i ∧ i < b + w then 0 else σ i
theorem zrJ_0 {σ : Nat → Int32} {b : Nat} : zrJ σ b 0 = σ := by
  funext i
  rw [zrJ, if_neg (by omega)]
theorem zrJ_1 {σ : Nat → Int32} {b w m : Nat} (hm : m = b + w) : upd (zrJ σ b w) m 0 = zrJ σ b (w + 1) := by
  subst hm
  funext i
  by_cases e : i = b + w
  · subst e
    rw [pk_us, zrJ, if_pos (by omega)]
  · rw [pk_un e, zrJ, zrJ]
    have : (b ≤ i ∧ i < b + w) ↔ (b ≤ i ∧ i < b + (w + 1)) := by omega
    simp only [this]
/-- the state without card k -/
def rm1 (μ : Nat → Int32) (C : Nat) : Nat → Int32 := upd (c8 μ) 0 (nI (C - 1))
def rm2 (μ : Nat → Int32) (k C : Nat) : Nat → Int32 := zrJ (shJ (rm1 μ C) 3 (56 + 3 * k) (56 + 3 * (C - 1))) (56 + 3 * (C - 1)) 3
def rmM (μ : Nat → Int32) (k P C : Nat) : Nat → Int32 := upd (rm2 μ k C) 1 (nI (rmP k P C))
theorem b43 {σ : Nat → Int32} {C : Nat} (h : σ 0 = nI C) : (56 : Int32) + 3 * σ 0 = nI (56 + 3 * C) := ix_add rfl (ix_mul rfl h)
theorem rm1_0 {μ : Nat → Int32} {C : Nat} : rm1 μ C 0 = nI (C - 1) := pk_us
theorem shJ_lo {σ : Nat → Int32} {d a j i : Nat} (h : i < a) : shJ σ d a j i = σ i := by rw [shJ, if_neg (by omega)]
theorem zrJ_lo {σ : Nat → Int32} {b w i : Nat} (h : i < b) : zrJ σ b w i = σ i := by rw [zrJ, if_neg (by omega)]
theorem rm2_0 {μ : Nat → Int32} {k C : Nat} : rm2 μ k C 0 = nI (C - 1) := by rw [rm2, zrJ_lo (by omega), shJ_lo (by omega), rm1_0]
theorem rm2_1 {μ : Nat → Int32} {k C : Nat} : rm2 μ k C 1 = μ 1 := by rw [rm2, zrJ_lo (by omega), shJ_lo (by omega), rm1, pk_un (by omega), c8_o (by omega)]
set_option maxRecDepth 100000 in
set_option maxHeartbeats 4000000 in
theorem c_X8_removeCard (l : Launch) (g : Ge) (N o : Nat) (μ kp hs tx ι : Nat → Int32) (n : Nat) (v : Int32) (C P0 : Nat) (hC : μ 0 = nI C) (hP : μ 1 = nI P0) (hPC : P0 < C ∨ (C = 0 ∧ P0 = 0)) (hC16 : C ≤ 16) (hn : ι 0 = nI n) (hn6 : n ≤ 6) : Cb l g yX8_removeCard (.code yX8_removeCard cX8_removeCard 3 (some .int)) 3 [.ref o, .int v] N o (mdL g o μ kp hs tx ι) (some (.int (if rcE μ v = 0 then nI (C - 1) else rcE μ v))) (mdL g o (if rcE μ v = 0 then rmM μ (nt v) P0 C else μ) kp (if rcE μ v = 0 then rcH hs n μ else hs) tx (if rcE μ v = 0 then rcI ι n else ι)) := by
  intro f hB0
  have hB : BB g N o 5 := hB0
  refine ct_of (own := RX8) [some (.ref o), some (.int v), none] (by decide +kernel) rfl rfl (Nat.le_of_ble_eq_true rfl) ?_
  intro vp ve vs vm va vb vt vc hnm X
  refine v_aload_n X dX8_removeCard_0 (i := 0) rfl rfl ?_
  refine v_iload_n X dX8_removeCard_1 (i := 1) rfl rfl ?_
  refine v_cvB X rfl yv_X8_isCard m_ml_X8_114 0 0 (c_X8_isCard l g N o μ kp hs tx ι v C hC hC16) hB (Nat.le_of_ble_eq_true rfl) rfl (Nat.le_of_ble_eq_true rfl) rfl (L' := (mdL g o μ kp hs tx ι)) (rfl) rfl (Nat.le_of_ble_eq_true rfl) rfl rfl (Nat.le_of_ble_eq_true rfl) ⟨Nat.le_of_ble_eq_true rfl, Nat.le_of_ble_eq_true rfl⟩ ⟨Nat.le_of_ble_eq_true rfl, Nat.le_of_ble_eq_true rfl⟩ dX8_removeCard_2 rfl ?_
  refine v_if_neB X dX8_removeCard_5 (tgt := 10) (by decide) (fun c5 => ?_) (fun c5 => ?_)
  · skip
    obtain ⟨k, hk, rfl⟩ := of_has hC hC16 c5
    have hPC : P0 < C := by omega
    have hkk : nt (nI k) = k := nt_nI (by omega)
    have hE : rcE μ (nI k) = (0 : Int32) := by rw [rcE, if_neg (not_not_intro c5)]
    refine v_aload_n X dX8_removeCard_10 (i := 0) rfl rfl ?_
    refine v_cvB X rfl yv_X8_recordOther m_ml_X8_99 0 0 (c_X8_recordOther l g N o μ kp hs tx ι n hn hn6) hB (Nat.le_of_ble_eq_true rfl) rfl (Nat.le_of_ble_eq_true rfl) rfl (L' := (mdL g o (c8 μ) kp (rcH hs n μ) tx (rcI ι n))) (rfl) rfl (Nat.le_of_ble_eq_true rfl) rfl rfl (Nat.le_of_ble_eq_true rfl) ⟨Nat.le_of_ble_eq_true rfl, Nat.le_of_ble_eq_true rfl⟩ ⟨Nat.le_of_ble_eq_true rfl, Nat.le_of_ble_eq_true rfl⟩ dX8_removeCard_11 rfl ?_
    refine v_aload_n X dX8_removeCard_14 (i := 0) rfl rfl ?_
    refine v_getB X hB cf8 0 (Nat.le_of_ble_eq_true rfl) m_fl_X8_7 dX8_removeCard_15 0 (Nat.le_of_ble_eq_true rfl) rfl rfl ?_
    refine v_iconst X dX8_removeCard_18 (v := (0 : Int32)) (by decide) ?_
    refine v_dup2 X dX8_removeCard_19 rfl rfl ?_
    refine v_ialdB X hB dX8_removeCard_20 1 (Nat.le_of_ble_eq_true rfl) rfl 0 rfl (by omega) (Nat.le_of_ble_eq_true rfl) ?_
    refine v_iconst X dX8_removeCard_21 (v := (1 : Int32)) (by decide) ?_
    refine v_isub X dX8_removeCard_22 ?_
    refine v_iastB X hB dX8_removeCard_23 1 (Nat.le_of_ble_eq_true rfl) rfl 0 rfl (by omega) (Nat.le_of_ble_eq_true rfl) (L' := (mdL g o (upd (c8 μ) 0 (((c8 μ) 0) - (1 : Int32))) kp (rcH hs n μ) tx (rcI ι n))) rfl ?_
    refine V.cast (f' := ovr f o (mdL g o (rm1 μ C) kp (rcH hs n μ) tx (rcI ι n))) ?_ rfl rfl (congrArg (fun z => ovr f o (mdL g o z kp (rcH hs n μ) tx (rcI ι n))) (by rw [rm1, c8_o (by omega), hC, show nI C - 1 = nI (C - 1) from pk_sub (b := 1) (by omega)]))
    refine v_bipush X dX8_removeCard_24 (v := (56 : Int32)) (by decide) ?_
    refine v_iconst X dX8_removeCard_26 (v := (3 : Int32)) (by decide) ?_
    refine v_iload_n X dX8_removeCard_27 (i := 1) rfl rfl ?_
    refine v_imul X dX8_removeCard_28 ?_
    refine v_iadd X dX8_removeCard_29 ?_
    refine v_istore_n X dX8_removeCard_30 (i := 2) rfl (Nat.le_of_ble_eq_true rfl) rfl ?_
    have LP31 : ∀ (n_ : Nat) (j : Nat), ((56 + 3 * k) ≤ j) → (j ≤ (56 + 3 * (C - 1))) → (56 + 3 * (C - 1)) - j < n_ → Vm vp l ve vs vm va vb vt vc g 3 3 N (some (.int (if rcE μ (nI k) = 0 then nI (C - 1) else rcE μ (nI k)))) (ovr f o (mdL g o (if rcE μ (nI k) = 0 then rmM μ (nt (nI k)) P0 C else μ) kp (if rcE μ (nI k) = 0 then rcH hs n μ else hs) tx (if rcE μ (nI k) = 0 then rcI ι n else ι))) (ovr f o (mdL g o (shJ (rm1 μ C) 3 (56 + 3 * k) j) kp (rcH hs n μ) tx (rcI ι n))) 31 [some (.ref o), some (.int (nI k)), some (.int (nI j))] [] := by
      intro n_
      induction n_ with
      | zero => intro j hj0 hj hm_; exact absurd hm_ (Nat.not_lt_zero _)
      | succ n_ ih31 =>
        intro j hj0 hj hm31
        refine v_iload_n X dX8_removeCard_31 (i := 2) rfl rfl ?_
        refine v_bipush X dX8_removeCard_32 (v := (56 : Int32)) (by decide) ?_
        refine v_iconst X dX8_removeCard_34 (v := (3 : Int32)) (by decide) ?_
        refine v_aload_n X dX8_removeCard_35 (i := 0) rfl rfl ?_
        refine v_getB X hB cf8 0 (Nat.le_of_ble_eq_true rfl) m_fl_X8_7 dX8_removeCard_36 0 (Nat.le_of_ble_eq_true rfl) rfl rfl ?_
        refine v_iconst X dX8_removeCard_39 (v := (0 : Int32)) (by decide) ?_
        refine v_ialdB X hB dX8_removeCard_40 1 (Nat.le_of_ble_eq_true rfl) rfl 0 rfl (by omega) (Nat.le_of_ble_eq_true rfl) ?_
        refine v_imul X dX8_removeCard_41 ?_
        refine v_iadd X dX8_removeCard_42 ?_
        refine v_icmp_ge X dX8_removeCard_43 (tgt := 66) (by decide) (fun c43 => ?_) (fun c43 => ?_)
        · skip
          rw [b43 (σ := shJ (rm1 μ C) 3 (56 + 3 * k) j) (C := C - 1) ((shJ_lo (by omega)).trans rm1_0)] at c43
          have hj2 : j = (56 + 3 * (C - 1)) := Nat.le_antisymm hj (le_of_nI (by omega) (by omega) c43)
          subst hj2
          refine v_iconst X dX8_removeCard_66 (v := (0 : Int32)) (by decide) ?_
          refine v_istore_n X dX8_removeCard_67 (i := 2) rfl (Nat.le_of_ble_eq_true rfl) rfl ?_
          have LP68 : ∀ (n_ : Nat) (w : Nat), (w ≤ 3) → 3 - w < n_ → Vm vp l ve vs vm va vb vt vc g 3 3 N (some (.int (if rcE μ (nI k) = 0 then nI (C - 1) else rcE μ (nI k)))) (ovr f o (mdL g o (if rcE μ (nI k) = 0 then rmM μ (nt (nI k)) P0 C else μ) kp (if rcE μ (nI k) = 0 then rcH hs n μ else hs) tx (if rcE μ (nI k) = 0 then rcI ι n else ι))) (ovr f o (mdL g o (zrJ (shJ (rm1 μ C) 3 (56 + 3 * k) (56 + 3 * (C - 1))) (56 + 3 * (C - 1)) w) kp (rcH hs n μ) tx (rcI ι n))) 68 [some (.ref o), some (.int (nI k)), some (.int (nI w))] [] := by
            intro n_
            induction n_ with
            | zero => intro w hw hm_; exact absurd hm_ (Nat.not_lt_zero _)
            | succ n_ ih68 =>
              intro w hw hm68
              refine v_iload_n X dX8_removeCard_68 (i := 2) rfl rfl ?_
              refine v_iconst X dX8_removeCard_69 (v := (3 : Int32)) (by decide) ?_
              refine v_icmp_ge X dX8_removeCard_70 (tgt := 98) (by decide) (fun c70 => ?_) (fun c70 => ?_)
              · skip
                have hw2 : w = 3 := Nat.le_antisymm hw (le_of_nI (a := 3) (by omega) (by omega) c70)
                subst hw2
                refine V.cast (f' := ovr f o (mdL g o (rm2 μ k C) kp (rcH hs n μ) tx (rcI ι n))) ?_ rfl rfl (congrArg (fun z => ovr f o (mdL g o z kp (rcH hs n μ) tx (rcI ι n))) (show zrJ (shJ (rm1 μ C) 3 (56 + 3 * k) (56 + 3 * (C - 1))) (56 + 3 * (C - 1)) 3 = rm2 μ k C from rfl))
                refine v_aload_n X dX8_removeCard_98 (i := 0) rfl rfl ?_
                refine v_getB X hB cf8 0 (Nat.le_of_ble_eq_true rfl) m_fl_X8_7 dX8_removeCard_99 0 (Nat.le_of_ble_eq_true rfl) rfl rfl ?_
                refine v_iconst X dX8_removeCard_102 (v := (1 : Int32)) (by decide) ?_
                refine v_dup2 X dX8_removeCard_103 rfl rfl ?_
                refine v_ialdB X hB dX8_removeCard_104 1 (Nat.le_of_ble_eq_true rfl) rfl 1 rfl (by omega) (Nat.le_of_ble_eq_true rfl) ?_
                refine v_iload_n X dX8_removeCard_105 (i := 1) rfl rfl ?_
                refine v_aload_n X dX8_removeCard_106 (i := 0) rfl rfl ?_
                refine v_getB X hB cf8 0 (Nat.le_of_ble_eq_true rfl) m_fl_X8_7 dX8_removeCard_107 0 (Nat.le_of_ble_eq_true rfl) rfl rfl ?_
                refine v_iconst X dX8_removeCard_110 (v := (1 : Int32)) (by decide) ?_
                refine v_ialdB X hB dX8_removeCard_111 1 (Nat.le_of_ble_eq_true rfl) rfl 1 rfl (by omega) (Nat.le_of_ble_eq_true rfl) ?_
                refine v_icmp_ge X dX8_removeCard_112 (tgt := 119) (by decide) (fun c112 => ?_) (fun c112 => ?_)
                · skip
                  have hkP : ¬ k < P0 := Nat.not_lt.mpr (le_of_nI (by omega) (by omega) (by rw [← hP, ← rm2_1 (μ := μ) (k := k) (C := C)]; exact c112))
                  refine v_iconst X dX8_removeCard_119 (v := (0 : Int32)) (by decide) ?_
                  refine v_isub X dX8_removeCard_120 ?_
                  refine v_iastB X hB dX8_removeCard_121 1 (Nat.le_of_ble_eq_true rfl) rfl 1 rfl (by omega) (Nat.le_of_ble_eq_true rfl) (L' := (mdL g o (upd (rm2 μ k C) 1 (((rm2 μ k C) 1) - (0 : Int32))) kp (rcH hs n μ) tx (rcI ι n))) rfl ?_
                  refine V.cast (f' := ovr f o (mdL g o (upd (rm2 μ k C) 1 (nI P0)) kp (rcH hs n μ) tx (rcI ι n))) ?_ rfl rfl (congrArg (fun z => ovr f o (mdL g o z kp (rcH hs n μ) tx (rcI ι n))) (by rw [rm2_1, hP, Int32.sub_zero]))
                  refine v_aload_n X dX8_removeCard_122 (i := 0) rfl rfl ?_
                  refine v_getB X hB cf8 0 (Nat.le_of_ble_eq_true rfl) m_fl_X8_7 dX8_removeCard_123 0 (Nat.le_of_ble_eq_true rfl) rfl rfl ?_
                  refine v_iconst X dX8_removeCard_126 (v := (1 : Int32)) (by decide) ?_
                  refine v_aload_n X dX8_removeCard_127 (i := 0) rfl rfl ?_
                  refine v_getB X hB cf8 0 (Nat.le_of_ble_eq_true rfl) m_fl_X8_7 dX8_removeCard_128 0 (Nat.le_of_ble_eq_true rfl) rfl rfl ?_
                  refine v_iconst X dX8_removeCard_131 (v := (1 : Int32)) (by decide) ?_
                  refine v_ialdB X hB dX8_removeCard_132 1 (Nat.le_of_ble_eq_true rfl) rfl 1 rfl (by omega) (Nat.le_of_ble_eq_true rfl) ?_
                  refine v_aload_n X dX8_removeCard_133 (i := 0) rfl rfl ?_
                  refine v_getB X hB cf8 0 (Nat.le_of_ble_eq_true rfl) m_fl_X8_7 dX8_removeCard_134 0 (Nat.le_of_ble_eq_true rfl) rfl rfl ?_
                  refine v_iconst X dX8_removeCard_137 (v := (0 : Int32)) (by decide) ?_
                  refine v_ialdB X hB dX8_removeCard_138 1 (Nat.le_of_ble_eq_true rfl) rfl 0 rfl (by omega) (Nat.le_of_ble_eq_true rfl) ?_
                  refine v_icmp_lt X dX8_removeCard_139 (tgt := 146) (by decide) (fun c139 => ?_) (fun c139 => ?_)
                  · skip
                    have c9 := c139
                    rw [pk_us, pk_un (by omega), rm2_0] at c9
                    have hg : ¬ C - 1 ≤ P0 := Nat.not_le.mpr (lt_of_nI (by omega) (by omega) c9)
                    refine v_aload_n X dX8_removeCard_146 (i := 0) rfl rfl ?_
                    refine v_getB X hB cf8 0 (Nat.le_of_ble_eq_true rfl) m_fl_X8_7 dX8_removeCard_147 0 (Nat.le_of_ble_eq_true rfl) rfl rfl ?_
                    refine v_iconst X dX8_removeCard_150 (v := (1 : Int32)) (by decide) ?_
                    refine v_ialdB X hB dX8_removeCard_151 1 (Nat.le_of_ble_eq_true rfl) rfl 1 rfl (by omega) (Nat.le_of_ble_eq_true rfl) ?_
                    refine v_iastB X hB dX8_removeCard_152 1 (Nat.le_of_ble_eq_true rfl) rfl 1 rfl (by omega) (Nat.le_of_ble_eq_true rfl) (L' := (mdL g o (upd (upd (rm2 μ k C) 1 (nI P0)) 1 ((upd (rm2 μ k C) 1 (nI P0)) 1)) kp (rcH hs n μ) tx (rcI ι n))) rfl ?_
                    refine v_aload_n X dX8_removeCard_153 (i := 0) rfl rfl ?_
                    refine v_getB X hB cf8 0 (Nat.le_of_ble_eq_true rfl) m_fl_X8_7 dX8_removeCard_154 0 (Nat.le_of_ble_eq_true rfl) rfl rfl ?_
                    refine v_iconst X dX8_removeCard_157 (v := (0 : Int32)) (by decide) ?_
                    refine v_ialdB X hB dX8_removeCard_158 1 (Nat.le_of_ble_eq_true rfl) rfl 0 rfl (by omega) (Nat.le_of_ble_eq_true rfl) ?_
                    have hrp : rmP k P0 C = P0 := by
                      have e : (if k < P0 then P0 - 1 else P0) = P0 := if_neg hkP
                      rw [rmP, e, if_neg hg]
                    exact v_iret X rfl dX8_removeCard_159 (by rw [hE, upu, pk_un (by omega), rm2_0]; rfl) (by rw [hE, hkk, rmM, hrp, upu, pk_us]; rfl)
                  · skip
                    have c9 := c139
                    rw [pk_us, pk_un (by omega), rm2_0] at c9
                    have hg : C - 1 ≤ P0 := le_of_nI (by omega) (by omega) c9
                    refine v_iconst X dX8_removeCard_142 (v := (0 : Int32)) (by decide) ?_
                    refine v_goto X dX8_removeCard_143 (tgt := 152) (by decide) ?_
                    refine v_iastB X hB dX8_removeCard_152 1 (Nat.le_of_ble_eq_true rfl) rfl 1 rfl (by omega) (Nat.le_of_ble_eq_true rfl) (L' := (mdL g o (upd (upd (rm2 μ k C) 1 (nI P0)) 1 (0 : Int32)) kp (rcH hs n μ) tx (rcI ι n))) rfl ?_
                    refine v_aload_n X dX8_removeCard_153 (i := 0) rfl rfl ?_
                    refine v_getB X hB cf8 0 (Nat.le_of_ble_eq_true rfl) m_fl_X8_7 dX8_removeCard_154 0 (Nat.le_of_ble_eq_true rfl) rfl rfl ?_
                    refine v_iconst X dX8_removeCard_157 (v := (0 : Int32)) (by decide) ?_
                    refine v_ialdB X hB dX8_removeCard_158 1 (Nat.le_of_ble_eq_true rfl) rfl 0 rfl (by omega) (Nat.le_of_ble_eq_true rfl) ?_
                    have hrp : rmP k P0 C = 0 := by
                      have e : (if k < P0 then P0 - 1 else P0) = P0 := if_neg hkP
                      rw [rmP, e, if_pos hg]
                    exact v_iret X rfl dX8_removeCard_159 (by rw [hE, upu, pk_un (by omega), rm2_0]; rfl) (by rw [hE, hkk, rmM, hrp, upu]; rfl)
                · skip
                  have hkP : k < P0 := lt_of_nI (by omega) (by omega) (by rw [← hP, ← rm2_1 (μ := μ) (k := k) (C := C)]; exact c112)
                  refine v_iconst X dX8_removeCard_115 (v := (1 : Int32)) (by decide) ?_
                  refine v_goto X dX8_removeCard_116 (tgt := 120) (by decide) ?_
                  refine v_isub X dX8_removeCard_120 ?_
                  refine v_iastB X hB dX8_removeCard_121 1 (Nat.le_of_ble_eq_true rfl) rfl 1 rfl (by omega) (Nat.le_of_ble_eq_true rfl) (L' := (mdL g o (upd (rm2 μ k C) 1 (((rm2 μ k C) 1) - (1 : Int32))) kp (rcH hs n μ) tx (rcI ι n))) rfl ?_
                  refine V.cast (f' := ovr f o (mdL g o (upd (rm2 μ k C) 1 (nI (P0 - 1))) kp (rcH hs n μ) tx (rcI ι n))) ?_ rfl rfl (congrArg (fun z => ovr f o (mdL g o z kp (rcH hs n μ) tx (rcI ι n))) (by rw [rm2_1, hP, show nI P0 - 1 = nI (P0 - 1) from pk_sub (b := 1) (by omega)]))
                  refine v_aload_n X dX8_removeCard_122 (i := 0) rfl rfl ?_
                  refine v_getB X hB cf8 0 (Nat.le_of_ble_eq_true rfl) m_fl_X8_7 dX8_removeCard_123 0 (Nat.le_of_ble_eq_true rfl) rfl rfl ?_
                  refine v_iconst X dX8_removeCard_126 (v := (1 : Int32)) (by decide) ?_
                  refine v_aload_n X dX8_removeCard_127 (i := 0) rfl rfl ?_
                  refine v_getB X hB cf8 0 (Nat.le_of_ble_eq_true rfl) m_fl_X8_7 dX8_removeCard_128 0 (Nat.le_of_ble_eq_true rfl) rfl rfl ?_
                  refine v_iconst X dX8_removeCard_131 (v := (1 : Int32)) (by decide) ?_
                  refine v_ialdB X hB dX8_removeCard_132 1 (Nat.le_of_ble_eq_true rfl) rfl 1 rfl (by omega) (Nat.le_of_ble_eq_true rfl) ?_
                  refine v_aload_n X dX8_removeCard_133 (i := 0) rfl rfl ?_
                  refine v_getB X hB cf8 0 (Nat.le_of_ble_eq_true rfl) m_fl_X8_7 dX8_removeCard_134 0 (Nat.le_of_ble_eq_true rfl) rfl rfl ?_
                  refine v_iconst X dX8_removeCard_137 (v := (0 : Int32)) (by decide) ?_
                  refine v_ialdB X hB dX8_removeCard_138 1 (Nat.le_of_ble_eq_true rfl) rfl 0 rfl (by omega) (Nat.le_of_ble_eq_true rfl) ?_
                  refine v_icmp_lt X dX8_removeCard_139 (tgt := 146) (by decide) (fun c139 => ?_) (fun c139 => ?_)
                  · skip
                    have c9 := c139
                    rw [pk_us, pk_un (by omega), rm2_0] at c9
                    have hg : ¬ C - 1 ≤ (P0 - 1) := Nat.not_le.mpr (lt_of_nI (by omega) (by omega) c9)
                    refine v_aload_n X dX8_removeCard_146 (i := 0) rfl rfl ?_
                    refine v_getB X hB cf8 0 (Nat.le_of_ble_eq_true rfl) m_fl_X8_7 dX8_removeCard_147 0 (Nat.le_of_ble_eq_true rfl) rfl rfl ?_
                    refine v_iconst X dX8_removeCard_150 (v := (1 : Int32)) (by decide) ?_
                    refine v_ialdB X hB dX8_removeCard_151 1 (Nat.le_of_ble_eq_true rfl) rfl 1 rfl (by omega) (Nat.le_of_ble_eq_true rfl) ?_
                    refine v_iastB X hB dX8_removeCard_152 1 (Nat.le_of_ble_eq_true rfl) rfl 1 rfl (by omega) (Nat.le_of_ble_eq_true rfl) (L' := (mdL g o (upd (upd (rm2 μ k C) 1 (nI (P0 - 1))) 1 ((upd (rm2 μ k C) 1 (nI (P0 - 1))) 1)) kp (rcH hs n μ) tx (rcI ι n))) rfl ?_
                    refine v_aload_n X dX8_removeCard_153 (i := 0) rfl rfl ?_
                    refine v_getB X hB cf8 0 (Nat.le_of_ble_eq_true rfl) m_fl_X8_7 dX8_removeCard_154 0 (Nat.le_of_ble_eq_true rfl) rfl rfl ?_
                    refine v_iconst X dX8_removeCard_157 (v := (0 : Int32)) (by decide) ?_
                    refine v_ialdB X hB dX8_removeCard_158 1 (Nat.le_of_ble_eq_true rfl) rfl 0 rfl (by omega) (Nat.le_of_ble_eq_true rfl) ?_
                    have hrp : rmP k P0 C = (P0 - 1) := by
                      have e : (if k < P0 then P0 - 1 else P0) = (P0 - 1) := if_pos hkP
                      rw [rmP, e, if_neg hg]
                    exact v_iret X rfl dX8_removeCard_159 (by rw [hE, upu, pk_un (by omega), rm2_0]; rfl) (by rw [hE, hkk, rmM, hrp, upu, pk_us]; rfl)
                  · skip
                    have c9 := c139
                    rw [pk_us, pk_un (by omega), rm2_0] at c9
                    have hg : C - 1 ≤ (P0 - 1) := le_of_nI (by omega) (by omega) c9
                    refine v_iconst X dX8_removeCard_142 (v := (0 : Int32)) (by decide) ?_
                    refine v_goto X dX8_removeCard_143 (tgt := 152) (by decide) ?_
                    refine v_iastB X hB dX8_removeCard_152 1 (Nat.le_of_ble_eq_true rfl) rfl 1 rfl (by omega) (Nat.le_of_ble_eq_true rfl) (L' := (mdL g o (upd (upd (rm2 μ k C) 1 (nI (P0 - 1))) 1 (0 : Int32)) kp (rcH hs n μ) tx (rcI ι n))) rfl ?_
                    refine v_aload_n X dX8_removeCard_153 (i := 0) rfl rfl ?_
                    refine v_getB X hB cf8 0 (Nat.le_of_ble_eq_true rfl) m_fl_X8_7 dX8_removeCard_154 0 (Nat.le_of_ble_eq_true rfl) rfl rfl ?_
                    refine v_iconst X dX8_removeCard_157 (v := (0 : Int32)) (by decide) ?_
                    refine v_ialdB X hB dX8_removeCard_158 1 (Nat.le_of_ble_eq_true rfl) rfl 0 rfl (by omega) (Nat.le_of_ble_eq_true rfl) ?_
                    have hrp : rmP k P0 C = 0 := by
                      have e : (if k < P0 then P0 - 1 else P0) = (P0 - 1) := if_pos hkP
                      rw [rmP, e, if_pos hg]
                    exact v_iret X rfl dX8_removeCard_159 (by rw [hE, upu, pk_un (by omega), rm2_0]; rfl) (by rw [hE, hkk, rmM, hrp, upu]; rfl)
              · skip
                have hw2 : w < 3 := lt_of_nI (b := 3) (by omega) (by omega) c70
                refine v_aload_n X dX8_removeCard_73 (i := 0) rfl rfl ?_
                refine v_getB X hB cf8 0 (Nat.le_of_ble_eq_true rfl) m_fl_X8_7 dX8_removeCard_74 0 (Nat.le_of_ble_eq_true rfl) rfl rfl ?_
                refine v_bipush X dX8_removeCard_77 (v := (56 : Int32)) (by decide) ?_
                refine v_iconst X dX8_removeCard_79 (v := (3 : Int32)) (by decide) ?_
                refine v_aload_n X dX8_removeCard_80 (i := 0) rfl rfl ?_
                refine v_getB X hB cf8 0 (Nat.le_of_ble_eq_true rfl) m_fl_X8_7 dX8_removeCard_81 0 (Nat.le_of_ble_eq_true rfl) rfl rfl ?_
                refine v_iconst X dX8_removeCard_84 (v := (0 : Int32)) (by decide) ?_
                refine v_ialdB X hB dX8_removeCard_85 1 (Nat.le_of_ble_eq_true rfl) rfl 0 rfl (by omega) (Nat.le_of_ble_eq_true rfl) ?_
                refine v_imul X dX8_removeCard_86 ?_
                refine v_iadd X dX8_removeCard_87 ?_
                refine v_iload_n X dX8_removeCard_88 (i := 2) rfl rfl ?_
                refine v_iadd X dX8_removeCard_89 ?_
                refine v_iconst X dX8_removeCard_90 (v := (0 : Int32)) (by decide) ?_
                refine v_iastB X hB dX8_removeCard_91 1 (Nat.le_of_ble_eq_true rfl) rfl (56 + (3 * (C - 1)) + w) (ix_add (ix_add rfl (ix_mul rfl ((zrJ_lo (by omega)).trans ((shJ_lo (by omega)).trans rm1_0)))) rfl) (by omega) (Nat.le_of_ble_eq_true rfl) (L' := (mdL g o (upd (zrJ (shJ (rm1 μ C) 3 (56 + 3 * k) (56 + 3 * (C - 1))) (56 + 3 * (C - 1)) w) (56 + (3 * (C - 1)) + w) (0 : Int32)) kp (rcH hs n μ) tx (rcI ι n))) rfl ?_
                refine v_iinc X dX8_removeCard_92 (v := nI (w + 1)) rfl (ix_inc rfl) (Nat.le_of_ble_eq_true rfl) rfl ?_
                refine v_goto X dX8_removeCard_95 (tgt := 68) (by decide) ?_
                exact V.cast (ih68 (w + 1) (by omega) (by omega)) (rfl) (rfl) (by rw [← zrJ_1 rfl])
          exact V.cast (LP68 _ 0 (Nat.zero_le _) (Nat.lt_succ_self _)) (rfl) (rfl) (by rw [zrJ_0])
        · skip
          rw [b43 (σ := shJ (rm1 μ C) 3 (56 + 3 * k) j) (C := C - 1) ((shJ_lo (by omega)).trans rm1_0)] at c43
          have hj2 : j < (56 + 3 * (C - 1)) := lt_of_nI (by omega) (by omega) c43
          refine v_aload_n X dX8_removeCard_46 (i := 0) rfl rfl ?_
          refine v_getB X hB cf8 0 (Nat.le_of_ble_eq_true rfl) m_fl_X8_7 dX8_removeCard_47 0 (Nat.le_of_ble_eq_true rfl) rfl rfl ?_
          refine v_iload_n X dX8_removeCard_50 (i := 2) rfl rfl ?_
          refine v_aload_n X dX8_removeCard_51 (i := 0) rfl rfl ?_
          refine v_getB X hB cf8 0 (Nat.le_of_ble_eq_true rfl) m_fl_X8_7 dX8_removeCard_52 0 (Nat.le_of_ble_eq_true rfl) rfl rfl ?_
          refine v_iload_n X dX8_removeCard_55 (i := 2) rfl rfl ?_
          refine v_iconst X dX8_removeCard_56 (v := (3 : Int32)) (by decide) ?_
          refine v_iadd X dX8_removeCard_57 ?_
          refine v_ialdB X hB dX8_removeCard_58 1 (Nat.le_of_ble_eq_true rfl) rfl (j + 3) (ix_add rfl rfl) (by omega) (Nat.le_of_ble_eq_true rfl) ?_
          refine v_iastB X hB dX8_removeCard_59 1 (Nat.le_of_ble_eq_true rfl) rfl j rfl (by omega) (Nat.le_of_ble_eq_true rfl) (L' := (mdL g o (upd (shJ (rm1 μ C) 3 (56 + 3 * k) j) j ((shJ (rm1 μ C) 3 (56 + 3 * k) j) (j + 3))) kp (rcH hs n μ) tx (rcI ι n))) rfl ?_
          refine v_iinc X dX8_removeCard_60 (v := nI (j + 1)) rfl (ix_inc rfl) (Nat.le_of_ble_eq_true rfl) rfl ?_
          refine v_goto X dX8_removeCard_63 (tgt := 31) (by decide) ?_
          exact V.cast (ih31 (j + 1) (by omega) (by omega) (by omega)) (rfl) (rfl) (by rw [← shJ_1 (d := 3) hj0 rfl (by decide)])
    exact V.cast (LP31 _ (56 + 3 * k) (Nat.le_refl _) (by omega) (Nat.lt_succ_self _)) (by rw [show (56 : Int32) + 3 * nI k = nI (56 + 3 * k) from ix_add rfl (ix_mul rfl rfl)]; rfl) (rfl) (by rw [shJ_0])
  · skip
    refine v_iconst X dX8_removeCard_8 (v := (-1 : Int32)) (by decide) ?_
    have hE : rcE μ v = (-1 : Int32) := by rw [rcE, if_pos c5]
    exact v_iret X rfl dX8_removeCard_9 (by rw [hE]; rfl) (by rw [hE]; rfl)
def tb1 (μ : Nat → Int32) : Nat → Int32 := upd μ 1 (μ 106)
def tb2 (μ : Nat → Int32) : Nat → Int32 := upd (tb1 μ) 3 ((tb1 μ) 107)
def tb3 (μ : Nat → Int32) : Nat → Int32 := upd (tb2 μ) 4 ((tb2 μ) 108)
def tb4 (μ : Nat → Int32) : Nat → Int32 := upd (tb3 μ) 5 ((tb3 μ) 109)
def tb5 (μ : Nat → Int32) (k : Nat) : Nat → Int32 := upd (tb4 μ) (14 + 4 * k) ((tb4 μ) 111)
def tb6 (μ : Nat → Int32) (k : Nat) : Nat → Int32 := upd (tb5 μ k) (15 + 4 * k) ((tb5 μ k) 112)
def tb7 (μ : Nat → Int32) (k : Nat) : Nat → Int32 := upd (tb6 μ k) (13 + 4 * k) (tb6 μ k (13 + 4 * k) + 1)
def tb8 (μ : Nat → Int32) (k : Nat) : Nat → Int32 := zrJ (shJ (tb7 μ k) 9 104 275) 275 9
def tb9 (μ : Nat → Int32) (k : Nat) : Nat → Int32 := upd (tb8 μ k) 7 (tb8 μ k 7 - 1)
def tb10 (μ : Nat → Int32) (k : Nat) : Nat → Int32 := upd (tb9 μ k) 8 (tb9 μ k 8 - 1)
def tb11 (μ : Nat → Int32) (k : Nat) : Nat → Int32 := upd (tb10 μ k) 6 (tb10 μ k 6 - 1)
set_option maxRecDepth 100000 in
set_option maxHeartbeats 4000000 in
theorem c_X8_takeBack (l : Launch) (g : Ge) (N o : Nat) (μ kp hs tx ι : Nat → Int32) (n B k : Nat) (hn : ι 0 = nI n) (hn6 : n ≤ 6) (hB8 : μ 8 = nI B) (hB20 : B ≤ 20) (hk : k < 5) (hfl : 0 < B → μ 110 = nI k) : Cb l g yX8_takeBack (.code yX8_takeBack cX8_takeBack 3 (some .int)) 3 [.ref o] N o (mdL g o μ kp hs tx ι) (some (.int (if tbE B = 0 then tb11 μ k 1 else tbE B))) (mdL g o (if tbE B = 0 then tb11 μ k else μ) kp (if tbE B = 0 then rcH hs n μ else hs) tx (if tbE B = 0 then rcI ι n else ι)) := by
  intro f hB0
  have hB : BB g N o 5 := hB0
  refine ct_of (own := RX8) [some (.ref o), none, none] (by decide +kernel) rfl rfl (Nat.le_of_ble_eq_true rfl) ?_
  intro vp ve vs vm va vb vt vc hnm X
  refine v_aload_n X dX8_takeBack_0 (i := 0) rfl rfl ?_
  refine v_getB X hB cf8 0 (Nat.le_of_ble_eq_true rfl) m_fl_X8_7 dX8_takeBack_1 0 (Nat.le_of_ble_eq_true rfl) rfl rfl ?_
  refine v_bipush X dX8_takeBack_4 (v := (8 : Int32)) (by decide) ?_
  refine v_ialdB X hB dX8_takeBack_6 1 (Nat.le_of_ble_eq_true rfl) rfl 8 rfl (by omega) (Nat.le_of_ble_eq_true rfl) ?_
  refine v_if_ne X dX8_takeBack_7 (tgt := 13) (by decide) (fun c7 => ?_) (fun c7 => ?_)
  · skip
    have hB1 : 0 < B := by
      rcases Nat.eq_zero_or_pos B with z | z
      · subst z; rw [hB8] at c7; exact absurd rfl c7
      · exact z
    have hE : tbE B = (0 : Int32) := by rw [tbE, if_neg (by omega)]
    have hk1 : μ (110 + 9 * 0) = nI k := hfl hB1
    refine v_aload_n X dX8_takeBack_13 (i := 0) rfl rfl ?_
    refine v_cvB X rfl yv_X8_record m_ml_X8_37 0 0 (c_X8_record l g N o μ kp hs tx ι n hn hn6) hB (Nat.le_of_ble_eq_true rfl) rfl (Nat.le_of_ble_eq_true rfl) rfl (L' := (mdL g o μ kp (rcH hs n μ) tx (rcI ι n))) (rfl) rfl (Nat.le_of_ble_eq_true rfl) rfl rfl (Nat.le_of_ble_eq_true rfl) ⟨Nat.le_of_ble_eq_true rfl, Nat.le_of_ble_eq_true rfl⟩ ⟨Nat.le_of_ble_eq_true rfl, Nat.le_of_ble_eq_true rfl⟩ dX8_takeBack_14 rfl ?_
    refine v_aload_n X dX8_takeBack_17 (i := 0) rfl rfl ?_
    refine v_iconst X dX8_takeBack_18 (v := (0 : Int32)) (by decide) ?_
    refine v_bipush X dX8_takeBack_19 (v := (6 : Int32)) (by decide) ?_
    refine v_cvB X rfl yv_X8_rowPart m_ml_X8_89 0 0 (c_X8_rowPart l g N o (0 : Int32) 0 rfl (6 : Int32) 6 rfl μ kp (rcH hs n μ) tx (rcI ι n) (by omega) (by omega)) hB (Nat.le_of_ble_eq_true rfl) rfl (Nat.le_of_ble_eq_true rfl) rfl (L' := (mdL g o μ kp (rcH hs n μ) tx (rcI ι n))) (rfl) rfl (Nat.le_of_ble_eq_true rfl) rfl rfl (Nat.le_of_ble_eq_true rfl) ⟨Nat.le_of_ble_eq_true rfl, Nat.le_of_ble_eq_true rfl⟩ ⟨Nat.le_of_ble_eq_true rfl, Nat.le_of_ble_eq_true rfl⟩ dX8_takeBack_21 rfl ?_
    refine v_istore_n X dX8_takeBack_24 (i := 1) rfl (Nat.le_of_ble_eq_true rfl) rfl ?_
    refine v_aload_n X dX8_takeBack_25 (i := 0) rfl rfl ?_
    refine v_getB X hB cf8 0 (Nat.le_of_ble_eq_true rfl) m_fl_X8_7 dX8_takeBack_26 0 (Nat.le_of_ble_eq_true rfl) rfl rfl ?_
    refine v_iconst X dX8_takeBack_29 (v := (1 : Int32)) (by decide) ?_
    refine v_aload_n X dX8_takeBack_30 (i := 0) rfl rfl ?_
    refine v_iconst X dX8_takeBack_31 (v := (0 : Int32)) (by decide) ?_
    refine v_iconst X dX8_takeBack_32 (v := (2 : Int32)) (by decide) ?_
    refine v_cvB X rfl yv_X8_rowPart m_ml_X8_89 0 0 (c_X8_rowPart l g N o (0 : Int32) 0 rfl (2 : Int32) 2 rfl μ kp (rcH hs n μ) tx (rcI ι n) (by omega) (by omega)) hB (Nat.le_of_ble_eq_true rfl) rfl (Nat.le_of_ble_eq_true rfl) rfl (L' := (mdL g o μ kp (rcH hs n μ) tx (rcI ι n))) (rfl) rfl (Nat.le_of_ble_eq_true rfl) rfl rfl (Nat.le_of_ble_eq_true rfl) ⟨Nat.le_of_ble_eq_true rfl, Nat.le_of_ble_eq_true rfl⟩ ⟨Nat.le_of_ble_eq_true rfl, Nat.le_of_ble_eq_true rfl⟩ dX8_takeBack_33 rfl ?_
    refine v_iastB X hB dX8_takeBack_36 1 (Nat.le_of_ble_eq_true rfl) rfl 1 rfl (by omega) (Nat.le_of_ble_eq_true rfl) (L' := (mdL g o (upd μ 1 (μ (106 + 9 * 0))) kp (rcH hs n μ) tx (rcI ι n))) rfl ?_
    refine v_aload_n X dX8_takeBack_37 (i := 0) rfl rfl ?_
    refine v_getB X hB cf8 0 (Nat.le_of_ble_eq_true rfl) m_fl_X8_7 dX8_takeBack_38 0 (Nat.le_of_ble_eq_true rfl) rfl rfl ?_
    refine v_iconst X dX8_takeBack_41 (v := (3 : Int32)) (by decide) ?_
    refine v_aload_n X dX8_takeBack_42 (i := 0) rfl rfl ?_
    refine v_iconst X dX8_takeBack_43 (v := (0 : Int32)) (by decide) ?_
    refine v_iconst X dX8_takeBack_44 (v := (3 : Int32)) (by decide) ?_
    refine v_cvB X rfl yv_X8_rowPart m_ml_X8_89 0 0 (c_X8_rowPart l g N o (0 : Int32) 0 rfl (3 : Int32) 3 rfl (tb1 μ) kp (rcH hs n μ) tx (rcI ι n) (by omega) (by omega)) hB (Nat.le_of_ble_eq_true rfl) rfl (Nat.le_of_ble_eq_true rfl) rfl (L' := (mdL g o (tb1 μ) kp (rcH hs n μ) tx (rcI ι n))) (rfl) rfl (Nat.le_of_ble_eq_true rfl) rfl rfl (Nat.le_of_ble_eq_true rfl) ⟨Nat.le_of_ble_eq_true rfl, Nat.le_of_ble_eq_true rfl⟩ ⟨Nat.le_of_ble_eq_true rfl, Nat.le_of_ble_eq_true rfl⟩ dX8_takeBack_45 rfl ?_
    refine v_iastB X hB dX8_takeBack_48 1 (Nat.le_of_ble_eq_true rfl) rfl 3 rfl (by omega) (Nat.le_of_ble_eq_true rfl) (L' := (mdL g o (upd (tb1 μ) 3 ((tb1 μ) (107 + 9 * 0))) kp (rcH hs n μ) tx (rcI ι n))) rfl ?_
    refine v_aload_n X dX8_takeBack_49 (i := 0) rfl rfl ?_
    refine v_getB X hB cf8 0 (Nat.le_of_ble_eq_true rfl) m_fl_X8_7 dX8_takeBack_50 0 (Nat.le_of_ble_eq_true rfl) rfl rfl ?_
    refine v_iconst X dX8_takeBack_53 (v := (4 : Int32)) (by decide) ?_
    refine v_aload_n X dX8_takeBack_54 (i := 0) rfl rfl ?_
    refine v_iconst X dX8_takeBack_55 (v := (0 : Int32)) (by decide) ?_
    refine v_iconst X dX8_takeBack_56 (v := (4 : Int32)) (by decide) ?_
    refine v_cvB X rfl yv_X8_rowPart m_ml_X8_89 0 0 (c_X8_rowPart l g N o (0 : Int32) 0 rfl (4 : Int32) 4 rfl (tb2 μ) kp (rcH hs n μ) tx (rcI ι n) (by omega) (by omega)) hB (Nat.le_of_ble_eq_true rfl) rfl (Nat.le_of_ble_eq_true rfl) rfl (L' := (mdL g o (tb2 μ) kp (rcH hs n μ) tx (rcI ι n))) (rfl) rfl (Nat.le_of_ble_eq_true rfl) rfl rfl (Nat.le_of_ble_eq_true rfl) ⟨Nat.le_of_ble_eq_true rfl, Nat.le_of_ble_eq_true rfl⟩ ⟨Nat.le_of_ble_eq_true rfl, Nat.le_of_ble_eq_true rfl⟩ dX8_takeBack_57 rfl ?_
    refine v_iastB X hB dX8_takeBack_60 1 (Nat.le_of_ble_eq_true rfl) rfl 4 rfl (by omega) (Nat.le_of_ble_eq_true rfl) (L' := (mdL g o (upd (tb2 μ) 4 ((tb2 μ) (108 + 9 * 0))) kp (rcH hs n μ) tx (rcI ι n))) rfl ?_
    refine v_aload_n X dX8_takeBack_61 (i := 0) rfl rfl ?_
    refine v_getB X hB cf8 0 (Nat.le_of_ble_eq_true rfl) m_fl_X8_7 dX8_takeBack_62 0 (Nat.le_of_ble_eq_true rfl) rfl rfl ?_
    refine v_iconst X dX8_takeBack_65 (v := (5 : Int32)) (by decide) ?_
    refine v_aload_n X dX8_takeBack_66 (i := 0) rfl rfl ?_
    refine v_iconst X dX8_takeBack_67 (v := (0 : Int32)) (by decide) ?_
    refine v_iconst X dX8_takeBack_68 (v := (5 : Int32)) (by decide) ?_
    refine v_cvB X rfl yv_X8_rowPart m_ml_X8_89 0 0 (c_X8_rowPart l g N o (0 : Int32) 0 rfl (5 : Int32) 5 rfl (tb3 μ) kp (rcH hs n μ) tx (rcI ι n) (by omega) (by omega)) hB (Nat.le_of_ble_eq_true rfl) rfl (Nat.le_of_ble_eq_true rfl) rfl (L' := (mdL g o (tb3 μ) kp (rcH hs n μ) tx (rcI ι n))) (rfl) rfl (Nat.le_of_ble_eq_true rfl) rfl rfl (Nat.le_of_ble_eq_true rfl) ⟨Nat.le_of_ble_eq_true rfl, Nat.le_of_ble_eq_true rfl⟩ ⟨Nat.le_of_ble_eq_true rfl, Nat.le_of_ble_eq_true rfl⟩ dX8_takeBack_69 rfl ?_
    refine v_iastB X hB dX8_takeBack_72 1 (Nat.le_of_ble_eq_true rfl) rfl 5 rfl (by omega) (Nat.le_of_ble_eq_true rfl) (L' := (mdL g o (upd (tb3 μ) 5 ((tb3 μ) (109 + 9 * 0))) kp (rcH hs n μ) tx (rcI ι n))) rfl ?_
    refine v_aload_n X dX8_takeBack_73 (i := 0) rfl rfl ?_
    refine v_iload_n X dX8_takeBack_74 (i := 1) rfl rfl ?_
    refine v_iconst X dX8_takeBack_75 (v := (2 : Int32)) (by decide) ?_
    refine v_aload_n X dX8_takeBack_76 (i := 0) rfl rfl ?_
    refine v_iconst X dX8_takeBack_77 (v := (0 : Int32)) (by decide) ?_
    refine v_bipush X dX8_takeBack_78 (v := (7 : Int32)) (by decide) ?_
    refine v_cvB X rfl yv_X8_rowPart m_ml_X8_89 0 0 (c_X8_rowPart l g N o (0 : Int32) 0 rfl (7 : Int32) 7 rfl (tb4 μ) kp (rcH hs n μ) tx (rcI ι n) (by omega) (by omega)) hB (Nat.le_of_ble_eq_true rfl) rfl (Nat.le_of_ble_eq_true rfl) rfl (L' := (mdL g o (tb4 μ) kp (rcH hs n μ) tx (rcI ι n))) (rfl) rfl (Nat.le_of_ble_eq_true rfl) rfl rfl (Nat.le_of_ble_eq_true rfl) ⟨Nat.le_of_ble_eq_true rfl, Nat.le_of_ble_eq_true rfl⟩ ⟨Nat.le_of_ble_eq_true rfl, Nat.le_of_ble_eq_true rfl⟩ dX8_takeBack_80 rfl ?_
    refine v_cvB X rfl yv_X8_setShuttle m_ml_X8_22 0 0 (c_X8_setShuttle l g N o (μ (110 + 9 * 0)) k hk1 (2 : Int32) 2 rfl (tb4 μ) kp (rcH hs n μ) tx (rcI ι n) ((tb4 μ) (111 + 9 * 0)) hk (by omega)) hB (Nat.le_of_ble_eq_true rfl) rfl (Nat.le_of_ble_eq_true rfl) rfl (L' := (mdL g o (upd (tb4 μ) (12 + 2 + 4 * k) ((tb4 μ) (111 + 9 * 0))) kp (rcH hs n μ) tx (rcI ι n))) (rfl) rfl (Nat.le_of_ble_eq_true rfl) rfl rfl (Nat.le_of_ble_eq_true rfl) ⟨Nat.le_of_ble_eq_true rfl, Nat.le_of_ble_eq_true rfl⟩ ⟨Nat.le_of_ble_eq_true rfl, Nat.le_of_ble_eq_true rfl⟩ dX8_takeBack_83 rfl ?_
    refine v_aload_n X dX8_takeBack_86 (i := 0) rfl rfl ?_
    refine v_iload_n X dX8_takeBack_87 (i := 1) rfl rfl ?_
    refine v_iconst X dX8_takeBack_88 (v := (3 : Int32)) (by decide) ?_
    refine v_aload_n X dX8_takeBack_89 (i := 0) rfl rfl ?_
    refine v_iconst X dX8_takeBack_90 (v := (0 : Int32)) (by decide) ?_
    refine v_bipush X dX8_takeBack_91 (v := (8 : Int32)) (by decide) ?_
    refine v_cvB X rfl yv_X8_rowPart m_ml_X8_89 0 0 (c_X8_rowPart l g N o (0 : Int32) 0 rfl (8 : Int32) 8 rfl (tb5 μ k) kp (rcH hs n μ) tx (rcI ι n) (by omega) (by omega)) hB (Nat.le_of_ble_eq_true rfl) rfl (Nat.le_of_ble_eq_true rfl) rfl (L' := (mdL g o (tb5 μ k) kp (rcH hs n μ) tx (rcI ι n))) (rfl) rfl (Nat.le_of_ble_eq_true rfl) rfl rfl (Nat.le_of_ble_eq_true rfl) ⟨Nat.le_of_ble_eq_true rfl, Nat.le_of_ble_eq_true rfl⟩ ⟨Nat.le_of_ble_eq_true rfl, Nat.le_of_ble_eq_true rfl⟩ dX8_takeBack_93 rfl ?_
    refine v_cvB X rfl yv_X8_setShuttle m_ml_X8_22 0 0 (c_X8_setShuttle l g N o (μ (110 + 9 * 0)) k hk1 (3 : Int32) 3 rfl (tb5 μ k) kp (rcH hs n μ) tx (rcI ι n) ((tb5 μ k) (112 + 9 * 0)) hk (by omega)) hB (Nat.le_of_ble_eq_true rfl) rfl (Nat.le_of_ble_eq_true rfl) rfl (L' := (mdL g o (upd (tb5 μ k) (12 + 3 + 4 * k) ((tb5 μ k) (112 + 9 * 0))) kp (rcH hs n μ) tx (rcI ι n))) (rfl) rfl (Nat.le_of_ble_eq_true rfl) rfl rfl (Nat.le_of_ble_eq_true rfl) ⟨Nat.le_of_ble_eq_true rfl, Nat.le_of_ble_eq_true rfl⟩ ⟨Nat.le_of_ble_eq_true rfl, Nat.le_of_ble_eq_true rfl⟩ dX8_takeBack_96 rfl ?_
    refine v_aload_n X dX8_takeBack_99 (i := 0) rfl rfl ?_
    refine v_iload_n X dX8_takeBack_100 (i := 1) rfl rfl ?_
    refine v_iconst X dX8_takeBack_101 (v := (1 : Int32)) (by decide) ?_
    refine v_aload_n X dX8_takeBack_102 (i := 0) rfl rfl ?_
    refine v_iload_n X dX8_takeBack_103 (i := 1) rfl rfl ?_
    refine v_iconst X dX8_takeBack_104 (v := (1 : Int32)) (by decide) ?_
    refine v_cvB X rfl yv_X8_shuttlePart m_ml_X8_44 0 0 (c_X8_shuttlePart l g N o (μ (110 + 9 * 0)) k hk1 (1 : Int32) 1 rfl (tb6 μ k) kp (rcH hs n μ) tx (rcI ι n) hk (by omega)) hB (Nat.le_of_ble_eq_true rfl) rfl (Nat.le_of_ble_eq_true rfl) rfl (L' := (mdL g o (tb6 μ k) kp (rcH hs n μ) tx (rcI ι n))) (rfl) rfl (Nat.le_of_ble_eq_true rfl) rfl rfl (Nat.le_of_ble_eq_true rfl) ⟨Nat.le_of_ble_eq_true rfl, Nat.le_of_ble_eq_true rfl⟩ ⟨Nat.le_of_ble_eq_true rfl, Nat.le_of_ble_eq_true rfl⟩ dX8_takeBack_105 rfl ?_
    refine v_iconst X dX8_takeBack_108 (v := (1 : Int32)) (by decide) ?_
    refine v_iadd X dX8_takeBack_109 ?_
    refine v_cvB X rfl yv_X8_setShuttle m_ml_X8_22 0 0 (c_X8_setShuttle l g N o (μ (110 + 9 * 0)) k hk1 (1 : Int32) 1 rfl (tb6 μ k) kp (rcH hs n μ) tx (rcI ι n) (((tb6 μ k) (13 + 4 * k)) + (1 : Int32)) hk (by omega)) hB (Nat.le_of_ble_eq_true rfl) rfl (Nat.le_of_ble_eq_true rfl) rfl (L' := (mdL g o (upd (tb6 μ k) (12 + 1 + 4 * k) (((tb6 μ k) (13 + 4 * k)) + (1 : Int32))) kp (rcH hs n μ) tx (rcI ι n))) (rfl) rfl (Nat.le_of_ble_eq_true rfl) rfl rfl (Nat.le_of_ble_eq_true rfl) ⟨Nat.le_of_ble_eq_true rfl, Nat.le_of_ble_eq_true rfl⟩ ⟨Nat.le_of_ble_eq_true rfl, Nat.le_of_ble_eq_true rfl⟩ dX8_takeBack_110 rfl ?_
    refine v_iconst X dX8_takeBack_113 (v := (0 : Int32)) (by decide) ?_
    refine v_istore_n X dX8_takeBack_114 (i := 2) rfl (Nat.le_of_ble_eq_true rfl) rfl ?_
    have LP115 : ∀ (n_ : Nat) (j : Nat), (j ≤ 171) → 171 - j < n_ → Vm vp l ve vs vm va vb vt vc g 3 3 N (some (.int (if tbE B = 0 then tb11 μ k 1 else tbE B))) (ovr f o (mdL g o (if tbE B = 0 then tb11 μ k else μ) kp (if tbE B = 0 then rcH hs n μ else hs) tx (if tbE B = 0 then rcI ι n else ι))) (ovr f o (mdL g o (shJ (tb7 μ k) 9 104 (104 + j)) kp (rcH hs n μ) tx (rcI ι n))) 115 [some (.ref o), some (.int (μ (110 + 9 * 0))), some (.int (nI j))] [] := by
      intro n_
      induction n_ with
      | zero => intro j hj hm_; exact absurd hm_ (Nat.not_lt_zero _)
      | succ n_ ih115 =>
        intro j hj hm115
        refine v_iload_n X dX8_takeBack_115 (i := 2) rfl rfl ?_
        refine v_sipush X dX8_takeBack_116 (v := (171 : Int32)) (by decide) ?_
        refine v_icmp_ge X dX8_takeBack_119 (tgt := 149) (by decide) (fun c119 => ?_) (fun c119 => ?_)
        · skip
          have hj2 : j = 171 := Nat.le_antisymm hj (le_of_nI (a := 171) (by omega) (by omega) c119)
          subst hj2
          refine v_iconst X dX8_takeBack_149 (v := (0 : Int32)) (by decide) ?_
          refine v_istore_n X dX8_takeBack_150 (i := 2) rfl (Nat.le_of_ble_eq_true rfl) rfl ?_
          have LP151 : ∀ (n_ : Nat) (w : Nat), (w ≤ 9) → 9 - w < n_ → Vm vp l ve vs vm va vb vt vc g 3 3 N (some (.int (if tbE B = 0 then tb11 μ k 1 else tbE B))) (ovr f o (mdL g o (if tbE B = 0 then tb11 μ k else μ) kp (if tbE B = 0 then rcH hs n μ else hs) tx (if tbE B = 0 then rcI ι n else ι))) (ovr f o (mdL g o (zrJ (shJ (tb7 μ k) 9 104 275) 275 w) kp (rcH hs n μ) tx (rcI ι n))) 151 [some (.ref o), some (.int (μ (110 + 9 * 0))), some (.int (nI w))] [] := by
            intro n_
            induction n_ with
            | zero => intro w hw hm_; exact absurd hm_ (Nat.not_lt_zero _)
            | succ n_ ih151 =>
              intro w hw hm151
              refine v_iload_n X dX8_takeBack_151 (i := 2) rfl rfl ?_
              refine v_bipush X dX8_takeBack_152 (v := (9 : Int32)) (by decide) ?_
              refine v_icmp_ge X dX8_takeBack_154 (tgt := 174) (by decide) (fun c154 => ?_) (fun c154 => ?_)
              · skip
                have hw2 : w = 9 := Nat.le_antisymm hw (le_of_nI (a := 9) (by omega) (by omega) c154)
                subst hw2
                refine V.cast (f' := ovr f o (mdL g o (tb8 μ k) kp (rcH hs n μ) tx (rcI ι n))) ?_ rfl rfl (congrArg (fun z => ovr f o (mdL g o z kp (rcH hs n μ) tx (rcI ι n))) (show zrJ (shJ (tb7 μ k) 9 104 275) 275 9 = (tb8 μ k) from rfl))
                refine v_aload_n X dX8_takeBack_174 (i := 0) rfl rfl ?_
                refine v_getB X hB cf8 0 (Nat.le_of_ble_eq_true rfl) m_fl_X8_7 dX8_takeBack_175 0 (Nat.le_of_ble_eq_true rfl) rfl rfl ?_
                refine v_bipush X dX8_takeBack_178 (v := (7 : Int32)) (by decide) ?_
                refine v_dup2 X dX8_takeBack_180 rfl rfl ?_
                refine v_ialdB X hB dX8_takeBack_181 1 (Nat.le_of_ble_eq_true rfl) rfl 7 rfl (by omega) (Nat.le_of_ble_eq_true rfl) ?_
                refine v_iconst X dX8_takeBack_182 (v := (1 : Int32)) (by decide) ?_
                refine v_isub X dX8_takeBack_183 ?_
                refine v_iastB X hB dX8_takeBack_184 1 (Nat.le_of_ble_eq_true rfl) rfl 7 rfl (by omega) (Nat.le_of_ble_eq_true rfl) (L' := (mdL g o (upd (tb8 μ k) 7 (((tb8 μ k) 7) - (1 : Int32))) kp (rcH hs n μ) tx (rcI ι n))) rfl ?_
                refine v_aload_n X dX8_takeBack_185 (i := 0) rfl rfl ?_
                refine v_getB X hB cf8 0 (Nat.le_of_ble_eq_true rfl) m_fl_X8_7 dX8_takeBack_186 0 (Nat.le_of_ble_eq_true rfl) rfl rfl ?_
                refine v_bipush X dX8_takeBack_189 (v := (8 : Int32)) (by decide) ?_
                refine v_dup2 X dX8_takeBack_191 rfl rfl ?_
                refine v_ialdB X hB dX8_takeBack_192 1 (Nat.le_of_ble_eq_true rfl) rfl 8 rfl (by omega) (Nat.le_of_ble_eq_true rfl) ?_
                refine v_iconst X dX8_takeBack_193 (v := (1 : Int32)) (by decide) ?_
                refine v_isub X dX8_takeBack_194 ?_
                refine v_iastB X hB dX8_takeBack_195 1 (Nat.le_of_ble_eq_true rfl) rfl 8 rfl (by omega) (Nat.le_of_ble_eq_true rfl) (L' := (mdL g o (upd (tb9 μ k) 8 (((tb9 μ k) 8) - (1 : Int32))) kp (rcH hs n μ) tx (rcI ι n))) rfl ?_
                refine v_aload_n X dX8_takeBack_196 (i := 0) rfl rfl ?_
                refine v_getB X hB cf8 0 (Nat.le_of_ble_eq_true rfl) m_fl_X8_7 dX8_takeBack_197 0 (Nat.le_of_ble_eq_true rfl) rfl rfl ?_
                refine v_bipush X dX8_takeBack_200 (v := (6 : Int32)) (by decide) ?_
                refine v_dup2 X dX8_takeBack_202 rfl rfl ?_
                refine v_ialdB X hB dX8_takeBack_203 1 (Nat.le_of_ble_eq_true rfl) rfl 6 rfl (by omega) (Nat.le_of_ble_eq_true rfl) ?_
                refine v_iconst X dX8_takeBack_204 (v := (1 : Int32)) (by decide) ?_
                refine v_isub X dX8_takeBack_205 ?_
                refine v_iastB X hB dX8_takeBack_206 1 (Nat.le_of_ble_eq_true rfl) rfl 6 rfl (by omega) (Nat.le_of_ble_eq_true rfl) (L' := (mdL g o (upd (tb10 μ k) 6 (((tb10 μ k) 6) - (1 : Int32))) kp (rcH hs n μ) tx (rcI ι n))) rfl ?_
                refine v_aload_n X dX8_takeBack_207 (i := 0) rfl rfl ?_
                refine v_getB X hB cf8 0 (Nat.le_of_ble_eq_true rfl) m_fl_X8_7 dX8_takeBack_208 0 (Nat.le_of_ble_eq_true rfl) rfl rfl ?_
                refine v_iconst X dX8_takeBack_211 (v := (1 : Int32)) (by decide) ?_
                refine v_ialdB X hB dX8_takeBack_212 1 (Nat.le_of_ble_eq_true rfl) rfl 1 rfl (by omega) (Nat.le_of_ble_eq_true rfl) ?_
                exact v_iret X rfl dX8_takeBack_213 (by rw [hE]; rfl) (by rw [hE]; rfl)
              · skip
                have hw2 : w < 9 := lt_of_nI (b := 9) (by omega) (by omega) c154
                refine v_aload_n X dX8_takeBack_157 (i := 0) rfl rfl ?_
                refine v_getB X hB cf8 0 (Nat.le_of_ble_eq_true rfl) m_fl_X8_7 dX8_takeBack_158 0 (Nat.le_of_ble_eq_true rfl) rfl rfl ?_
                refine v_sipush X dX8_takeBack_161 (v := (275 : Int32)) (by decide) ?_
                refine v_iload_n X dX8_takeBack_164 (i := 2) rfl rfl ?_
                refine v_iadd X dX8_takeBack_165 ?_
                refine v_iconst X dX8_takeBack_166 (v := (0 : Int32)) (by decide) ?_
                refine v_iastB X hB dX8_takeBack_167 1 (Nat.le_of_ble_eq_true rfl) rfl (275 + w) (ix_add rfl rfl) (by omega) (Nat.le_of_ble_eq_true rfl) (L' := (mdL g o (upd (zrJ (shJ (tb7 μ k) 9 104 275) 275 w) (275 + w) (0 : Int32)) kp (rcH hs n μ) tx (rcI ι n))) rfl ?_
                refine v_iinc X dX8_takeBack_168 (v := nI (w + 1)) rfl (ix_inc rfl) (Nat.le_of_ble_eq_true rfl) rfl ?_
                refine v_goto X dX8_takeBack_171 (tgt := 151) (by decide) ?_
                exact V.cast (ih151 (w + 1) (by omega) (by omega)) (rfl) (rfl) (by rw [← zrJ_1 rfl])
          exact V.cast (LP151 _ 0 (Nat.zero_le _) (Nat.lt_succ_self _)) (rfl) (rfl) (by rw [zrJ_0])
        · skip
          have hj2 : j < 171 := lt_of_nI (b := 171) (by omega) (by omega) c119
          refine v_aload_n X dX8_takeBack_122 (i := 0) rfl rfl ?_
          refine v_getB X hB cf8 0 (Nat.le_of_ble_eq_true rfl) m_fl_X8_7 dX8_takeBack_123 0 (Nat.le_of_ble_eq_true rfl) rfl rfl ?_
          refine v_bipush X dX8_takeBack_126 (v := (104 : Int32)) (by decide) ?_
          refine v_iload_n X dX8_takeBack_128 (i := 2) rfl rfl ?_
          refine v_iadd X dX8_takeBack_129 ?_
          refine v_aload_n X dX8_takeBack_130 (i := 0) rfl rfl ?_
          refine v_getB X hB cf8 0 (Nat.le_of_ble_eq_true rfl) m_fl_X8_7 dX8_takeBack_131 0 (Nat.le_of_ble_eq_true rfl) rfl rfl ?_
          refine v_bipush X dX8_takeBack_134 (v := (104 : Int32)) (by decide) ?_
          refine v_iload_n X dX8_takeBack_136 (i := 2) rfl rfl ?_
          refine v_iadd X dX8_takeBack_137 ?_
          refine v_bipush X dX8_takeBack_138 (v := (9 : Int32)) (by decide) ?_
          refine v_iadd X dX8_takeBack_140 ?_
          refine v_ialdB X hB dX8_takeBack_141 1 (Nat.le_of_ble_eq_true rfl) rfl (104 + j + 9) (ix_add (ix_add rfl rfl) rfl) (by omega) (Nat.le_of_ble_eq_true rfl) ?_
          refine v_iastB X hB dX8_takeBack_142 1 (Nat.le_of_ble_eq_true rfl) rfl (104 + j) (ix_add rfl rfl) (by omega) (Nat.le_of_ble_eq_true rfl) (L' := (mdL g o (upd (shJ (tb7 μ k) 9 104 (104 + j)) (104 + j) ((shJ (tb7 μ k) 9 104 (104 + j)) (104 + j + 9))) kp (rcH hs n μ) tx (rcI ι n))) rfl ?_
          refine v_iinc X dX8_takeBack_143 (v := nI (j + 1)) rfl (ix_inc rfl) (Nat.le_of_ble_eq_true rfl) rfl ?_
          refine v_goto X dX8_takeBack_146 (tgt := 115) (by decide) ?_
          exact V.cast (ih115 (j + 1) (by omega) (by omega)) (rfl) (rfl) (by rw [show 104 + (j + 1) = (104 + j) + 1 from rfl, ← shJ_1 (d := 9) (Nat.le_add_right 104 j) rfl (by decide)])
    exact V.cast (LP115 _ 0 (Nat.zero_le _) (Nat.lt_succ_self _)) (rfl) (rfl) (by rw [show 104 + 0 = 104 from rfl, shJ_0]; rfl)
  · skip
    have hB0 : B = 0 := by
      rw [hB8] at c7
      rcases Nat.eq_zero_or_pos B with z | z
      · exact z
      · exact absurd c7 (nI_ne0 z (by omega))
    have hE : tbE B = (-3 : Int32) := by rw [tbE, if_pos hB0]
    refine v_bipush X dX8_takeBack_10 (v := (-3 : Int32)) (by decide) ?_
    exact v_iret X rfl dX8_takeBack_12 (by rw [hE]; rfl) (by rw [hE]; rfl)
