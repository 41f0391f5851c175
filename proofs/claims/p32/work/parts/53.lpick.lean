/-! the law's own pick -/
def flA (h c : Nat → Int32) (P : Nat) : Int32 := if inF h (c (3 * P + 1)) 5 0 < 0 then inF h (10 + c (3 * P + 2)) 5 0 else inF h (c (3 * P + 1)) 5 0
def pkT (q c : Nat → Int32) (P : Nat) (t : Nat → Int32) : Nat → Nat → Int32
  | 0 => t
  | i + 1 => upd (pkT q c P t i) (2 * i + 1) (pkT q c P t i (2 * i + 1) - (if (q 5 >>> (pkT q c P t i (2 * i) &&& 31)) &&& 1 = (c (3 * P) >>> (pkT q c P t i (2 * i) &&& 31)) &&& 1 then 0 else 1))
def pkQ3 (q c : Nat → Int32) (P : Nat) : Nat → Int32 := upd (upd (upd q 3 (c (3 * P + 1))) 4 (c (3 * P + 2))) 5 (c (3 * P))
def pkQ (q c : Nat → Int32) (P : Nat) : Nat → Int32 := upd (pkQ3 q c P) 1 (pkQ3 q c P 1 + 1 - (pkQ3 q c P 1 + 1) / pkQ3 q c P 0 * pkQ3 q c P 0)
def pkH2 (h c : Nat → Int32) (P k : Nat) : Nat → Int32 := upd h (3 * k + 2) (if inF h (c (3 * P + 1)) 5 0 < 0 then c (3 * P + 1) else 10 + c (3 * P + 2))
def pkH (h c : Nat → Int32) (P k : Nat) : Nat → Int32 := upd (pkH2 h c P k) (3 * k + 1) (pkH2 h c P k (3 * k + 1) - 1)
set_option maxRecDepth 100000 in
set_option maxHeartbeats 4000000 in
theorem c_L_pick (l : Launch) (g : Ge) (N o o2 : Nat) (q h t c : Nat → Int32) (C P k9 : Nat) (hq0 : q 0 = nI C) (hq1 : q 1 = nI P) (hP : P < C) (hC : C ≤ 16) (hk9 : k9 < 5) (hfl : flA h c P = nI k9) : Cb2 l g yL_pick (.code yL_pick cL_pick 8 (some .int)) 1 [.ref o, .ref (o + 1), .ref (o + 2), .ref o2] N o (qhL g o q h t) o2 (ccL g o2 c) (some (.int (nI k9))) (qhL g o (pkQ q c P) (pkH h c P k9) (pkT q c P t 12)) := by
  intro f hB0 hO0
  have hB : BB g N o 3 := hB0
  have hO : OB g N f o 3 o2 1 (ccL g o2 c) := hO0
  refine ct_of (own := RL) [some (.ref o), some (.ref (o + 1)), some (.ref (o + 2)), some (.ref o2), none, none, none, none] (by decide +kernel) rfl rfl (Nat.le_of_ble_eq_true rfl) ?_
  intro vp ve vs vm va vb vt vc hnm X
  refine v_iconst X dL_pick_0 (v := (3 : Int32)) (by decide) ?_
  refine v_aload_n X dL_pick_1 (i := 0) rfl rfl ?_
  refine v_iconst X dL_pick_2 (v := (1 : Int32)) (by decide) ?_
  refine v_ialdB X hB dL_pick_3 0 (Nat.le_of_ble_eq_true rfl) rfl 1 rfl (by omega) (Nat.le_of_ble_eq_true rfl) ?_
  refine v_imul X dL_pick_4 ?_
  refine v_istore X dL_pick_5 (Nat.le_of_ble_eq_true rfl) rfl ?_
  refine v_aload_n X dL_pick_7 (i := 3) rfl rfl ?_
  refine v_iload X dL_pick_8 rfl ?_
  refine v_iconst X dL_pick_10 (v := (1 : Int32)) (by decide) ?_
  refine v_iadd X dL_pick_11 ?_
  refine v_ialdR X hO rfl dL_pick_12 0 rfl ((3 * P) + 1) (ix_add (ix_mul rfl hq1) rfl) (by omega) (Nat.le_of_ble_eq_true rfl) ?_
  refine v_aload_n X dL_pick_13 (i := 1) rfl rfl ?_
  refine v_csB X rfl yv_L_in m_ml_L_10 1 (c_L_in l g N (o + 1) h (c ((3 * P) + 1)) ) hB (Nat.le_of_ble_eq_true rfl) rfl (Nat.le_of_ble_eq_true rfl) rfl (L' := (qhL g o q h t)) (rfl) rfl rfl (Nat.le_of_ble_eq_true rfl) ⟨Nat.le_of_ble_eq_true rfl, Nat.le_of_ble_eq_true rfl⟩ ⟨Nat.le_of_ble_eq_true rfl, Nat.le_of_ble_eq_true rfl⟩ dL_pick_14 rfl ?_
  refine v_istore X dL_pick_17 (Nat.le_of_ble_eq_true rfl) rfl ?_
  refine v_iload X dL_pick_19 rfl ?_
  refine v_if_ge X dL_pick_21 (tgt := 40) (by decide) (fun c21 => ?_) (fun c21 => ?_)
  · skip
    refine v_iload X dL_pick_40 rfl ?_
    refine v_istore X dL_pick_42 (Nat.le_of_ble_eq_true rfl) rfl ?_
    have e5 : inF h (c (3 * P + 1)) 5 0 = nI k9 := by rw [← hfl, flA, if_neg (Int32.not_lt.mpr c21)]
    rw [e5]
    refine v_iconst X dL_pick_44 (v := (0 : Int32)) (by decide) ?_
    refine v_istore X dL_pick_45 (Nat.le_of_ble_eq_true rfl) rfl ?_
    have LP47 : ∀ (n_ : Nat) (i : Nat), (i ≤ 12) → 12 - i < n_ → Vm vp l ve vs vm va vb vt vc g 1 8 N (some (.int (nI k9))) (ovr f o (qhL g o (pkQ q c P) (pkH h c P k9) (pkT q c P t 12))) (ovr f o (qhL g o q h (pkT q c P t i))) 47 [some (.ref o), some (.ref (o + 1)), some (.ref (o + 2)), some (.ref o2), some (.int ((3 : Int32) * (q 1))), some (.int (nI k9)), some (.int (nI k9)), some (.int (nI i))] [] := by
      intro n_
      induction n_ with
      | zero => intro i hi hm_; exact absurd hm_ (Nat.not_lt_zero _)
      | succ n_ ih47 =>
        intro i hi hm47
        refine v_iload X dL_pick_47 rfl ?_
        refine v_bipush X dL_pick_49 (v := (12 : Int32)) (by decide) ?_
        refine v_icmp_ge X dL_pick_51 (tgt := 104) (by decide) (fun c51 => ?_) (fun c51 => ?_)
        · skip
          have hi5 : i = 12 := Nat.le_antisymm hi (le_of_nI (a := 12) (by omega) (by omega) c51)
          refine v_aload_n X dL_pick_104 (i := 0) rfl rfl ?_
          refine v_iconst X dL_pick_105 (v := (3 : Int32)) (by decide) ?_
          refine v_aload_n X dL_pick_106 (i := 3) rfl rfl ?_
          refine v_iload X dL_pick_107 rfl ?_
          refine v_iconst X dL_pick_109 (v := (1 : Int32)) (by decide) ?_
          refine v_iadd X dL_pick_110 ?_
          refine v_ialdR X hO rfl dL_pick_111 0 rfl ((3 * P) + 1) (ix_add (ix_mul rfl hq1) rfl) (by omega) (Nat.le_of_ble_eq_true rfl) ?_
          refine v_iastB X hB dL_pick_112 0 (Nat.le_of_ble_eq_true rfl) rfl 3 rfl (by omega) (Nat.le_of_ble_eq_true rfl) (L' := (qhL g o (upd q 3 (c ((3 * P) + 1))) h (pkT q c P t i))) rfl ?_
          refine v_aload_n X dL_pick_113 (i := 0) rfl rfl ?_
          refine v_iconst X dL_pick_114 (v := (4 : Int32)) (by decide) ?_
          refine v_aload_n X dL_pick_115 (i := 3) rfl rfl ?_
          refine v_iload X dL_pick_116 rfl ?_
          refine v_iconst X dL_pick_118 (v := (2 : Int32)) (by decide) ?_
          refine v_iadd X dL_pick_119 ?_
          refine v_ialdR X hO rfl dL_pick_120 0 rfl ((3 * P) + 2) (ix_add (ix_mul rfl hq1) rfl) (by omega) (Nat.le_of_ble_eq_true rfl) ?_
          refine v_iastB X hB dL_pick_121 0 (Nat.le_of_ble_eq_true rfl) rfl 4 rfl (by omega) (Nat.le_of_ble_eq_true rfl) (L' := (qhL g o (upd (upd q 3 (c ((3 * P) + 1))) 4 (c ((3 * P) + 2))) h (pkT q c P t i))) rfl ?_
          refine v_aload_n X dL_pick_122 (i := 0) rfl rfl ?_
          refine v_iconst X dL_pick_123 (v := (5 : Int32)) (by decide) ?_
          refine v_aload_n X dL_pick_124 (i := 3) rfl rfl ?_
          refine v_iload X dL_pick_125 rfl ?_
          refine v_ialdR X hO rfl dL_pick_127 0 rfl (3 * P) (ix_mul rfl hq1) (by omega) (Nat.le_of_ble_eq_true rfl) ?_
          refine v_iastB X hB dL_pick_128 0 (Nat.le_of_ble_eq_true rfl) rfl 5 rfl (by omega) (Nat.le_of_ble_eq_true rfl) (L' := (qhL g o (upd (upd (upd q 3 (c ((3 * P) + 1))) 4 (c ((3 * P) + 2))) 5 (c (3 * P))) h (pkT q c P t i))) rfl ?_
          refine v_aload_n X dL_pick_129 (i := 1) rfl rfl ?_
          refine v_iconst X dL_pick_130 (v := (3 : Int32)) (by decide) ?_
          refine v_iload X dL_pick_131 rfl ?_
          refine v_imul X dL_pick_133 ?_
          refine v_iconst X dL_pick_134 (v := (2 : Int32)) (by decide) ?_
          refine v_iadd X dL_pick_135 ?_
          refine v_iload X dL_pick_136 rfl ?_
          refine v_if_ge X dL_pick_138 (tgt := 150) (by decide) (fun c138 => ?_) (fun c138 => ?_)
          · skip
            refine v_bipush X dL_pick_150 (v := (10 : Int32)) (by decide) ?_
            refine v_aload_n X dL_pick_152 (i := 3) rfl rfl ?_
            refine v_iload X dL_pick_153 rfl ?_
            refine v_iconst X dL_pick_155 (v := (2 : Int32)) (by decide) ?_
            refine v_iadd X dL_pick_156 ?_
            refine v_ialdR X hO rfl dL_pick_157 0 rfl ((3 * P) + 2) (ix_add (ix_mul rfl hq1) rfl) (by omega) (Nat.le_of_ble_eq_true rfl) ?_
            refine v_iadd X dL_pick_158 ?_
            refine v_iastB X hB dL_pick_159 1 (Nat.le_of_ble_eq_true rfl) rfl ((3 * k9) + 2) (ix_add (ix_mul rfl rfl) rfl) (by omega) (Nat.le_of_ble_eq_true rfl) (L' := (qhL g o (upd (upd (upd q 3 (c ((3 * P) + 1))) 4 (c ((3 * P) + 2))) 5 (c (3 * P))) (upd h ((3 * k9) + 2) ((10 : Int32) + (c ((3 * P) + 2)))) (pkT q c P t i))) rfl ?_
            refine v_aload_n X dL_pick_160 (i := 1) rfl rfl ?_
            refine v_iconst X dL_pick_161 (v := (3 : Int32)) (by decide) ?_
            refine v_iload X dL_pick_162 rfl ?_
            refine v_imul X dL_pick_164 ?_
            refine v_iconst X dL_pick_165 (v := (1 : Int32)) (by decide) ?_
            refine v_iadd X dL_pick_166 ?_
            refine v_dup2 X dL_pick_167 rfl rfl ?_
            refine v_ialdB X hB dL_pick_168 1 (Nat.le_of_ble_eq_true rfl) rfl ((3 * k9) + 1) (ix_add (ix_mul rfl rfl) rfl) (by omega) (Nat.le_of_ble_eq_true rfl) ?_
            refine v_iconst X dL_pick_169 (v := (1 : Int32)) (by decide) ?_
            refine v_isub X dL_pick_170 ?_
            refine v_iastB X hB dL_pick_171 1 (Nat.le_of_ble_eq_true rfl) rfl ((3 * k9) + 1) (ix_add (ix_mul rfl rfl) rfl) (by omega) (Nat.le_of_ble_eq_true rfl) (L' := (qhL g o (upd (upd (upd q 3 (c ((3 * P) + 1))) 4 (c ((3 * P) + 2))) 5 (c (3 * P))) (upd (upd h ((3 * k9) + 2) ((10 : Int32) + (c ((3 * P) + 2)))) ((3 * k9) + 1) (((upd h ((3 * k9) + 2) ((10 : Int32) + (c ((3 * P) + 2)))) ((3 * k9) + 1)) - (1 : Int32))) (pkT q c P t i))) rfl ?_
            refine v_aload_n X dL_pick_172 (i := 0) rfl rfl ?_
            refine v_iconst X dL_pick_173 (v := (1 : Int32)) (by decide) ?_
            refine v_aload_n X dL_pick_174 (i := 0) rfl rfl ?_
            refine v_iconst X dL_pick_175 (v := (1 : Int32)) (by decide) ?_
            refine v_ialdB X hB dL_pick_176 0 (Nat.le_of_ble_eq_true rfl) rfl 1 rfl (by omega) (Nat.le_of_ble_eq_true rfl) ?_
            refine v_iconst X dL_pick_177 (v := (1 : Int32)) (by decide) ?_
            refine v_iadd X dL_pick_178 ?_
            refine v_aload_n X dL_pick_179 (i := 0) rfl rfl ?_
            refine v_iconst X dL_pick_180 (v := (0 : Int32)) (by decide) ?_
            refine v_ialdB X hB dL_pick_181 0 (Nat.le_of_ble_eq_true rfl) rfl 0 rfl (by omega) (Nat.le_of_ble_eq_true rfl) ?_
            refine v_irem X dL_pick_182 (by show ¬ (pkQ3 q c P) 0 = 0; rw [pkQ3, pk_un (by decide), pk_un (by decide), pk_un (by decide), hq0]; exact nI_ne0 (by omega) (by omega)) ?_
            refine v_iastB X hB dL_pick_183 0 (Nat.le_of_ble_eq_true rfl) rfl 1 rfl (by omega) (Nat.le_of_ble_eq_true rfl) (L' := (qhL g o (upd (upd (upd (upd q 3 (c ((3 * P) + 1))) 4 (c ((3 * P) + 2))) 5 (c (3 * P))) 1 ((((upd (upd (upd q 3 (c ((3 * P) + 1))) 4 (c ((3 * P) + 2))) 5 (c (3 * P))) 1) + (1 : Int32)) - (((upd (upd (upd q 3 (c ((3 * P) + 1))) 4 (c ((3 * P) + 2))) 5 (c (3 * P))) 1) + (1 : Int32)) / ((upd (upd (upd q 3 (c ((3 * P) + 1))) 4 (c ((3 * P) + 2))) 5 (c (3 * P))) 0) * ((upd (upd (upd q 3 (c ((3 * P) + 1))) 4 (c ((3 * P) + 2))) 5 (c (3 * P))) 0))) (upd (upd h ((3 * k9) + 2) ((10 : Int32) + (c ((3 * P) + 2)))) ((3 * k9) + 1) (((upd h ((3 * k9) + 2) ((10 : Int32) + (c ((3 * P) + 2)))) ((3 * k9) + 1)) - (1 : Int32))) (pkT q c P t i))) rfl ?_
            refine v_iload X dL_pick_184 rfl ?_
            exact v_iret X rfl dL_pick_186 (rfl) (by rw [hi5, pkH, pkH2, if_neg (show ¬ inF h (c (3 * P + 1)) 5 0 < 0 from Int32.not_lt.mpr c21)]; rfl)
          · skip
            exact absurd c138 (nI_pos (by omega))
        · skip
          have hi5 : i < 12 := lt_of_nI (b := 12) (by omega) (by omega) c51
          refine v_aload_n X dL_pick_54 (i := 2) rfl rfl ?_
          refine v_iconst X dL_pick_55 (v := (2 : Int32)) (by decide) ?_
          refine v_iload X dL_pick_56 rfl ?_
          refine v_imul X dL_pick_58 ?_
          refine v_iconst X dL_pick_59 (v := (1 : Int32)) (by decide) ?_
          refine v_iadd X dL_pick_60 ?_
          refine v_dup2 X dL_pick_61 rfl rfl ?_
          refine v_ialdB X hB dL_pick_62 2 (Nat.le_of_ble_eq_true rfl) rfl ((2 * i) + 1) (ix_add (ix_mul rfl rfl) rfl) (by omega) (Nat.le_of_ble_eq_true rfl) ?_
          refine v_aload_n X dL_pick_63 (i := 0) rfl rfl ?_
          refine v_iconst X dL_pick_64 (v := (5 : Int32)) (by decide) ?_
          refine v_ialdB X hB dL_pick_65 0 (Nat.le_of_ble_eq_true rfl) rfl 5 rfl (by omega) (Nat.le_of_ble_eq_true rfl) ?_
          refine v_aload_n X dL_pick_66 (i := 2) rfl rfl ?_
          refine v_iconst X dL_pick_67 (v := (2 : Int32)) (by decide) ?_
          refine v_iload X dL_pick_68 rfl ?_
          refine v_imul X dL_pick_70 ?_
          refine v_ialdB X hB dL_pick_71 2 (Nat.le_of_ble_eq_true rfl) rfl (2 * i) (ix_mul rfl rfl) (by omega) (Nat.le_of_ble_eq_true rfl) ?_
          refine v_ishr X dL_pick_72 ?_
          refine v_iconst X dL_pick_73 (v := (1 : Int32)) (by decide) ?_
          refine v_iand X dL_pick_74 ?_
          refine v_aload_n X dL_pick_75 (i := 3) rfl rfl ?_
          refine v_iload X dL_pick_76 rfl ?_
          refine v_ialdR X hO rfl dL_pick_78 0 rfl (3 * P) (ix_mul rfl hq1) (by omega) (Nat.le_of_ble_eq_true rfl) ?_
          refine v_aload_n X dL_pick_79 (i := 2) rfl rfl ?_
          refine v_iconst X dL_pick_80 (v := (2 : Int32)) (by decide) ?_
          refine v_iload X dL_pick_81 rfl ?_
          refine v_imul X dL_pick_83 ?_
          refine v_ialdB X hB dL_pick_84 2 (Nat.le_of_ble_eq_true rfl) rfl (2 * i) (ix_mul rfl rfl) (by omega) (Nat.le_of_ble_eq_true rfl) ?_
          refine v_ishr X dL_pick_85 ?_
          refine v_iconst X dL_pick_86 (v := (1 : Int32)) (by decide) ?_
          refine v_iand X dL_pick_87 ?_
          refine v_icmp_ne X dL_pick_88 (tgt := 95) (by decide) (fun c88 => ?_) (fun c88 => ?_)
          · skip
            refine v_iconst X dL_pick_95 (v := (1 : Int32)) (by decide) ?_
            refine v_isub X dL_pick_96 ?_
            refine v_iastB X hB dL_pick_97 2 (Nat.le_of_ble_eq_true rfl) rfl ((2 * i) + 1) (ix_add (ix_mul rfl rfl) rfl) (by omega) (Nat.le_of_ble_eq_true rfl) (L' := (qhL g o q h (upd (pkT q c P t i) ((2 * i) + 1) (((pkT q c P t i) ((2 * i) + 1)) - (1 : Int32))))) rfl ?_
            refine v_iinc X dL_pick_98 (v := nI (i + 1)) rfl (ix_inc rfl) (Nat.le_of_ble_eq_true rfl) rfl ?_
            refine v_goto X dL_pick_101 (tgt := 47) (by decide) ?_
            exact V.cast (ih47 (i + 1) (by omega) (by omega)) (rfl) (rfl) (by rw [pkT, if_neg c88])
          · skip
            refine v_iconst X dL_pick_91 (v := (0 : Int32)) (by decide) ?_
            refine v_goto X dL_pick_92 (tgt := 96) (by decide) ?_
            refine v_isub X dL_pick_96 ?_
            refine v_iastB X hB dL_pick_97 2 (Nat.le_of_ble_eq_true rfl) rfl ((2 * i) + 1) (ix_add (ix_mul rfl rfl) rfl) (by omega) (Nat.le_of_ble_eq_true rfl) (L' := (qhL g o q h (upd (pkT q c P t i) ((2 * i) + 1) (((pkT q c P t i) ((2 * i) + 1)) - (0 : Int32))))) rfl ?_
            refine v_iinc X dL_pick_98 (v := nI (i + 1)) rfl (ix_inc rfl) (Nat.le_of_ble_eq_true rfl) rfl ?_
            refine v_goto X dL_pick_101 (tgt := 47) (by decide) ?_
            exact V.cast (ih47 (i + 1) (by omega) (by omega)) (rfl) (rfl) (by rw [pkT, if_pos c88])
    exact LP47 _ 0 (Nat.zero_le _) (Nat.lt_succ_self _)
  · skip
    refine v_bipush X dL_pick_24 (v := (10 : Int32)) (by decide) ?_
    refine v_aload_n X dL_pick_26 (i := 3) rfl rfl ?_
    refine v_iload X dL_pick_27 rfl ?_
    refine v_iconst X dL_pick_29 (v := (2 : Int32)) (by decide) ?_
    refine v_iadd X dL_pick_30 ?_
    refine v_ialdR X hO rfl dL_pick_31 0 rfl ((3 * P) + 2) (ix_add (ix_mul rfl hq1) rfl) (by omega) (Nat.le_of_ble_eq_true rfl) ?_
    refine v_iadd X dL_pick_32 ?_
    refine v_aload_n X dL_pick_33 (i := 1) rfl rfl ?_
    refine v_csB X rfl yv_L_in m_ml_L_10 1 (c_L_in l g N (o + 1) h ((10 : Int32) + (c ((3 * P) + 2))) ) hB (Nat.le_of_ble_eq_true rfl) rfl (Nat.le_of_ble_eq_true rfl) rfl (L' := (qhL g o q h t)) (rfl) rfl rfl (Nat.le_of_ble_eq_true rfl) ⟨Nat.le_of_ble_eq_true rfl, Nat.le_of_ble_eq_true rfl⟩ ⟨Nat.le_of_ble_eq_true rfl, Nat.le_of_ble_eq_true rfl⟩ dL_pick_34 rfl ?_
    refine v_goto X dL_pick_37 (tgt := 42) (by decide) ?_
    refine v_istore X dL_pick_42 (Nat.le_of_ble_eq_true rfl) rfl ?_
    have e5 : inF h (10 + c (3 * P + 2)) 5 0 = nI k9 := by rw [← hfl, flA, if_pos c21]
    rw [e5]
    refine v_iconst X dL_pick_44 (v := (0 : Int32)) (by decide) ?_
    refine v_istore X dL_pick_45 (Nat.le_of_ble_eq_true rfl) rfl ?_
    have LP47 : ∀ (n_ : Nat) (i : Nat), (i ≤ 12) → 12 - i < n_ → Vm vp l ve vs vm va vb vt vc g 1 8 N (some (.int (nI k9))) (ovr f o (qhL g o (pkQ q c P) (pkH h c P k9) (pkT q c P t 12))) (ovr f o (qhL g o q h (pkT q c P t i))) 47 [some (.ref o), some (.ref (o + 1)), some (.ref (o + 2)), some (.ref o2), some (.int ((3 : Int32) * (q 1))), some (.int (inF h (c ((3 * P) + 1)) 5 0)), some (.int (nI k9)), some (.int (nI i))] [] := by
      intro n_
      induction n_ with
      | zero => intro i hi hm_; exact absurd hm_ (Nat.not_lt_zero _)
      | succ n_ ih47 =>
        intro i hi hm47
        refine v_iload X dL_pick_47 rfl ?_
        refine v_bipush X dL_pick_49 (v := (12 : Int32)) (by decide) ?_
        refine v_icmp_ge X dL_pick_51 (tgt := 104) (by decide) (fun c51 => ?_) (fun c51 => ?_)
        · skip
          have hi5 : i = 12 := Nat.le_antisymm hi (le_of_nI (a := 12) (by omega) (by omega) c51)
          refine v_aload_n X dL_pick_104 (i := 0) rfl rfl ?_
          refine v_iconst X dL_pick_105 (v := (3 : Int32)) (by decide) ?_
          refine v_aload_n X dL_pick_106 (i := 3) rfl rfl ?_
          refine v_iload X dL_pick_107 rfl ?_
          refine v_iconst X dL_pick_109 (v := (1 : Int32)) (by decide) ?_
          refine v_iadd X dL_pick_110 ?_
          refine v_ialdR X hO rfl dL_pick_111 0 rfl ((3 * P) + 1) (ix_add (ix_mul rfl hq1) rfl) (by omega) (Nat.le_of_ble_eq_true rfl) ?_
          refine v_iastB X hB dL_pick_112 0 (Nat.le_of_ble_eq_true rfl) rfl 3 rfl (by omega) (Nat.le_of_ble_eq_true rfl) (L' := (qhL g o (upd q 3 (c ((3 * P) + 1))) h (pkT q c P t i))) rfl ?_
          refine v_aload_n X dL_pick_113 (i := 0) rfl rfl ?_
          refine v_iconst X dL_pick_114 (v := (4 : Int32)) (by decide) ?_
          refine v_aload_n X dL_pick_115 (i := 3) rfl rfl ?_
          refine v_iload X dL_pick_116 rfl ?_
          refine v_iconst X dL_pick_118 (v := (2 : Int32)) (by decide) ?_
          refine v_iadd X dL_pick_119 ?_
          refine v_ialdR X hO rfl dL_pick_120 0 rfl ((3 * P) + 2) (ix_add (ix_mul rfl hq1) rfl) (by omega) (Nat.le_of_ble_eq_true rfl) ?_
          refine v_iastB X hB dL_pick_121 0 (Nat.le_of_ble_eq_true rfl) rfl 4 rfl (by omega) (Nat.le_of_ble_eq_true rfl) (L' := (qhL g o (upd (upd q 3 (c ((3 * P) + 1))) 4 (c ((3 * P) + 2))) h (pkT q c P t i))) rfl ?_
          refine v_aload_n X dL_pick_122 (i := 0) rfl rfl ?_
          refine v_iconst X dL_pick_123 (v := (5 : Int32)) (by decide) ?_
          refine v_aload_n X dL_pick_124 (i := 3) rfl rfl ?_
          refine v_iload X dL_pick_125 rfl ?_
          refine v_ialdR X hO rfl dL_pick_127 0 rfl (3 * P) (ix_mul rfl hq1) (by omega) (Nat.le_of_ble_eq_true rfl) ?_
          refine v_iastB X hB dL_pick_128 0 (Nat.le_of_ble_eq_true rfl) rfl 5 rfl (by omega) (Nat.le_of_ble_eq_true rfl) (L' := (qhL g o (upd (upd (upd q 3 (c ((3 * P) + 1))) 4 (c ((3 * P) + 2))) 5 (c (3 * P))) h (pkT q c P t i))) rfl ?_
          refine v_aload_n X dL_pick_129 (i := 1) rfl rfl ?_
          refine v_iconst X dL_pick_130 (v := (3 : Int32)) (by decide) ?_
          refine v_iload X dL_pick_131 rfl ?_
          refine v_imul X dL_pick_133 ?_
          refine v_iconst X dL_pick_134 (v := (2 : Int32)) (by decide) ?_
          refine v_iadd X dL_pick_135 ?_
          refine v_iload X dL_pick_136 rfl ?_
          refine v_if_ge X dL_pick_138 (tgt := 150) (by decide) (fun c138 => ?_) (fun c138 => ?_)
          · skip
            exact absurd c138 (Int32.not_le.mpr c21)
          · skip
            refine v_aload_n X dL_pick_141 (i := 3) rfl rfl ?_
            refine v_iload X dL_pick_142 rfl ?_
            refine v_iconst X dL_pick_144 (v := (1 : Int32)) (by decide) ?_
            refine v_iadd X dL_pick_145 ?_
            refine v_ialdR X hO rfl dL_pick_146 0 rfl ((3 * P) + 1) (ix_add (ix_mul rfl hq1) rfl) (by omega) (Nat.le_of_ble_eq_true rfl) ?_
            refine v_goto X dL_pick_147 (tgt := 159) (by decide) ?_
            refine v_iastB X hB dL_pick_159 1 (Nat.le_of_ble_eq_true rfl) rfl ((3 * k9) + 2) (ix_add (ix_mul rfl rfl) rfl) (by omega) (Nat.le_of_ble_eq_true rfl) (L' := (qhL g o (upd (upd (upd q 3 (c ((3 * P) + 1))) 4 (c ((3 * P) + 2))) 5 (c (3 * P))) (upd h ((3 * k9) + 2) (c ((3 * P) + 1))) (pkT q c P t i))) rfl ?_
            refine v_aload_n X dL_pick_160 (i := 1) rfl rfl ?_
            refine v_iconst X dL_pick_161 (v := (3 : Int32)) (by decide) ?_
            refine v_iload X dL_pick_162 rfl ?_
            refine v_imul X dL_pick_164 ?_
            refine v_iconst X dL_pick_165 (v := (1 : Int32)) (by decide) ?_
            refine v_iadd X dL_pick_166 ?_
            refine v_dup2 X dL_pick_167 rfl rfl ?_
            refine v_ialdB X hB dL_pick_168 1 (Nat.le_of_ble_eq_true rfl) rfl ((3 * k9) + 1) (ix_add (ix_mul rfl rfl) rfl) (by omega) (Nat.le_of_ble_eq_true rfl) ?_
            refine v_iconst X dL_pick_169 (v := (1 : Int32)) (by decide) ?_
            refine v_isub X dL_pick_170 ?_
            refine v_iastB X hB dL_pick_171 1 (Nat.le_of_ble_eq_true rfl) rfl ((3 * k9) + 1) (ix_add (ix_mul rfl rfl) rfl) (by omega) (Nat.le_of_ble_eq_true rfl) (L' := (qhL g o (upd (upd (upd q 3 (c ((3 * P) + 1))) 4 (c ((3 * P) + 2))) 5 (c (3 * P))) (upd (upd h ((3 * k9) + 2) (c ((3 * P) + 1))) ((3 * k9) + 1) (((upd h ((3 * k9) + 2) (c ((3 * P) + 1))) ((3 * k9) + 1)) - (1 : Int32))) (pkT q c P t i))) rfl ?_
            refine v_aload_n X dL_pick_172 (i := 0) rfl rfl ?_
            refine v_iconst X dL_pick_173 (v := (1 : Int32)) (by decide) ?_
            refine v_aload_n X dL_pick_174 (i := 0) rfl rfl ?_
            refine v_iconst X dL_pick_175 (v := (1 : Int32)) (by decide) ?_
            refine v_ialdB X hB dL_pick_176 0 (Nat.le_of_ble_eq_true rfl) rfl 1 rfl (by omega) (Nat.le_of_ble_eq_true rfl) ?_
            refine v_iconst X dL_pick_177 (v := (1 : Int32)) (by decide) ?_
            refine v_iadd X dL_pick_178 ?_
            refine v_aload_n X dL_pick_179 (i := 0) rfl rfl ?_
            refine v_iconst X dL_pick_180 (v := (0 : Int32)) (by decide) ?_
            refine v_ialdB X hB dL_pick_181 0 (Nat.le_of_ble_eq_true rfl) rfl 0 rfl (by omega) (Nat.le_of_ble_eq_true rfl) ?_
            refine v_irem X dL_pick_182 (by show ¬ (pkQ3 q c P) 0 = 0; rw [pkQ3, pk_un (by decide), pk_un (by decide), pk_un (by decide), hq0]; exact nI_ne0 (by omega) (by omega)) ?_
            refine v_iastB X hB dL_pick_183 0 (Nat.le_of_ble_eq_true rfl) rfl 1 rfl (by omega) (Nat.le_of_ble_eq_true rfl) (L' := (qhL g o (upd (upd (upd (upd q 3 (c ((3 * P) + 1))) 4 (c ((3 * P) + 2))) 5 (c (3 * P))) 1 ((((upd (upd (upd q 3 (c ((3 * P) + 1))) 4 (c ((3 * P) + 2))) 5 (c (3 * P))) 1) + (1 : Int32)) - (((upd (upd (upd q 3 (c ((3 * P) + 1))) 4 (c ((3 * P) + 2))) 5 (c (3 * P))) 1) + (1 : Int32)) / ((upd (upd (upd q 3 (c ((3 * P) + 1))) 4 (c ((3 * P) + 2))) 5 (c (3 * P))) 0) * ((upd (upd (upd q 3 (c ((3 * P) + 1))) 4 (c ((3 * P) + 2))) 5 (c (3 * P))) 0))) (upd (upd h ((3 * k9) + 2) (c ((3 * P) + 1))) ((3 * k9) + 1) (((upd h ((3 * k9) + 2) (c ((3 * P) + 1))) ((3 * k9) + 1)) - (1 : Int32))) (pkT q c P t i))) rfl ?_
            refine v_iload X dL_pick_184 rfl ?_
            exact v_iret X rfl dL_pick_186 (rfl) (by rw [hi5, pkH, pkH2, if_pos (show inF h (c (3 * P + 1)) 5 0 < 0 from c21)]; rfl)
        · skip
          have hi5 : i < 12 := lt_of_nI (b := 12) (by omega) (by omega) c51
          refine v_aload_n X dL_pick_54 (i := 2) rfl rfl ?_
          refine v_iconst X dL_pick_55 (v := (2 : Int32)) (by decide) ?_
          refine v_iload X dL_pick_56 rfl ?_
          refine v_imul X dL_pick_58 ?_
          refine v_iconst X dL_pick_59 (v := (1 : Int32)) (by decide) ?_
          refine v_iadd X dL_pick_60 ?_
          refine v_dup2 X dL_pick_61 rfl rfl ?_
          refine v_ialdB X hB dL_pick_62 2 (Nat.le_of_ble_eq_true rfl) rfl ((2 * i) + 1) (ix_add (ix_mul rfl rfl) rfl) (by omega) (Nat.le_of_ble_eq_true rfl) ?_
          refine v_aload_n X dL_pick_63 (i := 0) rfl rfl ?_
          refine v_iconst X dL_pick_64 (v := (5 : Int32)) (by decide) ?_
          refine v_ialdB X hB dL_pick_65 0 (Nat.le_of_ble_eq_true rfl) rfl 5 rfl (by omega) (Nat.le_of_ble_eq_true rfl) ?_
          refine v_aload_n X dL_pick_66 (i := 2) rfl rfl ?_
          refine v_iconst X dL_pick_67 (v := (2 : Int32)) (by decide) ?_
          refine v_iload X dL_pick_68 rfl ?_
          refine v_imul X dL_pick_70 ?_
          refine v_ialdB X hB dL_pick_71 2 (Nat.le_of_ble_eq_true rfl) rfl (2 * i) (ix_mul rfl rfl) (by omega) (Nat.le_of_ble_eq_true rfl) ?_
          refine v_ishr X dL_pick_72 ?_
          refine v_iconst X dL_pick_73 (v := (1 : Int32)) (by decide) ?_
          refine v_iand X dL_pick_74 ?_
          refine v_aload_n X dL_pick_75 (i := 3) rfl rfl ?_
          refine v_iload X dL_pick_76 rfl ?_
          refine v_ialdR X hO rfl dL_pick_78 0 rfl (3 * P) (ix_mul rfl hq1) (by omega) (Nat.le_of_ble_eq_true rfl) ?_
          refine v_aload_n X dL_pick_79 (i := 2) rfl rfl ?_
          refine v_iconst X dL_pick_80 (v := (2 : Int32)) (by decide) ?_
          refine v_iload X dL_pick_81 rfl ?_
          refine v_imul X dL_pick_83 ?_
          refine v_ialdB X hB dL_pick_84 2 (Nat.le_of_ble_eq_true rfl) rfl (2 * i) (ix_mul rfl rfl) (by omega) (Nat.le_of_ble_eq_true rfl) ?_
          refine v_ishr X dL_pick_85 ?_
          refine v_iconst X dL_pick_86 (v := (1 : Int32)) (by decide) ?_
          refine v_iand X dL_pick_87 ?_
          refine v_icmp_ne X dL_pick_88 (tgt := 95) (by decide) (fun c88 => ?_) (fun c88 => ?_)
          · skip
            refine v_iconst X dL_pick_95 (v := (1 : Int32)) (by decide) ?_
            refine v_isub X dL_pick_96 ?_
            refine v_iastB X hB dL_pick_97 2 (Nat.le_of_ble_eq_true rfl) rfl ((2 * i) + 1) (ix_add (ix_mul rfl rfl) rfl) (by omega) (Nat.le_of_ble_eq_true rfl) (L' := (qhL g o q h (upd (pkT q c P t i) ((2 * i) + 1) (((pkT q c P t i) ((2 * i) + 1)) - (1 : Int32))))) rfl ?_
            refine v_iinc X dL_pick_98 (v := nI (i + 1)) rfl (ix_inc rfl) (Nat.le_of_ble_eq_true rfl) rfl ?_
            refine v_goto X dL_pick_101 (tgt := 47) (by decide) ?_
            exact V.cast (ih47 (i + 1) (by omega) (by omega)) (rfl) (rfl) (by rw [pkT, if_neg c88])
          · skip
            refine v_iconst X dL_pick_91 (v := (0 : Int32)) (by decide) ?_
            refine v_goto X dL_pick_92 (tgt := 96) (by decide) ?_
            refine v_isub X dL_pick_96 ?_
            refine v_iastB X hB dL_pick_97 2 (Nat.le_of_ble_eq_true rfl) rfl ((2 * i) + 1) (ix_add (ix_mul rfl rfl) rfl) (by omega) (Nat.le_of_ble_eq_true rfl) (L' := (qhL g o q h (upd (pkT q c P t i) ((2 * i) + 1) (((pkT q c P t i) ((2 * i) + 1)) - (0 : Int32))))) rfl ?_
            refine v_iinc X dL_pick_98 (v := nI (i + 1)) rfl (ix_inc rfl) (Nat.le_of_ble_eq_true rfl) rfl ?_
            refine v_goto X dL_pick_101 (tgt := 47) (by decide) ?_
            exact V.cast (ih47 (i + 1) (by omega) (by omega)) (rfl) (rfl) (by rw [pkT, if_pos c88])
    exact LP47 _ 0 (Nat.zero_le _) (Nat.lt_succ_self _)
