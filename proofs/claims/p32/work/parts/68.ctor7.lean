/-! the constructor of the class -/
def A7 (g : Ge) (o : Nat) : List va_E := .inr (7, [.ref (o + 1), .ref (o + 24), .int 0, .int 0, .ref (o + 25), .ref (o + 39), .ref (o + 40), .int 0]) :: loL g (o + 1) sI zI
def B7 (g : Ge) (o : Nat) : Nat → List va_E
  | 0 => geL g (o + 25) sI ++ (rdL zI ++ [.inl (g.2.1.2.1, 80, .inl zI)])
  | k + 1 => B7 g o k ++ loL g (o + (41 + 23 * k)) sI zI
def rK (o : Nat) : Nat → Nat → Option Nat
  | 0 => fun _ => none
  | k + 1 => va_up (rK o k) k (some (o + (41 + 23 * k)))
theorem rK_6 {o : Nat} : rK o 6 = svR o := sv_6
def LL7 (g : Ge) (o k : Nat) : List va_E := A7 g o ++ (.inl (g.2.1.2.2, 6, .inr (.inr (.inr (.inr (rK o k))))) :: B7 g o k)
theorem b7_len (g : Ge) (o : Nat) : ∀ k, (B7 g o k).length = 16 + 23 * k
  | 0 => rfl
  | k + 1 => by
    rw [B7, List.length_append, b7_len g o k, show (loL g (o + (41 + 23 * k)) sI zI).length = 23 from rfl]
    omega
theorem ll7_len (g : Ge) (o k : Nat) : (LL7 g o k).length = 41 + 23 * k := by
  rw [LL7, List.length_append, List.length_cons, b7_len, show (A7 g o).length = 24 from rfl]
  omega
theorem ll7_24 (g : Ge) (o k : Nat) : (LL7 g o k ++ loL g (o + (41 + 23 * k)) sI zI)[24]? = some (.inl (g.2.1.2.2, 6, .inr (.inr (.inr (.inr (rK o k)))))) := rfl
theorem ll7_j (g : Ge) (o k : Nat) : (LL7 g o k ++ loL g (o + (41 + 23 * k)) sI zI)[41 + 23 * k]? = some (loE (o + (41 + 23 * k)) sI) := by
  rw [List.getElem?_append_right (by rw [ll7_len]; exact Nat.le_refl _), ll7_len, Nat.sub_self]
  rfl
theorem ll7_set (g : Ge) (o k : Nat) : (LL7 g o k ++ loL g (o + (41 + 23 * k)) sI zI).set 24 (.inl (g.2.1.2.2, 6, .inr (.inr (.inr (.inr (va_up (rK o k) k (some (o + (41 + 23 * k)))))))))  = LL7 g o (k + 1) := rfl
theorem b7_6 (g : Ge) (o : Nat) : B7 g o 6 = geL g (o + 25) sI ++ (rdL zI ++ (.inl (g.2.1.2.1, 80, .inl zI) :: svL g o (fun _ => sI) (fun _ => zI))) := by
  simp only [B7, List.append_assoc, List.cons_append, List.nil_append]
  rfl
theorem ll7_6 {g : Ge} {o : Nat} : LL7 g o 6 = xL g o sI zI (fun _ => sI) (fun _ => zI) sI zI zI zI := by
  rw [LL7, rK_6, b7_6]
  rfl
set_option maxRecDepth 100000 in
set_option maxHeartbeats 1000000 in
theorem c_X7_init (l : Launch) (g : Ge) : Ck l g yX7_init (.code yX7_init cX7_init 2 none) 4 (.inr (7, [.null, .null, .int 0, .int 0, .null, .null, .null, .int 0])) 178 2071 (fun o => xL g o sI zI (fun _ => sI) (fun _ => zI) sI zI zI zI) := by
  intro f M o ho
  have hB : ∀ N k, M + k ≤ N → k ≤ k → BB g N o k := fun N k h _ => ⟨by omega, by omega⟩
  refine ct_of (own := RX7) [some (.ref o), none] (by decide +kernel) rfl rfl (Nat.le_of_ble_eq_true rfl) ?_
  intro vp ve vs vm va vb vt vc hnm X
  refine v_aload_n X dX7_init_0 (i := 0) rfl rfl ?_
  refine v_objInit X m_ml_X7_3 (Nat.le_of_ble_eq_true rfl) ⟨Nat.le_of_ble_eq_true rfl, Nat.le_of_ble_eq_true rfl⟩ dX7_init_1 ?_
  refine v_aload_n X dX7_init_4 (i := 0) rfl rfl ?_
  refine v_newB X 1 (by rw [ho]; omega) rfl (by omega) cf4 m_cl_X7_9 m_is_X4 m_ini_X4 (fs := [.null, .null, .int 0, .int 0, .int 0, .int 0, .int 0]) (fun k hk => by rcases (show k = 0 ∨ k = 1 ∨ k = 2 ∨ k = 3 ∨ k = 4 ∨ k = 5 ∨ k = 6 by omega) with rfl | rfl | rfl | rfl | rfl | rfl | rfl <;> rfl) ⟨Nat.le_of_ble_eq_true rfl, Nat.le_of_ble_eq_true rfl⟩ dX7_init_5 rfl ?_
  refine v_dup X dX7_init_8 rfl ?_
  have hq9 := ck_use (L := [.inr (7, [.null, .null, .int 0, .int 0, .null, .null, .null, .int 0])]) (j := 1) (M := M + 1) (L' := [.inr (7, [.null, .null, .int 0, .int 0, .null, .null, .null, .int 0])] ++ loL g (o + 1) sI zI) (f := f) (o := o) (c_X4_init l g) (by rw [ho]; omega) rfl rfl
  refine v_callIN X (by omega) yv_X4_init m_mn_X7_11 hq9 rfl rfl (Nat.le_of_ble_eq_true rfl) ⟨Nat.le_of_ble_eq_true rfl, Nat.le_of_ble_eq_true rfl⟩ ⟨Nat.le_of_ble_eq_true rfl, Nat.le_of_ble_eq_true rfl⟩ dX7_init_9 ?_
  refine v_putFB X (hB _ _ (by omega) (Nat.le_refl 24)) cf7 0 (Nat.le_of_ble_eq_true rfl) rfl hnm.symm rfl m_fl_X7_12 dX7_init_12 0 (by omega) rfl rfl rfl (Nat.le_of_ble_eq_true rfl) rfl ?_
  refine v_aload_n X dX7_init_15 (i := 0) rfl rfl ?_
  refine v_bipush X dX7_init_16 (v := (6 : Int32)) (by decide) ?_
  refine v_newqB X 24 (by rw [ho]; omega) rfl (by omega) m_cl_X7_9 (n' := 6) rfl (by decide) ⟨Nat.le_of_ble_eq_true rfl, Nat.le_of_ble_eq_true rfl⟩ dX7_init_18 rfl ?_
  refine v_putFB X (hB _ _ (by omega) (Nat.le_refl 25)) cf7 1 (Nat.le_of_ble_eq_true rfl) rfl hnm.symm rfl m_fl_X7_16 dX7_init_21 0 (by omega) rfl rfl rfl (Nat.le_of_ble_eq_true rfl) rfl ?_
  refine v_aload_n X dX7_init_24 (i := 0) rfl rfl ?_
  refine v_iconst X dX7_init_25 (v := (0 : Int32)) (by decide) ?_
  refine v_putB X (hB _ _ (by omega) (Nat.le_refl 25)) cf7 2 (Nat.le_of_ble_eq_true rfl) rfl m_fl_X7_20 dX7_init_26 0 (by omega) rfl rfl rfl (Nat.le_of_ble_eq_true rfl) rfl ?_
  refine v_aload_n X dX7_init_29 (i := 0) rfl rfl ?_
  refine v_iconst X dX7_init_30 (v := (0 : Int32)) (by decide) ?_
  refine v_putB X (hB _ _ (by omega) (Nat.le_refl 25)) cf7 3 (Nat.le_of_ble_eq_true rfl) rfl m_fl_X7_24 dX7_init_31 0 (by omega) rfl rfl rfl (Nat.le_of_ble_eq_true rfl) rfl ?_
  refine V.cast (f' := ovr f o (([.inr (7, [.ref (o + 1), .ref (o + 24), .int (0 : Int32), .int (0 : Int32), .null, .null, .null, .int 0])] ++ (loL g (o + 1) sI zI ++ ([.inl (g.2.1.2.2, 6, .inr (.inr (.inr (.inr (fun _ => none)))))]))))) ?_ rfl rfl (congrArg (fun z => ovr f o z) (by simp only [List.cons_append, List.nil_append, List.append_assoc, List.set_cons_zero, List.set_cons_succ]))
  refine v_aload_n X dX7_init_34 (i := 0) rfl rfl ?_
  refine v_newB X 25 (by rw [ho]; omega) rfl (by omega) cf3 m_cl_X7_27 m_is_X3 m_ini_X3 (fs := [.null, .null, .null, .null, .int 0, .int 0]) (fun k hk => by rcases (show k = 0 ∨ k = 1 ∨ k = 2 ∨ k = 3 ∨ k = 4 ∨ k = 5 by omega) with rfl | rfl | rfl | rfl | rfl | rfl <;> rfl) ⟨Nat.le_of_ble_eq_true rfl, Nat.le_of_ble_eq_true rfl⟩ dX7_init_35 rfl ?_
  refine v_dup X dX7_init_38 rfl ?_
  have hq39 := ck_use (L := ([.inr (7, [.ref (o + 1), .ref (o + 24), .int (0 : Int32), .int (0 : Int32), .null, .null, .null, .int 0])] ++ (loL g (o + 1) sI zI ++ ([.inl (g.2.1.2.2, 6, .inr (.inr (.inr (.inr (fun _ => none)))))])))) (j := 25) (M := M + 1 + 1 + 22 + 1) (L' := ([.inr (7, [.ref (o + 1), .ref (o + 24), .int (0 : Int32), .int (0 : Int32), .null, .null, .null, .int 0])] ++ (loL g (o + 1) sI zI ++ ([.inl (g.2.1.2.2, 6, .inr (.inr (.inr (.inr (fun _ => none)))))]))) ++ geL g (o + 25) sI) (f := f) (o := o) (c_X3_init l g) (by rw [ho]; omega) rfl rfl
  refine v_callIN X (by omega) yv_X3_init m_mn_X7_29 hq39 rfl rfl (Nat.le_of_ble_eq_true rfl) ⟨Nat.le_of_ble_eq_true rfl, Nat.le_of_ble_eq_true rfl⟩ ⟨Nat.le_of_ble_eq_true rfl, Nat.le_of_ble_eq_true rfl⟩ dX7_init_39 ?_
  refine v_putFB X (hB _ _ (by omega) (Nat.le_refl 39)) cf7 4 (Nat.le_of_ble_eq_true rfl) rfl hnm.symm rfl m_fl_X7_30 dX7_init_42 0 (by omega) rfl rfl rfl (Nat.le_of_ble_eq_true rfl) rfl ?_
  refine V.cast (f' := ovr f o (([.inr (7, [.ref (o + 1), .ref (o + 24), .int (0 : Int32), .int (0 : Int32), .ref (o + 25), .null, .null, .int 0])] ++ (loL g (o + 1) sI zI ++ ([.inl (g.2.1.2.2, 6, .inr (.inr (.inr (.inr (fun _ => none)))))] ++ (geL g (o + 25) sI)))))) ?_ rfl rfl (congrArg (fun z => ovr f o z) (by simp only [List.cons_append, List.nil_append, List.append_assoc, List.set_cons_zero, List.set_cons_succ]))
  refine v_aload_n X dX7_init_45 (i := 0) rfl rfl ?_
  refine v_newB X 39 (by rw [ho]; omega) rfl (by omega) cf0 m_cl_X7_34 m_is_X0 m_ini_X0 (fs := [.int 0, .int 0, .int 0, .int 0, .int 0]) (fun k hk => by rcases (show k = 0 ∨ k = 1 ∨ k = 2 ∨ k = 3 ∨ k = 4 by omega) with rfl | rfl | rfl | rfl | rfl <;> rfl) ⟨Nat.le_of_ble_eq_true rfl, Nat.le_of_ble_eq_true rfl⟩ dX7_init_46 rfl ?_
  refine v_dup X dX7_init_49 rfl ?_
  have hq50 := ck_use (L := ([.inr (7, [.ref (o + 1), .ref (o + 24), .int (0 : Int32), .int (0 : Int32), .ref (o + 25), .null, .null, .int 0])] ++ (loL g (o + 1) sI zI ++ ([.inl (g.2.1.2.2, 6, .inr (.inr (.inr (.inr (fun _ => none)))))] ++ (geL g (o + 25) sI))))) (j := 39) (M := M + 1 + 1 + 22 + 1 + 1 + 13) (L' := ([.inr (7, [.ref (o + 1), .ref (o + 24), .int (0 : Int32), .int (0 : Int32), .ref (o + 25), .null, .null, .int 0])] ++ (loL g (o + 1) sI zI ++ ([.inl (g.2.1.2.2, 6, .inr (.inr (.inr (.inr (fun _ => none)))))] ++ (geL g (o + 25) sI)))) ++ rdL zI) (f := f) (o := o) (c_X0_init l g) (by rw [ho]; omega) rfl rfl
  refine v_callIN X (by omega) yv_X0_init m_mn_X7_36 hq50 rfl rfl (Nat.le_of_ble_eq_true rfl) ⟨Nat.le_of_ble_eq_true rfl, Nat.le_of_ble_eq_true rfl⟩ ⟨Nat.le_of_ble_eq_true rfl, Nat.le_of_ble_eq_true rfl⟩ dX7_init_50 ?_
  refine v_putFB X (hB _ _ (by omega) (Nat.le_refl 40)) cf7 5 (Nat.le_of_ble_eq_true rfl) rfl hnm.symm rfl m_fl_X7_37 dX7_init_53 0 (by omega) rfl rfl rfl (Nat.le_of_ble_eq_true rfl) rfl ?_
  refine V.cast (f' := ovr f o (([.inr (7, [.ref (o + 1), .ref (o + 24), .int (0 : Int32), .int (0 : Int32), .ref (o + 25), .ref (o + 39), .null, .int 0])] ++ (loL g (o + 1) sI zI ++ ([.inl (g.2.1.2.2, 6, .inr (.inr (.inr (.inr (fun _ => none)))))] ++ (geL g (o + 25) sI ++ (rdL zI))))))) ?_ rfl rfl (congrArg (fun z => ovr f o z) (by simp only [List.cons_append, List.nil_append, List.append_assoc, List.set_cons_zero, List.set_cons_succ]))
  refine v_aload_n X dX7_init_56 (i := 0) rfl rfl ?_
  refine v_bipush X dX7_init_57 (v := (80 : Int32)) (by decide) ?_
  refine v_newaB_c X 40 (by rw [ho]; omega) rfl (by omega) m_ac_char (n' := 80) rfl (by decide) ⟨Nat.le_of_ble_eq_true rfl, Nat.le_of_ble_eq_true rfl⟩ dX7_init_59 rfl ?_
  refine v_putFB X (hB _ _ (by omega) (Nat.le_refl 41)) cf7 6 (Nat.le_of_ble_eq_true rfl) rfl hnm.symm rfl m_fl_X7_41 dX7_init_61 0 (by omega) rfl rfl rfl (Nat.le_of_ble_eq_true rfl) rfl ?_
  refine v_aload_n X dX7_init_64 (i := 0) rfl rfl ?_
  refine v_iconst X dX7_init_65 (v := (0 : Int32)) (by decide) ?_
  refine v_putB X (hB _ _ (by omega) (Nat.le_refl 41)) cf7 7 (Nat.le_of_ble_eq_true rfl) rfl m_fl_X7_45 dX7_init_66 0 (by omega) rfl rfl rfl (Nat.le_of_ble_eq_true rfl) rfl ?_
  refine v_iconst X dX7_init_69 (v := (0 : Int32)) (by decide) ?_
  refine v_istore_n X dX7_init_70 (i := 1) rfl (Nat.le_of_ble_eq_true rfl) rfl ?_
  have LP : ∀ n_ k : Nat, k ≤ 6 → 6 - k < n_ → V vp l ve (rmD 4 178 2071) vs vm va vb vt vc (MQ vb (CtQ g none (M + 1 + 178) (ovr f o (xL g o sI zI (fun _ => sI) (fun _ => zI) sI zI zI zI))) va vs 178 2071 (gA g)) g 2 (40 + 23 * k) (469 + 267 * k) (M + 1 + (40 + 23 * k)) (ovr f o (LL7 g o k)) 71 [some (.ref o), some (.int (nI k))] [] := by
    intro n_
    induction n_ with
    | zero => intro k hk hm; exact absurd hm (Nat.not_lt_zero _)
    | succ n_ ih =>
      intro k hk hm
      have hlen := ll7_len g o k
      refine v_iload_n X dX7_init_71 (i := 1) rfl rfl ?_
      refine v_bipush X dX7_init_72 (v := (6 : Int32)) (by decide) ?_
      refine v_icmp_ge X dX7_init_74 (tgt := 96) (by decide) (fun c74 => ?_) (fun c74 => ?_)
      · have hk6 : k = 6 := Nat.le_antisymm hk (le_of_nI (a := 6) (by omega) (by omega) c74)
        subst hk6
        exact v_vret X rfl dX7_init_96 rfl (by rw [ll7_6])
      · have hk6 : k < 6 := lt_of_nI (b := 6) (by omega) (by omega) c74
        refine v_aload_n X dX7_init_77 (i := 0) rfl rfl ?_
        refine v_getB X (hB _ (41 + 23 * k) (by omega) (Nat.le_refl _)) cf7 1 (Nat.le_of_ble_eq_true rfl) m_fl_X7_16 dX7_init_78 0 (by omega) rfl rfl ?_
        refine v_iload_n X dX7_init_81 (i := 1) rfl rfl ?_
        refine v_newB X (41 + 23 * k) (by rw [ho]; omega) hlen (by omega) cf4 m_cl_X7_9 m_is_X4 m_ini_X4 (fs := [.null, .null, .int 0, .int 0, .int 0, .int 0, .int 0]) (fun k hk => by rcases (show k = 0 ∨ k = 1 ∨ k = 2 ∨ k = 3 ∨ k = 4 ∨ k = 5 ∨ k = 6 by omega) with rfl | rfl | rfl | rfl | rfl | rfl | rfl <;> rfl) ⟨show 40 + 23 * k + 1 ≤ 178 by omega, show 469 + 267 * k + 7 ≤ 2071 by omega⟩ dX7_init_82 rfl ?_
        refine v_dup X dX7_init_85 rfl ?_
        refine v_callIN X (by omega) yv_X4_init m_mn_X7_11 (ck_use (L := LL7 g o k) (j := 41 + 23 * k) (L' := LL7 g o k ++ loL g (o + (41 + 23 * k)) sI zI) (c_X4_init l g) (by rw [ho]; omega) hlen rfl) rfl rfl (Nat.le_of_ble_eq_true rfl) ⟨Nat.le_of_ble_eq_true rfl, Nat.le_of_ble_eq_true rfl⟩ ⟨show 40 + 23 * k + 1 + 22 ≤ 178 by omega, show 469 + 267 * k + 7 + 260 ≤ 2071 by omega⟩ dX7_init_86 ?_
        refine v_aastB (n := 6) (L' := LL7 g o (k + 1)) X (hB _ (41 + 23 * k + 23) (by omega) (Nat.le_refl _)) dX7_init_89 24 (41 + 23 * k) (by omega) (by omega) (ll7_24 g o k) (ll7_j g o k) k rfl hk6 (by decide) (ll7_set g o k) ?_
        refine v_iinc X dX7_init_90 (v := nI (k + 1)) rfl (ix_inc rfl) (Nat.le_of_ble_eq_true rfl) rfl ?_
        refine v_goto X dX7_init_93 (tgt := 71) (by decide) ?_
        rw [show M + 1 + (40 + 23 * k) + 1 + 22 = M + 1 + (40 + 23 * (k + 1)) by omega, show 40 + 23 * k + 1 + 22 = 40 + 23 * (k + 1) by omega, show 469 + 267 * k + 7 + 260 = 469 + 267 * (k + 1) by omega]
        exact ih (k + 1) (by omega) (by omega)
  refine V.cast (LP _ 0 (Nat.zero_le _) (Nat.lt_succ_self _)) (by rfl) rfl ?_
  exact congrArg (fun z => ovr f o z) (by simp only [LL7, A7, rK, B7, List.cons_append, List.nil_append, List.append_assoc, List.set_cons_zero, List.set_cons_succ]; rfl)
