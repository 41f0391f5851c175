/-! the constructors of the model and of the class -/
def sJ (n : Nat) : Nat → Int32 := fun i => if i < n then sI i else 0
theorem sJ_in {n i : Nat} (h : i < n) : sJ n i = sI i := if_pos h
theorem sJ_out {n i : Nat} (h : ¬ i < n) : sJ n i = 0 := if_neg h
theorem sJ_0 : upd (upd zI 2 1) 10 (-6) = sJ 12 := by
  funext i
  by_cases e : i = 10
  · subst e; rw [pk_us]; decide
  rw [pk_un e]
  by_cases e2 : i = 2
  · subst e2; rw [pk_us]; decide
  rw [pk_un e2]
  by_cases h : i < 12
  · rw [sJ_in h, sI, if_neg e2, if_neg e, if_neg (by omega), if_neg (by omega)]; rfl
  · rw [sJ_out h]; rfl
theorem sJ_sh {k : Nat} (hk : k < 5) : upd (upd (upd (upd (sJ (12 + 4 * k)) (12 + 4 * k) (nI k)) (13 + 4 * k) 20) (14 + 4 * k) (-6)) (15 + 4 * k) (-6) = sJ (12 + 4 * (k + 1)) := by
  obtain ⟨h1, h2, h3, h4⟩ := sI_sh hk
  funext i
  by_cases e1 : i = 15 + 4 * k
  · subst e1; rw [pk_us, sJ_in (by omega), h4]
  rw [pk_un e1]
  by_cases e2 : i = 14 + 4 * k
  · subst e2; rw [pk_us, sJ_in (by omega), h3]
  rw [pk_un e2]
  by_cases e3 : i = 13 + 4 * k
  · subst e3; rw [pk_us, sJ_in (by omega), h2]
  rw [pk_un e3]
  by_cases e4 : i = 12 + 4 * k
  · subst e4; rw [pk_us, sJ_in (by omega), h1]
  rw [pk_un e4]
  by_cases h : i < 12 + 4 * k
  · rw [sJ_in h, sJ_in (by omega)]
  · rw [sJ_out h, sJ_out (by omega)]
theorem sJ_th {k : Nat} (hk : k < 12) : upd (upd (sJ (32 + 2 * k)) (32 + 2 * k) (nI (k % 6))) (33 + 2 * k) 60 = sJ (32 + 2 * (k + 1)) := by
  obtain ⟨h1, h2⟩ := sI_th hk
  funext i
  by_cases e3 : i = 33 + 2 * k
  · subst e3; rw [pk_us, sJ_in (by omega), h2]
  rw [pk_un e3]
  by_cases e4 : i = 32 + 2 * k
  · subst e4; rw [pk_us, sJ_in (by omega), h1]
  rw [pk_un e4]
  by_cases h : i < 32 + 2 * k
  · rw [sJ_in h, sJ_in (by omega)]
  · rw [sJ_out h, sJ_out (by omega)]
theorem sJ_56 : sJ 56 = sI := by
  funext i
  by_cases h : i < 56
  · exact sJ_in h
  · rw [sJ_out h, sI, if_neg (by omega), if_neg (by omega), if_neg (by omega), if_neg (by omega)]
theorem sv_6 {o : Nat} : va_up (va_up (va_up (va_up (va_up (va_up (fun _ => none) 0 (some (o + 41))) 1 (some (o + 64))) 2 (some (o + 87))) 3 (some (o + 110))) 4 (some (o + 133))) 5 (some (o + 156)) = svR o := by
  funext i
  by_cases h : i < 6
  · rcases lt6 h with rfl | rfl | rfl | rfl | rfl | rfl <;> rfl
  · rw [svR, if_neg h]
    unfold va_up
    rw [if_neg (by omega), if_neg (by omega), if_neg (by omega), if_neg (by omega), if_neg (by omega), if_neg (by omega)]
section V8
variable {p : Program} {l : Launch} {e : Env} {R : Room} {s : State} {m : MethodId} {args : Array Value} {below : List Frame} {meth : Method} {c : Code} {Q : State → Prop}
variable {g : Ge} {cc : ByteArray} {nL : Nat} {own : String} {rt : Option FieldType} {N0 cs ss N : Nat} {f : Pic} {pc : Nat} {lv : List (Option Value)} {st : List Value} {o nB : Nat} {L L' : List va_E}
theorem v_aastB (X : Cx p args s m meth c g cc nL own rt N0) {n : Nat} {i : Int32} {row : Nat → Option Nat} {fs : List Value} (hB : BB g N o nB) (d : decode cc pc = .ok (.aastore, 1)) (j jv : Nat) (hjn : j < nB) (hjv : jv < nB) (hj : L[j]? = some (.inl (g.2.1.2.2, n, .inr (.inr (.inr (.inr row)))))) (hv : L[jv]? = some (.inr (4, fs))) (k : Nat) (hi : i = nI k) (hk : k < n) (hn : n < 2 ^ 31) (hL : L.set j (.inl (g.2.1.2.2, n, .inr (.inr (.inr (.inr (va_up row k (some (o + jv)))))))) = L') (kk : V p l e R s m args below meth c Q g nL cs ss N (ovr f o L') (pc + 1) lv st) : V p l e R s m args below meth c Q g nL cs ss N (ovr f o L) pc lv (.ref (o + jv) :: .int i :: .ref (o + j) :: st) := by
  refine v_aast X d ⟨hB.lo, hB.hi hjn⟩ (ovr_at hj) ⟨hB.lo, hB.hi hjv⟩ (ovr_at hv) hi hk hn ?_
  rw [ovr_up (getE_lt hj), hL]
  exact kk
end V8
set_option maxRecDepth 100000 in
set_option maxHeartbeats 4000000 in
theorem c_X8_init (l : Launch) (g : Ge) : Ck l g yX8_init (.code yX8_init cX8_init 2 none) 1 (.inr (8, [.null, .null, .null, .int 0, .null, .int 0, .int 0, .int 0, .int 0, .int 0, .int 0, .int 0])) 4 2352 (fun o => mdL g o sI zI zI zI zI) := by
  intro f M o ho
  have hB : ∀ N k, M + k ≤ N → k ≤ k → BB g N o k := fun N k h _ => ⟨by omega, by omega⟩
  refine ct_of (own := RX8) [some (.ref o), none] (by decide +kernel) rfl rfl (Nat.le_of_ble_eq_true rfl) ?_
  intro vp ve vs vm va vb vt vc hnm X
  refine v_aload_n X dX8_init_0 (i := 0) rfl rfl ?_
  refine v_objInit X m_ml_X8_1 (Nat.le_of_ble_eq_true rfl) ⟨Nat.le_of_ble_eq_true rfl, Nat.le_of_ble_eq_true rfl⟩ dX8_init_1 ?_
  refine v_aload_n X dX8_init_4 (i := 0) rfl rfl ?_
  refine v_sipush X dX8_init_5 (v := (284 : Int32)) (by decide) ?_
  refine v_newaB_i X 1 (by rw [ho]; omega) rfl (by omega) m_ac_int (n' := 284) rfl (by decide) ⟨Nat.le_of_ble_eq_true rfl, Nat.le_of_ble_eq_true rfl⟩ dX8_init_8 rfl ?_
  refine v_putFB X (hB _ _ (by omega) (Nat.le_refl 2)) cf8 0 (Nat.le_of_ble_eq_true rfl) rfl hnm.symm rfl m_fl_X8_7 dX8_init_10 0 (by omega) rfl rfl rfl (Nat.le_of_ble_eq_true rfl) rfl ?_
  refine v_aload_n X dX8_init_13 (i := 0) rfl rfl ?_
  refine v_sipush X dX8_init_14 (v := (284 : Int32)) (by decide) ?_
  refine v_newaB_i X 2 (by rw [ho]; omega) rfl (by omega) m_ac_int (n' := 284) rfl (by decide) ⟨Nat.le_of_ble_eq_true rfl, Nat.le_of_ble_eq_true rfl⟩ dX8_init_17 rfl ?_
  refine v_putFB X (hB _ _ (by omega) (Nat.le_refl 3)) cf8 1 (Nat.le_of_ble_eq_true rfl) rfl hnm.symm rfl m_fl_X8_13 dX8_init_19 0 (by omega) rfl rfl rfl (Nat.le_of_ble_eq_true rfl) rfl ?_
  refine v_aload_n X dX8_init_22 (i := 0) rfl rfl ?_
  refine v_sipush X dX8_init_23 (v := (1704 : Int32)) (by decide) ?_
  refine v_newaB_i X 3 (by rw [ho]; omega) rfl (by omega) m_ac_int (n' := 1704) rfl (by decide) ⟨Nat.le_of_ble_eq_true rfl, Nat.le_of_ble_eq_true rfl⟩ dX8_init_26 rfl ?_
  refine v_putFB X (hB _ _ (by omega) (Nat.le_refl 4)) cf8 2 (Nat.le_of_ble_eq_true rfl) rfl hnm.symm rfl m_fl_X8_16 dX8_init_28 0 (by omega) rfl rfl rfl (Nat.le_of_ble_eq_true rfl) rfl ?_
  refine v_aload_n X dX8_init_31 (i := 0) rfl rfl ?_
  refine v_bipush X dX8_init_32 (v := (80 : Int32)) (by decide) ?_
  refine v_newaB_i X 4 (by rw [ho]; omega) rfl (by omega) m_ac_int (n' := 80) rfl (by decide) ⟨Nat.le_of_ble_eq_true rfl, Nat.le_of_ble_eq_true rfl⟩ dX8_init_34 rfl ?_
  refine v_putFB X (hB _ _ (by omega) (Nat.le_refl 5)) cf8 4 (Nat.le_of_ble_eq_true rfl) rfl hnm.symm rfl m_fl_X8_19 dX8_init_36 0 (by omega) rfl rfl rfl (Nat.le_of_ble_eq_true rfl) rfl ?_
  refine v_aload_n X dX8_init_39 (i := 0) rfl rfl ?_
  refine v_getB X (hB _ _ (by omega) (Nat.le_refl 5)) cf8 0 (Nat.le_of_ble_eq_true rfl) m_fl_X8_7 dX8_init_40 0 (by omega) rfl rfl ?_
  refine v_iconst X dX8_init_43 (v := (2 : Int32)) (by decide) ?_
  refine v_iconst X dX8_init_44 (v := (1 : Int32)) (by decide) ?_
  refine v_iastB (n := 284) X (hB _ _ (by omega) (Nat.le_refl 5)) dX8_init_45 1 (by omega) rfl 2 rfl (by omega) (Nat.le_of_ble_eq_true rfl) rfl ?_
  refine v_aload_n X dX8_init_46 (i := 0) rfl rfl ?_
  refine v_getB X (hB _ _ (by omega) (Nat.le_refl 5)) cf8 0 (Nat.le_of_ble_eq_true rfl) m_fl_X8_7 dX8_init_47 0 (by omega) rfl rfl ?_
  refine v_bipush X dX8_init_50 (v := (10 : Int32)) (by decide) ?_
  refine v_bipush X dX8_init_52 (v := (-6 : Int32)) (by decide) ?_
  refine v_iastB (n := 284) X (hB _ _ (by omega) (Nat.le_refl 5)) dX8_init_54 1 (by omega) rfl 10 rfl (by omega) (Nat.le_of_ble_eq_true rfl) rfl ?_
  refine V.cast (f' := ovr f o (mdL g o (sJ 12) zI zI zI zI)) ?_ rfl rfl (congrArg (fun z => ovr f o z) (by rw [← sJ_0]; rfl))
  refine v_iconst X dX8_init_55 (v := (0 : Int32)) (by decide) ?_
  refine v_istore_n X dX8_init_56 (i := 1) rfl (Nat.le_of_ble_eq_true rfl) rfl ?_
  have LP57 : ∀ (n_ : Nat) (k : Nat), (k ≤ 5) → 5 - k < n_ → V vp l ve (rmD 1 4 2352) vs vm va vb vt vc (MQ vb (CtQ g none (M + 1 + 4) (ovr f o (mdL g o sI zI zI zI zI))) va vs 4 2352 (gA g)) g 2 4 2352 (M + 1 + 4) (ovr f o (mdL g o (sJ (12 + 4 * k)) zI zI zI zI)) 57 [some (.ref o), some (.int (nI k))] [] := by
    intro n_
    induction n_ with
    | zero => intro k hk hm_; exact absurd hm_ (Nat.not_lt_zero _)
    | succ n_ ih57 =>
      intro k hk hm57
      refine v_iload_n X dX8_init_57 (i := 1) rfl rfl ?_
      refine v_iconst X dX8_init_58 (v := (5 : Int32)) (by decide) ?_
      refine v_icmp_ge X dX8_init_59 (tgt := 99) (by decide) (fun c59 => ?_) (fun c59 => ?_)
      · skip
        have hk5 : k = 5 := Nat.le_antisymm hk (le_of_nI (a := 5) (by omega) (by omega) c59)
        subst hk5
        refine v_iconst X dX8_init_99 (v := (0 : Int32)) (by decide) ?_
        refine v_istore_n X dX8_init_100 (i := 1) rfl (Nat.le_of_ble_eq_true rfl) rfl ?_
        have LP101 : ∀ (n_ : Nat) (k : Nat), (k ≤ 12) → 12 - k < n_ → V vp l ve (rmD 1 4 2352) vs vm va vb vt vc (MQ vb (CtQ g none (M + 1 + 4) (ovr f o (mdL g o sI zI zI zI zI))) va vs 4 2352 (gA g)) g 2 4 2352 (M + 1 + 4) (ovr f o (mdL g o (sJ (32 + 2 * k)) zI zI zI zI)) 101 [some (.ref o), some (.int (nI k))] [] := by
          intro n_
          induction n_ with
          | zero => intro k hk hm_; exact absurd hm_ (Nat.not_lt_zero _)
          | succ n_ ih101 =>
            intro k hk hm101
            refine v_iload_n X dX8_init_101 (i := 1) rfl rfl ?_
            refine v_bipush X dX8_init_102 (v := (12 : Int32)) (by decide) ?_
            refine v_icmp_ge X dX8_init_104 (tgt := 131) (by decide) (fun c104 => ?_) (fun c104 => ?_)
            · skip
              have hk5 : k = 12 := Nat.le_antisymm hk (le_of_nI (a := 12) (by omega) (by omega) c104)
              subst hk5
              exact v_vret X rfl dX8_init_131 rfl (by rw [show 32 + 2 * 12 = 56 from rfl, sJ_56])
            · skip
              have hk5 : k < 12 := lt_of_nI (b := 12) (by omega) (by omega) c104
              refine v_aload_n X dX8_init_107 (i := 0) rfl rfl ?_
              refine v_iload_n X dX8_init_108 (i := 1) rfl rfl ?_
              refine v_iconst X dX8_init_109 (v := (0 : Int32)) (by decide) ?_
              refine v_iload_n X dX8_init_110 (i := 1) rfl rfl ?_
              refine v_bipush X dX8_init_111 (v := (6 : Int32)) (by decide) ?_
              refine v_irem X dX8_init_113 (by decide) ?_
              refine v_cvB X rfl yv_X8_setThread m_ml_X8_26 0 0 (c_X8_setThread l g (M + 1 + 4) o (nI k) k rfl (0 : Int32) 0 rfl (sJ (32 + 2 * k)) zI zI zI zI ((nI k) - (nI k) / (6 : Int32) * (6 : Int32)) hk5 (by omega)) (hB _ _ (by omega) (Nat.le_refl 5)) (Nat.le_of_ble_eq_true rfl) rfl (Nat.le_of_ble_eq_true rfl) rfl (L' := (mdL g o (upd (sJ (32 + 2 * k)) (32 + 0 + 2 * k) ((nI k) - (nI k) / (6 : Int32) * (6 : Int32))) zI zI zI zI)) (rfl) rfl (Nat.le_of_ble_eq_true rfl) rfl rfl (Nat.le_of_ble_eq_true rfl) ⟨Nat.le_of_ble_eq_true rfl, Nat.le_of_ble_eq_true rfl⟩ ⟨Nat.le_of_ble_eq_true rfl, Nat.le_of_ble_eq_true rfl⟩ dX8_init_114 rfl ?_
              refine v_aload_n X dX8_init_117 (i := 0) rfl rfl ?_
              refine v_iload_n X dX8_init_118 (i := 1) rfl rfl ?_
              refine v_iconst X dX8_init_119 (v := (1 : Int32)) (by decide) ?_
              refine v_bipush X dX8_init_120 (v := (60 : Int32)) (by decide) ?_
              refine v_cvB X rfl yv_X8_setThread m_ml_X8_26 0 0 (c_X8_setThread l g (M + 1 + 4) o (nI k) k rfl (1 : Int32) 1 rfl (upd (sJ (32 + 2 * k)) (32 + 2 * k) ((nI k) - (nI k) / (6 : Int32) * (6 : Int32))) zI zI zI zI (60 : Int32) hk5 (by omega)) (hB _ _ (by omega) (Nat.le_refl 5)) (Nat.le_of_ble_eq_true rfl) rfl (Nat.le_of_ble_eq_true rfl) rfl (L' := (mdL g o (upd (upd (sJ (32 + 2 * k)) (32 + 2 * k) ((nI k) - (nI k) / (6 : Int32) * (6 : Int32))) (32 + 1 + 2 * k) (60 : Int32)) zI zI zI zI)) (rfl) rfl (Nat.le_of_ble_eq_true rfl) rfl rfl (Nat.le_of_ble_eq_true rfl) ⟨Nat.le_of_ble_eq_true rfl, Nat.le_of_ble_eq_true rfl⟩ ⟨Nat.le_of_ble_eq_true rfl, Nat.le_of_ble_eq_true rfl⟩ dX8_init_122 rfl ?_
              refine v_iinc X dX8_init_125 (v := nI (k + 1)) rfl (ix_inc rfl) (Nat.le_of_ble_eq_true rfl) rfl ?_
              refine v_goto X dX8_init_128 (tgt := 101) (by decide) ?_
              exact V.cast (ih101 (k + 1) (by omega) (by omega)) (rfl) (rfl) (by rw [← sJ_th hk5, ← pk_rem (a := k) (d := 6) (by omega) (by omega) (by omega)]; rfl)
        exact V.cast (LP101 _ 0 (Nat.zero_le _) (Nat.lt_succ_self _)) (rfl) (rfl) (by rfl)
      · skip
        have hk5 : k < 5 := lt_of_nI (b := 5) (by omega) (by omega) c59
        refine v_aload_n X dX8_init_62 (i := 0) rfl rfl ?_
        refine v_iload_n X dX8_init_63 (i := 1) rfl rfl ?_
        refine v_iconst X dX8_init_64 (v := (0 : Int32)) (by decide) ?_
        refine v_iload_n X dX8_init_65 (i := 1) rfl rfl ?_
        refine v_cvB X rfl yv_X8_setShuttle m_ml_X8_22 0 0 (c_X8_setShuttle l g (M + 1 + 4) o (nI k) k rfl (0 : Int32) 0 rfl (sJ (12 + 4 * k)) zI zI zI zI (nI k) hk5 (by omega)) (hB _ _ (by omega) (Nat.le_refl 5)) (Nat.le_of_ble_eq_true rfl) rfl (Nat.le_of_ble_eq_true rfl) rfl (L' := (mdL g o (upd (sJ (12 + 4 * k)) (12 + 0 + 4 * k) (nI k)) zI zI zI zI)) (rfl) rfl (Nat.le_of_ble_eq_true rfl) rfl rfl (Nat.le_of_ble_eq_true rfl) ⟨Nat.le_of_ble_eq_true rfl, Nat.le_of_ble_eq_true rfl⟩ ⟨Nat.le_of_ble_eq_true rfl, Nat.le_of_ble_eq_true rfl⟩ dX8_init_66 rfl ?_
        refine v_aload_n X dX8_init_69 (i := 0) rfl rfl ?_
        refine v_iload_n X dX8_init_70 (i := 1) rfl rfl ?_
        refine v_iconst X dX8_init_71 (v := (1 : Int32)) (by decide) ?_
        refine v_bipush X dX8_init_72 (v := (20 : Int32)) (by decide) ?_
        refine v_cvB X rfl yv_X8_setShuttle m_ml_X8_22 0 0 (c_X8_setShuttle l g (M + 1 + 4) o (nI k) k rfl (1 : Int32) 1 rfl (upd (sJ (12 + 4 * k)) (12 + 4 * k) (nI k)) zI zI zI zI (20 : Int32) hk5 (by omega)) (hB _ _ (by omega) (Nat.le_refl 5)) (Nat.le_of_ble_eq_true rfl) rfl (Nat.le_of_ble_eq_true rfl) rfl (L' := (mdL g o (upd (upd (sJ (12 + 4 * k)) (12 + 4 * k) (nI k)) (12 + 1 + 4 * k) (20 : Int32)) zI zI zI zI)) (rfl) rfl (Nat.le_of_ble_eq_true rfl) rfl rfl (Nat.le_of_ble_eq_true rfl) ⟨Nat.le_of_ble_eq_true rfl, Nat.le_of_ble_eq_true rfl⟩ ⟨Nat.le_of_ble_eq_true rfl, Nat.le_of_ble_eq_true rfl⟩ dX8_init_74 rfl ?_
        refine v_aload_n X dX8_init_77 (i := 0) rfl rfl ?_
        refine v_iload_n X dX8_init_78 (i := 1) rfl rfl ?_
        refine v_iconst X dX8_init_79 (v := (2 : Int32)) (by decide) ?_
        refine v_bipush X dX8_init_80 (v := (-6 : Int32)) (by decide) ?_
        refine v_cvB X rfl yv_X8_setShuttle m_ml_X8_22 0 0 (c_X8_setShuttle l g (M + 1 + 4) o (nI k) k rfl (2 : Int32) 2 rfl (upd (upd (sJ (12 + 4 * k)) (12 + 4 * k) (nI k)) (13 + 4 * k) (20 : Int32)) zI zI zI zI (-6 : Int32) hk5 (by omega)) (hB _ _ (by omega) (Nat.le_refl 5)) (Nat.le_of_ble_eq_true rfl) rfl (Nat.le_of_ble_eq_true rfl) rfl (L' := (mdL g o (upd (upd (upd (sJ (12 + 4 * k)) (12 + 4 * k) (nI k)) (13 + 4 * k) (20 : Int32)) (12 + 2 + 4 * k) (-6 : Int32)) zI zI zI zI)) (rfl) rfl (Nat.le_of_ble_eq_true rfl) rfl rfl (Nat.le_of_ble_eq_true rfl) ⟨Nat.le_of_ble_eq_true rfl, Nat.le_of_ble_eq_true rfl⟩ ⟨Nat.le_of_ble_eq_true rfl, Nat.le_of_ble_eq_true rfl⟩ dX8_init_82 rfl ?_
        refine v_aload_n X dX8_init_85 (i := 0) rfl rfl ?_
        refine v_iload_n X dX8_init_86 (i := 1) rfl rfl ?_
        refine v_iconst X dX8_init_87 (v := (3 : Int32)) (by decide) ?_
        refine v_bipush X dX8_init_88 (v := (-6 : Int32)) (by decide) ?_
        refine v_cvB X rfl yv_X8_setShuttle m_ml_X8_22 0 0 (c_X8_setShuttle l g (M + 1 + 4) o (nI k) k rfl (3 : Int32) 3 rfl (upd (upd (upd (sJ (12 + 4 * k)) (12 + 4 * k) (nI k)) (13 + 4 * k) (20 : Int32)) (14 + 4 * k) (-6 : Int32)) zI zI zI zI (-6 : Int32) hk5 (by omega)) (hB _ _ (by omega) (Nat.le_refl 5)) (Nat.le_of_ble_eq_true rfl) rfl (Nat.le_of_ble_eq_true rfl) rfl (L' := (mdL g o (upd (upd (upd (upd (sJ (12 + 4 * k)) (12 + 4 * k) (nI k)) (13 + 4 * k) (20 : Int32)) (14 + 4 * k) (-6 : Int32)) (12 + 3 + 4 * k) (-6 : Int32)) zI zI zI zI)) (rfl) rfl (Nat.le_of_ble_eq_true rfl) rfl rfl (Nat.le_of_ble_eq_true rfl) ⟨Nat.le_of_ble_eq_true rfl, Nat.le_of_ble_eq_true rfl⟩ ⟨Nat.le_of_ble_eq_true rfl, Nat.le_of_ble_eq_true rfl⟩ dX8_init_90 rfl ?_
        refine v_iinc X dX8_init_93 (v := nI (k + 1)) rfl (ix_inc rfl) (Nat.le_of_ble_eq_true rfl) rfl ?_
        refine v_goto X dX8_init_96 (tgt := 57) (by decide) ?_
        exact V.cast (ih57 (k + 1) (by omega) (by omega)) (rfl) (rfl) (by rw [← sJ_sh hk5])
  exact V.cast (LP57 _ 0 (Nat.zero_le _) (Nat.lt_succ_self _)) (rfl) (rfl) (by rfl)
