/-! the law's main method: its start -/
set_option maxRecDepth 100000 in
set_option maxHeartbeats 2000000 in
theorem law_entry {p : Program} {l : Launch} {e : Env} {s : State} {m : MethodId} {below : List Frame} {meth : Method} {c : Code} {Q : State → Prop} {g : Ge} {b o : Nat} {f : Pic} (X : Cx p #[Value.ref b] s m meth c g cL_law 28 RL ret 0) (ho : g.2.2 = o) (kk : V p l e room_1 s m #[Value.ref b] below meth c Q g 28 186 2340 186 (ovr f o (yaL g o sI zI (fun _ => sI) (fun _ => zI) sI zI zI zI qI (hI 5) (tI 12) (fun _ => 0) (fun _ => 0) (fun _ => 0) (fun _ => 0))) 142 [some (.ref b), some (.ref o), some (.ref (o + 179)), some (.ref (o + 180)), some (.ref (o + 181)), some (.ref (o + 182)), some (.ref (o + 183)), some (.ref (o + 184)), some (.ref (o + 185)), some (.int (nI 0)), none, none, none, none, none, none, none, none, none, none, none, none, none, none, none, none, none, none] []) : V p l e room_1 s m #[Value.ref b] below meth c Q g 28 0 0 0 (ovr f o []) 0 [some (.ref b), none, none, none, none, none, none, none, none, none, none, none, none, none, none, none, none, none, none, none, none, none, none, none, none, none, none, none] [] := by
  have hBB : BB g 186 o 186 := ⟨by rw [ho]; exact Nat.le_refl _, by rw [ho]; exact Nat.le_refl _⟩
  refine v_newB (o := o) X 0 (by rw [ho]) rfl rfl cf7 m_cl_L_32 m_is_X7 m_ini_X7 (fs := [.null, .null, .int 0, .int 0, .null, .null, .null, .int 0]) (fun k hk => by rcases (show k = 0 ∨ k = 1 ∨ k = 2 ∨ k = 3 ∨ k = 4 ∨ k = 5 ∨ k = 6 ∨ k = 7 by omega) with rfl | rfl | rfl | rfl | rfl | rfl | rfl | rfl <;> rfl) ⟨Nat.le_of_ble_eq_true rfl, Nat.le_of_ble_eq_true rfl⟩ dL_law_0 rfl ?_
  refine v_dup X dL_law_3 rfl ?_
  have hq7 := ck_use (L := []) (j := 0) (M := 0) (L' := xL g o sI zI (fun _ => sI) (fun _ => zI) sI zI zI zI) (f := f) (o := o) (c_X7_init l g) (by rw [ho]) rfl rfl
  refine v_callI X rfl yv_X7_init m_ml_L_78 hq7 rfl rfl (Nat.le_of_ble_eq_true rfl) ⟨Nat.le_of_ble_eq_true rfl, Nat.le_of_ble_eq_true rfl⟩ ⟨Nat.le_of_ble_eq_true rfl, Nat.le_of_ble_eq_true rfl⟩ dL_law_4 ?_
  refine v_astore_n X dL_law_7 (i := 1) rfl (Nat.le_of_ble_eq_true rfl) rfl ?_
  refine v_bipush X dL_law_8 (v := (12 : Int32)) (by decide) ?_
  refine v_newaB_i (L := xL g o sI zI (fun _ => sI) (fun _ => zI) sI zI zI zI) X 179 (by rw [ho]) rfl rfl m_ac_int (n' := 12) rfl (by decide) ⟨Nat.le_of_ble_eq_true rfl, Nat.le_of_ble_eq_true rfl⟩ dL_law_10 (L' := xL g o sI zI (fun _ => sI) (fun _ => zI) sI zI zI zI ++ [iA g 12 (fun _ => 0)]) rfl ?_
  refine v_astore_n X dL_law_12 (i := 2) rfl (Nat.le_of_ble_eq_true rfl) rfl ?_
  refine v_bipush X dL_law_13 (v := (15 : Int32)) (by decide) ?_
  refine v_newaB_i (L := xL g o sI zI (fun _ => sI) (fun _ => zI) sI zI zI zI ++ [iA g 12 (fun _ => 0)]) X 180 (by rw [ho]) rfl rfl m_ac_int (n' := 15) rfl (by decide) ⟨Nat.le_of_ble_eq_true rfl, Nat.le_of_ble_eq_true rfl⟩ dL_law_15 (L' := xL g o sI zI (fun _ => sI) (fun _ => zI) sI zI zI zI ++ [iA g 12 (fun _ => 0), iA g 15 (fun _ => 0)]) rfl ?_
  refine v_astore_n X dL_law_17 (i := 3) rfl (Nat.le_of_ble_eq_true rfl) rfl ?_
  refine v_bipush X dL_law_18 (v := (24 : Int32)) (by decide) ?_
  refine v_newaB_i (L := xL g o sI zI (fun _ => sI) (fun _ => zI) sI zI zI zI ++ [iA g 12 (fun _ => 0), iA g 15 (fun _ => 0)]) X 181 (by rw [ho]) rfl rfl m_ac_int (n' := 24) rfl (by decide) ⟨Nat.le_of_ble_eq_true rfl, Nat.le_of_ble_eq_true rfl⟩ dL_law_20 (L' := xL g o sI zI (fun _ => sI) (fun _ => zI) sI zI zI zI ++ [iA g 12 (fun _ => 0), iA g 15 (fun _ => 0), iA g 24 (fun _ => 0)]) rfl ?_
  refine v_astore X dL_law_22 (Nat.le_of_ble_eq_true rfl) rfl ?_
  refine v_bipush X dL_law_24 (v := (48 : Int32)) (by decide) ?_
  refine v_newaB_i (L := xL g o sI zI (fun _ => sI) (fun _ => zI) sI zI zI zI ++ [iA g 12 (fun _ => 0), iA g 15 (fun _ => 0), iA g 24 (fun _ => 0)]) X 182 (by rw [ho]) rfl rfl m_ac_int (n' := 48) rfl (by decide) ⟨Nat.le_of_ble_eq_true rfl, Nat.le_of_ble_eq_true rfl⟩ dL_law_26 (L' := xL g o sI zI (fun _ => sI) (fun _ => zI) sI zI zI zI ++ [iA g 12 (fun _ => 0), iA g 15 (fun _ => 0), iA g 24 (fun _ => 0), iA g 48 (fun _ => 0)]) rfl ?_
  refine v_astore X dL_law_28 (Nat.le_of_ble_eq_true rfl) rfl ?_
  refine v_bipush X dL_law_30 (v := (42 : Int32)) (by decide) ?_
  refine v_newaB_i (L := xL g o sI zI (fun _ => sI) (fun _ => zI) sI zI zI zI ++ [iA g 12 (fun _ => 0), iA g 15 (fun _ => 0), iA g 24 (fun _ => 0), iA g 48 (fun _ => 0)]) X 183 (by rw [ho]) rfl rfl m_ac_int (n' := 42) rfl (by decide) ⟨Nat.le_of_ble_eq_true rfl, Nat.le_of_ble_eq_true rfl⟩ dL_law_32 (L' := xL g o sI zI (fun _ => sI) (fun _ => zI) sI zI zI zI ++ [iA g 12 (fun _ => 0), iA g 15 (fun _ => 0), iA g 24 (fun _ => 0), iA g 48 (fun _ => 0), iA g 42 (fun _ => 0)]) rfl ?_
  refine v_astore X dL_law_34 (Nat.le_of_ble_eq_true rfl) rfl ?_
  refine v_bipush X dL_law_36 (v := (60 : Int32)) (by decide) ?_
  refine v_newaB_i (L := xL g o sI zI (fun _ => sI) (fun _ => zI) sI zI zI zI ++ [iA g 12 (fun _ => 0), iA g 15 (fun _ => 0), iA g 24 (fun _ => 0), iA g 48 (fun _ => 0), iA g 42 (fun _ => 0)]) X 184 (by rw [ho]) rfl rfl m_ac_int (n' := 60) rfl (by decide) ⟨Nat.le_of_ble_eq_true rfl, Nat.le_of_ble_eq_true rfl⟩ dL_law_38 (L' := xL g o sI zI (fun _ => sI) (fun _ => zI) sI zI zI zI ++ [iA g 12 (fun _ => 0), iA g 15 (fun _ => 0), iA g 24 (fun _ => 0), iA g 48 (fun _ => 0), iA g 42 (fun _ => 0), iA g 60 (fun _ => 0)]) rfl ?_
  refine v_astore X dL_law_40 (Nat.le_of_ble_eq_true rfl) rfl ?_
  refine v_bipush X dL_law_42 (v := (60 : Int32)) (by decide) ?_
  refine v_newaB_i (L := xL g o sI zI (fun _ => sI) (fun _ => zI) sI zI zI zI ++ [iA g 12 (fun _ => 0), iA g 15 (fun _ => 0), iA g 24 (fun _ => 0), iA g 48 (fun _ => 0), iA g 42 (fun _ => 0), iA g 60 (fun _ => 0)]) X 185 (by rw [ho]) rfl rfl m_ac_int (n' := 60) rfl (by decide) ⟨Nat.le_of_ble_eq_true rfl, Nat.le_of_ble_eq_true rfl⟩ dL_law_44 (L' := xL g o sI zI (fun _ => sI) (fun _ => zI) sI zI zI zI ++ [iA g 12 (fun _ => 0), iA g 15 (fun _ => 0), iA g 24 (fun _ => 0), iA g 48 (fun _ => 0), iA g 42 (fun _ => 0), iA g 60 (fun _ => 0), iA g 60 (fun _ => 0)]) rfl ?_
  refine v_astore X dL_law_46 (Nat.le_of_ble_eq_true rfl) rfl ?_
  refine V.cast (f' := ovr f o (yaL g o sI zI (fun _ => sI) (fun _ => zI) sI zI zI zI (fun _ => 0) (fun _ => 0) (fun _ => 0) (fun _ => 0) (fun _ => 0) (fun _ => 0) (fun _ => 0))) ?_ rfl rfl rfl
  have hB : BB g 186 o 186 := hBB
  refine v_aload_n X dL_law_48 (i := 2) rfl rfl ?_
  refine v_iconst X dL_law_49 (v := (2 : Int32)) (by decide) ?_
  refine v_iconst X dL_law_50 (v := (1 : Int32)) (by decide) ?_
  refine v_iastB X hB dL_law_51 179 (Nat.le_of_ble_eq_true rfl) rfl 2 rfl (by omega) (Nat.le_of_ble_eq_true rfl) (L' := (yaL g o sI zI (fun _ => sI) (fun _ => zI) sI zI zI zI (upd (fun _ => 0) 2 (1 : Int32)) (fun _ => 0) (fun _ => 0) (fun _ => 0) (fun _ => 0) (fun _ => 0) (fun _ => 0))) rfl ?_
  refine v_aload_n X dL_law_52 (i := 2) rfl rfl ?_
  refine v_bipush X dL_law_53 (v := (10 : Int32)) (by decide) ?_
  refine v_bipush X dL_law_55 (v := (-6 : Int32)) (by decide) ?_
  refine v_iastB X hB dL_law_57 179 (Nat.le_of_ble_eq_true rfl) rfl 10 rfl (by omega) (Nat.le_of_ble_eq_true rfl) (L' := (yaL g o sI zI (fun _ => sI) (fun _ => zI) sI zI zI zI (upd (upd (fun _ => 0) 2 (1 : Int32)) 10 (-6 : Int32)) (fun _ => 0) (fun _ => 0) (fun _ => 0) (fun _ => 0) (fun _ => 0) (fun _ => 0))) rfl ?_
  refine v_iconst X dL_law_58 (v := (0 : Int32)) (by decide) ?_
  refine v_istore X dL_law_59 (Nat.le_of_ble_eq_true rfl) rfl ?_
  have LP61 : ∀ (n_ : Nat) (k : Nat), (k ≤ 5) → 5 - k < n_ → V p l e room_1 s m #[Value.ref b] below meth c Q g 28 186 2340 186 (ovr f o (yaL g o sI zI (fun _ => sI) (fun _ => zI) sI zI zI zI qI (hI k) (fun _ => 0) (fun _ => 0) (fun _ => 0) (fun _ => 0) (fun _ => 0))) 61 [some (.ref b), some (.ref o), some (.ref (o + 179)), some (.ref (o + 180)), some (.ref (o + 181)), some (.ref (o + 182)), some (.ref (o + 183)), some (.ref (o + 184)), some (.ref (o + 185)), some (.int (nI k)), none, none, none, none, none, none, none, none, none, none, none, none, none, none, none, none, none, none] [] := by
    intro n_
    induction n_ with
    | zero => intro k hk hm_; exact absurd hm_ (Nat.not_lt_zero _)
    | succ n_ ih61 =>
      intro k hk hm61
      refine v_iload X dL_law_61 rfl ?_
      refine v_iconst X dL_law_63 (v := (5 : Int32)) (by decide) ?_
      refine v_icmp_ge X dL_law_64 (tgt := 100) (by decide) (fun c64 => ?_) (fun c64 => ?_)
      · skip
        have hk5 : k = 5 := Nat.le_antisymm hk (le_of_nI (a := 5) (by omega) (by omega) c64)
        refine v_iconst X dL_law_100 (v := (0 : Int32)) (by decide) ?_
        refine v_istore X dL_law_101 (Nat.le_of_ble_eq_true rfl) rfl ?_
        have LP103 : ∀ (n_ : Nat) (k2 : Nat), (k2 ≤ 12) → 12 - k2 < n_ → V p l e room_1 s m #[Value.ref b] below meth c Q g 28 186 2340 186 (ovr f o (yaL g o sI zI (fun _ => sI) (fun _ => zI) sI zI zI zI qI (hI 5) (tI k2) (fun _ => 0) (fun _ => 0) (fun _ => 0) (fun _ => 0))) 103 [some (.ref b), some (.ref o), some (.ref (o + 179)), some (.ref (o + 180)), some (.ref (o + 181)), some (.ref (o + 182)), some (.ref (o + 183)), some (.ref (o + 184)), some (.ref (o + 185)), some (.int (nI k2)), none, none, none, none, none, none, none, none, none, none, none, none, none, none, none, none, none, none] [] := by
          intro n_
          induction n_ with
          | zero => intro k2 hk2 hm_; exact absurd hm_ (Nat.not_lt_zero _)
          | succ n_ ih103 =>
            intro k2 hk2 hm103
            refine v_iload X dL_law_103 rfl ?_
            refine v_bipush X dL_law_105 (v := (12 : Int32)) (by decide) ?_
            refine v_icmp_ge X dL_law_107 (tgt := 139) (by decide) (fun c107 => ?_) (fun c107 => ?_)
            · skip
              have hk6 : k2 = 12 := Nat.le_antisymm hk2 (le_of_nI (a := 12) (by omega) (by omega) c107)
              subst hk6
              refine v_iconst X dL_law_139 (v := (0 : Int32)) (by decide) ?_
              refine v_istore X dL_law_140 (Nat.le_of_ble_eq_true rfl) rfl ?_
              exact kk
            · skip
              have hk6 : k2 < 12 := lt_of_nI (b := 12) (by omega) (by omega) c107
              refine v_aload X dL_law_110 rfl ?_
              refine v_iconst X dL_law_112 (v := (2 : Int32)) (by decide) ?_
              refine v_iload X dL_law_113 rfl ?_
              refine v_imul X dL_law_115 ?_
              refine v_iload X dL_law_116 rfl ?_
              refine v_bipush X dL_law_118 (v := (6 : Int32)) (by decide) ?_
              refine v_irem X dL_law_120 (by decide) ?_
              rw [show ((nI k2) - (nI k2) / (6 : Int32) * (6 : Int32)) = nI (k2 % 6) from pk_rem (a := k2) (d := 6) (by omega) (by omega) (by omega)]
              refine v_iastB X hB dL_law_121 181 (Nat.le_of_ble_eq_true rfl) rfl (2 * k2) (ix_mul rfl rfl) (by omega) (Nat.le_of_ble_eq_true rfl) (L' := (yaL g o sI zI (fun _ => sI) (fun _ => zI) sI zI zI zI qI (hI 5) (upd (tI k2) (2 * k2) (nI (k2 % 6))) (fun _ => 0) (fun _ => 0) (fun _ => 0) (fun _ => 0))) rfl ?_
              refine v_aload X dL_law_122 rfl ?_
              refine v_iconst X dL_law_124 (v := (2 : Int32)) (by decide) ?_
              refine v_iload X dL_law_125 rfl ?_
              refine v_imul X dL_law_127 ?_
              refine v_iconst X dL_law_128 (v := (1 : Int32)) (by decide) ?_
              refine v_iadd X dL_law_129 ?_
              refine v_bipush X dL_law_130 (v := (60 : Int32)) (by decide) ?_
              refine v_iastB X hB dL_law_132 181 (Nat.le_of_ble_eq_true rfl) rfl ((2 * k2) + 1) (ix_add (ix_mul rfl rfl) rfl) (by omega) (Nat.le_of_ble_eq_true rfl) (L' := (yaL g o sI zI (fun _ => sI) (fun _ => zI) sI zI zI zI qI (hI 5) (upd (upd (tI k2) (2 * k2) (nI (k2 % 6))) ((2 * k2) + 1) (60 : Int32)) (fun _ => 0) (fun _ => 0) (fun _ => 0) (fun _ => 0))) rfl ?_
              refine v_iinc X dL_law_133 (v := nI (k2 + 1)) rfl (ix_inc rfl) (Nat.le_of_ble_eq_true rfl) rfl ?_
              refine v_goto X dL_law_136 (tgt := 103) (by decide) ?_
              exact V.cast (ih103 (k2 + 1) (by omega) (by omega)) (rfl) (rfl) (by rw [← tI_s])
        exact V.cast (LP103 _ 0 (Nat.zero_le _) (Nat.lt_succ_self _)) (rfl) (rfl) (by rw [tI_0, hk5])
      · skip
        have hk5 : k < 5 := lt_of_nI (b := 5) (by omega) (by omega) c64
        refine v_aload_n X dL_law_67 (i := 3) rfl rfl ?_
        refine v_iconst X dL_law_68 (v := (3 : Int32)) (by decide) ?_
        refine v_iload X dL_law_69 rfl ?_
        refine v_imul X dL_law_71 ?_
        refine v_iload X dL_law_72 rfl ?_
        refine v_iastB X hB dL_law_74 180 (Nat.le_of_ble_eq_true rfl) rfl (3 * k) (ix_mul rfl rfl) (by omega) (Nat.le_of_ble_eq_true rfl) (L' := (yaL g o sI zI (fun _ => sI) (fun _ => zI) sI zI zI zI qI (upd (hI k) (3 * k) (nI k)) (fun _ => 0) (fun _ => 0) (fun _ => 0) (fun _ => 0) (fun _ => 0))) rfl ?_
        refine v_aload_n X dL_law_75 (i := 3) rfl rfl ?_
        refine v_iconst X dL_law_76 (v := (3 : Int32)) (by decide) ?_
        refine v_iload X dL_law_77 rfl ?_
        refine v_imul X dL_law_79 ?_
        refine v_iconst X dL_law_80 (v := (1 : Int32)) (by decide) ?_
        refine v_iadd X dL_law_81 ?_
        refine v_bipush X dL_law_82 (v := (20 : Int32)) (by decide) ?_
        refine v_iastB X hB dL_law_84 180 (Nat.le_of_ble_eq_true rfl) rfl ((3 * k) + 1) (ix_add (ix_mul rfl rfl) rfl) (by omega) (Nat.le_of_ble_eq_true rfl) (L' := (yaL g o sI zI (fun _ => sI) (fun _ => zI) sI zI zI zI qI (upd (upd (hI k) (3 * k) (nI k)) ((3 * k) + 1) (20 : Int32)) (fun _ => 0) (fun _ => 0) (fun _ => 0) (fun _ => 0) (fun _ => 0))) rfl ?_
        refine v_aload_n X dL_law_85 (i := 3) rfl rfl ?_
        refine v_iconst X dL_law_86 (v := (3 : Int32)) (by decide) ?_
        refine v_iload X dL_law_87 rfl ?_
        refine v_imul X dL_law_89 ?_
        refine v_iconst X dL_law_90 (v := (2 : Int32)) (by decide) ?_
        refine v_iadd X dL_law_91 ?_
        refine v_iconst X dL_law_92 (v := (-1 : Int32)) (by decide) ?_
        refine v_iastB X hB dL_law_93 180 (Nat.le_of_ble_eq_true rfl) rfl ((3 * k) + 2) (ix_add (ix_mul rfl rfl) rfl) (by omega) (Nat.le_of_ble_eq_true rfl) (L' := (yaL g o sI zI (fun _ => sI) (fun _ => zI) sI zI zI zI qI (upd (upd (upd (hI k) (3 * k) (nI k)) ((3 * k) + 1) (20 : Int32)) ((3 * k) + 2) (-1 : Int32)) (fun _ => 0) (fun _ => 0) (fun _ => 0) (fun _ => 0) (fun _ => 0))) rfl ?_
        refine v_iinc X dL_law_94 (v := nI (k + 1)) rfl (ix_inc rfl) (Nat.le_of_ble_eq_true rfl) rfl ?_
        refine v_goto X dL_law_97 (tgt := 61) (by decide) ?_
        exact V.cast (ih61 (k + 1) (by omega) (by omega)) (rfl) (rfl) (by rw [← hI_s])
  exact V.cast (LP61 _ 0 (Nat.zero_le _) (Nat.lt_succ_self _)) (rfl) (rfl) (by rw [hI_0]; rfl)
