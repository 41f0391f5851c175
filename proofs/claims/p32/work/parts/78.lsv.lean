/-! the law's main method: what is kept of a pick, and the pick -/
set_option maxRecDepth 100000 in
set_option maxHeartbeats 4000000 in
theorem lk_sv1 {p : Program} {l : Launch} {e : Env} {s : State} {m : MethodId} {below : List Frame} {meth : Method} {c0 : Code} {Q : State → Prop} {g : Ge} {a0 o : Nat} (X : Cx p #[Value.ref a0] s m meth c0 g cL_law 28 RL ret 0) (ho : g.2.2 = o) {f : Pic} {cs ss tn : Nat} {σ ρ : Nat → Int32} {S P : Nat → Nat → Int32} {φ κ τ π q h t c w b b2 : Nat → Int32} {x y kd ki sd bx tq vv wy : Int32} {ms d : Nat} {ln C P0 k9 aw : Nat} (haw : aw = o + cs) (h186 : 186 ≤ cs) (hcM : cs + 2 ≤ 599000) (hsM : ss + 11 ≤ 7300000) (hln : ln < 10) (hq0 : q 0 = nI C) (hq1 : q 1 = nI P0) (hP : P0 < C) (hC16 : C ≤ 16) (hk9 : k9 < 5) (hfl : flA h c P0 = nI k9)
    (kk : ∀ (f : Pic), V p l e room_1 s m #[Value.ref a0] below meth c0 Q g 28 (cs + 1 + 1) (ss + 6 + 5) (cs + 1 + 1) (ovr f o (yaL g o σ ρ S P φ κ τ π (pkQ q c P0) (pkH h c P0 k9) (pkT q c P0 t 12) c w (enS b ln (enV q h k9) 6) b2)) 1479 [some (.ref a0), some (.ref o), some (.ref (o + 179)), some (.ref (o + 180)), some (.ref (o + 181)), some (.ref (o + 182)), some (.ref (o + 183)), some (.ref (o + 184)), some (.ref (o + 185)), some (.int (nI tn)), some (.int x), some (.int y), some (.int kd), some (.int ki), some (.int sd), some (.int bx), some (.int tq), some (.int vv), some (.int (0 : Int32)), some (.int (nI ms)), some (.int (nI d)), some (.int wy), none, none, none, none, some (.int (nI k9)), none] []) :
    V p l e room_1 s m #[Value.ref a0] below meth c0 Q g 28 cs ss cs (ovr f o (yaL g o σ ρ S P φ κ τ π q h t c w b b2)) 1345 [some (.ref a0), some (.ref o), some (.ref (o + 179)), some (.ref (o + 180)), some (.ref (o + 181)), some (.ref (o + 182)), some (.ref (o + 183)), some (.ref (o + 184)), some (.ref (o + 185)), some (.int (nI tn)), some (.int x), some (.int y), some (.int kd), some (.int ki), some (.int sd), some (.int bx), some (.int tq), some (.int vv), some (.int (0 : Int32)), some (.int (nI ms)), some (.int (nI d)), some (.int wy), some (.int (nI ln)), some (.ref (o + 184)), none, none, none, none] [] := by
  have rc9 : 599000 ≤ room_1.cells := Nat.le_of_ble_eq_true rfl
  have rs9 : 7300000 ≤ room_1.slots := Nat.le_of_ble_eq_true rfl
  have hcs : cs + 0 ≤ room_1.cells ∧ ss + 0 ≤ room_1.slots := ⟨by omega, by omega⟩
  have hB : BB g cs o 186 := ⟨by rw [ho]; exact Nat.le_refl _, by rw [ho]; omega⟩
  refine v_bipush X dL_law_1345 (v := (6 : Int32)) (by decide) ?_
  refine v_nilW aw ?_
  refine v_newaW X (A := aw) (nB := 186) 0 (by omega) rfl rfl (show o + 186 ≤ aw by omega) (Nat.zero_add _).symm m_ac_int (n' := 6) rfl (by decide) ⟨by omega, by omega⟩ dL_law_1347 (LW' := [iA g 6 (fun _ => 0)]) rfl ?_
  have hB : BB g (cs + 1) o 186 := ⟨hB.1, by have := hB.2; omega⟩
  have hcs : cs + 1 + 0 ≤ room_1.cells ∧ ss + 6 + 0 ≤ room_1.slots := ⟨by omega, by omega⟩
  refine v_astore X dL_law_1349 (Nat.le_of_ble_eq_true rfl) rfl ?_
  refine v_iconst X dL_law_1351 (v := (0 : Int32)) (by decide) ?_
  refine v_istore X dL_law_1352 (Nat.le_of_ble_eq_true rfl) rfl ?_
  have LP1354 : ∀ (n_ : Nat) (i : Nat), (i ≤ 4) → 4 - i < n_ → V p l e room_1 s m #[Value.ref a0] below meth c0 Q g 28 (cs + 1) (ss + 6) (cs + 1) (ovr (ovr f aw [iA g 6 (waF q i)]) o (yaL g o σ ρ S P φ κ τ π q h t c w b b2)) 1354 [some (.ref a0), some (.ref o), some (.ref (o + 179)), some (.ref (o + 180)), some (.ref (o + 181)), some (.ref (o + 182)), some (.ref (o + 183)), some (.ref (o + 184)), some (.ref (o + 185)), some (.int (nI tn)), some (.int x), some (.int y), some (.int kd), some (.int ki), some (.int sd), some (.int bx), some (.int tq), some (.int vv), some (.int (0 : Int32)), some (.int (nI ms)), some (.int (nI d)), some (.int wy), some (.int (nI ln)), some (.ref (o + 184)), some (.ref aw), some (.int (nI i)), none, none] [] := by
    intro n_
    induction n_ with
    | zero => intro i hi hm_; exact absurd hm_ (Nat.not_lt_zero _)
    | succ n_ ih1354 =>
      intro i hi hm1354
      refine v_iload X dL_law_1354 rfl ?_
      refine v_iconst X dL_law_1356 (v := (4 : Int32)) (by decide) ?_
      refine v_icmp_ge X dL_law_1357 (tgt := 1388) (by decide) (fun c1357 => ?_) (fun c1357 => ?_)
      · skip
        have hi4 : i = 4 := Nat.le_antisymm hi (le_of_nI (a := 4) (by omega) (by omega) c1357)
        subst hi4
        refine v_iconst X dL_law_1388 (v := (5 : Int32)) (by decide) ?_
        refine v_newaW X (A := aw) (nB := 186) 1 (by omega) rfl rfl (show o + 186 ≤ aw by omega) (Nat.zero_add _).symm m_ac_int (n' := 5) rfl (by decide) ⟨by omega, by omega⟩ dL_law_1389 (LW' := [iA g 6 (waF q 4), iA g 5 (fun _ => 0)]) rfl ?_
        have hB : BB g (cs + 1 + 1) o 186 := ⟨hB.1, by have := hB.2; omega⟩
        have hcs : cs + 1 + 1 + 0 ≤ room_1.cells ∧ ss + 6 + 5 + 0 ≤ room_1.slots := ⟨by omega, by omega⟩
        refine v_astore X dL_law_1391 (Nat.le_of_ble_eq_true rfl) rfl ?_
        refine v_iconst X dL_law_1393 (v := (0 : Int32)) (by decide) ?_
        refine v_istore X dL_law_1394 (Nat.le_of_ble_eq_true rfl) rfl ?_
        have LP1396 : ∀ (n_ : Nat) (i2 : Nat), (i2 ≤ 5) → 5 - i2 < n_ → V p l e room_1 s m #[Value.ref a0] below meth c0 Q g 28 (cs + 1 + 1) (ss + 6 + 5) (cs + 1 + 1) (ovr (ovr f aw [iA g 6 (waF q 4), iA g 5 (beF h i2)]) o (yaL g o σ ρ S P φ κ τ π q h t c w b b2)) 1396 [some (.ref a0), some (.ref o), some (.ref (o + 179)), some (.ref (o + 180)), some (.ref (o + 181)), some (.ref (o + 182)), some (.ref (o + 183)), some (.ref (o + 184)), some (.ref (o + 185)), some (.int (nI tn)), some (.int x), some (.int y), some (.int kd), some (.int ki), some (.int sd), some (.int bx), some (.int tq), some (.int vv), some (.int (0 : Int32)), some (.int (nI ms)), some (.int (nI d)), some (.int wy), some (.int (nI ln)), some (.ref (o + 184)), some (.ref aw), some (.ref (aw + 1)), some (.int (nI i2)), none] [] := by
          intro n_
          induction n_ with
          | zero => intro i2 hi2 hm_; exact absurd hm_ (Nat.not_lt_zero _)
          | succ n_ ih1396 =>
            intro i2 hi2 hm1396
            refine v_iload X dL_law_1396 rfl ?_
            refine v_iconst X dL_law_1398 (v := (5 : Int32)) (by decide) ?_
            refine v_icmp_ge X dL_law_1399 (tgt := 1421) (by decide) (fun c1399 => ?_) (fun c1399 => ?_)
            · skip
              have hi5 : i2 = 5 := Nat.le_antisymm hi2 (le_of_nI (a := 5) (by omega) (by omega) c1399)
              subst hi5
              refine v_aload_n X dL_law_1421 (i := 2) rfl rfl ?_
              refine v_aload_n X dL_law_1422 (i := 3) rfl rfl ?_
              refine v_aload X dL_law_1423 rfl ?_
              refine v_aload X dL_law_1425 rfl ?_
              refine v_csB2 X (Nat.zero_add _).symm yv_L_pick m_ml_L_20 179 (c_L_pick l g (cs + 1 + 1) (o + 179) (o + 182) q h t c C P0 k9 hq0 hq1 hP hC16 hk9 hfl) hB (OB.of 179 182 hB rfl rfl (Nat.le_of_ble_eq_true rfl) (Or.inl (Nat.le_of_ble_eq_true rfl)) rfl rfl) (Nat.le_of_ble_eq_true rfl) rfl (Nat.le_of_ble_eq_true rfl) rfl (L' := (yaL g o σ ρ S P φ κ τ π (pkQ q c P0) (pkH h c P0 k9) (pkT q c P0 t 12) c w b b2)) (rfl) rfl rfl (Nat.le_of_ble_eq_true rfl) ⟨Nat.le_of_ble_eq_true rfl, Nat.le_of_ble_eq_true rfl⟩ hcs dL_law_1427 rfl ?_
              refine v_istore X dL_law_1430 (Nat.le_of_ble_eq_true rfl) rfl ?_
              refine v_aload X dL_law_1432 rfl ?_
              refine v_iconst X dL_law_1434 (v := (4 : Int32)) (by decide) ?_
              refine v_iload X dL_law_1435 rfl ?_
              refine v_iastW X (nB := 186) (by show g.2.2 ≤ aw ∧ aw + 2 ≤ _; omega) rfl (show o + 186 ≤ aw by omega) dL_law_1437 0 rfl 4 rfl (by omega) (Nat.le_of_ble_eq_true rfl) (LW' := [iA g 6 (upd (waF q 4) 4 (nI k9)), iA g 5 (beF h 5)]) rfl ?_
              refine v_aload X dL_law_1438 rfl ?_
              refine v_iconst X dL_law_1440 (v := (5 : Int32)) (by decide) ?_
              refine v_aload X dL_law_1441 rfl ?_
              refine v_iload X dL_law_1443 rfl ?_
              refine v_ialdW X (nB := 186) (by show g.2.2 ≤ aw ∧ aw + 2 ≤ _; omega) rfl (show o + 186 ≤ aw by omega) dL_law_1445 1 rfl k9 rfl (by omega) (Nat.le_of_ble_eq_true rfl) ?_
              refine v_iastW X (nB := 186) (by show g.2.2 ≤ aw ∧ aw + 2 ≤ _; omega) rfl (show o + 186 ≤ aw by omega) dL_law_1446 0 rfl 5 rfl (by omega) (Nat.le_of_ble_eq_true rfl) (LW' := [iA g 6 (upd (upd (waF q 4) 4 (nI k9)) 5 ((beF h 5) k9)), iA g 5 (beF h 5)]) rfl ?_
              refine v_iconst X dL_law_1447 (v := (0 : Int32)) (by decide) ?_
              refine v_istore X dL_law_1448 (Nat.le_of_ble_eq_true rfl) rfl ?_
              have LP1450 : ∀ (n_ : Nat) (j : Nat), (j ≤ 6) → 6 - j < n_ → V p l e room_1 s m #[Value.ref a0] below meth c0 Q g 28 (cs + 1 + 1) (ss + 6 + 5) (cs + 1 + 1) (ovr (ovr f aw [iA g 6 (enV q h k9), iA g 5 (beF h 5)]) o (yaL g o σ ρ S P φ κ τ π (pkQ q c P0) (pkH h c P0 k9) (pkT q c P0 t 12) c w (enS b ln (enV q h k9) j) b2)) 1450 [some (.ref a0), some (.ref o), some (.ref (o + 179)), some (.ref (o + 180)), some (.ref (o + 181)), some (.ref (o + 182)), some (.ref (o + 183)), some (.ref (o + 184)), some (.ref (o + 185)), some (.int (nI tn)), some (.int x), some (.int y), some (.int kd), some (.int ki), some (.int sd), some (.int bx), some (.int tq), some (.int vv), some (.int (0 : Int32)), some (.int (nI ms)), some (.int (nI d)), some (.int wy), some (.int (nI ln)), some (.ref (o + 184)), some (.ref aw), some (.ref (aw + 1)), some (.int (nI k9)), some (.int (nI j))] [] := by
                intro n_
                induction n_ with
                | zero => intro j hj hm_; exact absurd hm_ (Nat.not_lt_zero _)
                | succ n_ ih1450 =>
                  intro j hj hm1450
                  refine v_iload X dL_law_1450 rfl ?_
                  refine v_bipush X dL_law_1452 (v := (6 : Int32)) (by decide) ?_
                  refine v_icmp_ge X dL_law_1454 (tgt := 1479) (by decide) (fun c1454 => ?_) (fun c1454 => ?_)
                  · skip
                    have hi6 : j = 6 := Nat.le_antisymm hj (le_of_nI (a := 6) (by omega) (by omega) c1454)
                    subst hi6
                    refine v_drop 22 ?_
                    refine v_drop 23 ?_
                    refine v_drop 24 ?_
                    refine v_drop 25 ?_
                    refine v_drop 27 ?_
                    exact kk _
                  · skip
                    have hj6 : j < 6 := lt_of_nI (b := 6) (by omega) (by omega) c1454
                    refine v_aload X dL_law_1457 rfl ?_
                    refine v_bipush X dL_law_1459 (v := (6 : Int32)) (by decide) ?_
                    refine v_iload X dL_law_1461 rfl ?_
                    refine v_imul X dL_law_1463 ?_
                    refine v_iload X dL_law_1464 rfl ?_
                    refine v_iadd X dL_law_1466 ?_
                    refine v_aload X dL_law_1467 rfl ?_
                    refine v_iload X dL_law_1469 rfl ?_
                    refine v_ialdW X (nB := 186) (by show g.2.2 ≤ aw ∧ aw + 2 ≤ _; omega) rfl (show o + 186 ≤ aw by omega) dL_law_1471 0 rfl j rfl (by omega) (Nat.le_of_ble_eq_true rfl) ?_
                    refine v_iastB X hB dL_law_1472 184 (Nat.le_of_ble_eq_true rfl) rfl ((6 * ln) + j) (ix_add (ix_mul rfl rfl) rfl) (by omega) (Nat.le_of_ble_eq_true rfl) (L' := (yaL g o σ ρ S P φ κ τ π (pkQ q c P0) (pkH h c P0 k9) (pkT q c P0 t 12) c w (upd (enS b ln (enV q h k9) j) ((6 * ln) + j) ((enV q h k9) j)) b2)) rfl ?_
                    refine v_iinc X dL_law_1473 (v := nI (j + 1)) rfl (ix_inc rfl) (Nat.le_of_ble_eq_true rfl) rfl ?_
                    refine v_goto X dL_law_1476 (tgt := 1450) (by decide) ?_
                    exact V.cast (ih1450 (j + 1) (by omega) (by omega)) (rfl) (rfl) (by rw [enS_s] <;> rfl)
              exact V.cast (LP1450 _ 0 (Nat.zero_le _) (Nat.lt_succ_self _)) (rfl) (rfl) (by rw [enS_0] <;> rfl)
            · skip
              have hi6 : i2 < 5 := lt_of_nI (b := 5) (by omega) (by omega) c1399
              refine v_aload X dL_law_1402 rfl ?_
              refine v_iload X dL_law_1404 rfl ?_
              refine v_aload_n X dL_law_1406 (i := 3) rfl rfl ?_
              refine v_iconst X dL_law_1407 (v := (3 : Int32)) (by decide) ?_
              refine v_iload X dL_law_1408 rfl ?_
              refine v_imul X dL_law_1410 ?_
              refine v_iconst X dL_law_1411 (v := (2 : Int32)) (by decide) ?_
              refine v_iadd X dL_law_1412 ?_
              refine v_ialdB X hB dL_law_1413 180 (Nat.le_of_ble_eq_true rfl) rfl ((3 * i2) + 2) (ix_add (ix_mul rfl rfl) rfl) (by omega) (Nat.le_of_ble_eq_true rfl) ?_
              refine v_iastW X (nB := 186) (by show g.2.2 ≤ aw ∧ aw + 2 ≤ _; omega) rfl (show o + 186 ≤ aw by omega) dL_law_1414 1 rfl i2 rfl (by omega) (Nat.le_of_ble_eq_true rfl) (LW' := [iA g 6 (waF q 4), iA g 5 (upd (beF h i2) i2 (h ((3 * i2) + 2)))]) rfl ?_
              refine v_iinc X dL_law_1415 (v := nI (i2 + 1)) rfl (ix_inc rfl) (Nat.le_of_ble_eq_true rfl) rfl ?_
              refine v_goto X dL_law_1418 (tgt := 1396) (by decide) ?_
              exact V.cast (ih1396 (i2 + 1) (by omega) (by omega)) (rfl) (rfl) (by rw [beF_s] <;> rfl)
        exact V.cast (LP1396 _ 0 (Nat.zero_le _) (Nat.lt_succ_self _)) (rfl) (rfl) (by rw [beF_0] <;> rfl)
      · skip
        have hi5 : i < 4 := lt_of_nI (b := 4) (by omega) (by omega) c1357
        refine v_aload X dL_law_1360 rfl ?_
        refine v_iload X dL_law_1362 rfl ?_
        refine v_iload X dL_law_1364 rfl ?_
        refine v_if_ne X dL_law_1366 (tgt := 1375) (by decide) (fun c1366 => ?_) (fun c1366 => ?_)
        · skip
          have hi0 : ¬ i = 0 := fun z => c1366 (by rw [z]; rfl)
          refine v_aload_n X dL_law_1375 (i := 2) rfl rfl ?_
          refine v_iconst X dL_law_1376 (v := (2 : Int32)) (by decide) ?_
          refine v_iload X dL_law_1377 rfl ?_
          refine v_iadd X dL_law_1379 ?_
          refine v_ialdB X hB dL_law_1380 179 (Nat.le_of_ble_eq_true rfl) rfl (2 + i) (ix_add rfl rfl) (by omega) (Nat.le_of_ble_eq_true rfl) ?_
          refine v_iastW X (nB := 186) (by show g.2.2 ≤ aw ∧ aw + 1 ≤ _; omega) rfl (show o + 186 ≤ aw by omega) dL_law_1381 0 rfl i rfl (by omega) (Nat.le_of_ble_eq_true rfl) (LW' := [iA g 6 (upd (waF q i) i (q (2 + i)))]) rfl ?_
          refine v_iinc X dL_law_1382 (v := nI (i + 1)) rfl (ix_inc rfl) (Nat.le_of_ble_eq_true rfl) rfl ?_
          refine v_goto X dL_law_1385 (tgt := 1354) (by decide) ?_
          exact V.cast (ih1354 (i + 1) (by omega) (by omega)) (rfl) (rfl) (by rw [waF_n hi0] <;> rfl)
        · skip
          have hi0 : i = 0 := (nI_eq (b := 0) (by omega) (by omega)).mp c1366
          refine v_aload_n X dL_law_1369 (i := 2) rfl rfl ?_
          refine v_iconst X dL_law_1370 (v := (1 : Int32)) (by decide) ?_
          refine v_ialdB X hB dL_law_1371 179 (Nat.le_of_ble_eq_true rfl) rfl 1 rfl (by omega) (Nat.le_of_ble_eq_true rfl) ?_
          refine v_goto X dL_law_1372 (tgt := 1381) (by decide) ?_
          refine v_iastW X (nB := 186) (by show g.2.2 ≤ aw ∧ aw + 1 ≤ _; omega) rfl (show o + 186 ≤ aw by omega) dL_law_1381 0 rfl i rfl (by omega) (Nat.le_of_ble_eq_true rfl) (LW' := [iA g 6 (upd (waF q i) i (q 1))]) rfl ?_
          refine v_iinc X dL_law_1382 (v := nI (i + 1)) rfl (ix_inc rfl) (Nat.le_of_ble_eq_true rfl) rfl ?_
          refine v_goto X dL_law_1385 (tgt := 1354) (by decide) ?_
          exact V.cast (ih1354 (i + 1) (by omega) (by omega)) (rfl) (rfl) (by rw [waF_z hi0] <;> rfl)
  exact V.cast (LP1354 _ 0 (Nat.zero_le _) (Nat.lt_succ_self _)) (rfl) (rfl) (by rw [waF_0] <;> rfl)
set_option maxRecDepth 100000 in
set_option maxHeartbeats 4000000 in
theorem lk_sv2 {p : Program} {l : Launch} {e : Env} {s : State} {m : MethodId} {below : List Frame} {meth : Method} {c0 : Code} {Q : State → Prop} {g : Ge} {a0 o : Nat} (X : Cx p #[Value.ref a0] s m meth c0 g cL_law 28 RL ret 0) (ho : g.2.2 = o) {f : Pic} {cs ss tn : Nat} {σ ρ : Nat → Int32} {S P : Nat → Nat → Int32} {φ κ τ π q h t c w b b2 : Nat → Int32} {x y kd ki sd bx tq vv wy : Int32} {ms d : Nat} {ln C P0 k9 aw : Nat} (haw : aw = o + cs) (h186 : 186 ≤ cs) (hcM : cs + 2 ≤ 599000) (hsM : ss + 11 ≤ 7300000) (hln : ln < 10) (hq0 : q 0 = nI C) (hq1 : q 1 = nI P0) (hP : P0 < C) (hC16 : C ≤ 16) (hk9 : k9 < 5) (hfl : flA h c P0 = nI k9)
    (kk : ∀ (f : Pic), V p l e room_1 s m #[Value.ref a0] below meth c0 Q g 28 (cs + 1 + 1) (ss + 6 + 5) (cs + 1 + 1) (ovr f o (yaL g o σ ρ S P φ κ τ π (pkQ q c P0) (pkH h c P0 k9) (pkT q c P0 t 12) c w b (enS b2 ln (enV q h k9) 6))) 1479 [some (.ref a0), some (.ref o), some (.ref (o + 179)), some (.ref (o + 180)), some (.ref (o + 181)), some (.ref (o + 182)), some (.ref (o + 183)), some (.ref (o + 184)), some (.ref (o + 185)), some (.int (nI tn)), some (.int x), some (.int y), some (.int kd), some (.int ki), some (.int sd), some (.int bx), some (.int tq), some (.int vv), some (.int (0 : Int32)), some (.int (nI ms)), some (.int (nI d)), some (.int wy), none, none, none, none, some (.int (nI k9)), none] []) :
    V p l e room_1 s m #[Value.ref a0] below meth c0 Q g 28 cs ss cs (ovr f o (yaL g o σ ρ S P φ κ τ π q h t c w b b2)) 1345 [some (.ref a0), some (.ref o), some (.ref (o + 179)), some (.ref (o + 180)), some (.ref (o + 181)), some (.ref (o + 182)), some (.ref (o + 183)), some (.ref (o + 184)), some (.ref (o + 185)), some (.int (nI tn)), some (.int x), some (.int y), some (.int kd), some (.int ki), some (.int sd), some (.int bx), some (.int tq), some (.int vv), some (.int (0 : Int32)), some (.int (nI ms)), some (.int (nI d)), some (.int wy), some (.int (nI ln)), some (.ref (o + 185)), none, none, none, none] [] := by
  have rc9 : 599000 ≤ room_1.cells := Nat.le_of_ble_eq_true rfl
  have rs9 : 7300000 ≤ room_1.slots := Nat.le_of_ble_eq_true rfl
  have hcs : cs + 0 ≤ room_1.cells ∧ ss + 0 ≤ room_1.slots := ⟨by omega, by omega⟩
  have hB : BB g cs o 186 := ⟨by rw [ho]; exact Nat.le_refl _, by rw [ho]; omega⟩
  refine v_bipush X dL_law_1345 (v := (6 : Int32)) (by decide) ?_
  refine v_nilW aw ?_
  refine v_newaW X (A := aw) (nB := 186) 0 (by omega) rfl rfl (show o + 186 ≤ aw by omega) (Nat.zero_add _).symm m_ac_int (n' := 6) rfl (by decide) ⟨by omega, by omega⟩ dL_law_1347 (LW' := [iA g 6 (fun _ => 0)]) rfl ?_
  have hB : BB g (cs + 1) o 186 := ⟨hB.1, by have := hB.2; omega⟩
  have hcs : cs + 1 + 0 ≤ room_1.cells ∧ ss + 6 + 0 ≤ room_1.slots := ⟨by omega, by omega⟩
  refine v_astore X dL_law_1349 (Nat.le_of_ble_eq_true rfl) rfl ?_
  refine v_iconst X dL_law_1351 (v := (0 : Int32)) (by decide) ?_
  refine v_istore X dL_law_1352 (Nat.le_of_ble_eq_true rfl) rfl ?_
  have LP1354 : ∀ (n_ : Nat) (i : Nat), (i ≤ 4) → 4 - i < n_ → V p l e room_1 s m #[Value.ref a0] below meth c0 Q g 28 (cs + 1) (ss + 6) (cs + 1) (ovr (ovr f aw [iA g 6 (waF q i)]) o (yaL g o σ ρ S P φ κ τ π q h t c w b b2)) 1354 [some (.ref a0), some (.ref o), some (.ref (o + 179)), some (.ref (o + 180)), some (.ref (o + 181)), some (.ref (o + 182)), some (.ref (o + 183)), some (.ref (o + 184)), some (.ref (o + 185)), some (.int (nI tn)), some (.int x), some (.int y), some (.int kd), some (.int ki), some (.int sd), some (.int bx), some (.int tq), some (.int vv), some (.int (0 : Int32)), some (.int (nI ms)), some (.int (nI d)), some (.int wy), some (.int (nI ln)), some (.ref (o + 185)), some (.ref aw), some (.int (nI i)), none, none] [] := by
    intro n_
    induction n_ with
    | zero => intro i hi hm_; exact absurd hm_ (Nat.not_lt_zero _)
    | succ n_ ih1354 =>
      intro i hi hm1354
      refine v_iload X dL_law_1354 rfl ?_
      refine v_iconst X dL_law_1356 (v := (4 : Int32)) (by decide) ?_
      refine v_icmp_ge X dL_law_1357 (tgt := 1388) (by decide) (fun c1357 => ?_) (fun c1357 => ?_)
      · skip
        have hi4 : i = 4 := Nat.le_antisymm hi (le_of_nI (a := 4) (by omega) (by omega) c1357)
        subst hi4
        refine v_iconst X dL_law_1388 (v := (5 : Int32)) (by decide) ?_
        refine v_newaW X (A := aw) (nB := 186) 1 (by omega) rfl rfl (show o + 186 ≤ aw by omega) (Nat.zero_add _).symm m_ac_int (n' := 5) rfl (by decide) ⟨by omega, by omega⟩ dL_law_1389 (LW' := [iA g 6 (waF q 4), iA g 5 (fun _ => 0)]) rfl ?_
        have hB : BB g (cs + 1 + 1) o 186 := ⟨hB.1, by have := hB.2; omega⟩
        have hcs : cs + 1 + 1 + 0 ≤ room_1.cells ∧ ss + 6 + 5 + 0 ≤ room_1.slots := ⟨by omega, by omega⟩
        refine v_astore X dL_law_1391 (Nat.le_of_ble_eq_true rfl) rfl ?_
        refine v_iconst X dL_law_1393 (v := (0 : Int32)) (by decide) ?_
        refine v_istore X dL_law_1394 (Nat.le_of_ble_eq_true rfl) rfl ?_
        have LP1396 : ∀ (n_ : Nat) (i2 : Nat), (i2 ≤ 5) → 5 - i2 < n_ → V p l e room_1 s m #[Value.ref a0] below meth c0 Q g 28 (cs + 1 + 1) (ss + 6 + 5) (cs + 1 + 1) (ovr (ovr f aw [iA g 6 (waF q 4), iA g 5 (beF h i2)]) o (yaL g o σ ρ S P φ κ τ π q h t c w b b2)) 1396 [some (.ref a0), some (.ref o), some (.ref (o + 179)), some (.ref (o + 180)), some (.ref (o + 181)), some (.ref (o + 182)), some (.ref (o + 183)), some (.ref (o + 184)), some (.ref (o + 185)), some (.int (nI tn)), some (.int x), some (.int y), some (.int kd), some (.int ki), some (.int sd), some (.int bx), some (.int tq), some (.int vv), some (.int (0 : Int32)), some (.int (nI ms)), some (.int (nI d)), some (.int wy), some (.int (nI ln)), some (.ref (o + 185)), some (.ref aw), some (.ref (aw + 1)), some (.int (nI i2)), none] [] := by
          intro n_
          induction n_ with
          | zero => intro i2 hi2 hm_; exact absurd hm_ (Nat.not_lt_zero _)
          | succ n_ ih1396 =>
            intro i2 hi2 hm1396
            refine v_iload X dL_law_1396 rfl ?_
            refine v_iconst X dL_law_1398 (v := (5 : Int32)) (by decide) ?_
            refine v_icmp_ge X dL_law_1399 (tgt := 1421) (by decide) (fun c1399 => ?_) (fun c1399 => ?_)
            · skip
              have hi5 : i2 = 5 := Nat.le_antisymm hi2 (le_of_nI (a := 5) (by omega) (by omega) c1399)
              subst hi5
              refine v_aload_n X dL_law_1421 (i := 2) rfl rfl ?_
              refine v_aload_n X dL_law_1422 (i := 3) rfl rfl ?_
              refine v_aload X dL_law_1423 rfl ?_
              refine v_aload X dL_law_1425 rfl ?_
              refine v_csB2 X (Nat.zero_add _).symm yv_L_pick m_ml_L_20 179 (c_L_pick l g (cs + 1 + 1) (o + 179) (o + 182) q h t c C P0 k9 hq0 hq1 hP hC16 hk9 hfl) hB (OB.of 179 182 hB rfl rfl (Nat.le_of_ble_eq_true rfl) (Or.inl (Nat.le_of_ble_eq_true rfl)) rfl rfl) (Nat.le_of_ble_eq_true rfl) rfl (Nat.le_of_ble_eq_true rfl) rfl (L' := (yaL g o σ ρ S P φ κ τ π (pkQ q c P0) (pkH h c P0 k9) (pkT q c P0 t 12) c w b b2)) (rfl) rfl rfl (Nat.le_of_ble_eq_true rfl) ⟨Nat.le_of_ble_eq_true rfl, Nat.le_of_ble_eq_true rfl⟩ hcs dL_law_1427 rfl ?_
              refine v_istore X dL_law_1430 (Nat.le_of_ble_eq_true rfl) rfl ?_
              refine v_aload X dL_law_1432 rfl ?_
              refine v_iconst X dL_law_1434 (v := (4 : Int32)) (by decide) ?_
              refine v_iload X dL_law_1435 rfl ?_
              refine v_iastW X (nB := 186) (by show g.2.2 ≤ aw ∧ aw + 2 ≤ _; omega) rfl (show o + 186 ≤ aw by omega) dL_law_1437 0 rfl 4 rfl (by omega) (Nat.le_of_ble_eq_true rfl) (LW' := [iA g 6 (upd (waF q 4) 4 (nI k9)), iA g 5 (beF h 5)]) rfl ?_
              refine v_aload X dL_law_1438 rfl ?_
              refine v_iconst X dL_law_1440 (v := (5 : Int32)) (by decide) ?_
              refine v_aload X dL_law_1441 rfl ?_
              refine v_iload X dL_law_1443 rfl ?_
              refine v_ialdW X (nB := 186) (by show g.2.2 ≤ aw ∧ aw + 2 ≤ _; omega) rfl (show o + 186 ≤ aw by omega) dL_law_1445 1 rfl k9 rfl (by omega) (Nat.le_of_ble_eq_true rfl) ?_
              refine v_iastW X (nB := 186) (by show g.2.2 ≤ aw ∧ aw + 2 ≤ _; omega) rfl (show o + 186 ≤ aw by omega) dL_law_1446 0 rfl 5 rfl (by omega) (Nat.le_of_ble_eq_true rfl) (LW' := [iA g 6 (upd (upd (waF q 4) 4 (nI k9)) 5 ((beF h 5) k9)), iA g 5 (beF h 5)]) rfl ?_
              refine v_iconst X dL_law_1447 (v := (0 : Int32)) (by decide) ?_
              refine v_istore X dL_law_1448 (Nat.le_of_ble_eq_true rfl) rfl ?_
              have LP1450 : ∀ (n_ : Nat) (j : Nat), (j ≤ 6) → 6 - j < n_ → V p l e room_1 s m #[Value.ref a0] below meth c0 Q g 28 (cs + 1 + 1) (ss + 6 + 5) (cs + 1 + 1) (ovr (ovr f aw [iA g 6 (enV q h k9), iA g 5 (beF h 5)]) o (yaL g o σ ρ S P φ κ τ π (pkQ q c P0) (pkH h c P0 k9) (pkT q c P0 t 12) c w b (enS b2 ln (enV q h k9) j))) 1450 [some (.ref a0), some (.ref o), some (.ref (o + 179)), some (.ref (o + 180)), some (.ref (o + 181)), some (.ref (o + 182)), some (.ref (o + 183)), some (.ref (o + 184)), some (.ref (o + 185)), some (.int (nI tn)), some (.int x), some (.int y), some (.int kd), some (.int ki), some (.int sd), some (.int bx), some (.int tq), some (.int vv), some (.int (0 : Int32)), some (.int (nI ms)), some (.int (nI d)), some (.int wy), some (.int (nI ln)), some (.ref (o + 185)), some (.ref aw), some (.ref (aw + 1)), some (.int (nI k9)), some (.int (nI j))] [] := by
                intro n_
                induction n_ with
                | zero => intro j hj hm_; exact absurd hm_ (Nat.not_lt_zero _)
                | succ n_ ih1450 =>
                  intro j hj hm1450
                  refine v_iload X dL_law_1450 rfl ?_
                  refine v_bipush X dL_law_1452 (v := (6 : Int32)) (by decide) ?_
                  refine v_icmp_ge X dL_law_1454 (tgt := 1479) (by decide) (fun c1454 => ?_) (fun c1454 => ?_)
                  · skip
                    have hi6 : j = 6 := Nat.le_antisymm hj (le_of_nI (a := 6) (by omega) (by omega) c1454)
                    subst hi6
                    refine v_drop 22 ?_
                    refine v_drop 23 ?_
                    refine v_drop 24 ?_
                    refine v_drop 25 ?_
                    refine v_drop 27 ?_
                    exact kk _
                  · skip
                    have hj6 : j < 6 := lt_of_nI (b := 6) (by omega) (by omega) c1454
                    refine v_aload X dL_law_1457 rfl ?_
                    refine v_bipush X dL_law_1459 (v := (6 : Int32)) (by decide) ?_
                    refine v_iload X dL_law_1461 rfl ?_
                    refine v_imul X dL_law_1463 ?_
                    refine v_iload X dL_law_1464 rfl ?_
                    refine v_iadd X dL_law_1466 ?_
                    refine v_aload X dL_law_1467 rfl ?_
                    refine v_iload X dL_law_1469 rfl ?_
                    refine v_ialdW X (nB := 186) (by show g.2.2 ≤ aw ∧ aw + 2 ≤ _; omega) rfl (show o + 186 ≤ aw by omega) dL_law_1471 0 rfl j rfl (by omega) (Nat.le_of_ble_eq_true rfl) ?_
                    refine v_iastB X hB dL_law_1472 185 (Nat.le_of_ble_eq_true rfl) rfl ((6 * ln) + j) (ix_add (ix_mul rfl rfl) rfl) (by omega) (Nat.le_of_ble_eq_true rfl) (L' := (yaL g o σ ρ S P φ κ τ π (pkQ q c P0) (pkH h c P0 k9) (pkT q c P0 t 12) c w b (upd (enS b2 ln (enV q h k9) j) ((6 * ln) + j) ((enV q h k9) j)))) rfl ?_
                    refine v_iinc X dL_law_1473 (v := nI (j + 1)) rfl (ix_inc rfl) (Nat.le_of_ble_eq_true rfl) rfl ?_
                    refine v_goto X dL_law_1476 (tgt := 1450) (by decide) ?_
                    exact V.cast (ih1450 (j + 1) (by omega) (by omega)) (rfl) (rfl) (by rw [enS_s] <;> rfl)
              exact V.cast (LP1450 _ 0 (Nat.zero_le _) (Nat.lt_succ_self _)) (rfl) (rfl) (by rw [enS_0] <;> rfl)
            · skip
              have hi6 : i2 < 5 := lt_of_nI (b := 5) (by omega) (by omega) c1399
              refine v_aload X dL_law_1402 rfl ?_
              refine v_iload X dL_law_1404 rfl ?_
              refine v_aload_n X dL_law_1406 (i := 3) rfl rfl ?_
              refine v_iconst X dL_law_1407 (v := (3 : Int32)) (by decide) ?_
              refine v_iload X dL_law_1408 rfl ?_
              refine v_imul X dL_law_1410 ?_
              refine v_iconst X dL_law_1411 (v := (2 : Int32)) (by decide) ?_
              refine v_iadd X dL_law_1412 ?_
              refine v_ialdB X hB dL_law_1413 180 (Nat.le_of_ble_eq_true rfl) rfl ((3 * i2) + 2) (ix_add (ix_mul rfl rfl) rfl) (by omega) (Nat.le_of_ble_eq_true rfl) ?_
              refine v_iastW X (nB := 186) (by show g.2.2 ≤ aw ∧ aw + 2 ≤ _; omega) rfl (show o + 186 ≤ aw by omega) dL_law_1414 1 rfl i2 rfl (by omega) (Nat.le_of_ble_eq_true rfl) (LW' := [iA g 6 (waF q 4), iA g 5 (upd (beF h i2) i2 (h ((3 * i2) + 2)))]) rfl ?_
              refine v_iinc X dL_law_1415 (v := nI (i2 + 1)) rfl (ix_inc rfl) (Nat.le_of_ble_eq_true rfl) rfl ?_
              refine v_goto X dL_law_1418 (tgt := 1396) (by decide) ?_
              exact V.cast (ih1396 (i2 + 1) (by omega) (by omega)) (rfl) (rfl) (by rw [beF_s] <;> rfl)
        exact V.cast (LP1396 _ 0 (Nat.zero_le _) (Nat.lt_succ_self _)) (rfl) (rfl) (by rw [beF_0] <;> rfl)
      · skip
        have hi5 : i < 4 := lt_of_nI (b := 4) (by omega) (by omega) c1357
        refine v_aload X dL_law_1360 rfl ?_
        refine v_iload X dL_law_1362 rfl ?_
        refine v_iload X dL_law_1364 rfl ?_
        refine v_if_ne X dL_law_1366 (tgt := 1375) (by decide) (fun c1366 => ?_) (fun c1366 => ?_)
        · skip
          have hi0 : ¬ i = 0 := fun z => c1366 (by rw [z]; rfl)
          refine v_aload_n X dL_law_1375 (i := 2) rfl rfl ?_
          refine v_iconst X dL_law_1376 (v := (2 : Int32)) (by decide) ?_
          refine v_iload X dL_law_1377 rfl ?_
          refine v_iadd X dL_law_1379 ?_
          refine v_ialdB X hB dL_law_1380 179 (Nat.le_of_ble_eq_true rfl) rfl (2 + i) (ix_add rfl rfl) (by omega) (Nat.le_of_ble_eq_true rfl) ?_
          refine v_iastW X (nB := 186) (by show g.2.2 ≤ aw ∧ aw + 1 ≤ _; omega) rfl (show o + 186 ≤ aw by omega) dL_law_1381 0 rfl i rfl (by omega) (Nat.le_of_ble_eq_true rfl) (LW' := [iA g 6 (upd (waF q i) i (q (2 + i)))]) rfl ?_
          refine v_iinc X dL_law_1382 (v := nI (i + 1)) rfl (ix_inc rfl) (Nat.le_of_ble_eq_true rfl) rfl ?_
          refine v_goto X dL_law_1385 (tgt := 1354) (by decide) ?_
          exact V.cast (ih1354 (i + 1) (by omega) (by omega)) (rfl) (rfl) (by rw [waF_n hi0] <;> rfl)
        · skip
          have hi0 : i = 0 := (nI_eq (b := 0) (by omega) (by omega)).mp c1366
          refine v_aload_n X dL_law_1369 (i := 2) rfl rfl ?_
          refine v_iconst X dL_law_1370 (v := (1 : Int32)) (by decide) ?_
          refine v_ialdB X hB dL_law_1371 179 (Nat.le_of_ble_eq_true rfl) rfl 1 rfl (by omega) (Nat.le_of_ble_eq_true rfl) ?_
          refine v_goto X dL_law_1372 (tgt := 1381) (by decide) ?_
          refine v_iastW X (nB := 186) (by show g.2.2 ≤ aw ∧ aw + 1 ≤ _; omega) rfl (show o + 186 ≤ aw by omega) dL_law_1381 0 rfl i rfl (by omega) (Nat.le_of_ble_eq_true rfl) (LW' := [iA g 6 (upd (waF q i) i (q 1))]) rfl ?_
          refine v_iinc X dL_law_1382 (v := nI (i + 1)) rfl (ix_inc rfl) (Nat.le_of_ble_eq_true rfl) rfl ?_
          refine v_goto X dL_law_1385 (tgt := 1354) (by decide) ?_
          exact V.cast (ih1354 (i + 1) (by omega) (by omega)) (rfl) (rfl) (by rw [waF_z hi0] <;> rfl)
  exact V.cast (LP1354 _ 0 (Nat.zero_le _) (Nat.lt_succ_self _)) (rfl) (rfl) (by rw [waF_0] <;> rfl)
