/-! the law's main method: the cloth behind a pick -/
set_option maxRecDepth 100000 in
set_option maxHeartbeats 4000000 in
theorem lk_w3 {p : Program} {l : Launch} {e : Env} {s : State} {m : MethodId} {below : List Frame} {meth : Method} {c0 : Code} {Q : State → Prop} {g : Ge} {a0 o : Nat} (X : Cx p #[Value.ref a0] s m meth c0 g cL_law 28 RL ret 0) (ho : g.2.2 = o) {f : Pic} {cs ss tn : Nat} {σ ρ : Nat → Int32} {S P : Nat → Nat → Int32} {φ κ τ π q h t c w b b2 : Nat → Int32} {x y kd ki sd bx tq vv wy : Int32} {ms d : Nat} {R k9 : Nat} (h186 : 186 ≤ cs) (hcM : cs ≤ 599000) (hsM : ss ≤ 7300000) (hq7 : q 7 = nI R) (hR20 : R ≤ 20) (hk9 : k9 < 5)
    (kk : ∀ (q3 w3 : Nat → Int32), q3 6 = q 6 + 1 → q3 7 = nI (if R < 20 then R + 1 else 20) → (∀ i, i ≠ 6 → i ≠ 7 → q3 i = q i) → WOP w w3 R → WNP w3 (h (3 * k9)) (thW (q 5) t 12) R → V p l e room_1 s m #[Value.ref a0] below meth c0 Q g 28 cs ss cs (ovr f o (yaL g o σ ρ S P φ κ τ π q3 h t c w3 b b2)) 1574 [some (.ref a0), some (.ref o), some (.ref (o + 179)), some (.ref (o + 180)), some (.ref (o + 181)), some (.ref (o + 182)), some (.ref (o + 183)), some (.ref (o + 184)), some (.ref (o + 185)), some (.int (nI tn)), some (.int x), some (.int y), some (.int kd), some (.int ki), some (.int sd), some (.int bx), some (.int tq), some (.int vv), some (.int (0 : Int32)), some (.int (nI ms)), some (.int (nI (d + 1))), some (.int wy), none, none, none, none, none, none] []) :
    V p l e room_1 s m #[Value.ref a0] below meth c0 Q g 28 cs ss cs (ovr f o (yaL g o σ ρ S P φ κ τ π q h t c w b b2)) 1479 [some (.ref a0), some (.ref o), some (.ref (o + 179)), some (.ref (o + 180)), some (.ref (o + 181)), some (.ref (o + 182)), some (.ref (o + 183)), some (.ref (o + 184)), some (.ref (o + 185)), some (.int (nI tn)), some (.int x), some (.int y), some (.int kd), some (.int ki), some (.int sd), some (.int bx), some (.int tq), some (.int vv), some (.int (0 : Int32)), some (.int (nI ms)), some (.int (nI d)), some (.int wy), none, none, none, none, some (.int (nI k9)), none] [] := by
  have rc9 : 599000 ≤ room_1.cells := Nat.le_of_ble_eq_true rfl
  have rs9 : 7300000 ≤ room_1.slots := Nat.le_of_ble_eq_true rfl
  have hcs : cs + 0 ≤ room_1.cells ∧ ss + 0 ≤ room_1.slots := ⟨by omega, by omega⟩
  have hB : BB g cs o 186 := ⟨by rw [ho]; exact Nat.le_refl _, by rw [ho]; omega⟩
  refine v_aload_n X dL_law_1479 (i := 2) rfl rfl ?_
  refine v_bipush X dL_law_1480 (v := (7 : Int32)) (by decide) ?_
  refine v_ialdB X hB dL_law_1482 179 (Nat.le_of_ble_eq_true rfl) rfl 7 rfl (by omega) (Nat.le_of_ble_eq_true rfl) ?_
  refine v_bipush X dL_law_1483 (v := (20 : Int32)) (by decide) ?_
  refine v_icmp_ne X dL_law_1485 (tgt := 1519) (by decide) (fun c1485 => ?_) (fun c1485 => ?_)
  · skip
    have hR1 : R < 20 := by
      rcases Nat.lt_or_ge R 20 with z | z
      · exact z
      · exact absurd (by rw [hq7, show R = 20 by omega]; rfl) c1485
    refine v_aload_n X dL_law_1519 (i := 2) rfl rfl ?_
    refine v_bipush X dL_law_1520 (v := (7 : Int32)) (by decide) ?_
    refine v_dup2 X dL_law_1522 rfl rfl ?_
    refine v_ialdB X hB dL_law_1523 179 (Nat.le_of_ble_eq_true rfl) rfl 7 rfl (by omega) (Nat.le_of_ble_eq_true rfl) ?_
    refine v_iconst X dL_law_1524 (v := (1 : Int32)) (by decide) ?_
    refine v_iadd X dL_law_1525 ?_
    rw [show ((q 7) + (1 : Int32)) = nI (R + 1) from ix_add hq7 rfl]
    refine v_iastB X hB dL_law_1526 179 (Nat.le_of_ble_eq_true rfl) rfl 7 rfl (by omega) (Nat.le_of_ble_eq_true rfl) (L' := (yaL g o σ ρ S P φ κ τ π (upd q 7 (nI (R + 1))) h t c w b b2)) rfl ?_
    refine v_aload X dL_law_1527 rfl ?_
    refine v_iconst X dL_law_1529 (v := (2 : Int32)) (by decide) ?_
    refine v_aload_n X dL_law_1530 (i := 2) rfl rfl ?_
    refine v_bipush X dL_law_1531 (v := (7 : Int32)) (by decide) ?_
    refine v_ialdB X hB dL_law_1533 179 (Nat.le_of_ble_eq_true rfl) rfl 7 rfl (by omega) (Nat.le_of_ble_eq_true rfl) ?_
    refine v_imul X dL_law_1534 ?_
    refine v_iconst X dL_law_1535 (v := (2 : Int32)) (by decide) ?_
    refine v_isub X dL_law_1536 ?_
    rw [show (((2 : Int32) * ((upd q 7 (nI (R + 1))) 7)) - (2 : Int32)) = nI (2 * R) from by rw [show (2 : Int32) * (upd q 7 (nI (R + 1))) 7 = nI (2 * (R + 1)) from ix_mul rfl pk_us]; exact (pk_sub (b := 2) (by omega)).trans (congrArg nI (by omega))]
    refine v_aload_n X dL_law_1537 (i := 3) rfl rfl ?_
    refine v_iconst X dL_law_1538 (v := (3 : Int32)) (by decide) ?_
    refine v_iload X dL_law_1539 rfl ?_
    refine v_imul X dL_law_1541 ?_
    refine v_ialdB X hB dL_law_1542 180 (Nat.le_of_ble_eq_true rfl) rfl (3 * k9) (ix_mul rfl rfl) (by omega) (Nat.le_of_ble_eq_true rfl) ?_
    refine v_iastB X hB dL_law_1543 183 (Nat.le_of_ble_eq_true rfl) rfl (2 * R) rfl (by omega) (Nat.le_of_ble_eq_true rfl) (L' := (yaL g o σ ρ S P φ κ τ π (upd q 7 (nI (R + 1))) h t c (upd w (2 * R) (h (3 * k9))) b b2)) rfl ?_
    refine v_aload X dL_law_1544 rfl ?_
    refine v_iconst X dL_law_1546 (v := (2 : Int32)) (by decide) ?_
    refine v_aload_n X dL_law_1547 (i := 2) rfl rfl ?_
    refine v_bipush X dL_law_1548 (v := (7 : Int32)) (by decide) ?_
    refine v_ialdB X hB dL_law_1550 179 (Nat.le_of_ble_eq_true rfl) rfl 7 rfl (by omega) (Nat.le_of_ble_eq_true rfl) ?_
    refine v_imul X dL_law_1551 ?_
    refine v_iconst X dL_law_1552 (v := (1 : Int32)) (by decide) ?_
    refine v_isub X dL_law_1553 ?_
    rw [show (((2 : Int32) * ((upd q 7 (nI (R + 1))) 7)) - (1 : Int32)) = nI (2 * R + 1) from by rw [show (2 : Int32) * (upd q 7 (nI (R + 1))) 7 = nI (2 * (R + 1)) from ix_mul rfl pk_us]; exact (pk_sub (b := 1) (by omega)).trans (congrArg nI (by omega))]
    refine v_aload_n X dL_law_1554 (i := 2) rfl rfl ?_
    refine v_iconst X dL_law_1555 (v := (5 : Int32)) (by decide) ?_
    refine v_ialdB X hB dL_law_1556 179 (Nat.le_of_ble_eq_true rfl) rfl 5 rfl (by omega) (Nat.le_of_ble_eq_true rfl) ?_
    rw [show (upd q 7 (nI (R + 1))) 5 = q 5 from pk_un (by omega)]
    refine v_aload X dL_law_1557 rfl ?_
    refine v_csB X (Nat.zero_add _).symm yv_L_threads m_ml_L_55 181 (c_L_threads l g cs (o + 181) t (q 5) ) hB (Nat.le_of_ble_eq_true rfl) rfl (Nat.le_of_ble_eq_true rfl) rfl (L' := (yaL g o σ ρ S P φ κ τ π (upd q 7 (nI (R + 1))) h t c (upd w (2 * R) (h (3 * k9))) b b2)) (rfl) rfl rfl (Nat.le_of_ble_eq_true rfl) ⟨Nat.le_of_ble_eq_true rfl, Nat.le_of_ble_eq_true rfl⟩ hcs dL_law_1559 rfl ?_
    refine v_iastB X hB dL_law_1562 183 (Nat.le_of_ble_eq_true rfl) rfl (2 * R + 1) rfl (by omega) (Nat.le_of_ble_eq_true rfl) (L' := (yaL g o σ ρ S P φ κ τ π (upd q 7 (nI (R + 1))) h t c (upd (upd w (2 * R) (h (3 * k9))) (2 * R + 1) (thW (q 5) t 12)) b b2)) rfl ?_
    refine v_aload_n X dL_law_1563 (i := 2) rfl rfl ?_
    refine v_bipush X dL_law_1564 (v := (6 : Int32)) (by decide) ?_
    refine v_dup2 X dL_law_1566 rfl rfl ?_
    refine v_ialdB X hB dL_law_1567 179 (Nat.le_of_ble_eq_true rfl) rfl 6 rfl (by omega) (Nat.le_of_ble_eq_true rfl) ?_
    refine v_iconst X dL_law_1568 (v := (1 : Int32)) (by decide) ?_
    refine v_iadd X dL_law_1569 ?_
    rw [show (upd q 7 (nI (R + 1))) 6 = q 6 from pk_un (by omega)]
    refine v_iastB X hB dL_law_1570 179 (Nat.le_of_ble_eq_true rfl) rfl 6 rfl (by omega) (Nat.le_of_ble_eq_true rfl) (L' := (yaL g o σ ρ S P φ κ τ π (upd (upd q 7 (nI (R + 1))) 6 ((q 6) + (1 : Int32))) h t c (upd (upd w (2 * R) (h (3 * k9))) (2 * R + 1) (thW (q 5) t 12)) b b2)) rfl ?_
    refine v_iinc X dL_law_1571 (v := nI (d + 1)) rfl (ix_inc rfl) (Nat.le_of_ble_eq_true rfl) rfl ?_
    refine v_drop 26 ?_
    exact kk _ _ pk_us (by rw [pk_un (by omega), pk_us, if_pos hR1]) (fun i h6 h7 => by rw [pk_un h6, pk_un h7]) (wo_A hR1).1 (wo_A hR1).2
  · skip
    have hR1 : R = 20 := (nI_eq (b := 20) (by omega) (by omega)).mp (hq7.symm.trans c1485)
    subst hR1
    refine v_iconst X dL_law_1488 (v := (0 : Int32)) (by decide) ?_
    refine v_istore X dL_law_1489 (Nat.le_of_ble_eq_true rfl) rfl ?_
    have LP1491 : ∀ (n_ : Nat) (i : Nat), (i ≤ 38) → 38 - i < n_ → V p l e room_1 s m #[Value.ref a0] below meth c0 Q g 28 cs ss cs (ovr f o (yaL g o σ ρ S P φ κ τ π q h t c (wsh w i) b b2)) 1491 [some (.ref a0), some (.ref o), some (.ref (o + 179)), some (.ref (o + 180)), some (.ref (o + 181)), some (.ref (o + 182)), some (.ref (o + 183)), some (.ref (o + 184)), some (.ref (o + 185)), some (.int (nI tn)), some (.int x), some (.int y), some (.int kd), some (.int ki), some (.int sd), some (.int bx), some (.int tq), some (.int vv), some (.int (0 : Int32)), some (.int (nI ms)), some (.int (nI d)), some (.int wy), none, none, none, none, some (.int (nI k9)), some (.int (nI i))] [] := by
      intro n_
      induction n_ with
      | zero => intro i hi hm_; exact absurd hm_ (Nat.not_lt_zero _)
      | succ n_ ih1491 =>
        intro i hi hm1491
        refine v_iload X dL_law_1491 rfl ?_
        refine v_bipush X dL_law_1493 (v := (38 : Int32)) (by decide) ?_
        refine v_icmp_ge X dL_law_1495 (tgt := 1516) (by decide) (fun c1495 => ?_) (fun c1495 => ?_)
        · skip
          have hi5 : i = 38 := Nat.le_antisymm hi (le_of_nI (a := 38) (by omega) (by omega) c1495)
          subst hi5
          refine v_goto X dL_law_1516 (tgt := 1527) (by decide) ?_
          refine v_aload X dL_law_1527 rfl ?_
          refine v_iconst X dL_law_1529 (v := (2 : Int32)) (by decide) ?_
          refine v_aload_n X dL_law_1530 (i := 2) rfl rfl ?_
          refine v_bipush X dL_law_1531 (v := (7 : Int32)) (by decide) ?_
          refine v_ialdB X hB dL_law_1533 179 (Nat.le_of_ble_eq_true rfl) rfl 7 rfl (by omega) (Nat.le_of_ble_eq_true rfl) ?_
          refine v_imul X dL_law_1534 ?_
          refine v_iconst X dL_law_1535 (v := (2 : Int32)) (by decide) ?_
          refine v_isub X dL_law_1536 ?_
          rw [show (((2 : Int32) * (q 7)) - (2 : Int32)) = nI 38 from by rw [hq7]; decide]
          refine v_aload_n X dL_law_1537 (i := 3) rfl rfl ?_
          refine v_iconst X dL_law_1538 (v := (3 : Int32)) (by decide) ?_
          refine v_iload X dL_law_1539 rfl ?_
          refine v_imul X dL_law_1541 ?_
          refine v_ialdB X hB dL_law_1542 180 (Nat.le_of_ble_eq_true rfl) rfl (3 * k9) (ix_mul rfl rfl) (by omega) (Nat.le_of_ble_eq_true rfl) ?_
          refine v_iastB X hB dL_law_1543 183 (Nat.le_of_ble_eq_true rfl) rfl 38 rfl (by omega) (Nat.le_of_ble_eq_true rfl) (L' := (yaL g o σ ρ S P φ κ τ π q h t c (upd (wsh w 38) 38 (h (3 * k9))) b b2)) rfl ?_
          refine v_aload X dL_law_1544 rfl ?_
          refine v_iconst X dL_law_1546 (v := (2 : Int32)) (by decide) ?_
          refine v_aload_n X dL_law_1547 (i := 2) rfl rfl ?_
          refine v_bipush X dL_law_1548 (v := (7 : Int32)) (by decide) ?_
          refine v_ialdB X hB dL_law_1550 179 (Nat.le_of_ble_eq_true rfl) rfl 7 rfl (by omega) (Nat.le_of_ble_eq_true rfl) ?_
          refine v_imul X dL_law_1551 ?_
          refine v_iconst X dL_law_1552 (v := (1 : Int32)) (by decide) ?_
          refine v_isub X dL_law_1553 ?_
          rw [show (((2 : Int32) * (q 7)) - (1 : Int32)) = nI 39 from by rw [hq7]; decide]
          refine v_aload_n X dL_law_1554 (i := 2) rfl rfl ?_
          refine v_iconst X dL_law_1555 (v := (5 : Int32)) (by decide) ?_
          refine v_ialdB X hB dL_law_1556 179 (Nat.le_of_ble_eq_true rfl) rfl 5 rfl (by omega) (Nat.le_of_ble_eq_true rfl) ?_
          refine v_aload X dL_law_1557 rfl ?_
          refine v_csB X (Nat.zero_add _).symm yv_L_threads m_ml_L_55 181 (c_L_threads l g cs (o + 181) t (q 5) ) hB (Nat.le_of_ble_eq_true rfl) rfl (Nat.le_of_ble_eq_true rfl) rfl (L' := (yaL g o σ ρ S P φ κ τ π q h t c (upd (wsh w 38) 38 (h (3 * k9))) b b2)) (rfl) rfl rfl (Nat.le_of_ble_eq_true rfl) ⟨Nat.le_of_ble_eq_true rfl, Nat.le_of_ble_eq_true rfl⟩ hcs dL_law_1559 rfl ?_
          refine v_iastB X hB dL_law_1562 183 (Nat.le_of_ble_eq_true rfl) rfl 39 rfl (by omega) (Nat.le_of_ble_eq_true rfl) (L' := (yaL g o σ ρ S P φ κ τ π q h t c (upd (upd (wsh w 38) 38 (h (3 * k9))) 39 (thW (q 5) t 12)) b b2)) rfl ?_
          refine v_aload_n X dL_law_1563 (i := 2) rfl rfl ?_
          refine v_bipush X dL_law_1564 (v := (6 : Int32)) (by decide) ?_
          refine v_dup2 X dL_law_1566 rfl rfl ?_
          refine v_ialdB X hB dL_law_1567 179 (Nat.le_of_ble_eq_true rfl) rfl 6 rfl (by omega) (Nat.le_of_ble_eq_true rfl) ?_
          refine v_iconst X dL_law_1568 (v := (1 : Int32)) (by decide) ?_
          refine v_iadd X dL_law_1569 ?_
          refine v_iastB X hB dL_law_1570 179 (Nat.le_of_ble_eq_true rfl) rfl 6 rfl (by omega) (Nat.le_of_ble_eq_true rfl) (L' := (yaL g o σ ρ S P φ κ τ π (upd q 6 ((q 6) + (1 : Int32))) h t c (upd (upd (wsh w 38) 38 (h (3 * k9))) 39 (thW (q 5) t 12)) b b2)) rfl ?_
          refine v_iinc X dL_law_1571 (v := nI (d + 1)) rfl (ix_inc rfl) (Nat.le_of_ble_eq_true rfl) rfl ?_
          refine v_drop 26 ?_
          refine v_drop 27 ?_
          exact kk _ _ pk_us (by rw [pk_un (by omega), hq7, if_neg (by omega)]) (fun i h6 h7 => pk_un h6) wo_B.1 wo_B.2
        · skip
          have hi5 : i < 38 := lt_of_nI (b := 38) (by omega) (by omega) c1495
          refine v_aload X dL_law_1498 rfl ?_
          refine v_iload X dL_law_1500 rfl ?_
          refine v_aload X dL_law_1502 rfl ?_
          refine v_iload X dL_law_1504 rfl ?_
          refine v_iconst X dL_law_1506 (v := (2 : Int32)) (by decide) ?_
          refine v_iadd X dL_law_1507 ?_
          refine v_ialdB X hB dL_law_1508 183 (Nat.le_of_ble_eq_true rfl) rfl (i + 2) (ix_add rfl rfl) (by omega) (Nat.le_of_ble_eq_true rfl) ?_
          refine v_iastB X hB dL_law_1509 183 (Nat.le_of_ble_eq_true rfl) rfl i rfl (by omega) (Nat.le_of_ble_eq_true rfl) (L' := (yaL g o σ ρ S P φ κ τ π q h t c (upd (wsh w i) i ((wsh w i) (i + 2))) b b2)) rfl ?_
          refine v_iinc X dL_law_1510 (v := nI (i + 1)) rfl (ix_inc rfl) (Nat.le_of_ble_eq_true rfl) rfl ?_
          refine v_goto X dL_law_1513 (tgt := 1491) (by decide) ?_
          exact V.cast (ih1491 (i + 1) (by omega) (by omega)) (rfl) (rfl) (by rw [wsh_s] <;> rfl)
    exact V.cast (LP1491 _ 0 (Nat.zero_le _) (Nat.lt_succ_self _)) (rfl) (rfl) (by rw [wsh_0] <;> rfl)
