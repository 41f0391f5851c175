/-! the law's main method: acts that may be refused -/
theorem up_self {f : Nat → Int32} {i : Nat} : upd f i (f i) = f := by
  funext j
  by_cases e : j = i
  · subst e; rw [pk_us]
  · rw [pk_un e]
set_option maxRecDepth 100000 in
set_option maxHeartbeats 4000000 in
theorem lk_3 {p : Program} {l : Launch} {e : Env} {s : State} {m : MethodId} {below : List Frame} {meth : Method} {c0 : Code} {Q : State → Prop} {g : Ge} {a0 o : Nat} (X : Cx p #[Value.ref a0] s m meth c0 g cL_law 28 RL ret 0) (ho : g.2.2 = o) {f : Pic} {cs ss tn : Nat} {σ ρ : Nat → Int32} {S P : Nat → Nat → Int32} {φ κ τ π q h t c w b b2 : Nat → Int32} {x y kd sd bx tq : Int32} {k vn : Nat} (hk : k < 5) (hvn : vn < 25) {C P0 R lt B : Nat} (h186 : 186 ≤ cs) (hcM : cs + 60 ≤ 599000) (hsM : ss + 330 ≤ 7300000) (H : RQ C P0 R lt B σ ρ q h t c w b b2) (hPI : PI π)
    (kk : ∀ (f : Pic) (cs' ss' : Nat) (σ' ρ' : Nat → Int32) (S' P' : Nat → Nat → Int32) (φ' π' q' h' t' c' w' b' b2' : Nat → Int32) (C' P0' R' lt' B' : Nat) (ot : Int32), 186 ≤ cs' → cs' ≤ cs + 60 → ss' ≤ ss + 330 → RQ C' P0' R' lt' B' σ' ρ' (upd q' 8 (if ot = 0 then q' 8 else 0)) h' t' c' w' b' b2' → PI π' → V p l e room_1 s m #[Value.ref a0] below meth c0 Q g 28 cs' ss' cs' (ovr f o (yaL g o σ' ρ' S' P' φ' κ τ π' q' h' t' c' w' b' b2')) 1826 [some (.ref a0), some (.ref o), some (.ref (o + 179)), some (.ref (o + 180)), some (.ref (o + 181)), some (.ref (o + 182)), some (.ref (o + 183)), some (.ref (o + 184)), some (.ref (o + 185)), some (.int (nI tn)), some (.int x), some (.int y), some (.int kd), some (.int (nI k)), some (.int sd), some (.int bx), some (.int tq), some (.int (nI vn)), some (.int ot), none, none, none, none, none, none, none, none, none] []) :
    V p l e room_1 s m #[Value.ref a0] below meth c0 Q g 28 cs ss cs (ovr f o (yaL g o σ ρ S P φ κ τ π q h t c w b b2)) 516 [some (.ref a0), some (.ref o), some (.ref (o + 179)), some (.ref (o + 180)), some (.ref (o + 181)), some (.ref (o + 182)), some (.ref (o + 183)), some (.ref (o + 184)), some (.ref (o + 185)), some (.int (nI tn)), some (.int x), some (.int y), some (.int kd), some (.int (nI k)), some (.int sd), some (.int bx), some (.int tq), some (.int (nI vn)), some (.int (1 : Int32)), none, none, none, none, none, none, none, none, none] [] := by
  have rc9 : 599000 ≤ room_1.cells := Nat.le_of_ble_eq_true rfl
  have rs9 : 7300000 ≤ room_1.slots := Nat.le_of_ble_eq_true rfl
  have hcs : cs + 0 ≤ room_1.cells ∧ ss + 0 ≤ room_1.slots := ⟨by omega, by omega⟩
  have hB : BB g cs o 186 := ⟨by rw [ho]; exact Nat.le_refl _, by rw [ho]; omega⟩
  obtain ⟨qq, nn, hq, hq6, hn, hn6⟩ := id hPI
  obtain ⟨g9, hA, hV, hF, hYB, ⟨hR, hR20⟩, ⟨hlt, hlt20⟩, hRC, ⟨hB8, hBR⟩, hKH⟩ := id H
  have hC16 := g9.2.2.2
  refine v_aload_n X dL_law_516 (i := 3) rfl rfl ?_
  refine v_iconst X dL_law_517 (v := (3 : Int32)) (by decide) ?_
  refine v_iload X dL_law_518 rfl ?_
  refine v_imul X dL_law_520 ?_
  refine v_iconst X dL_law_521 (v := (2 : Int32)) (by decide) ?_
  refine v_iadd X dL_law_522 ?_
  refine v_ialdB X hB dL_law_523 180 (Nat.le_of_ble_eq_true rfl) rfl ((3 * k) + 2) (ix_add (ix_mul rfl rfl) rfl) (by omega) (Nat.le_of_ble_eq_true rfl) ?_
  refine v_if_ge X dL_law_524 (tgt := 531) (by decide) (fun c524 => ?_) (fun c524 => ?_)
  · skip
    refine v_iconst X dL_law_531 (v := (0 : Int32)) (by decide) ?_
    refine v_istore X dL_law_532 (Nat.le_of_ble_eq_true rfl) rfl ?_
    refine v_iload X dL_law_534 rfl ?_
    refine v_iconst X dL_law_536 (v := (5 : Int32)) (by decide) ?_
    refine v_ishr X dL_law_537 ?_
    refine v_bipush X dL_law_538 (v := (10 : Int32)) (by decide) ?_
    refine v_cs X (Nat.zero_add _).symm yv_L_low m_ml_L_62 (c_L_low l g (10 : Int32) 10 rfl (x >>> ((5 : Int32) &&& 31)) (by decide) (by decide)) rfl rfl (Nat.le_of_ble_eq_true rfl) ⟨Nat.le_of_ble_eq_true rfl, Nat.le_of_ble_eq_true rfl⟩ hcs dL_law_540 rfl ?_
    obtain ⟨cn, hcn, ecn⟩ : ∃ k, k < 10 ∧ (lwF (x >>> ((5 : Int32) &&& 31)) 10) = nI k := lwF_lt (by decide) (by decide)
    rw [ecn]
    refine v_istore X dL_law_543 (Nat.le_of_ble_eq_true rfl) rfl ?_
    refine v_aload_n X dL_law_545 (i := 1) rfl rfl ?_
    refine v_iload X dL_law_546 rfl ?_
    refine v_iload X dL_law_548 rfl ?_
    refine v_iload X dL_law_550 rfl ?_
    refine v_cvB X (Nat.zero_add _).symm yv_X7_wind m_ml_L_90 0 0 (c_X7_wind l g cs o σ ρ S P φ κ τ π qq nn hq hq6 hn hn6 (nI k) (nI cn) (nI vn) ) hB (Nat.le_of_ble_eq_true rfl) rfl (Nat.le_of_ble_eq_true rfl) rfl (L' := (yaL g o (if (wiE σ (nI k) (nI cn) (nI vn)) = 0 then (upd (upd (c8 σ) (12 + 4 * nt (nI k)) (nI cn)) (13 + 4 * nt (nI k)) (nI vn)) else σ) ρ (svS (wiE σ (nI k) (nI cn) (nI vn)) S qq σ) (svS (wiE σ (nI k) (nI cn) (nI vn)) P qq ρ) φ κ τ (svπ (wiE σ (nI k) (nI cn) (nI vn)) π qq nn) q h t c w b b2)) (rfl) rfl (Nat.le_of_ble_eq_true rfl) rfl rfl (Nat.le_of_ble_eq_true rfl) ⟨Nat.le_of_ble_eq_true rfl, Nat.le_of_ble_eq_true rfl⟩ hcs dL_law_552 rfl ?_
    have hE : (wiE σ (nI k) (nI cn) (nI vn)) = -3 := (E_wi hA hV hk hcn (show vn < 100 by omega)).trans (if_neg (Int32.not_lt.mpr c524))
    have hn0 : ¬ (wiE σ (nI k) (nI cn) (nI vn)) = 0 := by rw [hE]; decide
    rw [if_neg hn0, if_neg hn0, hE]
    refine v_iload X dL_law_555 rfl ?_
    refine v_if_eq X dL_law_557 (tgt := 571) (by decide) (fun c557 => ?_) (fun c557 => ?_)
    · skip
      refine v_bipush X dL_law_571 (v := (-3 : Int32)) (by decide) ?_
      refine v_icmp_eq X dL_law_573 (tgt := 578) (by decide) (fun c573 => ?_) (fun c573 => ?_)
      · skip
        refine v_aload_n X dL_law_578 (i := 3) rfl rfl ?_
        refine v_iconst X dL_law_579 (v := (3 : Int32)) (by decide) ?_
        refine v_iload X dL_law_580 rfl ?_
        refine v_imul X dL_law_582 ?_
        refine v_iload X dL_law_583 rfl ?_
        refine v_if_eq X dL_law_585 (tgt := 593) (by decide) (fun c585 => ?_) (fun c585 => ?_)
        · skip
          refine v_aload_n X dL_law_593 (i := 3) rfl rfl ?_
          refine v_iconst X dL_law_594 (v := (3 : Int32)) (by decide) ?_
          refine v_iload X dL_law_595 rfl ?_
          refine v_imul X dL_law_597 ?_
          refine v_ialdB X hB dL_law_598 180 (Nat.le_of_ble_eq_true rfl) rfl (3 * k) (ix_mul rfl rfl) (by omega) (Nat.le_of_ble_eq_true rfl) ?_
          refine v_iastB X hB dL_law_599 180 (Nat.le_of_ble_eq_true rfl) rfl (3 * k) (ix_mul rfl rfl) (by omega) (Nat.le_of_ble_eq_true rfl) (L' := (yaL g o σ ρ (svS (-3 : Int32) S qq σ) (svS (-3 : Int32) P qq ρ) φ κ τ (svπ (-3 : Int32) π qq nn) q (upd h (3 * k) (h (3 * k))) t c w b b2)) rfl ?_
          refine v_aload_n X dL_law_600 (i := 3) rfl rfl ?_
          refine v_iconst X dL_law_601 (v := (3 : Int32)) (by decide) ?_
          refine v_iload X dL_law_602 rfl ?_
          refine v_imul X dL_law_604 ?_
          refine v_iconst X dL_law_605 (v := (1 : Int32)) (by decide) ?_
          refine v_iadd X dL_law_606 ?_
          refine v_iload X dL_law_607 rfl ?_
          refine v_if_eq X dL_law_609 (tgt := 617) (by decide) (fun c609 => ?_) (fun c609 => ?_)
          · skip
            refine v_aload_n X dL_law_617 (i := 3) rfl rfl ?_
            refine v_iconst X dL_law_618 (v := (3 : Int32)) (by decide) ?_
            refine v_iload X dL_law_619 rfl ?_
            refine v_imul X dL_law_621 ?_
            refine v_iconst X dL_law_622 (v := (1 : Int32)) (by decide) ?_
            refine v_iadd X dL_law_623 ?_
            refine v_ialdB X hB dL_law_624 180 (Nat.le_of_ble_eq_true rfl) rfl ((3 * k) + 1) (ix_add (ix_mul rfl rfl) rfl) (by omega) (Nat.le_of_ble_eq_true rfl) ?_
            refine v_iastB X hB dL_law_625 180 (Nat.le_of_ble_eq_true rfl) rfl ((3 * k) + 1) (ix_add (ix_mul rfl rfl) rfl) (by omega) (Nat.le_of_ble_eq_true rfl) (L' := (yaL g o σ ρ (svS (-3 : Int32) S qq σ) (svS (-3 : Int32) P qq ρ) φ κ τ (svπ (-3 : Int32) π qq nn) q (upd (upd h (3 * k) (h (3 * k))) ((3 * k) + 1) ((upd h (3 * k) (h (3 * k))) ((3 * k) + 1))) t c w b b2)) rfl ?_
            refine v_goto X dL_law_626 (tgt := 1826) (by decide) ?_
            refine v_drop 19 ?_
            exact kk f cs ss σ ρ (svS (-3 : Int32) S qq σ) (svS (-3 : Int32) P qq ρ) φ (svπ (-3 : Int32) π qq nn) q (upd (upd h (3 * k) (h (3 * k))) ((3 * k) + 1) ((upd h (3 * k) (h (3 * k))) ((3 * k) + 1))) t c w b b2 C P0 R lt B 0    (by omega) (by omega) (by omega) ((by rw [if_pos rfl]; simp only [up_self]; exact H)) (PI_sv hPI hq6 hn6)
          · skip
            exact absurd c609 (by decide)
        · skip
          exact absurd c585 (by decide)
      · skip
        exact absurd rfl c573
    · skip
      exact absurd c557 (by decide)
  · skip
    refine v_iconst X dL_law_527 (v := (1 : Int32)) (by decide) ?_
    refine v_goto X dL_law_528 (tgt := 532) (by decide) ?_
    refine v_istore X dL_law_532 (Nat.le_of_ble_eq_true rfl) rfl ?_
    refine v_iload X dL_law_534 rfl ?_
    refine v_iconst X dL_law_536 (v := (5 : Int32)) (by decide) ?_
    refine v_ishr X dL_law_537 ?_
    refine v_bipush X dL_law_538 (v := (10 : Int32)) (by decide) ?_
    refine v_cs X (Nat.zero_add _).symm yv_L_low m_ml_L_62 (c_L_low l g (10 : Int32) 10 rfl (x >>> ((5 : Int32) &&& 31)) (by decide) (by decide)) rfl rfl (Nat.le_of_ble_eq_true rfl) ⟨Nat.le_of_ble_eq_true rfl, Nat.le_of_ble_eq_true rfl⟩ hcs dL_law_540 rfl ?_
    obtain ⟨cn, hcn, ecn⟩ : ∃ k, k < 10 ∧ (lwF (x >>> ((5 : Int32) &&& 31)) 10) = nI k := lwF_lt (by decide) (by decide)
    rw [ecn]
    refine v_istore X dL_law_543 (Nat.le_of_ble_eq_true rfl) rfl ?_
    refine v_aload_n X dL_law_545 (i := 1) rfl rfl ?_
    refine v_iload X dL_law_546 rfl ?_
    refine v_iload X dL_law_548 rfl ?_
    refine v_iload X dL_law_550 rfl ?_
    refine v_cvB X (Nat.zero_add _).symm yv_X7_wind m_ml_L_90 0 0 (c_X7_wind l g cs o σ ρ S P φ κ τ π qq nn hq hq6 hn hn6 (nI k) (nI cn) (nI vn) ) hB (Nat.le_of_ble_eq_true rfl) rfl (Nat.le_of_ble_eq_true rfl) rfl (L' := (yaL g o (if (wiE σ (nI k) (nI cn) (nI vn)) = 0 then (upd (upd (c8 σ) (12 + 4 * nt (nI k)) (nI cn)) (13 + 4 * nt (nI k)) (nI vn)) else σ) ρ (svS (wiE σ (nI k) (nI cn) (nI vn)) S qq σ) (svS (wiE σ (nI k) (nI cn) (nI vn)) P qq ρ) φ κ τ (svπ (wiE σ (nI k) (nI cn) (nI vn)) π qq nn) q h t c w b b2)) (rfl) rfl (Nat.le_of_ble_eq_true rfl) rfl rfl (Nat.le_of_ble_eq_true rfl) ⟨Nat.le_of_ble_eq_true rfl, Nat.le_of_ble_eq_true rfl⟩ hcs dL_law_552 rfl ?_
    have hE : (wiE σ (nI k) (nI cn) (nI vn)) = 0 := (E_wi hA hV hk hcn (show vn < 100 by omega)).trans (if_pos c524)
    rw [if_pos hE, if_pos hE, nt_nI (by omega)]
    refine v_iload X dL_law_555 rfl ?_
    refine v_if_eq X dL_law_557 (tgt := 571) (by decide) (fun c557 => ?_) (fun c557 => ?_)
    · skip
      exact absurd c557 (by decide)
    · skip
      refine v_aload_n X dL_law_560 (i := 3) rfl rfl ?_
      refine v_iconst X dL_law_561 (v := (3 : Int32)) (by decide) ?_
      refine v_iload X dL_law_562 rfl ?_
      refine v_imul X dL_law_564 ?_
      refine v_iconst X dL_law_565 (v := (1 : Int32)) (by decide) ?_
      refine v_iadd X dL_law_566 ?_
      refine v_ialdB X hB dL_law_567 180 (Nat.le_of_ble_eq_true rfl) rfl ((3 * k) + 1) (ix_add (ix_mul rfl rfl) rfl) (by omega) (Nat.le_of_ble_eq_true rfl) ?_
      refine v_goto X dL_law_568 (tgt := 573) (by decide) ?_
      refine v_icmp_eq X dL_law_573 (tgt := 578) (by decide) (fun c573 => ?_) (fun c573 => ?_)
      · skip
        refine v_aload_n X dL_law_578 (i := 3) rfl rfl ?_
        refine v_iconst X dL_law_579 (v := (3 : Int32)) (by decide) ?_
        refine v_iload X dL_law_580 rfl ?_
        refine v_imul X dL_law_582 ?_
        refine v_iload X dL_law_583 rfl ?_
        refine v_if_eq X dL_law_585 (tgt := 593) (by decide) (fun c585 => ?_) (fun c585 => ?_)
        · skip
          exact absurd c585 (by decide)
        · skip
          refine v_iload X dL_law_588 rfl ?_
          refine v_goto X dL_law_590 (tgt := 599) (by decide) ?_
          refine v_iastB X hB dL_law_599 180 (Nat.le_of_ble_eq_true rfl) rfl (3 * k) (ix_mul rfl rfl) (by omega) (Nat.le_of_ble_eq_true rfl) (L' := (yaL g o (upd (upd (c8 σ) (12 + 4 * k) (nI cn)) (13 + 4 * k) (nI vn)) ρ (svS (wiE σ (nI k) (nI cn) (nI vn)) S qq σ) (svS (wiE σ (nI k) (nI cn) (nI vn)) P qq ρ) φ κ τ (svπ (wiE σ (nI k) (nI cn) (nI vn)) π qq nn) q (upd h (3 * k) (nI cn)) t c w b b2)) rfl ?_
          refine v_aload_n X dL_law_600 (i := 3) rfl rfl ?_
          refine v_iconst X dL_law_601 (v := (3 : Int32)) (by decide) ?_
          refine v_iload X dL_law_602 rfl ?_
          refine v_imul X dL_law_604 ?_
          refine v_iconst X dL_law_605 (v := (1 : Int32)) (by decide) ?_
          refine v_iadd X dL_law_606 ?_
          refine v_iload X dL_law_607 rfl ?_
          refine v_if_eq X dL_law_609 (tgt := 617) (by decide) (fun c609 => ?_) (fun c609 => ?_)
          · skip
            exact absurd c609 (by decide)
          · skip
            refine v_iload X dL_law_612 rfl ?_
            refine v_goto X dL_law_614 (tgt := 625) (by decide) ?_
            refine v_iastB X hB dL_law_625 180 (Nat.le_of_ble_eq_true rfl) rfl ((3 * k) + 1) (ix_add (ix_mul rfl rfl) rfl) (by omega) (Nat.le_of_ble_eq_true rfl) (L' := (yaL g o (upd (upd (c8 σ) (12 + 4 * k) (nI cn)) (13 + 4 * k) (nI vn)) ρ (svS (wiE σ (nI k) (nI cn) (nI vn)) S qq σ) (svS (wiE σ (nI k) (nI cn) (nI vn)) P qq ρ) φ κ τ (svπ (wiE σ (nI k) (nI cn) (nI vn)) π qq nn) q (upd (upd h (3 * k) (nI cn)) ((3 * k) + 1) (nI vn)) t c w b b2)) rfl ?_
            refine v_goto X dL_law_626 (tgt := 1826) (by decide) ?_
            refine v_drop 19 ?_
            exact kk f cs ss (upd (upd (c8 σ) (12 + 4 * k) (nI cn)) (13 + 4 * k) (nI vn)) ρ (svS (wiE σ (nI k) (nI cn) (nI vn)) S qq σ) (svS (wiE σ (nI k) (nI cn) (nI vn)) P qq ρ) φ (svπ (wiE σ (nI k) (nI cn) (nI vn)) π qq nn) q (upd (upd h (3 * k) (nI cn)) ((3 * k) + 1) (nI vn)) t c w b b2 C P0 R lt 0 1    (by omega) (by omega) (by omega) ((by rw [if_neg (by decide)]; exact RQ_wind H hk (show vn < 100 by omega) rfl)) (PI_sv hPI hq6 hn6)
      · skip
        exact absurd (by rw [c8, pk_un (by omega), (hA.2.1 k hk).2.1]) c573
set_option maxRecDepth 100000 in
set_option maxHeartbeats 4000000 in
theorem lk_11 {p : Program} {l : Launch} {e : Env} {s : State} {m : MethodId} {below : List Frame} {meth : Method} {c0 : Code} {Q : State → Prop} {g : Ge} {a0 o : Nat} (X : Cx p #[Value.ref a0] s m meth c0 g cL_law 28 RL ret 0) (ho : g.2.2 = o) {f : Pic} {cs ss tn : Nat} {σ ρ : Nat → Int32} {S P : Nat → Nat → Int32} {φ κ τ π q h t c w b b2 : Nat → Int32} {x y kd ki sd bx tq vv : Int32} {C P0 R lt B : Nat} (h186 : 186 ≤ cs) (hcM : cs + 60 ≤ 599000) (hsM : ss + 330 ≤ 7300000) (H : RQ C P0 R lt B σ ρ q h t c w b b2) (hPI : PI π)
    (kk : ∀ (f : Pic) (cs' ss' : Nat) (σ' ρ' : Nat → Int32) (S' P' : Nat → Nat → Int32) (φ' π' q' h' t' c' w' b' b2' : Nat → Int32) (C' P0' R' lt' B' : Nat) (ot : Int32), 186 ≤ cs' → cs' ≤ cs + 60 → ss' ≤ ss + 330 → RQ C' P0' R' lt' B' σ' ρ' (upd q' 8 (if ot = 0 then q' 8 else 0)) h' t' c' w' b' b2' → PI π' → V p l e room_1 s m #[Value.ref a0] below meth c0 Q g 28 cs' ss' cs' (ovr f o (yaL g o σ' ρ' S' P' φ' κ τ π' q' h' t' c' w' b' b2')) 1826 [some (.ref a0), some (.ref o), some (.ref (o + 179)), some (.ref (o + 180)), some (.ref (o + 181)), some (.ref (o + 182)), some (.ref (o + 183)), some (.ref (o + 184)), some (.ref (o + 185)), some (.int (nI tn)), some (.int x), some (.int y), some (.int kd), some (.int ki), some (.int sd), some (.int bx), some (.int tq), some (.int vv), some (.int ot), none, none, none, none, none, none, none, none, none] []) :
    V p l e room_1 s m #[Value.ref a0] below meth c0 Q g 28 cs ss cs (ovr f o (yaL g o σ ρ S P φ κ τ π q h t c w b b2)) 1079 [some (.ref a0), some (.ref o), some (.ref (o + 179)), some (.ref (o + 180)), some (.ref (o + 181)), some (.ref (o + 182)), some (.ref (o + 183)), some (.ref (o + 184)), some (.ref (o + 185)), some (.int (nI tn)), some (.int x), some (.int y), some (.int kd), some (.int ki), some (.int sd), some (.int bx), some (.int tq), some (.int vv), some (.int (1 : Int32)), none, none, none, none, none, none, none, none, none] [] := by
  have rc9 : 599000 ≤ room_1.cells := Nat.le_of_ble_eq_true rfl
  have rs9 : 7300000 ≤ room_1.slots := Nat.le_of_ble_eq_true rfl
  have hcs : cs + 0 ≤ room_1.cells ∧ ss + 0 ≤ room_1.slots := ⟨by omega, by omega⟩
  have hB : BB g cs o 186 := ⟨by rw [ho]; exact Nat.le_refl _, by rw [ho]; omega⟩
  obtain ⟨qq, nn, hq, hq6, hn, hn6⟩ := id hPI
  obtain ⟨g9, hA, hV, hF, hYB, ⟨hR, hR20⟩, ⟨hlt, hlt20⟩, hRC, ⟨hB8, hBR⟩, hKH⟩ := id H
  have hC16 := g9.2.2.2
  refine v_iload X dL_law_1079 rfl ?_
  refine v_iconst X dL_law_1081 (v := (5 : Int32)) (by decide) ?_
  refine v_cs X (Nat.zero_add _).symm yv_L_low m_ml_L_62 (c_L_low l g (5 : Int32) 5 rfl y (by decide) (by decide)) rfl rfl (Nat.le_of_ble_eq_true rfl) ⟨Nat.le_of_ble_eq_true rfl, Nat.le_of_ble_eq_true rfl⟩ hcs dL_law_1082 rfl ?_
  obtain ⟨cd, hcd, ecd⟩ : ∃ k, k < 5 ∧ (lwF y 5) = nI k := lwF_lt (by decide) (by decide)
  rw [ecd]
  refine v_istore X dL_law_1085 (Nat.le_of_ble_eq_true rfl) rfl ?_
  refine v_iload X dL_law_1087 rfl ?_
  refine v_aload_n X dL_law_1089 (i := 2) rfl rfl ?_
  refine v_iconst X dL_law_1090 (v := (0 : Int32)) (by decide) ?_
  refine v_ialdB X hB dL_law_1091 179 (Nat.le_of_ble_eq_true rfl) rfl 0 rfl (by omega) (Nat.le_of_ble_eq_true rfl) ?_
  refine v_icmp_ge X dL_law_1092 (tgt := 1099) (by decide) (fun c1092 => ?_) (fun c1092 => ?_)
  · skip
    have hcC : ¬ cd < C := by
      rw [hA.1 0 (by omega), g9.1] at c1092
      have := le_of_nI (by omega) (by omega) c1092
      omega
    refine v_iconst X dL_law_1099 (v := (0 : Int32)) (by decide) ?_
    refine v_istore X dL_law_1100 (Nat.le_of_ble_eq_true rfl) rfl ?_
    refine v_aload_n X dL_law_1102 (i := 1) rfl rfl ?_
    refine v_iload X dL_law_1103 rfl ?_
    refine v_cvB X (Nat.zero_add _).symm yv_X7_turnTo m_ml_L_111 0 0 (c_X7_turnTo l g cs o σ ρ S P φ κ τ π qq nn hq hq6 hn hn6 (nI cd) ) hB (Nat.le_of_ble_eq_true rfl) rfl (Nat.le_of_ble_eq_true rfl) rfl (L' := (yaL g o (if (rcE σ (nI cd)) = 0 then (upd (c8 σ) 1 (nI cd)) else σ) ρ (svS (rcE σ (nI cd)) S qq σ) (svS (rcE σ (nI cd)) P qq ρ) φ κ τ (svπ (rcE σ (nI cd)) π qq nn) q h t c w b b2)) (rfl) rfl (Nat.le_of_ble_eq_true rfl) rfl rfl (Nat.le_of_ble_eq_true rfl) ⟨Nat.le_of_ble_eq_true rfl, Nat.le_of_ble_eq_true rfl⟩ hcs dL_law_1105 rfl ?_
    have hE : (rcE σ (nI cd)) = -1 := (E_rc g9.1 hC16 (by omega)).trans (if_neg hcC)
    have hn0 : ¬ (rcE σ (nI cd)) = 0 := by rw [hE]; decide
    rw [if_neg hn0, if_neg hn0, hE]
    refine v_iload X dL_law_1108 rfl ?_
    refine v_if_eq X dL_law_1110 (tgt := 1119) (by decide) (fun c1110 => ?_) (fun c1110 => ?_)
    · skip
      refine v_iconst X dL_law_1119 (v := (-1 : Int32)) (by decide) ?_
      refine v_icmp_eq X dL_law_1120 (tgt := 1125) (by decide) (fun c1120 => ?_) (fun c1120 => ?_)
      · skip
        refine v_aload_n X dL_law_1125 (i := 2) rfl rfl ?_
        refine v_iconst X dL_law_1126 (v := (1 : Int32)) (by decide) ?_
        refine v_iload X dL_law_1127 rfl ?_
        refine v_if_eq X dL_law_1129 (tgt := 1137) (by decide) (fun c1129 => ?_) (fun c1129 => ?_)
        · skip
          refine v_aload_n X dL_law_1137 (i := 2) rfl rfl ?_
          refine v_iconst X dL_law_1138 (v := (1 : Int32)) (by decide) ?_
          refine v_ialdB X hB dL_law_1139 179 (Nat.le_of_ble_eq_true rfl) rfl 1 rfl (by omega) (Nat.le_of_ble_eq_true rfl) ?_
          refine v_iastB X hB dL_law_1140 179 (Nat.le_of_ble_eq_true rfl) rfl 1 rfl (by omega) (Nat.le_of_ble_eq_true rfl) (L' := (yaL g o σ ρ (svS (-1 : Int32) S qq σ) (svS (-1 : Int32) P qq ρ) φ κ τ (svπ (-1 : Int32) π qq nn) (upd q 1 (q 1)) h t c w b b2)) rfl ?_
          refine v_goto X dL_law_1141 (tgt := 1826) (by decide) ?_
          refine v_drop 19 ?_
          exact kk f cs ss σ ρ (svS (-1 : Int32) S qq σ) (svS (-1 : Int32) P qq ρ) φ (svπ (-1 : Int32) π qq nn) (upd q 1 (q 1)) h t c w b b2 C P0 R lt B 0    (by omega) (by omega) (by omega) ((by rw [if_pos rfl]; simp only [up_self]; exact H)) (PI_sv hPI hq6 hn6)
        · skip
          exact absurd c1129 (by decide)
      · skip
        exact absurd rfl c1120
    · skip
      exact absurd c1110 (by decide)
  · skip
    have hcC : cd < C := by
      rw [hA.1 0 (by omega), g9.1] at c1092
      exact lt_of_nI (by omega) (by omega) c1092
    refine v_iconst X dL_law_1095 (v := (1 : Int32)) (by decide) ?_
    refine v_goto X dL_law_1096 (tgt := 1100) (by decide) ?_
    refine v_istore X dL_law_1100 (Nat.le_of_ble_eq_true rfl) rfl ?_
    refine v_aload_n X dL_law_1102 (i := 1) rfl rfl ?_
    refine v_iload X dL_law_1103 rfl ?_
    refine v_cvB X (Nat.zero_add _).symm yv_X7_turnTo m_ml_L_111 0 0 (c_X7_turnTo l g cs o σ ρ S P φ κ τ π qq nn hq hq6 hn hn6 (nI cd) ) hB (Nat.le_of_ble_eq_true rfl) rfl (Nat.le_of_ble_eq_true rfl) rfl (L' := (yaL g o (if (rcE σ (nI cd)) = 0 then (upd (c8 σ) 1 (nI cd)) else σ) ρ (svS (rcE σ (nI cd)) S qq σ) (svS (rcE σ (nI cd)) P qq ρ) φ κ τ (svπ (rcE σ (nI cd)) π qq nn) q h t c w b b2)) (rfl) rfl (Nat.le_of_ble_eq_true rfl) rfl rfl (Nat.le_of_ble_eq_true rfl) ⟨Nat.le_of_ble_eq_true rfl, Nat.le_of_ble_eq_true rfl⟩ hcs dL_law_1105 rfl ?_
    have hE : (rcE σ (nI cd)) = 0 := (E_rc g9.1 hC16 (by omega)).trans (if_pos hcC)
    rw [if_pos hE, if_pos hE]
    refine v_iload X dL_law_1108 rfl ?_
    refine v_if_eq X dL_law_1110 (tgt := 1119) (by decide) (fun c1110 => ?_) (fun c1110 => ?_)
    · skip
      exact absurd c1110 (by decide)
    · skip
      refine v_aload_n X dL_law_1113 (i := 2) rfl rfl ?_
      refine v_iconst X dL_law_1114 (v := (1 : Int32)) (by decide) ?_
      refine v_ialdB X hB dL_law_1115 179 (Nat.le_of_ble_eq_true rfl) rfl 1 rfl (by omega) (Nat.le_of_ble_eq_true rfl) ?_
      refine v_goto X dL_law_1116 (tgt := 1120) (by decide) ?_
      refine v_icmp_eq X dL_law_1120 (tgt := 1125) (by decide) (fun c1120 => ?_) (fun c1120 => ?_)
      · skip
        refine v_aload_n X dL_law_1125 (i := 2) rfl rfl ?_
        refine v_iconst X dL_law_1126 (v := (1 : Int32)) (by decide) ?_
        refine v_iload X dL_law_1127 rfl ?_
        refine v_if_eq X dL_law_1129 (tgt := 1137) (by decide) (fun c1129 => ?_) (fun c1129 => ?_)
        · skip
          exact absurd c1129 (by decide)
        · skip
          refine v_iload X dL_law_1132 rfl ?_
          refine v_goto X dL_law_1134 (tgt := 1140) (by decide) ?_
          refine v_iastB X hB dL_law_1140 179 (Nat.le_of_ble_eq_true rfl) rfl 1 rfl (by omega) (Nat.le_of_ble_eq_true rfl) (L' := (yaL g o (upd (c8 σ) 1 (nI cd)) ρ (svS (rcE σ (nI cd)) S qq σ) (svS (rcE σ (nI cd)) P qq ρ) φ κ τ (svπ (rcE σ (nI cd)) π qq nn) (upd q 1 (nI cd)) h t c w b b2)) rfl ?_
          refine v_goto X dL_law_1141 (tgt := 1826) (by decide) ?_
          refine v_drop 19 ?_
          exact kk f cs ss (upd (c8 σ) 1 (nI cd)) ρ (svS (rcE σ (nI cd)) S qq σ) (svS (rcE σ (nI cd)) P qq ρ) φ (svπ (rcE σ (nI cd)) π qq nn) (upd q 1 (nI cd)) h t c w b b2 C cd R lt 0 1    (by omega) (by omega) (by omega) ((by rw [if_neg (by decide)]; exact RQ_turn H hcC rfl)) (PI_sv hPI hq6 hn6)
      · skip
        exact absurd (by rw [c8, pk_un (by omega), hA.1 1 (by omega)]) c1120
