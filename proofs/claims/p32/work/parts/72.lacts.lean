/-! the law's main method: the simple acts -/
/-- the saved states' ring is in order -/
def PI (π : Nat → Int32) : Prop := ∃ q n : Nat, π 1 = nI q ∧ q < 6 ∧ π 0 = nI n ∧ n ≤ 6
theorem PI_sv {π : Nat → Int32} {e : Int32} {q n : Nat} (h : PI π) (hq : q < 6) (hn : n ≤ 6) : PI (svπ e π q n) := by
  unfold svπ
  by_cases z : e = 0
  · rw [if_pos z]
    refine ⟨(q + 1) % 6, svN n, (pk_un (by omega)).trans pk_us, by omega, pk_us, ?_⟩
    unfold svN; split <;> omega
  · rw [if_neg z]; exact h
set_option maxRecDepth 100000 in
set_option maxHeartbeats 4000000 in
theorem lk_4 {p : Program} {l : Launch} {e : Env} {s : State} {m : MethodId} {below : List Frame} {meth : Method} {c0 : Code} {Q : State → Prop} {g : Ge} {a0 o : Nat} (X : Cx p #[Value.ref a0] s m meth c0 g cL_law 28 RL ret 0) (ho : g.2.2 = o) {f : Pic} {cs ss tn : Nat} {σ ρ : Nat → Int32} {S P : Nat → Nat → Int32} {φ κ τ π q h t c w b b2 : Nat → Int32} {x y kd ki tq vv : Int32} {sN z : Nat} (hs : (sN = 0 ∧ z < 4) ∨ (sN = 1 ∧ z < 2)) {C P0 R lt B : Nat} (h186 : 186 ≤ cs) (hcM : cs + 60 ≤ 599000) (hsM : ss + 330 ≤ 7300000) (H : RQ C P0 R lt B σ ρ q h t c w b b2) (hPI : PI π)
    (kk : ∀ (f : Pic) (cs' ss' : Nat) (σ' ρ' : Nat → Int32) (S' P' : Nat → Nat → Int32) (φ' π' q' h' t' c' w' b' b2' : Nat → Int32) (C' P0' R' lt' B' : Nat) (ot : Int32), 186 ≤ cs' → cs' ≤ cs + 60 → ss' ≤ ss + 330 → RQ C' P0' R' lt' B' σ' ρ' (upd q' 8 (if ot = 0 then q' 8 else 0)) h' t' c' w' b' b2' → PI π' → V p l e room_1 s m #[Value.ref a0] below meth c0 Q g 28 cs' ss' cs' (ovr f o (yaL g o σ' ρ' S' P' φ' κ τ π' q' h' t' c' w' b' b2')) 1826 [some (.ref a0), some (.ref o), some (.ref (o + 179)), some (.ref (o + 180)), some (.ref (o + 181)), some (.ref (o + 182)), some (.ref (o + 183)), some (.ref (o + 184)), some (.ref (o + 185)), some (.int (nI tn)), some (.int x), some (.int y), some (.int kd), some (.int ki), some (.int (nI sN)), some (.int (nI z)), some (.int tq), some (.int vv), some (.int ot), none, none, none, none, none, none, none, none, none] []) :
    V p l e room_1 s m #[Value.ref a0] below meth c0 Q g 28 cs ss cs (ovr f o (yaL g o σ ρ S P φ κ τ π q h t c w b b2)) 635 [some (.ref a0), some (.ref o), some (.ref (o + 179)), some (.ref (o + 180)), some (.ref (o + 181)), some (.ref (o + 182)), some (.ref (o + 183)), some (.ref (o + 184)), some (.ref (o + 185)), some (.int (nI tn)), some (.int x), some (.int y), some (.int kd), some (.int ki), some (.int (nI sN)), some (.int (nI z)), some (.int tq), some (.int vv), some (.int (1 : Int32)), none, none, none, none, none, none, none, none, none] [] := by
  have rc9 : 599000 ≤ room_1.cells := Nat.le_of_ble_eq_true rfl
  have rs9 : 7300000 ≤ room_1.slots := Nat.le_of_ble_eq_true rfl
  have hcs : cs + 0 ≤ room_1.cells ∧ ss + 0 ≤ room_1.slots := ⟨by omega, by omega⟩
  have hB : BB g cs o 186 := ⟨by rw [ho]; exact Nat.le_refl _, by rw [ho]; omega⟩
  obtain ⟨qq, nn, hq, hq6, hn, hn6⟩ := id hPI
  obtain ⟨g9, hA, hV, hF, hYB, ⟨hR, hR20⟩, ⟨hlt, hlt20⟩, hRC, ⟨hB8, hBR⟩, hKH⟩ := id H
  have hC16 := g9.2.2.2
  refine v_aload_n X dL_law_635 (i := 1) rfl rfl ?_
  refine v_iload X dL_law_636 rfl ?_
  refine v_iload X dL_law_638 rfl ?_
  refine v_cvB X (Nat.zero_add _).symm yv_X7_moveBoxes m_ml_L_93 0 0 (c_X7_moveBoxes l g cs o σ ρ S P φ κ τ π qq nn hq hq6 hn hn6 (nI sN) (nI z) ) hB (Nat.le_of_ble_eq_true rfl) rfl (Nat.le_of_ble_eq_true rfl) rfl (L' := (yaL g o (if (mbE (nI sN) (nI z)) = 0 then (upd (c8 σ) (3 + 1 * nt (nI sN)) (nI z)) else σ) ρ (svS (mbE (nI sN) (nI z)) S qq σ) (svS (mbE (nI sN) (nI z)) P qq ρ) φ κ τ (svπ (mbE (nI sN) (nI z)) π qq nn) q h t c w b b2)) (rfl) rfl (Nat.le_of_ble_eq_true rfl) rfl rfl (Nat.le_of_ble_eq_true rfl) ⟨Nat.le_of_ble_eq_true rfl, Nat.le_of_ble_eq_true rfl⟩ hcs dL_law_640 rfl ?_
  have hE := E_mb hs
  rw [if_pos hE, if_pos hE, nt_nI (by omega)]
  refine v_aload_n X dL_law_643 (i := 2) rfl rfl ?_
  refine v_iconst X dL_law_644 (v := (3 : Int32)) (by decide) ?_
  refine v_iload X dL_law_645 rfl ?_
  refine v_iadd X dL_law_647 ?_
  refine v_ialdB X hB dL_law_648 179 (Nat.le_of_ble_eq_true rfl) rfl (3 + sN) (ix_add rfl rfl) (by omega) (Nat.le_of_ble_eq_true rfl) ?_
  refine v_icmp_eq X dL_law_649 (tgt := 654) (by decide) (fun c649 => ?_) (fun c649 => ?_)
  · skip
    refine v_aload_n X dL_law_654 (i := 2) rfl rfl ?_
    refine v_iconst X dL_law_655 (v := (3 : Int32)) (by decide) ?_
    refine v_iload X dL_law_656 rfl ?_
    refine v_iadd X dL_law_658 ?_
    refine v_iload X dL_law_659 rfl ?_
    refine v_iastB X hB dL_law_661 179 (Nat.le_of_ble_eq_true rfl) rfl (3 + sN) (ix_add rfl rfl) (by omega) (Nat.le_of_ble_eq_true rfl) (L' := (yaL g o (upd (c8 σ) (3 + 1 * sN) (nI z)) ρ (svS (mbE (nI sN) (nI z)) S qq σ) (svS (mbE (nI sN) (nI z)) P qq ρ) φ κ τ (svπ (mbE (nI sN) (nI z)) π qq nn) (upd q (3 + sN) (nI z)) h t c w b b2)) rfl ?_
    refine v_goto X dL_law_662 (tgt := 1826) (by decide) ?_
    exact kk f cs ss (upd (c8 σ) (3 + 1 * sN) (nI z)) ρ (svS (mbE (nI sN) (nI z)) S qq σ) (svS (mbE (nI sN) (nI z)) P qq ρ) φ (svπ (mbE (nI sN) (nI z)) π qq nn) (upd q (3 + sN) (nI z)) h t c w b b2 C P0 R lt 0 1    (by omega) (by omega) (by omega) ((by rw [if_neg (by decide)]; exact RQ_race H hs rfl)) (PI_sv hPI hq6 hn6)
  · skip
    exact absurd (by rw [c8, pk_un (by omega), hA.1 (3 + sN) (by omega)]; exact congrArg σ (by omega)) c649
set_option maxRecDepth 100000 in
set_option maxHeartbeats 4000000 in
theorem lk_5 {p : Program} {l : Launch} {e : Env} {s : State} {m : MethodId} {below : List Frame} {meth : Method} {c0 : Code} {Q : State → Prop} {g : Ge} {a0 o : Nat} (X : Cx p #[Value.ref a0] s m meth c0 g cL_law 28 RL ret 0) (ho : g.2.2 = o) {f : Pic} {cs ss tn : Nat} {σ ρ : Nat → Int32} {S P : Nat → Nat → Int32} {φ κ τ π q h t c w b b2 : Nat → Int32} {x y kd ki sd bx vv : Int32} {th fr : Nat} (hth : th < 12) (hfr : fr < 6) {C P0 R lt B : Nat} (h186 : 186 ≤ cs) (hcM : cs + 60 ≤ 599000) (hsM : ss + 330 ≤ 7300000) (H : RQ C P0 R lt B σ ρ q h t c w b b2) (hPI : PI π)
    (kk : ∀ (f : Pic) (cs' ss' : Nat) (σ' ρ' : Nat → Int32) (S' P' : Nat → Nat → Int32) (φ' π' q' h' t' c' w' b' b2' : Nat → Int32) (C' P0' R' lt' B' : Nat) (ot : Int32), 186 ≤ cs' → cs' ≤ cs + 60 → ss' ≤ ss + 330 → RQ C' P0' R' lt' B' σ' ρ' (upd q' 8 (if ot = 0 then q' 8 else 0)) h' t' c' w' b' b2' → PI π' → V p l e room_1 s m #[Value.ref a0] below meth c0 Q g 28 cs' ss' cs' (ovr f o (yaL g o σ' ρ' S' P' φ' κ τ π' q' h' t' c' w' b' b2')) 1826 [some (.ref a0), some (.ref o), some (.ref (o + 179)), some (.ref (o + 180)), some (.ref (o + 181)), some (.ref (o + 182)), some (.ref (o + 183)), some (.ref (o + 184)), some (.ref (o + 185)), some (.int (nI tn)), some (.int x), some (.int y), some (.int kd), some (.int ki), some (.int sd), some (.int bx), some (.int (nI th)), some (.int vv), some (.int ot), none, none, none, none, none, none, none, none, none] []) :
    V p l e room_1 s m #[Value.ref a0] below meth c0 Q g 28 cs ss cs (ovr f o (yaL g o σ ρ S P φ κ τ π q h t c w b b2)) 682 [some (.ref a0), some (.ref o), some (.ref (o + 179)), some (.ref (o + 180)), some (.ref (o + 181)), some (.ref (o + 182)), some (.ref (o + 183)), some (.ref (o + 184)), some (.ref (o + 185)), some (.int (nI tn)), some (.int x), some (.int y), some (.int kd), some (.int ki), some (.int sd), some (.int bx), some (.int (nI th)), some (.int vv), some (.int (1 : Int32)), some (.int (nI fr)), none, none, none, none, none, none, none, none] [] := by
  have rc9 : 599000 ≤ room_1.cells := Nat.le_of_ble_eq_true rfl
  have rs9 : 7300000 ≤ room_1.slots := Nat.le_of_ble_eq_true rfl
  have hcs : cs + 0 ≤ room_1.cells ∧ ss + 0 ≤ room_1.slots := ⟨by omega, by omega⟩
  have hB : BB g cs o 186 := ⟨by rw [ho]; exact Nat.le_refl _, by rw [ho]; omega⟩
  obtain ⟨qq, nn, hq, hq6, hn, hn6⟩ := id hPI
  obtain ⟨g9, hA, hV, hF, hYB, ⟨hR, hR20⟩, ⟨hlt, hlt20⟩, hRC, ⟨hB8, hBR⟩, hKH⟩ := id H
  have hC16 := g9.2.2.2
  refine v_aload_n X dL_law_682 (i := 1) rfl rfl ?_
  refine v_iload X dL_law_683 rfl ?_
  refine v_iload X dL_law_685 rfl ?_
  refine v_cvB X (Nat.zero_add _).symm yv_X7_draw m_ml_L_96 0 0 (c_X7_draw l g cs o σ ρ S P φ κ τ π qq nn hq hq6 hn hn6 (nI th) (nI fr) ) hB (Nat.le_of_ble_eq_true rfl) rfl (Nat.le_of_ble_eq_true rfl) rfl (L' := (yaL g o (if (drE (nI th) (nI fr)) = 0 then (upd (c8 σ) (32 + 2 * nt (nI th)) (nI fr)) else σ) ρ (svS (drE (nI th) (nI fr)) S qq σ) (svS (drE (nI th) (nI fr)) P qq ρ) φ κ τ (svπ (drE (nI th) (nI fr)) π qq nn) q h t c w b b2)) (rfl) rfl (Nat.le_of_ble_eq_true rfl) rfl rfl (Nat.le_of_ble_eq_true rfl) ⟨Nat.le_of_ble_eq_true rfl, Nat.le_of_ble_eq_true rfl⟩ hcs dL_law_687 rfl ?_
  have hE := E_dr hth hfr
  rw [if_pos hE, if_pos hE, nt_nI (by omega)]
  refine v_aload X dL_law_690 rfl ?_
  refine v_iconst X dL_law_692 (v := (2 : Int32)) (by decide) ?_
  refine v_iload X dL_law_693 rfl ?_
  refine v_imul X dL_law_695 ?_
  refine v_ialdB X hB dL_law_696 181 (Nat.le_of_ble_eq_true rfl) rfl (2 * th) (ix_mul rfl rfl) (by omega) (Nat.le_of_ble_eq_true rfl) ?_
  refine v_icmp_eq X dL_law_697 (tgt := 702) (by decide) (fun c697 => ?_) (fun c697 => ?_)
  · skip
    refine v_aload X dL_law_702 rfl ?_
    refine v_iconst X dL_law_704 (v := (2 : Int32)) (by decide) ?_
    refine v_iload X dL_law_705 rfl ?_
    refine v_imul X dL_law_707 ?_
    refine v_iload X dL_law_708 rfl ?_
    refine v_iastB X hB dL_law_710 181 (Nat.le_of_ble_eq_true rfl) rfl (2 * th) (ix_mul rfl rfl) (by omega) (Nat.le_of_ble_eq_true rfl) (L' := (yaL g o (upd (c8 σ) (32 + 2 * th) (nI fr)) ρ (svS (drE (nI th) (nI fr)) S qq σ) (svS (drE (nI th) (nI fr)) P qq ρ) φ κ τ (svπ (drE (nI th) (nI fr)) π qq nn) q h (upd t (2 * th) (nI fr)) c w b b2)) rfl ?_
    refine v_goto X dL_law_711 (tgt := 1826) (by decide) ?_
    refine v_drop 19 ?_
    exact kk f cs ss (upd (c8 σ) (32 + 2 * th) (nI fr)) ρ (svS (drE (nI th) (nI fr)) S qq σ) (svS (drE (nI th) (nI fr)) P qq ρ) φ (svπ (drE (nI th) (nI fr)) π qq nn) q h (upd t (2 * th) (nI fr)) c w b b2 C P0 R lt 0 1    (by omega) (by omega) (by omega) ((by rw [if_neg (by decide)]; exact RQ_draw H hth hfr rfl)) (PI_sv hPI hq6 hn6)
  · skip
    exact absurd (by rw [c8, pk_un (by omega), hA.2.2.1 (2 * th) (by omega)]) c697
set_option maxRecDepth 100000 in
set_option maxHeartbeats 4000000 in
theorem lk_6 {p : Program} {l : Launch} {e : Env} {s : State} {m : MethodId} {below : List Frame} {meth : Method} {c0 : Code} {Q : State → Prop} {g : Ge} {a0 o : Nat} (X : Cx p #[Value.ref a0] s m meth c0 g cL_law 28 RL ret 0) (ho : g.2.2 = o) {f : Pic} {cs ss tn : Nat} {σ ρ : Nat → Int32} {S P : Nat → Nat → Int32} {φ κ τ π q h t c w b b2 : Nat → Int32} {x y kd ki sd bx : Int32} {th vn : Nat} (hth : th < 12) (hvn : vn < 25) {C P0 R lt B : Nat} (h186 : 186 ≤ cs) (hcM : cs + 60 ≤ 599000) (hsM : ss + 330 ≤ 7300000) (H : RQ C P0 R lt B σ ρ q h t c w b b2) (hPI : PI π)
    (kk : ∀ (f : Pic) (cs' ss' : Nat) (σ' ρ' : Nat → Int32) (S' P' : Nat → Nat → Int32) (φ' π' q' h' t' c' w' b' b2' : Nat → Int32) (C' P0' R' lt' B' : Nat) (ot : Int32), 186 ≤ cs' → cs' ≤ cs + 60 → ss' ≤ ss + 330 → RQ C' P0' R' lt' B' σ' ρ' (upd q' 8 (if ot = 0 then q' 8 else 0)) h' t' c' w' b' b2' → PI π' → V p l e room_1 s m #[Value.ref a0] below meth c0 Q g 28 cs' ss' cs' (ovr f o (yaL g o σ' ρ' S' P' φ' κ τ π' q' h' t' c' w' b' b2')) 1826 [some (.ref a0), some (.ref o), some (.ref (o + 179)), some (.ref (o + 180)), some (.ref (o + 181)), some (.ref (o + 182)), some (.ref (o + 183)), some (.ref (o + 184)), some (.ref (o + 185)), some (.int (nI tn)), some (.int x), some (.int y), some (.int kd), some (.int ki), some (.int sd), some (.int bx), some (.int (nI th)), some (.int (nI vn)), some (.int ot), none, none, none, none, none, none, none, none, none] []) :
    V p l e room_1 s m #[Value.ref a0] below meth c0 Q g 28 cs ss cs (ovr f o (yaL g o σ ρ S P φ κ τ π q h t c w b b2)) 721 [some (.ref a0), some (.ref o), some (.ref (o + 179)), some (.ref (o + 180)), some (.ref (o + 181)), some (.ref (o + 182)), some (.ref (o + 183)), some (.ref (o + 184)), some (.ref (o + 185)), some (.int (nI tn)), some (.int x), some (.int y), some (.int kd), some (.int ki), some (.int sd), some (.int bx), some (.int (nI th)), some (.int (nI vn)), some (.int (1 : Int32)), none, none, none, none, none, none, none, none, none] [] := by
  have rc9 : 599000 ≤ room_1.cells := Nat.le_of_ble_eq_true rfl
  have rs9 : 7300000 ≤ room_1.slots := Nat.le_of_ble_eq_true rfl
  have hcs : cs + 0 ≤ room_1.cells ∧ ss + 0 ≤ room_1.slots := ⟨by omega, by omega⟩
  have hB : BB g cs o 186 := ⟨by rw [ho]; exact Nat.le_refl _, by rw [ho]; omega⟩
  obtain ⟨qq, nn, hq, hq6, hn, hn6⟩ := id hPI
  obtain ⟨g9, hA, hV, hF, hYB, ⟨hR, hR20⟩, ⟨hlt, hlt20⟩, hRC, ⟨hB8, hBR⟩, hKH⟩ := id H
  have hC16 := g9.2.2.2
  refine v_aload_n X dL_law_721 (i := 1) rfl rfl ?_
  refine v_iload X dL_law_722 rfl ?_
  refine v_iload X dL_law_724 rfl ?_
  refine v_cvB X (Nat.zero_add _).symm yv_X7_mend m_ml_L_99 0 0 (c_X7_mend l g cs o σ ρ S P φ κ τ π qq nn hq hq6 hn hn6 (nI th) (nI vn) ) hB (Nat.le_of_ble_eq_true rfl) rfl (Nat.le_of_ble_eq_true rfl) rfl (L' := (yaL g o (if (meE (nI th) (nI vn)) = 0 then (upd (c8 σ) (33 + 2 * nt (nI th)) (nI vn)) else σ) ρ (svS (meE (nI th) (nI vn)) S qq σ) (svS (meE (nI th) (nI vn)) P qq ρ) φ κ τ (svπ (meE (nI th) (nI vn)) π qq nn) q h t c w b b2)) (rfl) rfl (Nat.le_of_ble_eq_true rfl) rfl rfl (Nat.le_of_ble_eq_true rfl) ⟨Nat.le_of_ble_eq_true rfl, Nat.le_of_ble_eq_true rfl⟩ hcs dL_law_726 rfl ?_
  have hE := E_me hth (show vn < 100 by omega)
  rw [if_pos hE, if_pos hE, nt_nI (by omega)]
  refine v_aload X dL_law_729 rfl ?_
  refine v_iconst X dL_law_731 (v := (2 : Int32)) (by decide) ?_
  refine v_iload X dL_law_732 rfl ?_
  refine v_imul X dL_law_734 ?_
  refine v_iconst X dL_law_735 (v := (1 : Int32)) (by decide) ?_
  refine v_iadd X dL_law_736 ?_
  refine v_ialdB X hB dL_law_737 181 (Nat.le_of_ble_eq_true rfl) rfl ((2 * th) + 1) (ix_add (ix_mul rfl rfl) rfl) (by omega) (Nat.le_of_ble_eq_true rfl) ?_
  refine v_icmp_eq X dL_law_738 (tgt := 743) (by decide) (fun c738 => ?_) (fun c738 => ?_)
  · skip
    refine v_aload X dL_law_743 rfl ?_
    refine v_iconst X dL_law_745 (v := (2 : Int32)) (by decide) ?_
    refine v_iload X dL_law_746 rfl ?_
    refine v_imul X dL_law_748 ?_
    refine v_iconst X dL_law_749 (v := (1 : Int32)) (by decide) ?_
    refine v_iadd X dL_law_750 ?_
    refine v_iload X dL_law_751 rfl ?_
    refine v_iastB X hB dL_law_753 181 (Nat.le_of_ble_eq_true rfl) rfl ((2 * th) + 1) (ix_add (ix_mul rfl rfl) rfl) (by omega) (Nat.le_of_ble_eq_true rfl) (L' := (yaL g o (upd (c8 σ) (33 + 2 * th) (nI vn)) ρ (svS (meE (nI th) (nI vn)) S qq σ) (svS (meE (nI th) (nI vn)) P qq ρ) φ κ τ (svπ (meE (nI th) (nI vn)) π qq nn) q h (upd t ((2 * th) + 1) (nI vn)) c w b b2)) rfl ?_
    refine v_goto X dL_law_754 (tgt := 1826) (by decide) ?_
    exact kk f cs ss (upd (c8 σ) (33 + 2 * th) (nI vn)) ρ (svS (meE (nI th) (nI vn)) S qq σ) (svS (meE (nI th) (nI vn)) P qq ρ) φ (svπ (meE (nI th) (nI vn)) π qq nn) q h (upd t ((2 * th) + 1) (nI vn)) c w b b2 C P0 R lt 0 1    (by omega) (by omega) (by omega) ((by rw [if_neg (by decide)]; exact RQ_mend H hth)) (PI_sv hPI hq6 hn6)
  · skip
    exact absurd (by rw [c8, pk_un (by omega), hA.2.2.1 (2 * th + 1) (by omega)]; exact congrArg σ (by omega)) c738
set_option maxRecDepth 100000 in
set_option maxHeartbeats 4000000 in
theorem lk_7 {p : Program} {l : Launch} {e : Env} {s : State} {m : MethodId} {below : List Frame} {meth : Method} {c0 : Code} {Q : State → Prop} {g : Ge} {a0 o : Nat} (X : Cx p #[Value.ref a0] s m meth c0 g cL_law 28 RL ret 0) (ho : g.2.2 = o) {f : Pic} {cs ss tn : Nat} {σ ρ : Nat → Int32} {S P : Nat → Nat → Int32} {φ κ τ π q h t c w b b2 : Nat → Int32} {x y kd ki sd bx tq vv : Int32} {sp : Nat} (h1 : 0 < sp) (h4 : sp < 4) {C P0 R lt B : Nat} (h186 : 186 ≤ cs) (hcM : cs + 60 ≤ 599000) (hsM : ss + 330 ≤ 7300000) (H : RQ C P0 R lt B σ ρ q h t c w b b2) (hPI : PI π)
    (kk : ∀ (f : Pic) (cs' ss' : Nat) (σ' ρ' : Nat → Int32) (S' P' : Nat → Nat → Int32) (φ' π' q' h' t' c' w' b' b2' : Nat → Int32) (C' P0' R' lt' B' : Nat) (ot : Int32), 186 ≤ cs' → cs' ≤ cs + 60 → ss' ≤ ss + 330 → RQ C' P0' R' lt' B' σ' ρ' (upd q' 8 (if ot = 0 then q' 8 else 0)) h' t' c' w' b' b2' → PI π' → V p l e room_1 s m #[Value.ref a0] below meth c0 Q g 28 cs' ss' cs' (ovr f o (yaL g o σ' ρ' S' P' φ' κ τ π' q' h' t' c' w' b' b2')) 1826 [some (.ref a0), some (.ref o), some (.ref (o + 179)), some (.ref (o + 180)), some (.ref (o + 181)), some (.ref (o + 182)), some (.ref (o + 183)), some (.ref (o + 184)), some (.ref (o + 185)), some (.int (nI tn)), some (.int x), some (.int y), some (.int kd), some (.int ki), some (.int sd), some (.int bx), some (.int tq), some (.int vv), some (.int ot), none, none, none, none, none, none, none, none, none] []) :
    V p l e room_1 s m #[Value.ref a0] below meth c0 Q g 28 cs ss cs (ovr f o (yaL g o σ ρ S P φ κ τ π q h t c w b b2)) 774 [some (.ref a0), some (.ref o), some (.ref (o + 179)), some (.ref (o + 180)), some (.ref (o + 181)), some (.ref (o + 182)), some (.ref (o + 183)), some (.ref (o + 184)), some (.ref (o + 185)), some (.int (nI tn)), some (.int x), some (.int y), some (.int kd), some (.int ki), some (.int sd), some (.int bx), some (.int tq), some (.int vv), some (.int (1 : Int32)), some (.int (nI sp)), none, none, none, none, none, none, none, none] [] := by
  have rc9 : 599000 ≤ room_1.cells := Nat.le_of_ble_eq_true rfl
  have rs9 : 7300000 ≤ room_1.slots := Nat.le_of_ble_eq_true rfl
  have hcs : cs + 0 ≤ room_1.cells ∧ ss + 0 ≤ room_1.slots := ⟨by omega, by omega⟩
  have hB : BB g cs o 186 := ⟨by rw [ho]; exact Nat.le_refl _, by rw [ho]; omega⟩
  obtain ⟨qq, nn, hq, hq6, hn, hn6⟩ := id hPI
  obtain ⟨g9, hA, hV, hF, hYB, ⟨hR, hR20⟩, ⟨hlt, hlt20⟩, hRC, ⟨hB8, hBR⟩, hKH⟩ := id H
  have hC16 := g9.2.2.2
  refine v_aload_n X dL_law_774 (i := 1) rfl rfl ?_
  refine v_iload X dL_law_775 rfl ?_
  refine v_cvB X (Nat.zero_add _).symm yv_X7_setSpeed m_ml_L_102 0 0 (c_X7_setSpeed l g cs o σ ρ S P φ κ τ π qq nn hq hq6 hn hn6 (nI sp) ) hB (Nat.le_of_ble_eq_true rfl) rfl (Nat.le_of_ble_eq_true rfl) rfl (L' := (yaL g o (if (ssE (nI sp)) = 0 then (upd (c8 σ) 2 (nI sp)) else σ) ρ (svS (ssE (nI sp)) S qq σ) (svS (ssE (nI sp)) P qq ρ) φ κ τ (svπ (ssE (nI sp)) π qq nn) q h t c w b b2)) (rfl) rfl (Nat.le_of_ble_eq_true rfl) rfl rfl (Nat.le_of_ble_eq_true rfl) ⟨Nat.le_of_ble_eq_true rfl, Nat.le_of_ble_eq_true rfl⟩ hcs dL_law_777 rfl ?_
  have hE := E_ss h1 h4
  rw [if_pos hE, if_pos hE]
  refine v_aload_n X dL_law_780 (i := 2) rfl rfl ?_
  refine v_iconst X dL_law_781 (v := (2 : Int32)) (by decide) ?_
  refine v_ialdB X hB dL_law_782 179 (Nat.le_of_ble_eq_true rfl) rfl 2 rfl (by omega) (Nat.le_of_ble_eq_true rfl) ?_
  refine v_icmp_eq X dL_law_783 (tgt := 788) (by decide) (fun c783 => ?_) (fun c783 => ?_)
  · skip
    refine v_aload_n X dL_law_788 (i := 2) rfl rfl ?_
    refine v_iconst X dL_law_789 (v := (2 : Int32)) (by decide) ?_
    refine v_iload X dL_law_790 rfl ?_
    refine v_iastB X hB dL_law_792 179 (Nat.le_of_ble_eq_true rfl) rfl 2 rfl (by omega) (Nat.le_of_ble_eq_true rfl) (L' := (yaL g o (upd (c8 σ) 2 (nI sp)) ρ (svS (ssE (nI sp)) S qq σ) (svS (ssE (nI sp)) P qq ρ) φ κ τ (svπ (ssE (nI sp)) π qq nn) (upd q 2 (nI sp)) h t c w b b2)) rfl ?_
    refine v_goto X dL_law_793 (tgt := 1826) (by decide) ?_
    refine v_drop 19 ?_
    exact kk f cs ss (upd (c8 σ) 2 (nI sp)) ρ (svS (ssE (nI sp)) S qq σ) (svS (ssE (nI sp)) P qq ρ) φ (svπ (ssE (nI sp)) π qq nn) (upd q 2 (nI sp)) h t c w b b2 C P0 R lt 0 1    (by omega) (by omega) (by omega) ((by rw [if_neg (by decide)]; exact RQ_speed H h4 rfl)) (PI_sv hPI hq6 hn6)
  · skip
    exact absurd (by rw [c8, pk_un (by omega), hA.1 2 (by omega)]) c783
