/-! the law's main method: weaving -/
set_option maxRecDepth 100000 in
set_option maxHeartbeats 4000000 in
theorem lk_why {p : Program} {l : Launch} {e : Env} {s : State} {m : MethodId} {below : List Frame} {meth : Method} {c0 : Code} {Q : State → Prop} {g : Ge} {a0 o : Nat} (X : Cx p #[Value.ref a0] s m meth c0 g cL_law 28 RL ret 0) (ho : g.2.2 = o) {f : Pic} {cs ss tn : Nat} {σ ρ : Nat → Int32} {S P : Nat → Nat → Int32} {φ κ τ π q h t c w b b2 : Nat → Int32} {σk ρk : Nat → Int32} {x y kd ki sd bx tq vv wy : Int32} {ms d : Nat} {C P0 R lt B : Nat} (h186 : 186 ≤ cs) (hcM : cs ≤ 599000) (hsM : ss ≤ 7300000) (H : RQ C P0 R lt B σk ρk q h t c w b b2)
    (kk : V p l e room_1 s m #[Value.ref a0] below meth c0 Q g 28 cs ss cs (ovr f o (yaL g o σ ρ S P φ κ τ π q h t c w b b2)) 1195 [some (.ref a0), some (.ref o), some (.ref (o + 179)), some (.ref (o + 180)), some (.ref (o + 181)), some (.ref (o + 182)), some (.ref (o + 183)), some (.ref (o + 184)), some (.ref (o + 185)), some (.int (nI tn)), some (.int x), some (.int y), some (.int kd), some (.int ki), some (.int sd), some (.int bx), some (.int tq), some (.int vv), some (.int (0 : Int32)), some (.int (nI ms)), some (.int (nI d)), some (.int (wyV (rsG σk C P0) (nTold σk P0 (rsG σk C P0)))), none, none, none, none, none, none] []) :
    V p l e room_1 s m #[Value.ref a0] below meth c0 Q g 28 cs ss cs (ovr f o (yaL g o σ ρ S P φ κ τ π q h t c w b b2)) 1574 [some (.ref a0), some (.ref o), some (.ref (o + 179)), some (.ref (o + 180)), some (.ref (o + 181)), some (.ref (o + 182)), some (.ref (o + 183)), some (.ref (o + 184)), some (.ref (o + 185)), some (.int (nI tn)), some (.int x), some (.int y), some (.int kd), some (.int ki), some (.int sd), some (.int bx), some (.int tq), some (.int vv), some (.int (0 : Int32)), some (.int (nI ms)), some (.int (nI d)), some (.int wy), none, none, none, none, none, none] [] := by
  have rc9 : 599000 ≤ room_1.cells := Nat.le_of_ble_eq_true rfl
  have rs9 : 7300000 ≤ room_1.slots := Nat.le_of_ble_eq_true rfl
  have hcs : cs + 0 ≤ room_1.cells ∧ ss + 0 ≤ room_1.slots := ⟨by omega, by omega⟩
  have hB : BB g cs o 186 := ⟨by rw [ho]; exact Nat.le_refl _, by rw [ho]; omega⟩
  obtain ⟨g9, hA, hV, hF, hYB, ⟨hR, hR20⟩, ⟨hlt, hlt20⟩, hRC, ⟨hB8, hBR⟩, hKH⟩ := id H
  have hC16 := g9.2.2.2
  have hY := YB_n hYB
  refine v_iconst X dL_law_1574 (v := (1 : Int32)) (by decide) ?_
  refine v_aload_n X dL_law_1575 (i := 2) rfl rfl ?_
  refine v_aload_n X dL_law_1576 (i := 3) rfl rfl ?_
  refine v_aload X dL_law_1577 rfl ?_
  refine v_aload X dL_law_1579 rfl ?_
  refine v_csB2 X (Nat.zero_add _).symm yv_L_why m_ml_L_16 179 (c_L_why_1 l g cs (o + 179) (o + 182) σk q h t c C P0 hA g9 hV hY) hB (OB.of 179 182 hB rfl rfl (Nat.le_of_ble_eq_true rfl) (Or.inl (Nat.le_of_ble_eq_true rfl)) rfl rfl) (Nat.le_of_ble_eq_true rfl) rfl (Nat.le_of_ble_eq_true rfl) rfl (L' := (yaL g o σ ρ S P φ κ τ π q h t c w b b2)) (rfl) rfl rfl (Nat.le_of_ble_eq_true rfl) ⟨Nat.le_of_ble_eq_true rfl, Nat.le_of_ble_eq_true rfl⟩ hcs dL_law_1581 rfl ?_
  refine v_istore X dL_law_1584 (Nat.le_of_ble_eq_true rfl) rfl ?_
  refine v_goto X dL_law_1586 (tgt := 1195) (by decide) ?_
  exact kk
set_option maxRecDepth 100000 in
set_option maxHeartbeats 4000000 in
theorem lk_wl {p : Program} {l : Launch} {e : Env} {s : State} {m : MethodId} {below : List Frame} {meth : Method} {c0 : Code} {Q : State → Prop} {g : Ge} {a0 o : Nat} (X : Cx p #[Value.ref a0] s m meth c0 g cL_law 28 RL ret 0) (ho : g.2.2 = o) {tn : Nat} {σ ρ : Nat → Int32} {S P : Nat → Nat → Int32} {φ κ τ π c : Nat → Int32} {x y kd ki sd bx tq vv : Int32} {ms C cs0 ss0 : Nat} (hms : ms < 31) (hcM : cs0 + 60 ≤ 599000) (hsM : ss0 + 330 ≤ 7300000)
    (kA : ∀ (f : Pic) (cs ss : Nat) (σk ρk q h t w b b2 : Nat → Int32) (P0 R lt B : Nat), 186 ≤ cs → cs ≤ cs0 + 60 → ss ≤ ss0 + 330 → RQ C P0 R lt B σk ρk q h t c w b b2 → wvC ms 0 σ = nI ms → wvS ms σ = σk → wvR ms σ ρ = ρk → V p l e room_1 s m #[Value.ref a0] below meth c0 Q g 28 cs ss cs (ovr f o (yaL g o σ ρ S P φ κ τ π q h t c w b b2)) 1589 [some (.ref a0), some (.ref o), some (.ref (o + 179)), some (.ref (o + 180)), some (.ref (o + 181)), some (.ref (o + 182)), some (.ref (o + 183)), some (.ref (o + 184)), some (.ref (o + 185)), some (.int (nI tn)), some (.int x), some (.int y), some (.int kd), some (.int ki), some (.int sd), some (.int bx), some (.int tq), some (.int vv), some (.int (0 : Int32)), some (.int (nI ms)), some (.int (nI ms)), some (.int (wyV (rsG σk C P0) (nTold σk P0 (rsG σk C P0)))), none, none, none, none, none, none] [])
    (kB : ∀ (f : Pic) (cs ss : Nat) (σk ρk q h t w b b2 : Nat → Int32) (P0 R lt B : Nat) (d : Nat), d < ms → 186 ≤ cs → cs ≤ cs0 + 60 → ss ≤ ss0 + 330 → RQ C P0 R lt B σk ρk q h t c w b b2 → wvC ms 0 σ = nI d → wvS ms σ = nsS σk P0 (rsG σk C P0) → wvR ms σ ρ = ρk → V p l e room_1 s m #[Value.ref a0] below meth c0 Q g 28 cs ss cs (ovr f o (yaL g o σ ρ S P φ κ τ π q h t c w b b2)) 1589 [some (.ref a0), some (.ref o), some (.ref (o + 179)), some (.ref (o + 180)), some (.ref (o + 181)), some (.ref (o + 182)), some (.ref (o + 183)), some (.ref (o + 184)), some (.ref (o + 185)), some (.int (nI tn)), some (.int x), some (.int y), some (.int kd), some (.int ki), some (.int sd), some (.int bx), some (.int tq), some (.int vv), some (.int (0 : Int32)), some (.int (nI ms)), some (.int (nI d)), some (.int (wyV (rsG σk C P0) (nTold σk P0 (rsG σk C P0)))), none, none, none, none, none, none] []) :
    ∀ (n_ : Nat) (f : Pic) (cs ss : Nat) (σk ρk q h t w b b2 : Nat → Int32) (P0 R lt B : Nat) (d : Nat), d ≤ ms → 186 ≤ cs → cs ≤ cs0 + 2 * d → ss ≤ ss0 + 11 * d → RQ C P0 R lt B σk ρk q h t c w b b2 → wvC ms 0 σ = wvC (ms - d) d σk → wvS ms σ = wvS (ms - d) σk → wvR ms σ ρ = wvR (ms - d) σk ρk → ms - d < n_ → V p l e room_1 s m #[Value.ref a0] below meth c0 Q g 28 cs ss cs (ovr f o (yaL g o σ ρ S P φ κ τ π q h t c w b b2)) 1195 [some (.ref a0), some (.ref o), some (.ref (o + 179)), some (.ref (o + 180)), some (.ref (o + 181)), some (.ref (o + 182)), some (.ref (o + 183)), some (.ref (o + 184)), some (.ref (o + 185)), some (.int (nI tn)), some (.int x), some (.int y), some (.int kd), some (.int ki), some (.int sd), some (.int bx), some (.int tq), some (.int vv), some (.int (0 : Int32)), some (.int (nI ms)), some (.int (nI d)), some (.int (wyV (rsG σk C P0) (nTold σk P0 (rsG σk C P0)))), none, none, none, none, none, none] [] := by
  intro n_
  induction n_ with
  | zero => intro f cs ss σk ρk q h t w b b2 P0 R lt B d h1 h2 h3 h4 H hwC hwS hwR hm_; exact absurd hm_ (Nat.not_lt_zero _)
  | succ n_ ih =>
    intro f cs ss σk ρk q h t w b b2 P0 R lt B d h1 h186 h3 h4 H hwC hwS hwR hm1
    have rc9 : 599000 ≤ room_1.cells := Nat.le_of_ble_eq_true rfl
    have rs9 : 7300000 ≤ room_1.slots := Nat.le_of_ble_eq_true rfl
    have hB : BB g cs o 186 := ⟨by rw [ho]; exact Nat.le_refl _, by rw [ho]; omega⟩
    obtain ⟨g9, hA, hV, hF, hYB, ⟨hR, hR20⟩, ⟨hlt, hlt20⟩, hRC, ⟨hB8, hBR⟩, hKH⟩ := id H
    obtain ⟨hC, hP, hPC, hC16⟩ := id g9
    refine v_iload X dL_law_1195 rfl ?_
    refine v_iload X dL_law_1197 rfl ?_
    refine v_icmp_ge X dL_law_1199 (tgt := 1589) (by decide) (fun c1 => ?_) (fun c1 => ?_)
    · have hd : d = ms := Nat.le_antisymm h1 (le_of_nI (by omega) (by omega) c1)
      rw [hd, Nat.sub_self] at hwC hwS hwR
      rw [hd]
      exact kA f cs ss σk ρk q h t w b b2 P0 R lt B h186 (by omega) (by omega) H hwC hwS hwR
    · have hd : d < ms := lt_of_nI (by omega) (by omega) c1
      obtain ⟨n1, e1⟩ : ∃ n1, ms - d = n1 + 1 := ⟨ms - d - 1, by omega⟩
      refine v_iload X dL_law_1202 rfl ?_
      refine v_if_ne X dL_law_1204 (tgt := 1589) (by decide) (fun c2 => ?_) (fun c2 => ?_)
      · have hz : ¬ rsG σk C P0 = 0 := fun z => c2 ((wok_v (wok_G σk C P0)).1.mpr z)
        have hz2 : ¬ rsG' σk = 0 := fun z => hz ((rsG'_eq hC hP hC16 hPC).symm.trans z)
        rw [e1, wvC, if_neg hz2] at hwC
        rw [e1, wvS, if_neg hz2, nsS', nt_of hP (by omega), rsG'_eq hC hP hC16 hPC] at hwS
        rw [e1, wvR, if_neg hz2] at hwR
        exact kB f cs ss σk ρk q h t w b b2 P0 R lt B d hd h186 (by omega) (by omega) H hwC hwS hwR
      · have hz : rsG σk C P0 = 0 := (wok_v (wok_G σk C P0)).1.mp c2
        have hz2 : rsG' σk = 0 := (rsG'_eq hC hP hC16 hPC).trans hz
        have h0 := rsG_0 hz
        obtain ⟨hC0, k9, hk9, hfl⟩ := rsC_0 h0
        have hPC1 : P0 < C := by omega
        have hq0 : q 0 = nI C := (hA.1 0 (by omega)).trans hC
        have hq1 : q 1 = nI P0 := (hA.1 1 (by omega)).trans hP
        have hq7 : q 7 = nI R := (hA.1 7 (by omega)).trans hR
        have hq8 : q 8 = nI B := (hA.1 8 (by omega)).trans hB8
        refine lk_w1 X ho h186 (by omega) (by omega) hq8 (by omega) hq0 hq1 hPC1 hC16 hk9 ((fl_eq hA hV hPC1).trans hfl) (fun f q1 b1 b3 e8 eq1 eo en => ?_)
        have p6 : pkQ q1 c P0 6 = q 6 := (pkQ_8 (by omega) (by omega) (by omega) (by omega)).trans (eq1 6 (by omega))
        have p7 : pkQ q1 c P0 7 = q 7 := (pkQ_8 (by omega) (by omega) (by omega) (by omega)).trans (eq1 7 (by omega))
        have p8 : pkQ q1 c P0 8 = q1 8 := pkQ_8 (by omega) (by omega) (by omega) (by omega)
        refine lk_w3 X ho (by omega) (by omega) (by omega) (p7.trans hq7) hR20 hk9 (fun q3 w3 e6 e7 eq3 wo wn => ?_)
        obtain ⟨v0, v1, v2, v3, v4, v5⟩ := enV_v (q := q1) (h := h) hk9
        have H2 := RQ_pick (q1 := q3) (t1 := pkT q1 c P0 t 12) (w1 := w3) (b1 := b1) (b3 := b3) H hPC1 h0 hk9 hfl (e6.trans (by rw [p6])) e7 ((eq3 8 (by omega) (by omega)).trans (p8.trans e8)) (fun i hi h6 h7 h8 => (eq3 i h6 h7).trans (pkQ_o eq1 h8)) (pkT_q (eq1 5 (by omega)) 12) wo ⟨wn.1.trans pkH_co, wn.2.trans (by rw [pkQ_5])⟩ eo ⟨(en 0 (by omega)).trans (v0.trans (eq1 1 (by omega))), (en 1 (by omega)).trans (v1.trans (eq1 3 (by omega))), (en 2 (by omega)).trans (v2.trans (eq1 4 (by omega))), (en 3 (by omega)).trans (v3.trans (eq1 5 (by omega))), (en 4 (by omega)).trans v4, (en 5 (by omega)).trans v5⟩
        refine lk_why X ho (by omega) (by omega) (by omega) H2 ?_
        refine ih f (cs + 1 + 1) (ss + 6 + 5) _ _ _ _ _ _ _ _ _ _ _ _ (d + 1) (by omega) (by omega) (by omega) (by omega) H2 ?_ ?_ ?_ (by omega)
        · rw [hwC, e1, wvC, if_pos hz2, lmS'_eq hC hP hC16 hPC1 hk9 hfl hR hR20, show ms - (d + 1) = n1 by omega]
        · rw [hwS, e1, wvS, if_pos hz2, lmS'_eq hC hP hC16 hPC1 hk9 hfl hR hR20, show ms - (d + 1) = n1 by omega]
        · rw [hwR, e1, wvR, if_pos hz2, lmS'_eq hC hP hC16 hPC1 hk9 hfl hR hR20, lmR'_eq hP hC16 hPC1 hk9 hfl hlt hlt20, show ms - (d + 1) = n1 by omega]
set_option maxRecDepth 100000 in
set_option maxHeartbeats 4000000 in
theorem lk_wA {p : Program} {l : Launch} {e : Env} {s : State} {m : MethodId} {below : List Frame} {meth : Method} {c0 : Code} {Q : State → Prop} {g : Ge} {a0 o : Nat} (X : Cx p #[Value.ref a0] s m meth c0 g cL_law 28 RL ret 0) (ho : g.2.2 = o) {f : Pic} {cs ss tn cs0 ss0 : Nat} {σ ρ : Nat → Int32} {S P : Nat → Nat → Int32} {φ κ τ π q h t c w b b2 : Nat → Int32} {σk ρk : Nat → Int32} {x y kd ki sd bx tq vv : Int32} {ms : Nat} {C P0 R lt B : Nat} (hm0 : 0 < ms) (hms : ms < 31) (h186 : 186 ≤ cs) (hcM : cs0 + 60 ≤ 599000) (hsM : ss0 + 330 ≤ 7300000) (h60 : cs ≤ cs0 + 60) (h330 : ss ≤ ss0 + 330) (hLV : LVd σ ρ) (hPI : PI π) (H : RQ C P0 R lt B σk ρk q h t c w b b2) (hwC : wvC ms 0 σ = nI ms) (hwS : wvS ms σ = σk) (hwR : wvR ms σ ρ = ρk)
    (kk : ∀ (f : Pic) (cs' ss' : Nat) (σ' ρ' : Nat → Int32) (S' P' : Nat → Nat → Int32) (φ' π' q' h' t' c' w' b' b2' : Nat → Int32) (C' P0' R' lt' B' : Nat) (ot : Int32), 186 ≤ cs' → cs' ≤ cs0 + 60 → ss' ≤ ss0 + 330 → RQ C' P0' R' lt' B' σ' ρ' (upd q' 8 (if ot = 0 then q' 8 else 0)) h' t' c' w' b' b2' → PI π' → V p l e room_1 s m #[Value.ref a0] below meth c0 Q g 28 cs' ss' cs' (ovr f o (yaL g o σ' ρ' S' P' φ' κ τ π' q' h' t' c' w' b' b2')) 1826 [some (.ref a0), some (.ref o), some (.ref (o + 179)), some (.ref (o + 180)), some (.ref (o + 181)), some (.ref (o + 182)), some (.ref (o + 183)), some (.ref (o + 184)), some (.ref (o + 185)), some (.int (nI tn)), some (.int x), some (.int y), some (.int kd), some (.int ki), some (.int sd), some (.int bx), some (.int tq), some (.int vv), some (.int ot), none, none, none, none, none, none, none, none, none] []) :
    V p l e room_1 s m #[Value.ref a0] below meth c0 Q g 28 cs ss cs (ovr f o (yaL g o σ ρ S P φ κ τ π q h t c w b b2)) 1589 [some (.ref a0), some (.ref o), some (.ref (o + 179)), some (.ref (o + 180)), some (.ref (o + 181)), some (.ref (o + 182)), some (.ref (o + 183)), some (.ref (o + 184)), some (.ref (o + 185)), some (.int (nI tn)), some (.int x), some (.int y), some (.int kd), some (.int ki), some (.int sd), some (.int bx), some (.int tq), some (.int vv), some (.int (0 : Int32)), some (.int (nI ms)), some (.int (nI ms)), some (.int (wyV (rsG σk C P0) (nTold σk P0 (rsG σk C P0)))), none, none, none, none, none, none] [] := by
  have rc9 : 599000 ≤ room_1.cells := Nat.le_of_ble_eq_true rfl
  have rs9 : 7300000 ≤ room_1.slots := Nat.le_of_ble_eq_true rfl
  have hcs : cs + 0 ≤ room_1.cells ∧ ss + 0 ≤ room_1.slots := ⟨by omega, by omega⟩
  have hB : BB g cs o 186 := ⟨by rw [ho]; exact Nat.le_refl _, by rw [ho]; omega⟩
  obtain ⟨g9, hA, hV, hF, hYB, ⟨hR, hR20⟩, ⟨hlt, hlt20⟩, hRC, ⟨hB8, hBR⟩, hKH⟩ := id H
  have hC16 := g9.2.2.2
  obtain ⟨qq, nn, hq, hq6, hn, hn6⟩ := id hPI
  refine v_aload_n X dL_law_1589 (i := 1) rfl rfl ?_
  refine v_iload X dL_law_1590 rfl ?_
  refine v_cvB X (Nat.zero_add _).symm yv_X7_weave m_ml_L_114 0 0 (c_X7_weave l g cs o σ ρ S P φ κ τ π qq nn hq hq6 hn hn6 (nI ms) hLV) hB (Nat.le_of_ble_eq_true rfl) rfl (Nat.le_of_ble_eq_true rfl) rfl (L' := (yaL g o (if (wvE (nI ms)) = 0 then wvS (nt (nI ms)) σ else σ) (if (wvE (nI ms)) = 0 then wvR (nt (nI ms)) σ ρ else ρ) (svS (wvE (nI ms)) S qq σ) (svS (wvE (nI ms)) P qq ρ) φ κ τ (svπ (wvE (nI ms)) π qq nn) q h t c w b b2)) (rfl) rfl (Nat.le_of_ble_eq_true rfl) rfl rfl (Nat.le_of_ble_eq_true rfl) ⟨Nat.le_of_ble_eq_true rfl, Nat.le_of_ble_eq_true rfl⟩ hcs dL_law_1592 rfl ?_
  have hE : (wvE (nI ms)) = 0 := E_wv hm0 (by omega)
  rw [if_pos hE, if_pos hE, if_pos hE, nt_nI (by omega), hwC, hwS, hwR]
  refine v_iload X dL_law_1595 rfl ?_
  refine v_icmp_eq X dL_law_1597 (tgt := 1602) (by decide) (fun c1597 => ?_) (fun c1597 => ?_)
  · skip
    refine v_iload X dL_law_1602 rfl ?_
    refine v_iload X dL_law_1604 rfl ?_
    refine v_icmp_ge X dL_law_1606 (tgt := 1635) (by decide) (fun c1606 => ?_) (fun c1606 => ?_)
    · skip
      refine v_goto X dL_law_1635 (tgt := 1826) (by decide) ?_
      refine v_drop 19 ?_
      refine v_drop 20 ?_
      refine v_drop 21 ?_
      exact kk f cs ss σk ρk (svS (wvE (nI ms)) S qq σ) (svS (wvE (nI ms)) P qq ρ) φ (svπ (wvE (nI ms)) π qq nn) q h t c w b b2 C P0 R lt B 0 h186 (by omega) (by omega) (by rw [if_pos rfl, up_self]; exact H) (PI_sv hPI hq6 hn6)
    · skip
      exact absurd (lt_of_nI (by omega) (by omega) c1606) (by omega)
  · skip
    exact absurd rfl c1597
set_option maxRecDepth 100000 in
set_option maxHeartbeats 4000000 in
theorem lk_wB {p : Program} {l : Launch} {e : Env} {s : State} {m : MethodId} {below : List Frame} {meth : Method} {c0 : Code} {Q : State → Prop} {g : Ge} {a0 o : Nat} (X : Cx p #[Value.ref a0] s m meth c0 g cL_law 28 RL ret 0) (ho : g.2.2 = o) {f : Pic} {cs ss tn cs0 ss0 : Nat} {σ ρ : Nat → Int32} {S P : Nat → Nat → Int32} {φ κ τ π q h t c w b b2 : Nat → Int32} {σk ρk : Nat → Int32} {x y kd ki sd bx tq vv : Int32} {ms d : Nat} {C P0 R lt B : Nat} (hm0 : 0 < ms) (hms : ms < 31) (hd : d < ms) (h186 : 186 ≤ cs) (hcM : cs0 + 60 ≤ 599000) (hsM : ss0 + 330 ≤ 7300000) (h60 : cs ≤ cs0 + 60) (h330 : ss ≤ ss0 + 330) (hLV : LVd σ ρ) (hPI : PI π) (H : RQ C P0 R lt B σk ρk q h t c w b b2) (hwC : wvC ms 0 σ = nI d) (hwS : wvS ms σ = nsS σk P0 (rsG σk C P0)) (hwR : wvR ms σ ρ = ρk)
    (kk : ∀ (f : Pic) (cs' ss' : Nat) (σ' ρ' : Nat → Int32) (S' P' : Nat → Nat → Int32) (φ' π' q' h' t' c' w' b' b2' : Nat → Int32) (C' P0' R' lt' B' : Nat) (ot : Int32), 186 ≤ cs' → cs' ≤ cs0 + 60 → ss' ≤ ss0 + 330 → RQ C' P0' R' lt' B' σ' ρ' (upd q' 8 (if ot = 0 then q' 8 else 0)) h' t' c' w' b' b2' → PI π' → V p l e room_1 s m #[Value.ref a0] below meth c0 Q g 28 cs' ss' cs' (ovr f o (yaL g o σ' ρ' S' P' φ' κ τ π' q' h' t' c' w' b' b2')) 1826 [some (.ref a0), some (.ref o), some (.ref (o + 179)), some (.ref (o + 180)), some (.ref (o + 181)), some (.ref (o + 182)), some (.ref (o + 183)), some (.ref (o + 184)), some (.ref (o + 185)), some (.int (nI tn)), some (.int x), some (.int y), some (.int kd), some (.int ki), some (.int sd), some (.int bx), some (.int tq), some (.int vv), some (.int ot), none, none, none, none, none, none, none, none, none] []) :
    V p l e room_1 s m #[Value.ref a0] below meth c0 Q g 28 cs ss cs (ovr f o (yaL g o σ ρ S P φ κ τ π q h t c w b b2)) 1589 [some (.ref a0), some (.ref o), some (.ref (o + 179)), some (.ref (o + 180)), some (.ref (o + 181)), some (.ref (o + 182)), some (.ref (o + 183)), some (.ref (o + 184)), some (.ref (o + 185)), some (.int (nI tn)), some (.int x), some (.int y), some (.int kd), some (.int ki), some (.int sd), some (.int bx), some (.int tq), some (.int vv), some (.int (0 : Int32)), some (.int (nI ms)), some (.int (nI d)), some (.int (wyV (rsG σk C P0) (nTold σk P0 (rsG σk C P0)))), none, none, none, none, none, none] [] := by
  have rc9 : 599000 ≤ room_1.cells := Nat.le_of_ble_eq_true rfl
  have rs9 : 7300000 ≤ room_1.slots := Nat.le_of_ble_eq_true rfl
  have hcs : cs + 0 ≤ room_1.cells ∧ ss + 0 ≤ room_1.slots := ⟨by omega, by omega⟩
  have hB : BB g cs o 186 := ⟨by rw [ho]; exact Nat.le_refl _, by rw [ho]; omega⟩
  obtain ⟨g9, hA, hV, hF, hYB, ⟨hR, hR20⟩, ⟨hlt, hlt20⟩, hRC, ⟨hB8, hBR⟩, hKH⟩ := id H
  have hC16 := g9.2.2.2
  obtain ⟨qq, nn, hq, hq6, hn, hn6⟩ := id hPI
  refine v_aload_n X dL_law_1589 (i := 1) rfl rfl ?_
  refine v_iload X dL_law_1590 rfl ?_
  refine v_cvB X (Nat.zero_add _).symm yv_X7_weave m_ml_L_114 0 0 (c_X7_weave l g cs o σ ρ S P φ κ τ π qq nn hq hq6 hn hn6 (nI ms) hLV) hB (Nat.le_of_ble_eq_true rfl) rfl (Nat.le_of_ble_eq_true rfl) rfl (L' := (yaL g o (if (wvE (nI ms)) = 0 then wvS (nt (nI ms)) σ else σ) (if (wvE (nI ms)) = 0 then wvR (nt (nI ms)) σ ρ else ρ) (svS (wvE (nI ms)) S qq σ) (svS (wvE (nI ms)) P qq ρ) φ κ τ (svπ (wvE (nI ms)) π qq nn) q h t c w b b2)) (rfl) rfl (Nat.le_of_ble_eq_true rfl) rfl rfl (Nat.le_of_ble_eq_true rfl) ⟨Nat.le_of_ble_eq_true rfl, Nat.le_of_ble_eq_true rfl⟩ hcs dL_law_1592 rfl ?_
  have hE : (wvE (nI ms)) = 0 := E_wv hm0 (by omega)
  rw [if_pos hE, if_pos hE, if_pos hE, nt_nI (by omega), hwC, hwS, hwR]
  refine v_iload X dL_law_1595 rfl ?_
  refine v_icmp_eq X dL_law_1597 (tgt := 1602) (by decide) (fun c1597 => ?_) (fun c1597 => ?_)
  · skip
    refine v_iload X dL_law_1602 rfl ?_
    refine v_iload X dL_law_1604 rfl ?_
    refine v_icmp_ge X dL_law_1606 (tgt := 1635) (by decide) (fun c1606 => ?_) (fun c1606 => ?_)
    · skip
      exact absurd (le_of_nI (by omega) (by omega) c1606) (by omega)
    · skip
      refine v_aload_n X dL_law_1609 (i := 2) rfl rfl ?_
      refine v_bipush X dL_law_1610 (v := (9 : Int32)) (by decide) ?_
      refine v_iload X dL_law_1612 rfl ?_
      refine v_cs X (Nat.zero_add _).symm yv_L_reason m_ml_L_24 (c_L_reason l g (wyV (rsG σk C P0) (nTold σk P0 (rsG σk C P0))) ) rfl rfl (Nat.le_of_ble_eq_true rfl) ⟨Nat.le_of_ble_eq_true rfl, Nat.le_of_ble_eq_true rfl⟩ hcs dL_law_1614 rfl ?_
      rw [(wok_v (wok_G σk C P0)).2.1]
      refine v_iastB X hB dL_law_1617 179 (Nat.le_of_ble_eq_true rfl) rfl 9 rfl (by omega) (Nat.le_of_ble_eq_true rfl) (L' := (yaL g o (nsS σk P0 (rsG σk C P0)) ρk (svS (wvE (nI ms)) S qq σ) (svS (wvE (nI ms)) P qq ρ) φ κ τ (svπ (wvE (nI ms)) π qq nn) (upd q 9 (rsG σk C P0)) h t c w b b2)) rfl ?_
      refine v_aload_n X dL_law_1618 (i := 2) rfl rfl ?_
      refine v_bipush X dL_law_1619 (v := (10 : Int32)) (by decide) ?_
      refine v_iload X dL_law_1621 rfl ?_
      refine v_cs X (Nat.zero_add _).symm yv_L_number m_ml_L_28 (c_L_number l g (wyV (rsG σk C P0) (nTold σk P0 (rsG σk C P0))) ) rfl rfl (Nat.le_of_ble_eq_true rfl) ⟨Nat.le_of_ble_eq_true rfl, Nat.le_of_ble_eq_true rfl⟩ hcs dL_law_1623 rfl ?_
      rw [(wok_v (wok_G σk C P0)).2.2]
      refine v_iastB X hB dL_law_1626 179 (Nat.le_of_ble_eq_true rfl) rfl 10 rfl (by omega) (Nat.le_of_ble_eq_true rfl) (L' := (yaL g o (nsS σk P0 (rsG σk C P0)) ρk (svS (wvE (nI ms)) S qq σ) (svS (wvE (nI ms)) P qq ρ) φ κ τ (svπ (wvE (nI ms)) π qq nn) (upd (upd q 9 (rsG σk C P0)) 10 (nTold σk P0 (rsG σk C P0))) h t c w b b2)) rfl ?_
      refine v_aload_n X dL_law_1627 (i := 2) rfl rfl ?_
      refine v_bipush X dL_law_1628 (v := (11 : Int32)) (by decide) ?_
      refine v_dup2 X dL_law_1630 rfl rfl ?_
      refine v_ialdB X hB dL_law_1631 179 (Nat.le_of_ble_eq_true rfl) rfl 11 rfl (by omega) (Nat.le_of_ble_eq_true rfl) ?_
      refine v_iconst X dL_law_1632 (v := (1 : Int32)) (by decide) ?_
      refine v_iadd X dL_law_1633 ?_
      rw [show (upd (upd q 9 (rsG σk C P0)) 10 (nTold σk P0 (rsG σk C P0))) 11 = q 11 from by rw [pk_un (by omega), pk_un (by omega)]]
      refine v_iastB X hB dL_law_1634 179 (Nat.le_of_ble_eq_true rfl) rfl 11 rfl (by omega) (Nat.le_of_ble_eq_true rfl) (L' := (yaL g o (nsS σk P0 (rsG σk C P0)) ρk (svS (wvE (nI ms)) S qq σ) (svS (wvE (nI ms)) P qq ρ) φ κ τ (svπ (wvE (nI ms)) π qq nn) (upd (upd (upd q 9 (rsG σk C P0)) 10 (nTold σk P0 (rsG σk C P0))) 11 ((q 11) + (1 : Int32))) h t c w b b2)) rfl ?_
      refine v_goto X dL_law_1635 (tgt := 1826) (by decide) ?_
      refine v_drop 19 ?_
      refine v_drop 20 ?_
      refine v_drop 21 ?_
      exact kk f cs ss (nsS σk P0 (rsG σk C P0)) ρk (svS (wvE (nI ms)) S qq σ) (svS (wvE (nI ms)) P qq ρ) φ (svπ (wvE (nI ms)) π qq nn) (upd (upd (upd q 9 (rsG σk C P0)) 10 (nTold σk P0 (rsG σk C P0))) 11 ((q 11) + (1 : Int32))) h t c w b b2 C P0 R lt B 0 h186 (by omega) (by omega) (by rw [if_pos rfl, up_self]; exact RQ_stop H (by rcases g9.2.2.1 with z | z; exact nT_up z; rw [show rsG σk C P0 = 1 from by rw [rsG, if_pos z.1]]; exact nT_up1) (by rw [pk_un (by omega), pk_un (by omega), pk_us]) (by rw [pk_un (by omega), pk_us]) pk_us (fun i hi => by rw [pk_un (by omega), pk_un (by omega), pk_un (by omega)])) (PI_sv hPI hq6 hn6)
  · skip
    exact absurd rfl c1597
set_option maxRecDepth 100000 in
set_option maxHeartbeats 4000000 in
theorem lk_w0 {p : Program} {l : Launch} {e : Env} {s : State} {m : MethodId} {below : List Frame} {meth : Method} {c0 : Code} {Q : State → Prop} {g : Ge} {a0 o : Nat} (X : Cx p #[Value.ref a0] s m meth c0 g cL_law 28 RL ret 0) (ho : g.2.2 = o) {f : Pic} {cs ss tn : Nat} {σ ρ : Nat → Int32} {S P : Nat → Nat → Int32} {φ κ τ π q h t c w b b2 : Nat → Int32} {x y kd ki sd bx tq vv : Int32} {ms : Nat} {C P0 R lt B : Nat} (hm0 : 0 < ms) (hms : ms < 31) (h186 : 186 ≤ cs) (hcM : cs + 60 ≤ 599000) (hsM : ss + 330 ≤ 7300000) (H : RQ C P0 R lt B σ ρ q h t c w b b2) (hPI : PI π)
    (kk : ∀ (f : Pic) (cs' ss' : Nat) (σ' ρ' : Nat → Int32) (S' P' : Nat → Nat → Int32) (φ' π' q' h' t' c' w' b' b2' : Nat → Int32) (C' P0' R' lt' B' : Nat) (ot : Int32), 186 ≤ cs' → cs' ≤ cs + 60 → ss' ≤ ss + 330 → RQ C' P0' R' lt' B' σ' ρ' (upd q' 8 (if ot = 0 then q' 8 else 0)) h' t' c' w' b' b2' → PI π' → V p l e room_1 s m #[Value.ref a0] below meth c0 Q g 28 cs' ss' cs' (ovr f o (yaL g o σ' ρ' S' P' φ' κ τ π' q' h' t' c' w' b' b2')) 1826 [some (.ref a0), some (.ref o), some (.ref (o + 179)), some (.ref (o + 180)), some (.ref (o + 181)), some (.ref (o + 182)), some (.ref (o + 183)), some (.ref (o + 184)), some (.ref (o + 185)), some (.int (nI tn)), some (.int x), some (.int y), some (.int kd), some (.int ki), some (.int sd), some (.int bx), some (.int tq), some (.int vv), some (.int ot), none, none, none, none, none, none, none, none, none] []) :
    V p l e room_1 s m #[Value.ref a0] below meth c0 Q g 28 cs ss cs (ovr f o (yaL g o σ ρ S P φ κ τ π q h t c w b b2)) 1177 [some (.ref a0), some (.ref o), some (.ref (o + 179)), some (.ref (o + 180)), some (.ref (o + 181)), some (.ref (o + 182)), some (.ref (o + 183)), some (.ref (o + 184)), some (.ref (o + 185)), some (.int (nI tn)), some (.int x), some (.int y), some (.int kd), some (.int ki), some (.int sd), some (.int bx), some (.int tq), some (.int vv), some (.int (1 : Int32)), some (.int (nI ms)), none, none, none, none, none, none, none, none] [] := by
  have rc9 : 599000 ≤ room_1.cells := Nat.le_of_ble_eq_true rfl
  have rs9 : 7300000 ≤ room_1.slots := Nat.le_of_ble_eq_true rfl
  have hcs : cs + 0 ≤ room_1.cells ∧ ss + 0 ≤ room_1.slots := ⟨by omega, by omega⟩
  have hB : BB g cs o 186 := ⟨by rw [ho]; exact Nat.le_refl _, by rw [ho]; omega⟩
  obtain ⟨g9, hA, hV, hF, hYB, ⟨hR, hR20⟩, ⟨hlt, hlt20⟩, hRC, ⟨hB8, hBR⟩, hKH⟩ := id H
  have hC16 := g9.2.2.2
  have hY := YB_n hYB
  have hLV : LVd σ ρ := ⟨⟨C, P0, g9⟩, ⟨R, hR, hR20⟩, lt, hlt, hlt20⟩
  refine v_iconst X dL_law_1177 (v := (0 : Int32)) (by decide) ?_
  refine v_istore X dL_law_1178 (Nat.le_of_ble_eq_true rfl) rfl ?_
  refine v_iconst X dL_law_1180 (v := (1 : Int32)) (by decide) ?_
  refine v_aload_n X dL_law_1181 (i := 2) rfl rfl ?_
  refine v_aload_n X dL_law_1182 (i := 3) rfl rfl ?_
  refine v_aload X dL_law_1183 rfl ?_
  refine v_aload X dL_law_1185 rfl ?_
  refine v_csB2 X (Nat.zero_add _).symm yv_L_why m_ml_L_16 179 (c_L_why_1 l g cs (o + 179) (o + 182) σ q h t c C P0 hA g9 hV hY) hB (OB.of 179 182 hB rfl rfl (Nat.le_of_ble_eq_true rfl) (Or.inl (Nat.le_of_ble_eq_true rfl)) rfl rfl) (Nat.le_of_ble_eq_true rfl) rfl (Nat.le_of_ble_eq_true rfl) rfl (L' := (yaL g o σ ρ S P φ κ τ π q h t c w b b2)) (rfl) rfl rfl (Nat.le_of_ble_eq_true rfl) ⟨Nat.le_of_ble_eq_true rfl, Nat.le_of_ble_eq_true rfl⟩ hcs dL_law_1187 rfl ?_
  refine v_istore X dL_law_1190 (Nat.le_of_ble_eq_true rfl) rfl ?_
  refine v_iconst X dL_law_1192 (v := (0 : Int32)) (by decide) ?_
  refine v_istore X dL_law_1193 (Nat.le_of_ble_eq_true rfl) rfl ?_
  exact lk_wl X ho (σ := σ) (ρ := ρ) hms hcM hsM (fun f cs' ss' σk ρk q h t w b b2 P0 R lt B a1 a2 a3 H2 w1 w2 w3 => lk_wA X ho hm0 hms a1 hcM hsM a2 a3 hLV hPI H2 w1 w2 w3 kk) (fun f cs' ss' σk ρk q h t w b b2 P0 R lt B d hd a1 a2 a3 H2 w1 w2 w3 => lk_wB X ho hm0 hms hd a1 hcM hsM a2 a3 hLV hPI H2 w1 w2 w3 kk) (ms + 1) f cs ss σ ρ q h t w b b2 P0 R lt B 0 (Nat.zero_le _) h186 (by omega) (by omega) H rfl rfl rfl (by omega)
set_option maxRecDepth 100000 in
set_option maxHeartbeats 4000000 in
theorem lk_12 {p : Program} {l : Launch} {e : Env} {s : State} {m : MethodId} {below : List Frame} {meth : Method} {c0 : Code} {Q : State → Prop} {g : Ge} {a0 o : Nat} (X : Cx p #[Value.ref a0] s m meth c0 g cL_law 28 RL ret 0) (ho : g.2.2 = o) {f : Pic} {cs ss tn : Nat} {σ ρ : Nat → Int32} {S P : Nat → Nat → Int32} {φ κ τ π q h t c w b b2 : Nat → Int32} {x y kd ki sd bx tq vv : Int32} {C P0 R lt B : Nat} (h186 : 186 ≤ cs) (hcM : cs + 60 ≤ 599000) (hsM : ss + 330 ≤ 7300000) (H : RQ C P0 R lt B σ ρ q h t c w b b2) (hPI : PI π)
    (kk : ∀ (f : Pic) (cs' ss' : Nat) (σ' ρ' : Nat → Int32) (S' P' : Nat → Nat → Int32) (φ' π' q' h' t' c' w' b' b2' : Nat → Int32) (C' P0' R' lt' B' : Nat) (ot : Int32), 186 ≤ cs' → cs' ≤ cs + 60 → ss' ≤ ss + 330 → RQ C' P0' R' lt' B' σ' ρ' (upd q' 8 (if ot = 0 then q' 8 else 0)) h' t' c' w' b' b2' → PI π' → V p l e room_1 s m #[Value.ref a0] below meth c0 Q g 28 cs' ss' cs' (ovr f o (yaL g o σ' ρ' S' P' φ' κ τ π' q' h' t' c' w' b' b2')) 1826 [some (.ref a0), some (.ref o), some (.ref (o + 179)), some (.ref (o + 180)), some (.ref (o + 181)), some (.ref (o + 182)), some (.ref (o + 183)), some (.ref (o + 184)), some (.ref (o + 185)), some (.int (nI tn)), some (.int x), some (.int y), some (.int kd), some (.int ki), some (.int sd), some (.int bx), some (.int tq), some (.int vv), some (.int ot), none, none, none, none, none, none, none, none, none] []) :
    V p l e room_1 s m #[Value.ref a0] below meth c0 Q g 28 cs ss cs (ovr f o (yaL g o σ ρ S P φ κ τ π q h t c w b b2)) 1151 [some (.ref a0), some (.ref o), some (.ref (o + 179)), some (.ref (o + 180)), some (.ref (o + 181)), some (.ref (o + 182)), some (.ref (o + 183)), some (.ref (o + 184)), some (.ref (o + 185)), some (.int (nI tn)), some (.int x), some (.int y), some (.int kd), some (.int ki), some (.int sd), some (.int bx), some (.int tq), some (.int vv), some (.int (1 : Int32)), none, none, none, none, none, none, none, none, none] [] := by
  have rc9 : 599000 ≤ room_1.cells := Nat.le_of_ble_eq_true rfl
  have rs9 : 7300000 ≤ room_1.slots := Nat.le_of_ble_eq_true rfl
  have hcs : cs + 0 ≤ room_1.cells ∧ ss + 0 ≤ room_1.slots := ⟨by omega, by omega⟩
  refine v_iconst X dL_law_1151 (v := (1 : Int32)) (by decide) ?_
  refine v_iload X dL_law_1152 rfl ?_
  refine v_iload X dL_law_1154 rfl ?_
  refine v_iconst X dL_law_1156 (v := (5 : Int32)) (by decide) ?_
  refine v_ishr X dL_law_1157 ?_
  refine v_iconst X dL_law_1158 (v := (3 : Int32)) (by decide) ?_
  refine v_cs X (Nat.zero_add _).symm yv_L_low m_ml_L_62 (c_L_low l g (3 : Int32) 3 rfl (x >>> ((5 : Int32) &&& 31)) (by decide) (by decide)) rfl rfl (Nat.le_of_ble_eq_true rfl) ⟨Nat.le_of_ble_eq_true rfl, Nat.le_of_ble_eq_true rfl⟩ hcs dL_law_1159 rfl ?_
  refine v_if_ne X dL_law_1162 (tgt := 1170) (by decide) (fun c1162 => ?_) (fun c1162 => ?_)
  · skip
    refine v_iconst X dL_law_1170 (v := (4 : Int32)) (by decide) ?_
    refine v_cs X (Nat.zero_add _).symm yv_L_low m_ml_L_62 (c_L_low l g (4 : Int32) 4 rfl y (by decide) (by decide)) rfl rfl (Nat.le_of_ble_eq_true rfl) ⟨Nat.le_of_ble_eq_true rfl, Nat.le_of_ble_eq_true rfl⟩ hcs dL_law_1171 rfl ?_
    obtain ⟨mq, hmq, emq⟩ : ∃ k, k < 4 ∧ (lwF y 4) = nI k := lwF_lt (by decide) (by decide)
    rw [emq]
    refine v_iadd X dL_law_1174 ?_
    obtain ⟨ms, hm0, hms, ems⟩ : ∃ k, 0 < k ∧ k < 31 ∧ ((1 : Int32) + (nI mq)) = nI k := ⟨1 + mq, by omega, by omega, ix_add rfl rfl⟩
    rw [ems]
    refine v_istore X dL_law_1175 (Nat.le_of_ble_eq_true rfl) rfl ?_
    exact lk_w0 X ho hm0 hms h186 hcM hsM H hPI kk
  · skip
    refine v_bipush X dL_law_1165 (v := (30 : Int32)) (by decide) ?_
    refine v_goto X dL_law_1167 (tgt := 1171) (by decide) ?_
    refine v_cs X (Nat.zero_add _).symm yv_L_low m_ml_L_62 (c_L_low l g (30 : Int32) 30 rfl y (by decide) (by decide)) rfl rfl (Nat.le_of_ble_eq_true rfl) ⟨Nat.le_of_ble_eq_true rfl, Nat.le_of_ble_eq_true rfl⟩ hcs dL_law_1171 rfl ?_
    obtain ⟨mq, hmq, emq⟩ : ∃ k, k < 30 ∧ (lwF y 30) = nI k := lwF_lt (by decide) (by decide)
    rw [emq]
    refine v_iadd X dL_law_1174 ?_
    obtain ⟨ms, hm0, hms, ems⟩ : ∃ k, 0 < k ∧ k < 31 ∧ ((1 : Int32) + (nI mq)) = nI k := ⟨1 + mq, by omega, by omega, ix_add rfl rfl⟩
    rw [ems]
    refine v_istore X dL_law_1175 (Nat.le_of_ble_eq_true rfl) rfl ?_
    exact lk_w0 X ho hm0 hms h186 hcM hsM H hPI kk
