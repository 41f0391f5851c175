/-! the law's main method: shuttles into boxes and out of them -/
theorem h_m1 {C k : Nat} {σ q h t c : Nat → Int32} (hA : RA C σ q h t c) (hV : VR C σ) (hk : k < 5) (h1 : h (3 * k + 2) < 0) : h (3 * k + 2) = -1 := by
  rw [(hA.2.1 k hk).2.2] at h1 ⊢
  exact wh_d ((wh_neg hV hk).mp h1)
theorem pl_ok {s z : Nat} (hs : (s = 0 ∧ z < 4) ∨ (s = 1 ∧ z < 2)) : (nI s = -6 ∧ nI z = -6) ∨ (nI s = 0 ∧ ∃ y, y < 4 ∧ nI z = nI y) ∨ (nI s = 1 ∧ ∃ y, y < 2 ∧ nI z = nI y) := by
  rcases hs with ⟨e, hz⟩ | ⟨e, hz⟩
  · exact Or.inr (Or.inl ⟨by rw [e]; rfl, z, hz, rfl⟩)
  · exact Or.inr (Or.inr ⟨by rw [e]; rfl, z, hz, rfl⟩)
theorem pl_v {s z : Nat} (hs : (s = 0 ∧ z < 4) ∨ (s = 1 ∧ z < 2)) : (10 : Int32) * nI s + nI z = if nI s = -6 then -1 else 10 * nI s + nI z := by
  rw [if_neg ?_]
  rcases hs with ⟨e, -⟩ | ⟨e, -⟩ <;> rw [e] <;> decide
set_option maxRecDepth 100000 in
set_option maxHeartbeats 4000000 in
theorem lk_0 {p : Program} {l : Launch} {e : Env} {s : State} {m : MethodId} {below : List Frame} {meth : Method} {c0 : Code} {Q : State → Prop} {g : Ge} {a0 o : Nat} (X : Cx p #[Value.ref a0] s m meth c0 g cL_law 28 RL ret 0) (ho : g.2.2 = o) {f : Pic} {cs ss tn : Nat} {σ ρ : Nat → Int32} {S P : Nat → Nat → Int32} {φ κ τ π q h t c w b b2 : Nat → Int32} {x y kd tq vv : Int32} {k sN z : Nat} (hk : k < 5) (hs : (sN = 0 ∧ z < 4) ∨ (sN = 1 ∧ z < 2)) {C P0 R lt B : Nat} (h186 : 186 ≤ cs) (hcM : cs + 60 ≤ 599000) (hsM : ss + 330 ≤ 7300000) (H : RQ C P0 R lt B σ ρ q h t c w b b2) (hPI : PI π)
    (kk : ∀ (f : Pic) (cs' ss' : Nat) (σ' ρ' : Nat → Int32) (S' P' : Nat → Nat → Int32) (φ' π' q' h' t' c' w' b' b2' : Nat → Int32) (C' P0' R' lt' B' : Nat) (ot : Int32), 186 ≤ cs' → cs' ≤ cs + 60 → ss' ≤ ss + 330 → RQ C' P0' R' lt' B' σ' ρ' (upd q' 8 (if ot = 0 then q' 8 else 0)) h' t' c' w' b' b2' → PI π' → V p l e room_1 s m #[Value.ref a0] below meth c0 Q g 28 cs' ss' cs' (ovr f o (yaL g o σ' ρ' S' P' φ' κ τ π' q' h' t' c' w' b' b2')) 1826 [some (.ref a0), some (.ref o), some (.ref (o + 179)), some (.ref (o + 180)), some (.ref (o + 181)), some (.ref (o + 182)), some (.ref (o + 183)), some (.ref (o + 184)), some (.ref (o + 185)), some (.int (nI tn)), some (.int x), some (.int y), some (.int kd), some (.int (nI k)), some (.int (nI sN)), some (.int (nI z)), some (.int tq), some (.int vv), some (.int ot), none, none, none, none, none, none, none, none, none] []) :
    V p l e room_1 s m #[Value.ref a0] below meth c0 Q g 28 cs ss cs (ovr f o (yaL g o σ ρ S P φ κ τ π q h t c w b b2)) 282 [some (.ref a0), some (.ref o), some (.ref (o + 179)), some (.ref (o + 180)), some (.ref (o + 181)), some (.ref (o + 182)), some (.ref (o + 183)), some (.ref (o + 184)), some (.ref (o + 185)), some (.int (nI tn)), some (.int x), some (.int y), some (.int kd), some (.int (nI k)), some (.int (nI sN)), some (.int (nI z)), some (.int tq), some (.int vv), some (.int (1 : Int32)), none, none, none, none, none, none, none, none, none] [] := by
  have rc9 : 599000 ≤ room_1.cells := Nat.le_of_ble_eq_true rfl
  have rs9 : 7300000 ≤ room_1.slots := Nat.le_of_ble_eq_true rfl
  have hcs : cs + 0 ≤ room_1.cells ∧ ss + 0 ≤ room_1.slots := ⟨by omega, by omega⟩
  have hB : BB g cs o 186 := ⟨by rw [ho]; exact Nat.le_refl _, by rw [ho]; omega⟩
  obtain ⟨qq, nn, hq, hq6, hn, hn6⟩ := id hPI
  obtain ⟨g9, hA, hV, hF, hYB, ⟨hR, hR20⟩, ⟨hlt, hlt20⟩, hRC, ⟨hB8, hBR⟩, hKH⟩ := id H
  have hC16 := g9.2.2.2
  refine v_aload_n X dL_law_282 (i := 3) rfl rfl ?_
  refine v_iconst X dL_law_283 (v := (3 : Int32)) (by decide) ?_
  refine v_iload X dL_law_284 rfl ?_
  refine v_imul X dL_law_286 ?_
  refine v_iconst X dL_law_287 (v := (2 : Int32)) (by decide) ?_
  refine v_iadd X dL_law_288 ?_
  refine v_ialdB X hB dL_law_289 180 (Nat.le_of_ble_eq_true rfl) rfl ((3 * k) + 2) (ix_add (ix_mul rfl rfl) rfl) (by omega) (Nat.le_of_ble_eq_true rfl) ?_
  refine v_if_ge X dL_law_290 (tgt := 312) (by decide) (fun c290 => ?_) (fun c290 => ?_)
  · skip
    refine v_iconst X dL_law_312 (v := (0 : Int32)) (by decide) ?_
    refine v_istore X dL_law_313 (Nat.le_of_ble_eq_true rfl) rfl ?_
    refine v_iconst X dL_law_315 (v := (1 : Int32)) (by decide) ?_
    refine v_istore X dL_law_316 (Nat.le_of_ble_eq_true rfl) rfl ?_
    refine v_iconst X dL_law_318 (v := (0 : Int32)) (by decide) ?_
    refine v_istore X dL_law_319 (Nat.le_of_ble_eq_true rfl) rfl ?_
    have LP321 : ∀ (n_ : Nat) (i : Nat), (i ≤ 5) → 5 - i < n_ → V p l e room_1 s m #[Value.ref a0] below meth c0 Q g 28 cs ss cs (ovr f o (yaL g o σ ρ S P φ κ τ π q h t c w b b2)) 321 [some (.ref a0), some (.ref o), some (.ref (o + 179)), some (.ref (o + 180)), some (.ref (o + 181)), some (.ref (o + 182)), some (.ref (o + 183)), some (.ref (o + 184)), some (.ref (o + 185)), some (.int (nI tn)), some (.int x), some (.int y), some (.int kd), some (.int (nI k)), some (.int (nI sN)), some (.int (nI z)), some (.int tq), some (.int vv), some (.int (1 : Int32)), some (.int (0 : Int32)), some (.int (mnF h i)), some (.int (nI i)), none, none, none, none, none, none] [] := by
      intro n_
      induction n_ with
      | zero => intro i hi hm_; exact absurd hm_ (Nat.not_lt_zero _)
      | succ n_ ih321 =>
        intro i hi hm321
        refine v_iload X dL_law_321 rfl ?_
        refine v_iconst X dL_law_323 (v := (5 : Int32)) (by decide) ?_
        refine v_icmp_ge X dL_law_324 (tgt := 354) (by decide) (fun c324 => ?_) (fun c324 => ?_)
        · skip
          have hi5 : i = 5 := Nat.le_antisymm hi (le_of_nI (a := 5) (by omega) (by omega) c324)
          refine v_aload_n X dL_law_354 (i := 1) rfl rfl ?_
          refine v_iload X dL_law_355 rfl ?_
          refine v_iload X dL_law_357 rfl ?_
          refine v_iload X dL_law_359 rfl ?_
          refine v_cvB X (Nat.zero_add _).symm yv_X7_putIn m_ml_L_83 0 0 (c_X7_putIn l g cs o σ ρ S P φ κ τ π qq nn hq hq6 hn hn6 (nI k) (nI sN) (nI z) ) hB (Nat.le_of_ble_eq_true rfl) rfl (Nat.le_of_ble_eq_true rfl) rfl (L' := (yaL g o (if (piE σ (nI k) (nI sN) (nI z)) = 0 then (upd (upd (c8 σ) (14 + 4 * nt (nI k)) (nI sN)) (15 + 4 * nt (nI k)) (nI z)) else σ) ρ (svS (piE σ (nI k) (nI sN) (nI z)) S qq σ) (svS (piE σ (nI k) (nI sN) (nI z)) P qq ρ) φ κ τ (svπ (piE σ (nI k) (nI sN) (nI z)) π qq nn) q h t c w b b2)) (rfl) rfl (Nat.le_of_ble_eq_true rfl) rfl rfl (Nat.le_of_ble_eq_true rfl) ⟨Nat.le_of_ble_eq_true rfl, Nat.le_of_ble_eq_true rfl⟩ hcs dL_law_361 rfl ?_
          have hE : (piE σ (nI k) (nI sN) (nI z)) = -3 := (E_pi hA hV hk hs).trans (if_neg (fun q => absurd q.1 (Int32.not_lt.mpr c290)))
          have hn0 : ¬ (piE σ (nI k) (nI sN) (nI z)) = 0 := by rw [hE]; decide
          rw [if_neg hn0, if_neg hn0, hE]
          refine v_iload X dL_law_364 rfl ?_
          refine v_if_eq X dL_law_366 (tgt := 374) (by decide) (fun c366 => ?_) (fun c366 => ?_)
          · skip
            refine v_bipush X dL_law_374 (v := (-3 : Int32)) (by decide) ?_
            refine v_icmp_eq X dL_law_376 (tgt := 381) (by decide) (fun c376 => ?_) (fun c376 => ?_)
            · skip
              refine v_aload_n X dL_law_381 (i := 3) rfl rfl ?_
              refine v_iconst X dL_law_382 (v := (3 : Int32)) (by decide) ?_
              refine v_iload X dL_law_383 rfl ?_
              refine v_imul X dL_law_385 ?_
              refine v_iconst X dL_law_386 (v := (2 : Int32)) (by decide) ?_
              refine v_iadd X dL_law_387 ?_
              refine v_iload X dL_law_388 rfl ?_
              refine v_if_eq X dL_law_390 (tgt := 404) (by decide) (fun c390 => ?_) (fun c390 => ?_)
              · skip
                refine v_aload_n X dL_law_404 (i := 3) rfl rfl ?_
                refine v_iconst X dL_law_405 (v := (3 : Int32)) (by decide) ?_
                refine v_iload X dL_law_406 rfl ?_
                refine v_imul X dL_law_408 ?_
                refine v_iconst X dL_law_409 (v := (2 : Int32)) (by decide) ?_
                refine v_iadd X dL_law_410 ?_
                refine v_ialdB X hB dL_law_411 180 (Nat.le_of_ble_eq_true rfl) rfl ((3 * k) + 2) (ix_add (ix_mul rfl rfl) rfl) (by omega) (Nat.le_of_ble_eq_true rfl) ?_
                refine v_iastB X hB dL_law_412 180 (Nat.le_of_ble_eq_true rfl) rfl ((3 * k) + 2) (ix_add (ix_mul rfl rfl) rfl) (by omega) (Nat.le_of_ble_eq_true rfl) (L' := (yaL g o σ ρ (svS (-3 : Int32) S qq σ) (svS (-3 : Int32) P qq ρ) φ κ τ (svπ (-3 : Int32) π qq nn) q (upd h ((3 * k) + 2) (h ((3 * k) + 2))) t c w b b2)) rfl ?_
                refine v_iload X dL_law_413 rfl ?_
                refine v_istore X dL_law_415 (Nat.le_of_ble_eq_true rfl) rfl ?_
                refine v_goto X dL_law_417 (tgt := 1826) (by decide) ?_
                refine v_drop 19 ?_
                refine v_drop 20 ?_
                refine v_drop 21 ?_
                exact kk f cs ss σ ρ (svS (-3 : Int32) S qq σ) (svS (-3 : Int32) P qq ρ) φ (svπ (-3 : Int32) π qq nn) q (upd h ((3 * k) + 2) (h ((3 * k) + 2))) t c w b b2 C P0 R lt B 0    (by omega) (by omega) (by omega) ((by rw [if_pos rfl]; simp only [up_self]; exact H)) (PI_sv hPI hq6 hn6)
              · skip
                exact absurd c390 (by decide)
            · skip
              exact absurd rfl c376
          · skip
            exact absurd c366 (by decide)
        · skip
          have hi5 : i < 5 := lt_of_nI (b := 5) (by omega) (by omega) c324
          refine v_iload X dL_law_327 rfl ?_
          refine v_aload_n X dL_law_329 (i := 3) rfl rfl ?_
          refine v_iconst X dL_law_330 (v := (3 : Int32)) (by decide) ?_
          refine v_iload X dL_law_331 rfl ?_
          refine v_imul X dL_law_333 ?_
          refine v_iconst X dL_law_334 (v := (2 : Int32)) (by decide) ?_
          refine v_iadd X dL_law_335 ?_
          refine v_ialdB X hB dL_law_336 180 (Nat.le_of_ble_eq_true rfl) rfl ((3 * i) + 2) (ix_add (ix_mul rfl rfl) rfl) (by omega) (Nat.le_of_ble_eq_true rfl) ?_
          refine v_if_ge X dL_law_337 (tgt := 344) (by decide) (fun c337 => ?_) (fun c337 => ?_)
          · skip
            refine v_iconst X dL_law_344 (v := (1 : Int32)) (by decide) ?_
            refine v_iadd X dL_law_345 ?_
            refine v_istore X dL_law_346 (Nat.le_of_ble_eq_true rfl) rfl ?_
            refine v_iinc X dL_law_348 (v := nI (i + 1)) rfl (ix_inc rfl) (Nat.le_of_ble_eq_true rfl) rfl ?_
            refine v_goto X dL_law_351 (tgt := 321) (by decide) ?_
            exact V.cast (ih321 (i + 1) (by omega) (by omega)) (by rw [mnF, if_neg (Int32.not_lt.mpr c337)]; rfl) (rfl) (rfl)
          · skip
            refine v_iconst X dL_law_340 (v := (0 : Int32)) (by decide) ?_
            refine v_goto X dL_law_341 (tgt := 345) (by decide) ?_
            refine v_iadd X dL_law_345 ?_
            refine v_istore X dL_law_346 (Nat.le_of_ble_eq_true rfl) rfl ?_
            refine v_iinc X dL_law_348 (v := nI (i + 1)) rfl (ix_inc rfl) (Nat.le_of_ble_eq_true rfl) rfl ?_
            refine v_goto X dL_law_351 (tgt := 321) (by decide) ?_
            exact V.cast (ih321 (i + 1) (by omega) (by omega)) (by rw [mnF, if_pos c337]; rfl) (rfl) (rfl)
    exact LP321 _ 0 (Nat.zero_le _) (Nat.lt_succ_self _)
  · skip
    refine v_bipush X dL_law_293 (v := (10 : Int32)) (by decide) ?_
    refine v_iload X dL_law_295 rfl ?_
    refine v_imul X dL_law_297 ?_
    refine v_iload X dL_law_298 rfl ?_
    refine v_iadd X dL_law_300 ?_
    refine v_aload_n X dL_law_301 (i := 3) rfl rfl ?_
    refine v_csB X (Nat.zero_add _).symm yv_L_in m_ml_L_10 180 (c_L_in l g cs (o + 180) h (((10 : Int32) * (nI sN)) + (nI z)) ) hB (Nat.le_of_ble_eq_true rfl) rfl (Nat.le_of_ble_eq_true rfl) rfl (L' := (yaL g o σ ρ S P φ κ τ π q h t c w b b2)) (rfl) rfl rfl (Nat.le_of_ble_eq_true rfl) ⟨Nat.le_of_ble_eq_true rfl, Nat.le_of_ble_eq_true rfl⟩ hcs dL_law_302 rfl ?_
    refine v_if_ge X dL_law_305 (tgt := 312) (by decide) (fun c305 => ?_) (fun c305 => ?_)
    · skip
      refine v_iconst X dL_law_312 (v := (0 : Int32)) (by decide) ?_
      refine v_istore X dL_law_313 (Nat.le_of_ble_eq_true rfl) rfl ?_
      refine v_iconst X dL_law_315 (v := (1 : Int32)) (by decide) ?_
      refine v_istore X dL_law_316 (Nat.le_of_ble_eq_true rfl) rfl ?_
      refine v_iconst X dL_law_318 (v := (0 : Int32)) (by decide) ?_
      refine v_istore X dL_law_319 (Nat.le_of_ble_eq_true rfl) rfl ?_
      have LP321 : ∀ (n_ : Nat) (i : Nat), (i ≤ 5) → 5 - i < n_ → V p l e room_1 s m #[Value.ref a0] below meth c0 Q g 28 cs ss cs (ovr f o (yaL g o σ ρ S P φ κ τ π q h t c w b b2)) 321 [some (.ref a0), some (.ref o), some (.ref (o + 179)), some (.ref (o + 180)), some (.ref (o + 181)), some (.ref (o + 182)), some (.ref (o + 183)), some (.ref (o + 184)), some (.ref (o + 185)), some (.int (nI tn)), some (.int x), some (.int y), some (.int kd), some (.int (nI k)), some (.int (nI sN)), some (.int (nI z)), some (.int tq), some (.int vv), some (.int (1 : Int32)), some (.int (0 : Int32)), some (.int (mnF h i)), some (.int (nI i)), none, none, none, none, none, none] [] := by
        intro n_
        induction n_ with
        | zero => intro i hi hm_; exact absurd hm_ (Nat.not_lt_zero _)
        | succ n_ ih321 =>
          intro i hi hm321
          refine v_iload X dL_law_321 rfl ?_
          refine v_iconst X dL_law_323 (v := (5 : Int32)) (by decide) ?_
          refine v_icmp_ge X dL_law_324 (tgt := 354) (by decide) (fun c324 => ?_) (fun c324 => ?_)
          · skip
            have hi5 : i = 5 := Nat.le_antisymm hi (le_of_nI (a := 5) (by omega) (by omega) c324)
            refine v_aload_n X dL_law_354 (i := 1) rfl rfl ?_
            refine v_iload X dL_law_355 rfl ?_
            refine v_iload X dL_law_357 rfl ?_
            refine v_iload X dL_law_359 rfl ?_
            refine v_cvB X (Nat.zero_add _).symm yv_X7_putIn m_ml_L_83 0 0 (c_X7_putIn l g cs o σ ρ S P φ κ τ π qq nn hq hq6 hn hn6 (nI k) (nI sN) (nI z) ) hB (Nat.le_of_ble_eq_true rfl) rfl (Nat.le_of_ble_eq_true rfl) rfl (L' := (yaL g o (if (piE σ (nI k) (nI sN) (nI z)) = 0 then (upd (upd (c8 σ) (14 + 4 * nt (nI k)) (nI sN)) (15 + 4 * nt (nI k)) (nI z)) else σ) ρ (svS (piE σ (nI k) (nI sN) (nI z)) S qq σ) (svS (piE σ (nI k) (nI sN) (nI z)) P qq ρ) φ κ τ (svπ (piE σ (nI k) (nI sN) (nI z)) π qq nn) q h t c w b b2)) (rfl) rfl (Nat.le_of_ble_eq_true rfl) rfl rfl (Nat.le_of_ble_eq_true rfl) ⟨Nat.le_of_ble_eq_true rfl, Nat.le_of_ble_eq_true rfl⟩ hcs dL_law_361 rfl ?_
            have hE : (piE σ (nI k) (nI sN) (nI z)) = -3 := (E_pi hA hV hk hs).trans (if_neg (fun q => absurd q.2 (Int32.not_lt.mpr c305)))
            have hn0 : ¬ (piE σ (nI k) (nI sN) (nI z)) = 0 := by rw [hE]; decide
            rw [if_neg hn0, if_neg hn0, hE]
            refine v_iload X dL_law_364 rfl ?_
            refine v_if_eq X dL_law_366 (tgt := 374) (by decide) (fun c366 => ?_) (fun c366 => ?_)
            · skip
              refine v_bipush X dL_law_374 (v := (-3 : Int32)) (by decide) ?_
              refine v_icmp_eq X dL_law_376 (tgt := 381) (by decide) (fun c376 => ?_) (fun c376 => ?_)
              · skip
                refine v_aload_n X dL_law_381 (i := 3) rfl rfl ?_
                refine v_iconst X dL_law_382 (v := (3 : Int32)) (by decide) ?_
                refine v_iload X dL_law_383 rfl ?_
                refine v_imul X dL_law_385 ?_
                refine v_iconst X dL_law_386 (v := (2 : Int32)) (by decide) ?_
                refine v_iadd X dL_law_387 ?_
                refine v_iload X dL_law_388 rfl ?_
                refine v_if_eq X dL_law_390 (tgt := 404) (by decide) (fun c390 => ?_) (fun c390 => ?_)
                · skip
                  refine v_aload_n X dL_law_404 (i := 3) rfl rfl ?_
                  refine v_iconst X dL_law_405 (v := (3 : Int32)) (by decide) ?_
                  refine v_iload X dL_law_406 rfl ?_
                  refine v_imul X dL_law_408 ?_
                  refine v_iconst X dL_law_409 (v := (2 : Int32)) (by decide) ?_
                  refine v_iadd X dL_law_410 ?_
                  refine v_ialdB X hB dL_law_411 180 (Nat.le_of_ble_eq_true rfl) rfl ((3 * k) + 2) (ix_add (ix_mul rfl rfl) rfl) (by omega) (Nat.le_of_ble_eq_true rfl) ?_
                  refine v_iastB X hB dL_law_412 180 (Nat.le_of_ble_eq_true rfl) rfl ((3 * k) + 2) (ix_add (ix_mul rfl rfl) rfl) (by omega) (Nat.le_of_ble_eq_true rfl) (L' := (yaL g o σ ρ (svS (-3 : Int32) S qq σ) (svS (-3 : Int32) P qq ρ) φ κ τ (svπ (-3 : Int32) π qq nn) q (upd h ((3 * k) + 2) (h ((3 * k) + 2))) t c w b b2)) rfl ?_
                  refine v_iload X dL_law_413 rfl ?_
                  refine v_istore X dL_law_415 (Nat.le_of_ble_eq_true rfl) rfl ?_
                  refine v_goto X dL_law_417 (tgt := 1826) (by decide) ?_
                  refine v_drop 19 ?_
                  refine v_drop 20 ?_
                  refine v_drop 21 ?_
                  exact kk f cs ss σ ρ (svS (-3 : Int32) S qq σ) (svS (-3 : Int32) P qq ρ) φ (svπ (-3 : Int32) π qq nn) q (upd h ((3 * k) + 2) (h ((3 * k) + 2))) t c w b b2 C P0 R lt B 0    (by omega) (by omega) (by omega) ((by rw [if_pos rfl]; simp only [up_self]; exact H)) (PI_sv hPI hq6 hn6)
                · skip
                  exact absurd c390 (by decide)
              · skip
                exact absurd rfl c376
            · skip
              exact absurd c366 (by decide)
          · skip
            have hi5 : i < 5 := lt_of_nI (b := 5) (by omega) (by omega) c324
            refine v_iload X dL_law_327 rfl ?_
            refine v_aload_n X dL_law_329 (i := 3) rfl rfl ?_
            refine v_iconst X dL_law_330 (v := (3 : Int32)) (by decide) ?_
            refine v_iload X dL_law_331 rfl ?_
            refine v_imul X dL_law_333 ?_
            refine v_iconst X dL_law_334 (v := (2 : Int32)) (by decide) ?_
            refine v_iadd X dL_law_335 ?_
            refine v_ialdB X hB dL_law_336 180 (Nat.le_of_ble_eq_true rfl) rfl ((3 * i) + 2) (ix_add (ix_mul rfl rfl) rfl) (by omega) (Nat.le_of_ble_eq_true rfl) ?_
            refine v_if_ge X dL_law_337 (tgt := 344) (by decide) (fun c337 => ?_) (fun c337 => ?_)
            · skip
              refine v_iconst X dL_law_344 (v := (1 : Int32)) (by decide) ?_
              refine v_iadd X dL_law_345 ?_
              refine v_istore X dL_law_346 (Nat.le_of_ble_eq_true rfl) rfl ?_
              refine v_iinc X dL_law_348 (v := nI (i + 1)) rfl (ix_inc rfl) (Nat.le_of_ble_eq_true rfl) rfl ?_
              refine v_goto X dL_law_351 (tgt := 321) (by decide) ?_
              exact V.cast (ih321 (i + 1) (by omega) (by omega)) (by rw [mnF, if_neg (Int32.not_lt.mpr c337)]; rfl) (rfl) (rfl)
            · skip
              refine v_iconst X dL_law_340 (v := (0 : Int32)) (by decide) ?_
              refine v_goto X dL_law_341 (tgt := 345) (by decide) ?_
              refine v_iadd X dL_law_345 ?_
              refine v_istore X dL_law_346 (Nat.le_of_ble_eq_true rfl) rfl ?_
              refine v_iinc X dL_law_348 (v := nI (i + 1)) rfl (ix_inc rfl) (Nat.le_of_ble_eq_true rfl) rfl ?_
              refine v_goto X dL_law_351 (tgt := 321) (by decide) ?_
              exact V.cast (ih321 (i + 1) (by omega) (by omega)) (by rw [mnF, if_pos c337]; rfl) (rfl) (rfl)
      exact LP321 _ 0 (Nat.zero_le _) (Nat.lt_succ_self _)
    · skip
      refine v_iconst X dL_law_308 (v := (1 : Int32)) (by decide) ?_
      refine v_goto X dL_law_309 (tgt := 313) (by decide) ?_
      refine v_istore X dL_law_313 (Nat.le_of_ble_eq_true rfl) rfl ?_
      refine v_iconst X dL_law_315 (v := (1 : Int32)) (by decide) ?_
      refine v_istore X dL_law_316 (Nat.le_of_ble_eq_true rfl) rfl ?_
      refine v_iconst X dL_law_318 (v := (0 : Int32)) (by decide) ?_
      refine v_istore X dL_law_319 (Nat.le_of_ble_eq_true rfl) rfl ?_
      have LP321 : ∀ (n_ : Nat) (i : Nat), (i ≤ 5) → 5 - i < n_ → V p l e room_1 s m #[Value.ref a0] below meth c0 Q g 28 cs ss cs (ovr f o (yaL g o σ ρ S P φ κ τ π q h t c w b b2)) 321 [some (.ref a0), some (.ref o), some (.ref (o + 179)), some (.ref (o + 180)), some (.ref (o + 181)), some (.ref (o + 182)), some (.ref (o + 183)), some (.ref (o + 184)), some (.ref (o + 185)), some (.int (nI tn)), some (.int x), some (.int y), some (.int kd), some (.int (nI k)), some (.int (nI sN)), some (.int (nI z)), some (.int tq), some (.int vv), some (.int (1 : Int32)), some (.int (1 : Int32)), some (.int (mnF h i)), some (.int (nI i)), none, none, none, none, none, none] [] := by
        intro n_
        induction n_ with
        | zero => intro i hi hm_; exact absurd hm_ (Nat.not_lt_zero _)
        | succ n_ ih321 =>
          intro i hi hm321
          refine v_iload X dL_law_321 rfl ?_
          refine v_iconst X dL_law_323 (v := (5 : Int32)) (by decide) ?_
          refine v_icmp_ge X dL_law_324 (tgt := 354) (by decide) (fun c324 => ?_) (fun c324 => ?_)
          · skip
            have hi5 : i = 5 := Nat.le_antisymm hi (le_of_nI (a := 5) (by omega) (by omega) c324)
            refine v_aload_n X dL_law_354 (i := 1) rfl rfl ?_
            refine v_iload X dL_law_355 rfl ?_
            refine v_iload X dL_law_357 rfl ?_
            refine v_iload X dL_law_359 rfl ?_
            refine v_cvB X (Nat.zero_add _).symm yv_X7_putIn m_ml_L_83 0 0 (c_X7_putIn l g cs o σ ρ S P φ κ τ π qq nn hq hq6 hn hn6 (nI k) (nI sN) (nI z) ) hB (Nat.le_of_ble_eq_true rfl) rfl (Nat.le_of_ble_eq_true rfl) rfl (L' := (yaL g o (if (piE σ (nI k) (nI sN) (nI z)) = 0 then (upd (upd (c8 σ) (14 + 4 * nt (nI k)) (nI sN)) (15 + 4 * nt (nI k)) (nI z)) else σ) ρ (svS (piE σ (nI k) (nI sN) (nI z)) S qq σ) (svS (piE σ (nI k) (nI sN) (nI z)) P qq ρ) φ κ τ (svπ (piE σ (nI k) (nI sN) (nI z)) π qq nn) q h t c w b b2)) (rfl) rfl (Nat.le_of_ble_eq_true rfl) rfl rfl (Nat.le_of_ble_eq_true rfl) ⟨Nat.le_of_ble_eq_true rfl, Nat.le_of_ble_eq_true rfl⟩ hcs dL_law_361 rfl ?_
            have hE : (piE σ (nI k) (nI sN) (nI z)) = 0 := (E_pi hA hV hk hs).trans (if_pos ⟨c290, c305⟩)
            rw [if_pos hE, if_pos hE, nt_nI (by omega)]
            refine v_iload X dL_law_364 rfl ?_
            refine v_if_eq X dL_law_366 (tgt := 374) (by decide) (fun c366 => ?_) (fun c366 => ?_)
            · skip
              exact absurd c366 (by decide)
            · skip
              refine v_iload X dL_law_369 rfl ?_
              refine v_goto X dL_law_371 (tgt := 376) (by decide) ?_
              refine v_icmp_eq X dL_law_376 (tgt := 381) (by decide) (fun c376 => ?_) (fun c376 => ?_)
              · skip
                refine v_aload_n X dL_law_381 (i := 3) rfl rfl ?_
                refine v_iconst X dL_law_382 (v := (3 : Int32)) (by decide) ?_
                refine v_iload X dL_law_383 rfl ?_
                refine v_imul X dL_law_385 ?_
                refine v_iconst X dL_law_386 (v := (2 : Int32)) (by decide) ?_
                refine v_iadd X dL_law_387 ?_
                refine v_iload X dL_law_388 rfl ?_
                refine v_if_eq X dL_law_390 (tgt := 404) (by decide) (fun c390 => ?_) (fun c390 => ?_)
                · skip
                  exact absurd c390 (by decide)
                · skip
                  refine v_bipush X dL_law_393 (v := (10 : Int32)) (by decide) ?_
                  refine v_iload X dL_law_395 rfl ?_
                  refine v_imul X dL_law_397 ?_
                  refine v_iload X dL_law_398 rfl ?_
                  refine v_iadd X dL_law_400 ?_
                  refine v_goto X dL_law_401 (tgt := 412) (by decide) ?_
                  refine v_iastB X hB dL_law_412 180 (Nat.le_of_ble_eq_true rfl) rfl ((3 * k) + 2) (ix_add (ix_mul rfl rfl) rfl) (by omega) (Nat.le_of_ble_eq_true rfl) (L' := (yaL g o (upd (upd (c8 σ) (14 + 4 * k) (nI sN)) (15 + 4 * k) (nI z)) ρ (svS (piE σ (nI k) (nI sN) (nI z)) S qq σ) (svS (piE σ (nI k) (nI sN) (nI z)) P qq ρ) φ κ τ (svπ (piE σ (nI k) (nI sN) (nI z)) π qq nn) q (upd h ((3 * k) + 2) (((10 : Int32) * (nI sN)) + (nI z))) t c w b b2)) rfl ?_
                  refine v_iload X dL_law_413 rfl ?_
                  refine v_istore X dL_law_415 (Nat.le_of_ble_eq_true rfl) rfl ?_
                  refine v_goto X dL_law_417 (tgt := 1826) (by decide) ?_
                  refine v_drop 19 ?_
                  refine v_drop 20 ?_
                  refine v_drop 21 ?_
                  exact kk f cs ss (upd (upd (c8 σ) (14 + 4 * k) (nI sN)) (15 + 4 * k) (nI z)) ρ (svS (piE σ (nI k) (nI sN) (nI z)) S qq σ) (svS (piE σ (nI k) (nI sN) (nI z)) P qq ρ) φ (svπ (piE σ (nI k) (nI sN) (nI z)) π qq nn) q (upd h ((3 * k) + 2) (((10 : Int32) * (nI sN)) + (nI z))) t c w b b2 C P0 R lt 0 1    (by omega) (by omega) (by omega) ((by rw [if_neg (by decide)]; exact RQ_place H hk (pl_ok hs) (pl_v hs))) (PI_sv hPI hq6 hn6)
              · skip
                exact absurd (by rw [hi5]; exact E_mn hA hV hk hs c290) c376
          · skip
            have hi5 : i < 5 := lt_of_nI (b := 5) (by omega) (by omega) c324
            refine v_iload X dL_law_327 rfl ?_
            refine v_aload_n X dL_law_329 (i := 3) rfl rfl ?_
            refine v_iconst X dL_law_330 (v := (3 : Int32)) (by decide) ?_
            refine v_iload X dL_law_331 rfl ?_
            refine v_imul X dL_law_333 ?_
            refine v_iconst X dL_law_334 (v := (2 : Int32)) (by decide) ?_
            refine v_iadd X dL_law_335 ?_
            refine v_ialdB X hB dL_law_336 180 (Nat.le_of_ble_eq_true rfl) rfl ((3 * i) + 2) (ix_add (ix_mul rfl rfl) rfl) (by omega) (Nat.le_of_ble_eq_true rfl) ?_
            refine v_if_ge X dL_law_337 (tgt := 344) (by decide) (fun c337 => ?_) (fun c337 => ?_)
            · skip
              refine v_iconst X dL_law_344 (v := (1 : Int32)) (by decide) ?_
              refine v_iadd X dL_law_345 ?_
              refine v_istore X dL_law_346 (Nat.le_of_ble_eq_true rfl) rfl ?_
              refine v_iinc X dL_law_348 (v := nI (i + 1)) rfl (ix_inc rfl) (Nat.le_of_ble_eq_true rfl) rfl ?_
              refine v_goto X dL_law_351 (tgt := 321) (by decide) ?_
              exact V.cast (ih321 (i + 1) (by omega) (by omega)) (by rw [mnF, if_neg (Int32.not_lt.mpr c337)]; rfl) (rfl) (rfl)
            · skip
              refine v_iconst X dL_law_340 (v := (0 : Int32)) (by decide) ?_
              refine v_goto X dL_law_341 (tgt := 345) (by decide) ?_
              refine v_iadd X dL_law_345 ?_
              refine v_istore X dL_law_346 (Nat.le_of_ble_eq_true rfl) rfl ?_
              refine v_iinc X dL_law_348 (v := nI (i + 1)) rfl (ix_inc rfl) (Nat.le_of_ble_eq_true rfl) rfl ?_
              refine v_goto X dL_law_351 (tgt := 321) (by decide) ?_
              exact V.cast (ih321 (i + 1) (by omega) (by omega)) (by rw [mnF, if_pos c337]; rfl) (rfl) (rfl)
      exact LP321 _ 0 (Nat.zero_le _) (Nat.lt_succ_self _)
set_option maxRecDepth 100000 in
set_option maxHeartbeats 4000000 in
theorem lk_2 {p : Program} {l : Launch} {e : Env} {s : State} {m : MethodId} {below : List Frame} {meth : Method} {c0 : Code} {Q : State → Prop} {g : Ge} {a0 o : Nat} (X : Cx p #[Value.ref a0] s m meth c0 g cL_law 28 RL ret 0) (ho : g.2.2 = o) {f : Pic} {cs ss tn : Nat} {σ ρ : Nat → Int32} {S P : Nat → Nat → Int32} {φ κ τ π q h t c w b b2 : Nat → Int32} {x y kd sd bx tq vv : Int32} {k : Nat} (hk : k < 5) (k2 : V p l e room_1 s m #[Value.ref a0] below meth c0 Q g 28 cs ss cs (ovr f o (yaL g o σ ρ S P φ κ τ π q h t c w b b2)) 1864 [some (.ref a0), some (.ref o), some (.ref (o + 179)), some (.ref (o + 180)), some (.ref (o + 181)), some (.ref (o + 182)), some (.ref (o + 183)), some (.ref (o + 184)), some (.ref (o + 185)), some (.int (nI tn)), some (.int x), some (.int y), some (.int kd), some (.int (nI k)), some (.int sd), some (.int bx), some (.int tq), some (.int vv), some (.int (0 : Int32)), none, none, none, none, none, none, none, none, none] []) {C P0 R lt B : Nat} (h186 : 186 ≤ cs) (hcM : cs + 60 ≤ 599000) (hsM : ss + 330 ≤ 7300000) (H : RQ C P0 R lt B σ ρ q h t c w b b2) (hPI : PI π)
    (kk : ∀ (f : Pic) (cs' ss' : Nat) (σ' ρ' : Nat → Int32) (S' P' : Nat → Nat → Int32) (φ' π' q' h' t' c' w' b' b2' : Nat → Int32) (C' P0' R' lt' B' : Nat) (ot : Int32), 186 ≤ cs' → cs' ≤ cs + 60 → ss' ≤ ss + 330 → RQ C' P0' R' lt' B' σ' ρ' (upd q' 8 (if ot = 0 then q' 8 else 0)) h' t' c' w' b' b2' → PI π' → V p l e room_1 s m #[Value.ref a0] below meth c0 Q g 28 cs' ss' cs' (ovr f o (yaL g o σ' ρ' S' P' φ' κ τ π' q' h' t' c' w' b' b2')) 1826 [some (.ref a0), some (.ref o), some (.ref (o + 179)), some (.ref (o + 180)), some (.ref (o + 181)), some (.ref (o + 182)), some (.ref (o + 183)), some (.ref (o + 184)), some (.ref (o + 185)), some (.int (nI tn)), some (.int x), some (.int y), some (.int kd), some (.int (nI k)), some (.int sd), some (.int bx), some (.int tq), some (.int vv), some (.int ot), none, none, none, none, none, none, none, none, none] []) :
    V p l e room_1 s m #[Value.ref a0] below meth c0 Q g 28 cs ss cs (ovr f o (yaL g o σ ρ S P φ κ τ π q h t c w b b2)) 426 [some (.ref a0), some (.ref o), some (.ref (o + 179)), some (.ref (o + 180)), some (.ref (o + 181)), some (.ref (o + 182)), some (.ref (o + 183)), some (.ref (o + 184)), some (.ref (o + 185)), some (.int (nI tn)), some (.int x), some (.int y), some (.int kd), some (.int (nI k)), some (.int sd), some (.int bx), some (.int tq), some (.int vv), some (.int (1 : Int32)), none, none, none, none, none, none, none, none, none] [] := by
  have rc9 : 599000 ≤ room_1.cells := Nat.le_of_ble_eq_true rfl
  have rs9 : 7300000 ≤ room_1.slots := Nat.le_of_ble_eq_true rfl
  have hcs : cs + 0 ≤ room_1.cells ∧ ss + 0 ≤ room_1.slots := ⟨by omega, by omega⟩
  have hB : BB g cs o 186 := ⟨by rw [ho]; exact Nat.le_refl _, by rw [ho]; omega⟩
  obtain ⟨qq, nn, hq, hq6, hn, hn6⟩ := id hPI
  obtain ⟨g9, hA, hV, hF, hYB, ⟨hR, hR20⟩, ⟨hlt, hlt20⟩, hRC, ⟨hB8, hBR⟩, hKH⟩ := id H
  have hC16 := g9.2.2.2
  refine v_aload_n X dL_law_426 (i := 3) rfl rfl ?_
  refine v_iconst X dL_law_427 (v := (3 : Int32)) (by decide) ?_
  refine v_iload X dL_law_428 rfl ?_
  refine v_imul X dL_law_430 ?_
  refine v_iconst X dL_law_431 (v := (2 : Int32)) (by decide) ?_
  refine v_iadd X dL_law_432 ?_
  refine v_ialdB X hB dL_law_433 180 (Nat.le_of_ble_eq_true rfl) rfl ((3 * k) + 2) (ix_add (ix_mul rfl rfl) rfl) (by omega) (Nat.le_of_ble_eq_true rfl) ?_
  refine v_istore X dL_law_434 (Nat.le_of_ble_eq_true rfl) rfl ?_
  refine v_iload X dL_law_436 rfl ?_
  refine v_bipush X dL_law_438 (v := (6 : Int32)) (by decide) ?_
  refine v_ishr X dL_law_440 ?_
  refine v_iconst X dL_law_441 (v := (2 : Int32)) (by decide) ?_
  refine v_cs X (Nat.zero_add _).symm yv_L_low m_ml_L_62 (c_L_low l g (2 : Int32) 2 rfl (x >>> ((6 : Int32) &&& 31)) (by decide) (by decide)) rfl rfl (Nat.le_of_ble_eq_true rfl) ⟨Nat.le_of_ble_eq_true rfl, Nat.le_of_ble_eq_true rfl⟩ hcs dL_law_442 rfl ?_
  refine v_if_ne X dL_law_445 (tgt := 452) (by decide) (fun c445 => ?_) (fun c445 => ?_)
  · skip
    refine v_iconst X dL_law_452 (v := (0 : Int32)) (by decide) ?_
    refine v_istore X dL_law_453 (Nat.le_of_ble_eq_true rfl) rfl ?_
    refine v_iload X dL_law_455 rfl ?_
    refine v_if_ne X dL_law_457 (tgt := 463) (by decide) (fun c457 => ?_) (fun c457 => ?_)
    · skip
      exact absurd c457 (by decide)
    · skip
      refine v_goto X dL_law_460 (tgt := 1864) (by decide) ?_
      refine v_drop 19 ?_
      exact k2
  · skip
    refine v_iconst X dL_law_448 (v := (1 : Int32)) (by decide) ?_
    refine v_goto X dL_law_449 (tgt := 453) (by decide) ?_
    refine v_istore X dL_law_453 (Nat.le_of_ble_eq_true rfl) rfl ?_
    refine v_iload X dL_law_455 rfl ?_
    refine v_if_ne X dL_law_457 (tgt := 463) (by decide) (fun c457 => ?_) (fun c457 => ?_)
    · skip
      refine v_aload_n X dL_law_463 (i := 1) rfl rfl ?_
      refine v_iload X dL_law_464 rfl ?_
      refine v_cvB X (Nat.zero_add _).symm yv_X7_takeOut m_ml_L_87 0 0 (c_X7_takeOut l g cs o σ ρ S P φ κ τ π qq nn hq hq6 hn hn6 (nI k) ) hB (Nat.le_of_ble_eq_true rfl) rfl (Nat.le_of_ble_eq_true rfl) rfl (L' := (yaL g o (if (toE σ (nI k)) = 0 then (upd (upd (c8 σ) (14 + 4 * nt (nI k)) (-6)) (15 + 4 * nt (nI k)) (-6)) else σ) ρ (svS (toE σ (nI k)) S qq σ) (svS (toE σ (nI k)) P qq ρ) φ κ τ (svπ (toE σ (nI k)) π qq nn) q h t c w b b2)) (rfl) rfl (Nat.le_of_ble_eq_true rfl) rfl rfl (Nat.le_of_ble_eq_true rfl) ⟨Nat.le_of_ble_eq_true rfl, Nat.le_of_ble_eq_true rfl⟩ hcs dL_law_466 rfl ?_
      refine v_iload X dL_law_469 rfl ?_
      refine v_if_ge X dL_law_471 (tgt := 479) (by decide) (fun c471 => ?_) (fun c471 => ?_)
      · skip
        have hE : (toE σ (nI k)) = 0 := (E_to hA hV hk).trans (if_neg (Int32.not_lt.mpr c471))
        rw [if_pos hE, if_pos hE, nt_nI (by omega)]
        refine v_iload X dL_law_479 rfl ?_
        refine v_icmp_eq X dL_law_481 (tgt := 486) (by decide) (fun c481 => ?_) (fun c481 => ?_)
        · skip
          refine v_aload_n X dL_law_486 (i := 3) rfl rfl ?_
          refine v_iconst X dL_law_487 (v := (3 : Int32)) (by decide) ?_
          refine v_iload X dL_law_488 rfl ?_
          refine v_imul X dL_law_490 ?_
          refine v_iconst X dL_law_491 (v := (2 : Int32)) (by decide) ?_
          refine v_iadd X dL_law_492 ?_
          refine v_iconst X dL_law_493 (v := (-1 : Int32)) (by decide) ?_
          refine v_iastB X hB dL_law_494 180 (Nat.le_of_ble_eq_true rfl) rfl ((3 * k) + 2) (ix_add (ix_mul rfl rfl) rfl) (by omega) (Nat.le_of_ble_eq_true rfl) (L' := (yaL g o (upd (upd (c8 σ) (14 + 4 * k) (-6)) (15 + 4 * k) (-6)) ρ (svS (toE σ (nI k)) S qq σ) (svS (toE σ (nI k)) P qq ρ) φ κ τ (svπ (toE σ (nI k)) π qq nn) q (upd h ((3 * k) + 2) (-1 : Int32)) t c w b b2)) rfl ?_
          refine v_iload X dL_law_495 rfl ?_
          refine v_if_lt X dL_law_497 (tgt := 504) (by decide) (fun c497 => ?_) (fun c497 => ?_)
          · skip
            exact absurd c497 (Int32.not_lt.mpr c471)
          · skip
            refine v_iconst X dL_law_500 (v := (1 : Int32)) (by decide) ?_
            refine v_goto X dL_law_501 (tgt := 505) (by decide) ?_
            refine v_istore X dL_law_505 (Nat.le_of_ble_eq_true rfl) rfl ?_
            refine v_goto X dL_law_507 (tgt := 1826) (by decide) ?_
            refine v_drop 19 ?_
            exact kk f cs ss (upd (upd (c8 σ) (14 + 4 * k) (-6)) (15 + 4 * k) (-6)) ρ (svS (toE σ (nI k)) S qq σ) (svS (toE σ (nI k)) P qq ρ) φ (svπ (toE σ (nI k)) π qq nn) q (upd h ((3 * k) + 2) (-1 : Int32)) t c w b b2 C P0 R lt 0 1    (by omega) (by omega) (by omega) ((by rw [if_neg (by decide)]; exact RQ_place H hk (Or.inl ⟨rfl, rfl⟩) (if_pos rfl).symm)) (PI_sv hPI hq6 hn6)
        · skip
          exact absurd (E_tv hA hV hk (Int32.not_lt.mpr c471)) c481
      · skip
        have hE : (toE σ (nI k)) = -3 := (E_to hA hV hk).trans (if_pos c471)
        have hn0 : ¬ (toE σ (nI k)) = 0 := by rw [hE]; decide
        rw [if_neg hn0, if_neg hn0, hE]
        refine v_bipush X dL_law_474 (v := (-3 : Int32)) (by decide) ?_
        refine v_goto X dL_law_476 (tgt := 481) (by decide) ?_
        refine v_icmp_eq X dL_law_481 (tgt := 486) (by decide) (fun c481 => ?_) (fun c481 => ?_)
        · skip
          refine v_aload_n X dL_law_486 (i := 3) rfl rfl ?_
          refine v_iconst X dL_law_487 (v := (3 : Int32)) (by decide) ?_
          refine v_iload X dL_law_488 rfl ?_
          refine v_imul X dL_law_490 ?_
          refine v_iconst X dL_law_491 (v := (2 : Int32)) (by decide) ?_
          refine v_iadd X dL_law_492 ?_
          refine v_iconst X dL_law_493 (v := (-1 : Int32)) (by decide) ?_
          refine v_iastB X hB dL_law_494 180 (Nat.le_of_ble_eq_true rfl) rfl ((3 * k) + 2) (ix_add (ix_mul rfl rfl) rfl) (by omega) (Nat.le_of_ble_eq_true rfl) (L' := (yaL g o σ ρ (svS (-3 : Int32) S qq σ) (svS (-3 : Int32) P qq ρ) φ κ τ (svπ (-3 : Int32) π qq nn) q (upd h ((3 * k) + 2) (-1 : Int32)) t c w b b2)) rfl ?_
          refine v_iload X dL_law_495 rfl ?_
          refine v_if_lt X dL_law_497 (tgt := 504) (by decide) (fun c497 => ?_) (fun c497 => ?_)
          · skip
            refine v_iconst X dL_law_504 (v := (0 : Int32)) (by decide) ?_
            refine v_istore X dL_law_505 (Nat.le_of_ble_eq_true rfl) rfl ?_
            refine v_goto X dL_law_507 (tgt := 1826) (by decide) ?_
            refine v_drop 19 ?_
            exact kk f cs ss σ ρ (svS (-3 : Int32) S qq σ) (svS (-3 : Int32) P qq ρ) φ (svπ (-3 : Int32) π qq nn) q (upd h ((3 * k) + 2) (-1 : Int32)) t c w b b2 C P0 R lt B 0    (by omega) (by omega) (by omega) ((by rw [if_pos rfl, upd_id (h_m1 hA hV hk c471)]; simp only [up_self]; exact H)) (PI_sv hPI hq6 hn6)
          · skip
            exact absurd c471 (Int32.not_lt.mpr c497)
        · skip
          exact absurd rfl c481
    · skip
      exact absurd c457 (by decide)
