/-! the law's comparison of everything -/
set_option maxRecDepth 100000 in
set_option maxHeartbeats 4000000 in
theorem c_L_same_0 (l : Launch) (g : Ge) (N o : Nat) (σ ρ : Nat → Int32) (S P : Nat → Nat → Int32) (φ κ τ π : Nat → Int32) (q h t c w b b2 : Nat → Int32) (x : Int32) (C P0 R lt : Nat) (hA : RA C σ q h t c) (g9 : GC C P0 σ) (hV : VR C σ) (hY : YN σ) (hF : FR σ) (hR : σ 7 = nI R) (hR20 : R ≤ 20) (hlt : ρ 140 = nI lt) (hlt20 : lt < 20) (hRC : RC R lt ρ w) (hx : 0 < lwF x 4) (f F : Pic) (hF9 : F = ovr f o (yaL g o σ ρ S P φ κ τ π q h t c w b b2)) (hB : BB g N o 186) : Ct l g yL_same (.code yL_same cL_same 12 (some .boolean)) 6 [.ref o, .int x, .ref (o + 179), .ref (o + 180), .ref (o + 181), .ref (o + 182), .ref (o + 183)] N (ovr f o (yaL g o σ ρ S P φ κ τ π q h t c w b b2)) (some (.int 1)) (N + 0) F 0 0 := by
  have hq0 : q 0 = nI C := (hA.1 0 (by omega)).trans g9.1
  have hq7 : q 7 = nI R := (hA.1 7 (by omega)).trans hR
  have hC16 := g9.2.2.2
  refine ct_of (own := RL) [some (.ref o), some (.int x), some (.ref (o + 179)), some (.ref (o + 180)), some (.ref (o + 181)), some (.ref (o + 182)), some (.ref (o + 183)), none, none, none, none, none] (by decide +kernel) rfl rfl (Nat.le_of_ble_eq_true rfl) ?_
  intro vp ve vs vm va vb vt vc hnm X
  refine v_iconst X dL_same_0 (v := (0 : Int32)) (by decide) ?_
  refine v_istore X dL_same_1 (Nat.le_of_ble_eq_true rfl) rfl ?_
  have LP3 : ∀ (n_ : Nat) (k1 : Nat), (k1 ≤ 12) → 12 - k1 < n_ → V vp l ve (rmD 6 0 0) vs vm va vb vt vc (MQ vb (CtQ g (some (.int 1)) (N + 0) F) va vs 0 0 (gA g)) g 12 0 0 N (ovr f o (yaL g o σ ρ S P φ κ τ π q h t c w b b2)) 3 [some (.ref o), some (.int x), some (.ref (o + 179)), some (.ref (o + 180)), some (.ref (o + 181)), some (.ref (o + 182)), some (.ref (o + 183)), some (.int (nI k1)), none, none, none, none] [] := by
    intro n_
    induction n_ with
    | zero => intro k1 hk1 hm_; exact absurd hm_ (Nat.not_lt_zero _)
    | succ n_ ih3 =>
      intro k1 hk1 hm3
      refine v_iload X dL_same_3 rfl ?_
      refine v_bipush X dL_same_5 (v := (12 : Int32)) (by decide) ?_
      refine v_icmp_ge X dL_same_7 (tgt := 31) (by decide) (fun c7 => ?_) (fun c7 => ?_)
      · skip
        refine v_iconst X dL_same_31 (v := (0 : Int32)) (by decide) ?_
        refine v_istore X dL_same_32 (Nat.le_of_ble_eq_true rfl) rfl ?_
        have LP34 : ∀ (n_ : Nat) (k2 : Nat), (k2 ≤ 5) → 5 - k2 < n_ → V vp l ve (rmD 6 0 0) vs vm va vb vt vc (MQ vb (CtQ g (some (.int 1)) (N + 0) F) va vs 0 0 (gA g)) g 12 0 0 N (ovr f o (yaL g o σ ρ S P φ κ τ π q h t c w b b2)) 34 [some (.ref o), some (.int x), some (.ref (o + 179)), some (.ref (o + 180)), some (.ref (o + 181)), some (.ref (o + 182)), some (.ref (o + 183)), some (.int (nI k2)), none, none, none, none] [] := by
          intro n_
          induction n_ with
          | zero => intro k2 hk2 hm_; exact absurd hm_ (Nat.not_lt_zero _)
          | succ n_ ih34 =>
            intro k2 hk2 hm34
            refine v_iload X dL_same_34 rfl ?_
            refine v_iconst X dL_same_36 (v := (5 : Int32)) (by decide) ?_
            refine v_icmp_ge X dL_same_37 (tgt := 142) (by decide) (fun c37 => ?_) (fun c37 => ?_)
            · skip
              refine v_iconst X dL_same_142 (v := (0 : Int32)) (by decide) ?_
              refine v_istore X dL_same_143 (Nat.le_of_ble_eq_true rfl) rfl ?_
              have LP145 : ∀ (n_ : Nat) (k3 : Nat), (k3 ≤ 4) → 4 - k3 < n_ → V vp l ve (rmD 6 0 0) vs vm va vb vt vc (MQ vb (CtQ g (some (.int 1)) (N + 0) F) va vs 0 0 (gA g)) g 12 0 0 N (ovr f o (yaL g o σ ρ S P φ κ τ π q h t c w b b2)) 145 [some (.ref o), some (.int x), some (.ref (o + 179)), some (.ref (o + 180)), some (.ref (o + 181)), some (.ref (o + 182)), some (.ref (o + 183)), some (.int (nI k3)), none, none, none, none] [] := by
                intro n_
                induction n_ with
                | zero => intro k3 hk3 hm_; exact absurd hm_ (Nat.not_lt_zero _)
                | succ n_ ih145 =>
                  intro k3 hk3 hm145
                  refine v_iload X dL_same_145 rfl ?_
                  refine v_iconst X dL_same_147 (v := (4 : Int32)) (by decide) ?_
                  refine v_icmp_ge X dL_same_148 (tgt := 200) (by decide) (fun c148 => ?_) (fun c148 => ?_)
                  · skip
                    refine v_iconst X dL_same_200 (v := (0 : Int32)) (by decide) ?_
                    refine v_istore X dL_same_201 (Nat.le_of_ble_eq_true rfl) rfl ?_
                    have LP203 : ∀ (n_ : Nat) (k4 : Nat), (k4 ≤ 12) → 12 - k4 < n_ → V vp l ve (rmD 6 0 0) vs vm va vb vt vc (MQ vb (CtQ g (some (.int 1)) (N + 0) F) va vs 0 0 (gA g)) g 12 0 0 N (ovr f o (yaL g o σ ρ S P φ κ τ π q h t c w b b2)) 203 [some (.ref o), some (.int x), some (.ref (o + 179)), some (.ref (o + 180)), some (.ref (o + 181)), some (.ref (o + 182)), some (.ref (o + 183)), some (.int (nI k4)), none, none, none, none] [] := by
                      intro n_
                      induction n_ with
                      | zero => intro k4 hk4 hm_; exact absurd hm_ (Nat.not_lt_zero _)
                      | succ n_ ih203 =>
                        intro k4 hk4 hm203
                        refine v_iload X dL_same_203 rfl ?_
                        refine v_bipush X dL_same_205 (v := (12 : Int32)) (by decide) ?_
                        refine v_icmp_ge X dL_same_207 (tgt := 420) (by decide) (fun c207 => ?_) (fun c207 => ?_)
                        · skip
                          refine v_iconst X dL_same_420 (v := (0 : Int32)) (by decide) ?_
                          refine v_istore X dL_same_421 (Nat.le_of_ble_eq_true rfl) rfl ?_
                          have LP423 : ∀ (n_ : Nat) (k5 : Nat), (k5 ≤ C) → C - k5 < n_ → V vp l ve (rmD 6 0 0) vs vm va vb vt vc (MQ vb (CtQ g (some (.int 1)) (N + 0) F) va vs 0 0 (gA g)) g 12 0 0 N (ovr f o (yaL g o σ ρ S P φ κ τ π q h t c w b b2)) 423 [some (.ref o), some (.int x), some (.ref (o + 179)), some (.ref (o + 180)), some (.ref (o + 181)), some (.ref (o + 182)), some (.ref (o + 183)), some (.int (nI k5)), none, none, none, none] [] := by
                            intro n_
                            induction n_ with
                            | zero => intro k5 hk5 hm_; exact absurd hm_ (Nat.not_lt_zero _)
                            | succ n_ ih423 =>
                              intro k5 hk5 hm423
                              refine v_iload X dL_same_423 rfl ?_
                              refine v_aload_n X dL_same_425 (i := 2) rfl rfl ?_
                              refine v_iconst X dL_same_426 (v := (0 : Int32)) (by decide) ?_
                              refine v_ialdB X hB dL_same_427 179 (Nat.le_of_ble_eq_true rfl) rfl 0 rfl (by omega) (Nat.le_of_ble_eq_true rfl) ?_
                              refine v_icmp_ge X dL_same_428 (tgt := 497) (by decide) (fun c428 => ?_) (fun c428 => ?_)
                              · skip
                                refine v_aload_n X dL_same_497 (i := 0) rfl rfl ?_
                                refine v_cvB X rfl yv_X7_whyNot m_ml_L_58 0 0 (c_X7_whyNot l g N o σ ρ S P φ κ τ π C P0 g9.1 g9.2.1 g9.2.2.1 g9.2.2.2) hB (Nat.le_of_ble_eq_true rfl) rfl (Nat.le_of_ble_eq_true rfl) rfl (L' := (yaL g o σ ρ S P φ κ τ π q h t c w b b2)) (rfl) rfl (Nat.le_of_ble_eq_true rfl) rfl rfl (Nat.le_of_ble_eq_true rfl) ⟨Nat.le_of_ble_eq_true rfl, Nat.le_of_ble_eq_true rfl⟩ ⟨Nat.le_of_ble_eq_true rfl, Nat.le_of_ble_eq_true rfl⟩ dL_same_498 rfl ?_
                                refine v_iconst X dL_same_501 (v := (1 : Int32)) (by decide) ?_
                                refine v_aload_n X dL_same_502 (i := 2) rfl rfl ?_
                                refine v_aload_n X dL_same_503 (i := 3) rfl rfl ?_
                                refine v_aload X dL_same_504 rfl ?_
                                refine v_aload X dL_same_506 rfl ?_
                                refine v_csB2 X rfl yv_L_why m_ml_L_16 179 (c_L_why_1 l g N (o + 179) (o + 182) σ q h t c C P0 hA g9 hV hY) hB (OB.of 179 182 hB rfl rfl (Nat.le_of_ble_eq_true rfl) (Or.inl (Nat.le_of_ble_eq_true rfl)) rfl rfl) (Nat.le_of_ble_eq_true rfl) rfl (Nat.le_of_ble_eq_true rfl) rfl (L' := (yaL g o σ ρ S P φ κ τ π q h t c w b b2)) (rfl) rfl rfl (Nat.le_of_ble_eq_true rfl) ⟨Nat.le_of_ble_eq_true rfl, Nat.le_of_ble_eq_true rfl⟩ ⟨Nat.le_of_ble_eq_true rfl, Nat.le_of_ble_eq_true rfl⟩ dL_same_508 rfl ?_
                                refine v_cs X rfl yv_L_reason m_ml_L_24 (c_L_reason l g (wyV (rsG σ C P0) (nTold σ P0 (rsG σ C P0))) ) rfl rfl (Nat.le_of_ble_eq_true rfl) ⟨Nat.le_of_ble_eq_true rfl, Nat.le_of_ble_eq_true rfl⟩ ⟨Nat.le_of_ble_eq_true rfl, Nat.le_of_ble_eq_true rfl⟩ dL_same_511 rfl ?_
                                refine v_icmp_ne X dL_same_514 (tgt := 542) (by decide) (fun c514 => ?_) (fun c514 => ?_)
                                · skip
                                  exact absurd ((wok_v (wok_G σ C P0)).2.1.symm) c514
                                · skip
                                  refine v_aload_n X dL_same_517 (i := 0) rfl rfl ?_
                                  refine v_aload_n X dL_same_518 (i := 2) rfl rfl ?_
                                  refine v_iconst X dL_same_519 (v := (0 : Int32)) (by decide) ?_
                                  refine v_ialdB X hB dL_same_520 179 (Nat.le_of_ble_eq_true rfl) rfl 0 rfl (by omega) (Nat.le_of_ble_eq_true rfl) ?_
                                  refine v_iconst X dL_same_521 (v := (0 : Int32)) (by decide) ?_
                                  refine v_cvB X rfl yv_X7_card m_ml_L_52 0 0 (c_X7_card l g N o σ ρ S P φ κ τ π (q 0) (0 : Int32) C g9.1 g9.2.2.2) hB (Nat.le_of_ble_eq_true rfl) rfl (Nat.le_of_ble_eq_true rfl) rfl (L' := (yaL g o σ ρ S P φ κ τ π q h t c w b b2)) (rfl) rfl (Nat.le_of_ble_eq_true rfl) rfl rfl (Nat.le_of_ble_eq_true rfl) ⟨Nat.le_of_ble_eq_true rfl, Nat.le_of_ble_eq_true rfl⟩ ⟨Nat.le_of_ble_eq_true rfl, Nat.le_of_ble_eq_true rfl⟩ dL_same_522 rfl ?_
                                  refine v_iconst X dL_same_525 (v := (-1 : Int32)) (by decide) ?_
                                  refine v_icmp_ne X dL_same_526 (tgt := 542) (by decide) (fun c526 => ?_) (fun c526 => ?_)
                                  · skip
                                    exact absurd (cd_n (hA.1 0 (by omega))) c526
                                  · skip
                                    refine v_aload_n X dL_same_529 (i := 0) rfl rfl ?_
                                    refine v_aload_n X dL_same_530 (i := 2) rfl rfl ?_
                                    refine v_bipush X dL_same_531 (v := (7 : Int32)) (by decide) ?_
                                    refine v_ialdB X hB dL_same_533 179 (Nat.le_of_ble_eq_true rfl) rfl 7 rfl (by omega) (Nat.le_of_ble_eq_true rfl) ?_
                                    refine v_iconst X dL_same_534 (v := (0 : Int32)) (by decide) ?_
                                    refine v_cvB X rfl yv_X7_cloth m_ml_L_43 0 0 (c_X7_cloth l g N o σ ρ S P φ κ τ π (q 7) (0 : Int32) R lt hR hR20 hlt hlt20) hB (Nat.le_of_ble_eq_true rfl) rfl (Nat.le_of_ble_eq_true rfl) rfl (L' := (yaL g o σ ρ S P φ κ τ π q h t c w b b2)) (rfl) rfl (Nat.le_of_ble_eq_true rfl) rfl rfl (Nat.le_of_ble_eq_true rfl) ⟨Nat.le_of_ble_eq_true rfl, Nat.le_of_ble_eq_true rfl⟩ ⟨Nat.le_of_ble_eq_true rfl, Nat.le_of_ble_eq_true rfl⟩ dL_same_535 rfl ?_
                                    refine v_iconst X dL_same_538 (v := (-1 : Int32)) (by decide) ?_
                                    refine v_icmp_eq X dL_same_539 (tgt := 544) (by decide) (fun c539 => ?_) (fun c539 => ?_)
                                    · skip
                                      refine v_iload_n X dL_same_544 (i := 1) rfl rfl ?_
                                      refine v_iconst X dL_same_545 (v := (4 : Int32)) (by decide) ?_
                                      refine v_cs X rfl yv_L_low m_ml_L_62 (c_L_low l g (4 : Int32) 4 rfl x (by decide) (by decide)) rfl rfl (Nat.le_of_ble_eq_true rfl) ⟨Nat.le_of_ble_eq_true rfl, Nat.le_of_ble_eq_true rfl⟩ ⟨Nat.le_of_ble_eq_true rfl, Nat.le_of_ble_eq_true rfl⟩ dL_same_546 rfl ?_
                                      refine v_if_gt X dL_same_549 (tgt := 603) (by decide) (fun c549 => ?_) (fun c549 => ?_)
                                      · skip
                                        refine v_iconst X dL_same_603 (v := (1 : Int32)) (by decide) ?_
                                        refine v_goto X dL_same_604 (tgt := 608) (by decide) ?_
                                        exact v_zret X rfl dL_same_608 (rfl) (rfl) (by rw [hF9])
                                      · skip
                                        exact absurd hx (Int32.not_lt.mpr c549)
                                    · skip
                                      exact absurd (cl_n (hA.1 7 (by omega))) c539
                              · skip
                                rw [hq0] at c428
                                have hk55 : k5 < C := lt_of_nI (b := C) (by omega) (by omega) c428
                                refine v_iconst X dL_same_431 (v := (0 : Int32)) (by decide) ?_
                                refine v_istore X dL_same_432 (Nat.le_of_ble_eq_true rfl) rfl ?_
                                have LP434 : ∀ (n_ : Nat) (i : Nat), (i ≤ 3) → 3 - i < n_ → V vp l ve (rmD 6 0 0) vs vm va vb vt vc (MQ vb (CtQ g (some (.int 1)) (N + 0) F) va vs 0 0 (gA g)) g 12 0 0 N (ovr f o (yaL g o σ ρ S P φ κ τ π q h t c w b b2)) 434 [some (.ref o), some (.int x), some (.ref (o + 179)), some (.ref (o + 180)), some (.ref (o + 181)), some (.ref (o + 182)), some (.ref (o + 183)), some (.int (nI k5)), some (.int (nI i)), none, none, none] [] := by
                                  intro n_
                                  induction n_ with
                                  | zero => intro i hi hm_; exact absurd hm_ (Nat.not_lt_zero _)
                                  | succ n_ ih434 =>
                                    intro i hi hm434
                                    refine v_iload X dL_same_434 rfl ?_
                                    refine v_iconst X dL_same_436 (v := (3 : Int32)) (by decide) ?_
                                    refine v_icmp_ge X dL_same_437 (tgt := 491) (by decide) (fun c437 => ?_) (fun c437 => ?_)
                                    · skip
                                      refine v_iinc X dL_same_491 (v := nI (k5 + 1)) rfl (ix_inc rfl) (Nat.le_of_ble_eq_true rfl) rfl ?_
                                      refine v_goto X dL_same_494 (tgt := 423) (by decide) ?_
                                      refine v_drop 8 ?_
                                      exact ih423 (k5 + 1) (by omega) (by omega)
                                    · skip
                                      have hi5 : i < 3 := lt_of_nI (b := 3) (by omega) (by omega) c437
                                      refine v_aload_n X dL_same_440 (i := 0) rfl rfl ?_
                                      refine v_iload X dL_same_441 rfl ?_
                                      refine v_iload X dL_same_443 rfl ?_
                                      refine v_cvB X rfl yv_X7_card m_ml_L_52 0 0 (c_X7_card l g N o σ ρ S P φ κ τ π (nI k5) (nI i) C g9.1 g9.2.2.2) hB (Nat.le_of_ble_eq_true rfl) rfl (Nat.le_of_ble_eq_true rfl) rfl (L' := (yaL g o σ ρ S P φ κ τ π q h t c w b b2)) (rfl) rfl (Nat.le_of_ble_eq_true rfl) rfl rfl (Nat.le_of_ble_eq_true rfl) ⟨Nat.le_of_ble_eq_true rfl, Nat.le_of_ble_eq_true rfl⟩ ⟨Nat.le_of_ble_eq_true rfl, Nat.le_of_ble_eq_true rfl⟩ dL_same_445 rfl ?_
                                      refine v_aload X dL_same_448 rfl ?_
                                      refine v_iconst X dL_same_450 (v := (3 : Int32)) (by decide) ?_
                                      refine v_iload X dL_same_451 rfl ?_
                                      refine v_imul X dL_same_453 ?_
                                      refine v_iload X dL_same_454 rfl ?_
                                      refine v_iadd X dL_same_456 ?_
                                      refine v_ialdB X hB dL_same_457 182 (Nat.le_of_ble_eq_true rfl) rfl ((3 * k5) + i) (ix_add (ix_mul rfl rfl) rfl) (by omega) (Nat.le_of_ble_eq_true rfl) ?_
                                      refine v_icmp_ne X dL_same_458 (tgt := 483) (by decide) (fun c458 => ?_) (fun c458 => ?_)
                                      · skip
                                        exact absurd ((cd_i g9.1 hC16 hk55 hi5).trans (hA.2.2.2 _ (by omega)).symm) c458
                                      · skip
                                        refine v_aload_n X dL_same_461 (i := 0) rfl rfl ?_
                                        refine v_iload X dL_same_462 rfl ?_
                                        refine v_iconst X dL_same_464 (v := (3 : Int32)) (by decide) ?_
                                        refine v_cvB X rfl yv_X7_card m_ml_L_52 0 0 (c_X7_card l g N o σ ρ S P φ κ τ π (nI k5) (3 : Int32) C g9.1 g9.2.2.2) hB (Nat.le_of_ble_eq_true rfl) rfl (Nat.le_of_ble_eq_true rfl) rfl (L' := (yaL g o σ ρ S P φ κ τ π q h t c w b b2)) (rfl) rfl (Nat.le_of_ble_eq_true rfl) rfl rfl (Nat.le_of_ble_eq_true rfl) ⟨Nat.le_of_ble_eq_true rfl, Nat.le_of_ble_eq_true rfl⟩ ⟨Nat.le_of_ble_eq_true rfl, Nat.le_of_ble_eq_true rfl⟩ dL_same_465 rfl ?_
                                        refine v_aload X dL_same_468 rfl ?_
                                        refine v_iconst X dL_same_470 (v := (3 : Int32)) (by decide) ?_
                                        refine v_iload X dL_same_471 rfl ?_
                                        refine v_imul X dL_same_473 ?_
                                        refine v_ialdB X hB dL_same_474 182 (Nat.le_of_ble_eq_true rfl) rfl (3 * k5) (ix_mul rfl rfl) (by omega) (Nat.le_of_ble_eq_true rfl) ?_
                                        refine v_aload X dL_same_475 rfl ?_
                                        refine v_csB X rfl yv_L_threads m_ml_L_55 181 (c_L_threads l g N (o + 181) t (c (3 * k5)) ) hB (Nat.le_of_ble_eq_true rfl) rfl (Nat.le_of_ble_eq_true rfl) rfl (L' := (yaL g o σ ρ S P φ κ τ π q h t c w b b2)) (rfl) rfl rfl (Nat.le_of_ble_eq_true rfl) ⟨Nat.le_of_ble_eq_true rfl, Nat.le_of_ble_eq_true rfl⟩ ⟨Nat.le_of_ble_eq_true rfl, Nat.le_of_ble_eq_true rfl⟩ dL_same_477 rfl ?_
                                        refine v_icmp_eq X dL_same_480 (tgt := 485) (by decide) (fun c480 => ?_) (fun c480 => ?_)
                                        · skip
                                          refine v_iinc X dL_same_485 (v := nI (i + 1)) rfl (ix_inc rfl) (Nat.le_of_ble_eq_true rfl) rfl ?_
                                          refine v_goto X dL_same_488 (tgt := 434) (by decide) ?_
                                          exact ih434 (i + 1) (by omega) (by omega)
                                        · skip
                                          exact absurd ((cd_3 g9.1 hC16 hk55).trans (by rw [hA.2.2.2 (3 * k5) (by omega), thW_S hF hA.2.2.1 12 (Nat.le_refl _)])) c480
                                exact LP434 _ 0 (Nat.zero_le _) (Nat.lt_succ_self _)
                          exact LP423 _ 0 (Nat.zero_le _) (Nat.lt_succ_self _)
                        · skip
                          have hk45 : k4 < 12 := lt_of_nI (b := 12) (by omega) (by omega) c207
                          refine v_iconst X dL_same_210 (v := (0 : Int32)) (by decide) ?_
                          refine v_istore X dL_same_211 (Nat.le_of_ble_eq_true rfl) rfl ?_
                          refine v_iconst X dL_same_213 (v := (0 : Int32)) (by decide) ?_
                          refine v_istore X dL_same_214 (Nat.le_of_ble_eq_true rfl) rfl ?_
                          refine v_iconst X dL_same_216 (v := (0 : Int32)) (by decide) ?_
                          refine v_istore X dL_same_217 (Nat.le_of_ble_eq_true rfl) rfl ?_
                          have LP219 : ∀ (n_ : Nat) (r : Nat), (r ≤ R) → R - r < n_ → V vp l ve (rmD 6 0 0) vs vm va vb vt vc (MQ vb (CtQ g (some (.int 1)) (N + 0) F) va vs 0 0 (gA g)) g 12 0 0 N (ovr f o (yaL g o σ ρ S P φ κ τ π q h t c w b b2)) 219 [some (.ref o), some (.int x), some (.ref (o + 179)), some (.ref (o + 180)), some (.ref (o + 181)), some (.ref (o + 182)), some (.ref (o + 183)), some (.int (nI k4)), some (.int (nI (rnX (wbt w k4) r))), some (.int (nI (rnN (wbt w k4) r))), some (.int (nI r)), none] [] := by
                            intro n_
                            induction n_ with
                            | zero => intro r hr hm_; exact absurd hm_ (Nat.not_lt_zero _)
                            | succ n_ ih219 =>
                              intro r hr hm219
                              refine v_iload X dL_same_219 rfl ?_
                              refine v_aload_n X dL_same_221 (i := 2) rfl rfl ?_
                              refine v_bipush X dL_same_222 (v := (7 : Int32)) (by decide) ?_
                              refine v_ialdB X hB dL_same_224 179 (Nat.le_of_ble_eq_true rfl) rfl 7 rfl (by omega) (Nat.le_of_ble_eq_true rfl) ?_
                              refine v_icmp_ge X dL_same_225 (tgt := 342) (by decide) (fun c225 => ?_) (fun c225 => ?_)
                              · skip
                                rw [hq7] at c225
                                have hr5 : r = R := Nat.le_antisymm hr (le_of_nI (by omega) (by omega) c225)
                                refine v_aload_n X dL_same_342 (i := 0) rfl rfl ?_
                                refine v_iload X dL_same_343 rfl ?_
                                refine v_iconst X dL_same_345 (v := (0 : Int32)) (by decide) ?_
                                refine v_cvB X rfl yv_X7_thread m_ml_L_46 0 0 (c_X7_thread l g N o σ ρ S P φ κ τ π (nI k4) (0 : Int32) ) hB (Nat.le_of_ble_eq_true rfl) rfl (Nat.le_of_ble_eq_true rfl) rfl (L' := (yaL g o σ ρ S P φ κ τ π q h t c w b b2)) (rfl) rfl (Nat.le_of_ble_eq_true rfl) rfl rfl (Nat.le_of_ble_eq_true rfl) ⟨Nat.le_of_ble_eq_true rfl, Nat.le_of_ble_eq_true rfl⟩ ⟨Nat.le_of_ble_eq_true rfl, Nat.le_of_ble_eq_true rfl⟩ dL_same_346 rfl ?_
                                refine v_aload X dL_same_349 rfl ?_
                                refine v_iconst X dL_same_351 (v := (2 : Int32)) (by decide) ?_
                                refine v_iload X dL_same_352 rfl ?_
                                refine v_imul X dL_same_354 ?_
                                refine v_ialdB X hB dL_same_355 181 (Nat.le_of_ble_eq_true rfl) rfl (2 * k4) (ix_mul rfl rfl) (by omega) (Nat.le_of_ble_eq_true rfl) ?_
                                refine v_icmp_ne X dL_same_356 (tgt := 412) (by decide) (fun c356 => ?_) (fun c356 => ?_)
                                · skip
                                  exact absurd ((th_0 hk45).trans (hA.2.2.1 (2 * k4) (by omega)).symm) c356
                                · skip
                                  refine v_aload_n X dL_same_359 (i := 0) rfl rfl ?_
                                  refine v_iload X dL_same_360 rfl ?_
                                  refine v_iconst X dL_same_362 (v := (1 : Int32)) (by decide) ?_
                                  refine v_cvB X rfl yv_X7_thread m_ml_L_46 0 0 (c_X7_thread l g N o σ ρ S P φ κ τ π (nI k4) (1 : Int32) ) hB (Nat.le_of_ble_eq_true rfl) rfl (Nat.le_of_ble_eq_true rfl) rfl (L' := (yaL g o σ ρ S P φ κ τ π q h t c w b b2)) (rfl) rfl (Nat.le_of_ble_eq_true rfl) rfl rfl (Nat.le_of_ble_eq_true rfl) ⟨Nat.le_of_ble_eq_true rfl, Nat.le_of_ble_eq_true rfl⟩ ⟨Nat.le_of_ble_eq_true rfl, Nat.le_of_ble_eq_true rfl⟩ dL_same_363 rfl ?_
                                  refine v_aload X dL_same_366 rfl ?_
                                  refine v_iconst X dL_same_368 (v := (2 : Int32)) (by decide) ?_
                                  refine v_iload X dL_same_369 rfl ?_
                                  refine v_imul X dL_same_371 ?_
                                  refine v_iconst X dL_same_372 (v := (1 : Int32)) (by decide) ?_
                                  refine v_iadd X dL_same_373 ?_
                                  refine v_ialdB X hB dL_same_374 181 (Nat.le_of_ble_eq_true rfl) rfl ((2 * k4) + 1) (ix_add (ix_mul rfl rfl) rfl) (by omega) (Nat.le_of_ble_eq_true rfl) ?_
                                  refine v_icmp_ne X dL_same_375 (tgt := 412) (by decide) (fun c375 => ?_) (fun c375 => ?_)
                                  · skip
                                    exact absurd ((th_1 hk45).trans ((congrArg σ (by omega)).trans (hA.2.2.1 (2 * k4 + 1) (by omega)).symm)) c375
                                  · skip
                                    refine v_aload_n X dL_same_378 (i := 0) rfl rfl ?_
                                    refine v_iload X dL_same_379 rfl ?_
                                    refine v_iconst X dL_same_381 (v := (2 : Int32)) (by decide) ?_
                                    refine v_cvB X rfl yv_X7_thread m_ml_L_46 0 0 (c_X7_thread l g N o σ ρ S P φ κ τ π (nI k4) (2 : Int32) ) hB (Nat.le_of_ble_eq_true rfl) rfl (Nat.le_of_ble_eq_true rfl) rfl (L' := (yaL g o σ ρ S P φ κ τ π q h t c w b b2)) (rfl) rfl (Nat.le_of_ble_eq_true rfl) rfl rfl (Nat.le_of_ble_eq_true rfl) ⟨Nat.le_of_ble_eq_true rfl, Nat.le_of_ble_eq_true rfl⟩ ⟨Nat.le_of_ble_eq_true rfl, Nat.le_of_ble_eq_true rfl⟩ dL_same_382 rfl ?_
                                    refine v_aload_n X dL_same_385 (i := 2) rfl rfl ?_
                                    refine v_iconst X dL_same_386 (v := (5 : Int32)) (by decide) ?_
                                    refine v_ialdB X hB dL_same_387 179 (Nat.le_of_ble_eq_true rfl) rfl 5 rfl (by omega) (Nat.le_of_ble_eq_true rfl) ?_
                                    refine v_aload X dL_same_388 rfl ?_
                                    refine v_iconst X dL_same_390 (v := (2 : Int32)) (by decide) ?_
                                    refine v_iload X dL_same_391 rfl ?_
                                    refine v_imul X dL_same_393 ?_
                                    refine v_ialdB X hB dL_same_394 181 (Nat.le_of_ble_eq_true rfl) rfl (2 * k4) (ix_mul rfl rfl) (by omega) (Nat.le_of_ble_eq_true rfl) ?_
                                    refine v_ishr X dL_same_395 ?_
                                    refine v_iconst X dL_same_396 (v := (1 : Int32)) (by decide) ?_
                                    refine v_iand X dL_same_397 ?_
                                    refine v_icmp_ne X dL_same_398 (tgt := 412) (by decide) (fun c398 => ?_) (fun c398 => ?_)
                                    · skip
                                      exact absurd ((th_2 hk45).trans (by rw [hA.1 5 (by omega), hA.2.2.1 (2 * k4) (by omega)])) c398
                                    · skip
                                      refine v_aload_n X dL_same_401 (i := 0) rfl rfl ?_
                                      refine v_iload X dL_same_402 rfl ?_
                                      refine v_cvB X rfl yv_X7_longestFloat m_ml_L_49 0 0 (c_X7_longestFloat l g N o σ ρ S P φ κ τ π (nI k4) R lt hR hR20 hlt hlt20) hB (Nat.le_of_ble_eq_true rfl) rfl (Nat.le_of_ble_eq_true rfl) rfl (L' := (yaL g o σ ρ S P φ κ τ π q h t c w b b2)) (rfl) rfl (Nat.le_of_ble_eq_true rfl) rfl rfl (Nat.le_of_ble_eq_true rfl) ⟨Nat.le_of_ble_eq_true rfl, Nat.le_of_ble_eq_true rfl⟩ ⟨Nat.le_of_ble_eq_true rfl, Nat.le_of_ble_eq_true rfl⟩ dL_same_404 rfl ?_
                                      refine v_iload X dL_same_407 rfl ?_
                                      refine v_icmp_eq X dL_same_409 (tgt := 414) (by decide) (fun c409 => ?_) (fun c409 => ?_)
                                      · skip
                                        refine v_iinc X dL_same_414 (v := nI (k4 + 1)) rfl (ix_inc rfl) (Nat.le_of_ble_eq_true rfl) rfl ?_
                                        refine v_goto X dL_same_417 (tgt := 203) (by decide) ?_
                                        refine v_drop 8 ?_
                                        refine v_drop 9 ?_
                                        refine v_drop 10 ?_
                                        exact ih203 (k4 + 1) (by omega) (by omega)
                                      · skip
                                        exact absurd ((lg_k hRC hR20 hk45).trans (by rw [hr5])) c409
                              · skip
                                rw [hq7] at c225
                                have hr5 : r < R := lt_of_nI (b := R) (by omega) (by omega) c225
                                have z1 := rnN_le (wbt w k4) (r + 1)
                                have z2 := rnX_le (wbt w k4) r
                                refine v_aload X dL_same_228 rfl ?_
                                refine v_iconst X dL_same_230 (v := (2 : Int32)) (by decide) ?_
                                refine v_iload X dL_same_231 rfl ?_
                                refine v_imul X dL_same_233 ?_
                                refine v_iconst X dL_same_234 (v := (1 : Int32)) (by decide) ?_
                                refine v_iadd X dL_same_235 ?_
                                refine v_ialdB X hB dL_same_236 183 (Nat.le_of_ble_eq_true rfl) rfl ((2 * r) + 1) (ix_add (ix_mul rfl rfl) rfl) (by omega) (Nat.le_of_ble_eq_true rfl) ?_
                                refine v_istore X dL_same_237 (Nat.le_of_ble_eq_true rfl) rfl ?_
                                refine v_iload X dL_same_239 rfl ?_
                                refine v_if_le X dL_same_241 (tgt := 271) (by decide) (fun c241 => ?_) (fun c241 => ?_)
                                · skip
                                  have hr0 : r = 0 := by
                                    have := le_of_nI (b := 0) (by omega) (by omega) c241
                                    omega
                                  refine v_iconst X dL_same_271 (v := (1 : Int32)) (by decide) ?_
                                  refine V.cast (st' := [.int (nI (rnN (wbt w k4) (r + 1)))]) ?_ rfl (by rw [rnN, if_neg (fun z => absurd z.1 (by omega))]; rfl) rfl
                                  refine v_istore X dL_same_272 (Nat.le_of_ble_eq_true rfl) rfl ?_
                                  refine v_iload X dL_same_274 rfl ?_
                                  refine v_iload X dL_same_276 rfl ?_
                                  refine v_icmp_le X dL_same_278 (tgt := 286) (by decide) (fun c278 => ?_) (fun c278 => ?_)
                                  · skip
                                    refine v_iload X dL_same_286 rfl ?_
                                    refine V.cast (st' := [.int (nI (rnX (wbt w k4) (r + 1)))]) ?_ rfl (by rw [rnX, if_neg (fun z => absurd (le_of_nI (by omega) (by omega) c278) (by omega))]) rfl
                                    refine v_istore X dL_same_288 (Nat.le_of_ble_eq_true rfl) rfl ?_
                                    refine v_aload_n X dL_same_290 (i := 0) rfl rfl ?_
                                    refine v_aload_n X dL_same_291 (i := 2) rfl rfl ?_
                                    refine v_bipush X dL_same_292 (v := (7 : Int32)) (by decide) ?_
                                    refine v_ialdB X hB dL_same_294 179 (Nat.le_of_ble_eq_true rfl) rfl 7 rfl (by omega) (Nat.le_of_ble_eq_true rfl) ?_
                                    refine v_iconst X dL_same_295 (v := (1 : Int32)) (by decide) ?_
                                    refine v_isub X dL_same_296 ?_
                                    refine v_iload X dL_same_297 rfl ?_
                                    refine v_isub X dL_same_299 ?_
                                    refine v_iload X dL_same_300 rfl ?_
                                    refine v_cvB X rfl yv_X7_cloth m_ml_L_43 0 0 (c_X7_cloth l g N o σ ρ S P φ κ τ π (((q 7) - (1 : Int32)) - (nI r)) (nI k4) R lt hR hR20 hlt hlt20) hB (Nat.le_of_ble_eq_true rfl) rfl (Nat.le_of_ble_eq_true rfl) rfl (L' := (yaL g o σ ρ S P φ κ τ π q h t c w b b2)) (rfl) rfl (Nat.le_of_ble_eq_true rfl) rfl rfl (Nat.le_of_ble_eq_true rfl) ⟨Nat.le_of_ble_eq_true rfl, Nat.le_of_ble_eq_true rfl⟩ ⟨Nat.le_of_ble_eq_true rfl, Nat.le_of_ble_eq_true rfl⟩ dL_same_302 rfl ?_
                                    refine v_iload X dL_same_305 rfl ?_
                                    refine v_iload X dL_same_307 rfl ?_
                                    refine v_ishr X dL_same_309 ?_
                                    refine v_iconst X dL_same_310 (v := (1 : Int32)) (by decide) ?_
                                    refine v_iand X dL_same_311 ?_
                                    refine v_iconst X dL_same_312 (v := (1 : Int32)) (by decide) ?_
                                    refine v_icmp_ne X dL_same_313 (tgt := 324) (by decide) (fun c313 => ?_) (fun c313 => ?_)
                                    · skip
                                      refine v_aload X dL_same_324 rfl ?_
                                      refine v_iconst X dL_same_326 (v := (2 : Int32)) (by decide) ?_
                                      refine v_iload X dL_same_327 rfl ?_
                                      refine v_imul X dL_same_329 ?_
                                      refine v_ialdB X hB dL_same_330 183 (Nat.le_of_ble_eq_true rfl) rfl (2 * r) (ix_mul rfl rfl) (by omega) (Nat.le_of_ble_eq_true rfl) ?_
                                      refine v_icmp_eq X dL_same_331 (tgt := 336) (by decide) (fun c331 => ?_) (fun c331 => ?_)
                                      · skip
                                        refine v_iinc X dL_same_336 (v := nI (r + 1)) rfl (ix_inc rfl) (Nat.le_of_ble_eq_true rfl) rfl ?_
                                        refine v_goto X dL_same_339 (tgt := 219) (by decide) ?_
                                        refine v_drop 11 ?_
                                        exact ih219 (r + 1) (by omega) (by omega)
                                      · skip
                                        exact absurd ((cl_k hR hq7 hRC hR20 hr5 hk45).trans (if_neg c313)) c331
                                    · skip
                                      refine v_bipush X dL_same_316 (v := (100 : Int32)) (by decide) ?_
                                      refine v_iload X dL_same_318 rfl ?_
                                      refine v_iadd X dL_same_320 ?_
                                      refine v_goto X dL_same_321 (tgt := 331) (by decide) ?_
                                      refine v_icmp_eq X dL_same_331 (tgt := 336) (by decide) (fun c331 => ?_) (fun c331 => ?_)
                                      · skip
                                        refine v_iinc X dL_same_336 (v := nI (r + 1)) rfl (ix_inc rfl) (Nat.le_of_ble_eq_true rfl) rfl ?_
                                        refine v_goto X dL_same_339 (tgt := 219) (by decide) ?_
                                        refine v_drop 11 ?_
                                        exact ih219 (r + 1) (by omega) (by omega)
                                      · skip
                                        exact absurd ((cl_k hR hq7 hRC hR20 hr5 hk45).trans (if_pos c313)) c331
                                  · skip
                                    refine v_iload X dL_same_281 rfl ?_
                                    refine v_goto X dL_same_283 (tgt := 288) (by decide) ?_
                                    refine V.cast (st' := [.int (nI (rnX (wbt w k4) (r + 1)))]) ?_ rfl (by rw [rnX, if_pos (lt_of_nI (by omega) (by omega) c278)]) rfl
                                    refine v_istore X dL_same_288 (Nat.le_of_ble_eq_true rfl) rfl ?_
                                    refine v_aload_n X dL_same_290 (i := 0) rfl rfl ?_
                                    refine v_aload_n X dL_same_291 (i := 2) rfl rfl ?_
                                    refine v_bipush X dL_same_292 (v := (7 : Int32)) (by decide) ?_
                                    refine v_ialdB X hB dL_same_294 179 (Nat.le_of_ble_eq_true rfl) rfl 7 rfl (by omega) (Nat.le_of_ble_eq_true rfl) ?_
                                    refine v_iconst X dL_same_295 (v := (1 : Int32)) (by decide) ?_
                                    refine v_isub X dL_same_296 ?_
                                    refine v_iload X dL_same_297 rfl ?_
                                    refine v_isub X dL_same_299 ?_
                                    refine v_iload X dL_same_300 rfl ?_
                                    refine v_cvB X rfl yv_X7_cloth m_ml_L_43 0 0 (c_X7_cloth l g N o σ ρ S P φ κ τ π (((q 7) - (1 : Int32)) - (nI r)) (nI k4) R lt hR hR20 hlt hlt20) hB (Nat.le_of_ble_eq_true rfl) rfl (Nat.le_of_ble_eq_true rfl) rfl (L' := (yaL g o σ ρ S P φ κ τ π q h t c w b b2)) (rfl) rfl (Nat.le_of_ble_eq_true rfl) rfl rfl (Nat.le_of_ble_eq_true rfl) ⟨Nat.le_of_ble_eq_true rfl, Nat.le_of_ble_eq_true rfl⟩ ⟨Nat.le_of_ble_eq_true rfl, Nat.le_of_ble_eq_true rfl⟩ dL_same_302 rfl ?_
                                    refine v_iload X dL_same_305 rfl ?_
                                    refine v_iload X dL_same_307 rfl ?_
                                    refine v_ishr X dL_same_309 ?_
                                    refine v_iconst X dL_same_310 (v := (1 : Int32)) (by decide) ?_
                                    refine v_iand X dL_same_311 ?_
                                    refine v_iconst X dL_same_312 (v := (1 : Int32)) (by decide) ?_
                                    refine v_icmp_ne X dL_same_313 (tgt := 324) (by decide) (fun c313 => ?_) (fun c313 => ?_)
                                    · skip
                                      refine v_aload X dL_same_324 rfl ?_
                                      refine v_iconst X dL_same_326 (v := (2 : Int32)) (by decide) ?_
                                      refine v_iload X dL_same_327 rfl ?_
                                      refine v_imul X dL_same_329 ?_
                                      refine v_ialdB X hB dL_same_330 183 (Nat.le_of_ble_eq_true rfl) rfl (2 * r) (ix_mul rfl rfl) (by omega) (Nat.le_of_ble_eq_true rfl) ?_
                                      refine v_icmp_eq X dL_same_331 (tgt := 336) (by decide) (fun c331 => ?_) (fun c331 => ?_)
                                      · skip
                                        refine v_iinc X dL_same_336 (v := nI (r + 1)) rfl (ix_inc rfl) (Nat.le_of_ble_eq_true rfl) rfl ?_
                                        refine v_goto X dL_same_339 (tgt := 219) (by decide) ?_
                                        refine v_drop 11 ?_
                                        exact ih219 (r + 1) (by omega) (by omega)
                                      · skip
                                        exact absurd ((cl_k hR hq7 hRC hR20 hr5 hk45).trans (if_neg c313)) c331
                                    · skip
                                      refine v_bipush X dL_same_316 (v := (100 : Int32)) (by decide) ?_
                                      refine v_iload X dL_same_318 rfl ?_
                                      refine v_iadd X dL_same_320 ?_
                                      refine v_goto X dL_same_321 (tgt := 331) (by decide) ?_
                                      refine v_icmp_eq X dL_same_331 (tgt := 336) (by decide) (fun c331 => ?_) (fun c331 => ?_)
                                      · skip
                                        refine v_iinc X dL_same_336 (v := nI (r + 1)) rfl (ix_inc rfl) (Nat.le_of_ble_eq_true rfl) rfl ?_
                                        refine v_goto X dL_same_339 (tgt := 219) (by decide) ?_
                                        refine v_drop 11 ?_
                                        exact ih219 (r + 1) (by omega) (by omega)
                                      · skip
                                        exact absurd ((cl_k hR hq7 hRC hR20 hr5 hk45).trans (if_pos c313)) c331
                                · skip
                                  have hr0 : 0 < r := lt_of_nI (a := 0) (by omega) (by omega) c241
                                  refine v_iload X dL_same_244 rfl ?_
                                  refine v_aload X dL_same_246 rfl ?_
                                  refine v_iconst X dL_same_248 (v := (2 : Int32)) (by decide) ?_
                                  refine v_iload X dL_same_249 rfl ?_
                                  refine v_imul X dL_same_251 ?_
                                  refine v_iconst X dL_same_252 (v := (1 : Int32)) (by decide) ?_
                                  refine v_isub X dL_same_253 ?_
                                  refine v_ialdB X hB dL_same_254 183 (Nat.le_of_ble_eq_true rfl) rfl (2 * (r - 1) + 1) (by rw [show (2 : Int32) * nI r = nI (2 * r) from ix_mul rfl rfl, show 2 * (r - 1) + 1 = 2 * r - 1 by omega]; exact pk_sub (b := 1) (by omega)) (by omega) (Nat.le_of_ble_eq_true rfl) ?_
                                  refine v_ixor X dL_same_255 ?_
                                  refine v_iload X dL_same_256 rfl ?_
                                  refine v_ishr X dL_same_258 ?_
                                  refine v_iconst X dL_same_259 (v := (1 : Int32)) (by decide) ?_
                                  refine v_iand X dL_same_260 ?_
                                  refine v_if_ne X dL_same_261 (tgt := 271) (by decide) (fun c261 => ?_) (fun c261 => ?_)
                                  · skip
                                    refine v_iconst X dL_same_271 (v := (1 : Int32)) (by decide) ?_
                                    refine V.cast (st' := [.int (nI (rnN (wbt w k4) (r + 1)))]) ?_ rfl (by rw [rnN, if_neg (fun z => c261 ((xor_bit0 _ _ _).mpr z.2))]; rfl) rfl
                                    refine v_istore X dL_same_272 (Nat.le_of_ble_eq_true rfl) rfl ?_
                                    refine v_iload X dL_same_274 rfl ?_
                                    refine v_iload X dL_same_276 rfl ?_
                                    refine v_icmp_le X dL_same_278 (tgt := 286) (by decide) (fun c278 => ?_) (fun c278 => ?_)
                                    · skip
                                      refine v_iload X dL_same_286 rfl ?_
                                      refine V.cast (st' := [.int (nI (rnX (wbt w k4) (r + 1)))]) ?_ rfl (by rw [rnX, if_neg (fun z => absurd (le_of_nI (by omega) (by omega) c278) (by omega))]) rfl
                                      refine v_istore X dL_same_288 (Nat.le_of_ble_eq_true rfl) rfl ?_
                                      refine v_aload_n X dL_same_290 (i := 0) rfl rfl ?_
                                      refine v_aload_n X dL_same_291 (i := 2) rfl rfl ?_
                                      refine v_bipush X dL_same_292 (v := (7 : Int32)) (by decide) ?_
                                      refine v_ialdB X hB dL_same_294 179 (Nat.le_of_ble_eq_true rfl) rfl 7 rfl (by omega) (Nat.le_of_ble_eq_true rfl) ?_
                                      refine v_iconst X dL_same_295 (v := (1 : Int32)) (by decide) ?_
                                      refine v_isub X dL_same_296 ?_
                                      refine v_iload X dL_same_297 rfl ?_
                                      refine v_isub X dL_same_299 ?_
                                      refine v_iload X dL_same_300 rfl ?_
                                      refine v_cvB X rfl yv_X7_cloth m_ml_L_43 0 0 (c_X7_cloth l g N o σ ρ S P φ κ τ π (((q 7) - (1 : Int32)) - (nI r)) (nI k4) R lt hR hR20 hlt hlt20) hB (Nat.le_of_ble_eq_true rfl) rfl (Nat.le_of_ble_eq_true rfl) rfl (L' := (yaL g o σ ρ S P φ κ τ π q h t c w b b2)) (rfl) rfl (Nat.le_of_ble_eq_true rfl) rfl rfl (Nat.le_of_ble_eq_true rfl) ⟨Nat.le_of_ble_eq_true rfl, Nat.le_of_ble_eq_true rfl⟩ ⟨Nat.le_of_ble_eq_true rfl, Nat.le_of_ble_eq_true rfl⟩ dL_same_302 rfl ?_
                                      refine v_iload X dL_same_305 rfl ?_
                                      refine v_iload X dL_same_307 rfl ?_
                                      refine v_ishr X dL_same_309 ?_
                                      refine v_iconst X dL_same_310 (v := (1 : Int32)) (by decide) ?_
                                      refine v_iand X dL_same_311 ?_
                                      refine v_iconst X dL_same_312 (v := (1 : Int32)) (by decide) ?_
                                      refine v_icmp_ne X dL_same_313 (tgt := 324) (by decide) (fun c313 => ?_) (fun c313 => ?_)
                                      · skip
                                        refine v_aload X dL_same_324 rfl ?_
                                        refine v_iconst X dL_same_326 (v := (2 : Int32)) (by decide) ?_
                                        refine v_iload X dL_same_327 rfl ?_
                                        refine v_imul X dL_same_329 ?_
                                        refine v_ialdB X hB dL_same_330 183 (Nat.le_of_ble_eq_true rfl) rfl (2 * r) (ix_mul rfl rfl) (by omega) (Nat.le_of_ble_eq_true rfl) ?_
                                        refine v_icmp_eq X dL_same_331 (tgt := 336) (by decide) (fun c331 => ?_) (fun c331 => ?_)
                                        · skip
                                          refine v_iinc X dL_same_336 (v := nI (r + 1)) rfl (ix_inc rfl) (Nat.le_of_ble_eq_true rfl) rfl ?_
                                          refine v_goto X dL_same_339 (tgt := 219) (by decide) ?_
                                          refine v_drop 11 ?_
                                          exact ih219 (r + 1) (by omega) (by omega)
                                        · skip
                                          exact absurd ((cl_k hR hq7 hRC hR20 hr5 hk45).trans (if_neg c313)) c331
                                      · skip
                                        refine v_bipush X dL_same_316 (v := (100 : Int32)) (by decide) ?_
                                        refine v_iload X dL_same_318 rfl ?_
                                        refine v_iadd X dL_same_320 ?_
                                        refine v_goto X dL_same_321 (tgt := 331) (by decide) ?_
                                        refine v_icmp_eq X dL_same_331 (tgt := 336) (by decide) (fun c331 => ?_) (fun c331 => ?_)
                                        · skip
                                          refine v_iinc X dL_same_336 (v := nI (r + 1)) rfl (ix_inc rfl) (Nat.le_of_ble_eq_true rfl) rfl ?_
                                          refine v_goto X dL_same_339 (tgt := 219) (by decide) ?_
                                          refine v_drop 11 ?_
                                          exact ih219 (r + 1) (by omega) (by omega)
                                        · skip
                                          exact absurd ((cl_k hR hq7 hRC hR20 hr5 hk45).trans (if_pos c313)) c331
                                    · skip
                                      refine v_iload X dL_same_281 rfl ?_
                                      refine v_goto X dL_same_283 (tgt := 288) (by decide) ?_
                                      refine V.cast (st' := [.int (nI (rnX (wbt w k4) (r + 1)))]) ?_ rfl (by rw [rnX, if_pos (lt_of_nI (by omega) (by omega) c278)]) rfl
                                      refine v_istore X dL_same_288 (Nat.le_of_ble_eq_true rfl) rfl ?_
                                      refine v_aload_n X dL_same_290 (i := 0) rfl rfl ?_
                                      refine v_aload_n X dL_same_291 (i := 2) rfl rfl ?_
                                      refine v_bipush X dL_same_292 (v := (7 : Int32)) (by decide) ?_
                                      refine v_ialdB X hB dL_same_294 179 (Nat.le_of_ble_eq_true rfl) rfl 7 rfl (by omega) (Nat.le_of_ble_eq_true rfl) ?_
                                      refine v_iconst X dL_same_295 (v := (1 : Int32)) (by decide) ?_
                                      refine v_isub X dL_same_296 ?_
                                      refine v_iload X dL_same_297 rfl ?_
                                      refine v_isub X dL_same_299 ?_
                                      refine v_iload X dL_same_300 rfl ?_
                                      refine v_cvB X rfl yv_X7_cloth m_ml_L_43 0 0 (c_X7_cloth l g N o σ ρ S P φ κ τ π (((q 7) - (1 : Int32)) - (nI r)) (nI k4) R lt hR hR20 hlt hlt20) hB (Nat.le_of_ble_eq_true rfl) rfl (Nat.le_of_ble_eq_true rfl) rfl (L' := (yaL g o σ ρ S P φ κ τ π q h t c w b b2)) (rfl) rfl (Nat.le_of_ble_eq_true rfl) rfl rfl (Nat.le_of_ble_eq_true rfl) ⟨Nat.le_of_ble_eq_true rfl, Nat.le_of_ble_eq_true rfl⟩ ⟨Nat.le_of_ble_eq_true rfl, Nat.le_of_ble_eq_true rfl⟩ dL_same_302 rfl ?_
                                      refine v_iload X dL_same_305 rfl ?_
                                      refine v_iload X dL_same_307 rfl ?_
                                      refine v_ishr X dL_same_309 ?_
                                      refine v_iconst X dL_same_310 (v := (1 : Int32)) (by decide) ?_
                                      refine v_iand X dL_same_311 ?_
                                      refine v_iconst X dL_same_312 (v := (1 : Int32)) (by decide) ?_
                                      refine v_icmp_ne X dL_same_313 (tgt := 324) (by decide) (fun c313 => ?_) (fun c313 => ?_)
                                      · skip
                                        refine v_aload X dL_same_324 rfl ?_
                                        refine v_iconst X dL_same_326 (v := (2 : Int32)) (by decide) ?_
                                        refine v_iload X dL_same_327 rfl ?_
                                        refine v_imul X dL_same_329 ?_
                                        refine v_ialdB X hB dL_same_330 183 (Nat.le_of_ble_eq_true rfl) rfl (2 * r) (ix_mul rfl rfl) (by omega) (Nat.le_of_ble_eq_true rfl) ?_
                                        refine v_icmp_eq X dL_same_331 (tgt := 336) (by decide) (fun c331 => ?_) (fun c331 => ?_)
                                        · skip
                                          refine v_iinc X dL_same_336 (v := nI (r + 1)) rfl (ix_inc rfl) (Nat.le_of_ble_eq_true rfl) rfl ?_
                                          refine v_goto X dL_same_339 (tgt := 219) (by decide) ?_
                                          refine v_drop 11 ?_
                                          exact ih219 (r + 1) (by omega) (by omega)
                                        · skip
                                          exact absurd ((cl_k hR hq7 hRC hR20 hr5 hk45).trans (if_neg c313)) c331
                                      · skip
                                        refine v_bipush X dL_same_316 (v := (100 : Int32)) (by decide) ?_
                                        refine v_iload X dL_same_318 rfl ?_
                                        refine v_iadd X dL_same_320 ?_
                                        refine v_goto X dL_same_321 (tgt := 331) (by decide) ?_
                                        refine v_icmp_eq X dL_same_331 (tgt := 336) (by decide) (fun c331 => ?_) (fun c331 => ?_)
                                        · skip
                                          refine v_iinc X dL_same_336 (v := nI (r + 1)) rfl (ix_inc rfl) (Nat.le_of_ble_eq_true rfl) rfl ?_
                                          refine v_goto X dL_same_339 (tgt := 219) (by decide) ?_
                                          refine v_drop 11 ?_
                                          exact ih219 (r + 1) (by omega) (by omega)
                                        · skip
                                          exact absurd ((cl_k hR hq7 hRC hR20 hr5 hk45).trans (if_pos c313)) c331
                                  · skip
                                    refine v_iload X dL_same_264 rfl ?_
                                    refine v_iconst X dL_same_266 (v := (1 : Int32)) (by decide) ?_
                                    refine v_iadd X dL_same_267 ?_
                                    refine v_goto X dL_same_268 (tgt := 272) (by decide) ?_
                                    refine V.cast (st' := [.int (nI (rnN (wbt w k4) (r + 1)))]) ?_ rfl (by rw [rnN, if_pos ⟨hr0, (xor_bit0 _ _ _).mp c261⟩]; exact congrArg (fun z => [Value.int z]) (nI_add _ 1)) rfl
                                    refine v_istore X dL_same_272 (Nat.le_of_ble_eq_true rfl) rfl ?_
                                    refine v_iload X dL_same_274 rfl ?_
                                    refine v_iload X dL_same_276 rfl ?_
                                    refine v_icmp_le X dL_same_278 (tgt := 286) (by decide) (fun c278 => ?_) (fun c278 => ?_)
                                    · skip
                                      refine v_iload X dL_same_286 rfl ?_
                                      refine V.cast (st' := [.int (nI (rnX (wbt w k4) (r + 1)))]) ?_ rfl (by rw [rnX, if_neg (fun z => absurd (le_of_nI (by omega) (by omega) c278) (by omega))]) rfl
                                      refine v_istore X dL_same_288 (Nat.le_of_ble_eq_true rfl) rfl ?_
                                      refine v_aload_n X dL_same_290 (i := 0) rfl rfl ?_
                                      refine v_aload_n X dL_same_291 (i := 2) rfl rfl ?_
                                      refine v_bipush X dL_same_292 (v := (7 : Int32)) (by decide) ?_
                                      refine v_ialdB X hB dL_same_294 179 (Nat.le_of_ble_eq_true rfl) rfl 7 rfl (by omega) (Nat.le_of_ble_eq_true rfl) ?_
                                      refine v_iconst X dL_same_295 (v := (1 : Int32)) (by decide) ?_
                                      refine v_isub X dL_same_296 ?_
                                      refine v_iload X dL_same_297 rfl ?_
                                      refine v_isub X dL_same_299 ?_
                                      refine v_iload X dL_same_300 rfl ?_
                                      refine v_cvB X rfl yv_X7_cloth m_ml_L_43 0 0 (c_X7_cloth l g N o σ ρ S P φ κ τ π (((q 7) - (1 : Int32)) - (nI r)) (nI k4) R lt hR hR20 hlt hlt20) hB (Nat.le_of_ble_eq_true rfl) rfl (Nat.le_of_ble_eq_true rfl) rfl (L' := (yaL g o σ ρ S P φ κ τ π q h t c w b b2)) (rfl) rfl (Nat.le_of_ble_eq_true rfl) rfl rfl (Nat.le_of_ble_eq_true rfl) ⟨Nat.le_of_ble_eq_true rfl, Nat.le_of_ble_eq_true rfl⟩ ⟨Nat.le_of_ble_eq_true rfl, Nat.le_of_ble_eq_true rfl⟩ dL_same_302 rfl ?_
                                      refine v_iload X dL_same_305 rfl ?_
                                      refine v_iload X dL_same_307 rfl ?_
                                      refine v_ishr X dL_same_309 ?_
                                      refine v_iconst X dL_same_310 (v := (1 : Int32)) (by decide) ?_
                                      refine v_iand X dL_same_311 ?_
                                      refine v_iconst X dL_same_312 (v := (1 : Int32)) (by decide) ?_
                                      refine v_icmp_ne X dL_same_313 (tgt := 324) (by decide) (fun c313 => ?_) (fun c313 => ?_)
                                      · skip
                                        refine v_aload X dL_same_324 rfl ?_
                                        refine v_iconst X dL_same_326 (v := (2 : Int32)) (by decide) ?_
                                        refine v_iload X dL_same_327 rfl ?_
                                        refine v_imul X dL_same_329 ?_
                                        refine v_ialdB X hB dL_same_330 183 (Nat.le_of_ble_eq_true rfl) rfl (2 * r) (ix_mul rfl rfl) (by omega) (Nat.le_of_ble_eq_true rfl) ?_
                                        refine v_icmp_eq X dL_same_331 (tgt := 336) (by decide) (fun c331 => ?_) (fun c331 => ?_)
                                        · skip
                                          refine v_iinc X dL_same_336 (v := nI (r + 1)) rfl (ix_inc rfl) (Nat.le_of_ble_eq_true rfl) rfl ?_
                                          refine v_goto X dL_same_339 (tgt := 219) (by decide) ?_
                                          refine v_drop 11 ?_
                                          exact ih219 (r + 1) (by omega) (by omega)
                                        · skip
                                          exact absurd ((cl_k hR hq7 hRC hR20 hr5 hk45).trans (if_neg c313)) c331
                                      · skip
                                        refine v_bipush X dL_same_316 (v := (100 : Int32)) (by decide) ?_
                                        refine v_iload X dL_same_318 rfl ?_
                                        refine v_iadd X dL_same_320 ?_
                                        refine v_goto X dL_same_321 (tgt := 331) (by decide) ?_
                                        refine v_icmp_eq X dL_same_331 (tgt := 336) (by decide) (fun c331 => ?_) (fun c331 => ?_)
                                        · skip
                                          refine v_iinc X dL_same_336 (v := nI (r + 1)) rfl (ix_inc rfl) (Nat.le_of_ble_eq_true rfl) rfl ?_
                                          refine v_goto X dL_same_339 (tgt := 219) (by decide) ?_
                                          refine v_drop 11 ?_
                                          exact ih219 (r + 1) (by omega) (by omega)
                                        · skip
                                          exact absurd ((cl_k hR hq7 hRC hR20 hr5 hk45).trans (if_pos c313)) c331
                                    · skip
                                      refine v_iload X dL_same_281 rfl ?_
                                      refine v_goto X dL_same_283 (tgt := 288) (by decide) ?_
                                      refine V.cast (st' := [.int (nI (rnX (wbt w k4) (r + 1)))]) ?_ rfl (by rw [rnX, if_pos (lt_of_nI (by omega) (by omega) c278)]) rfl
                                      refine v_istore X dL_same_288 (Nat.le_of_ble_eq_true rfl) rfl ?_
                                      refine v_aload_n X dL_same_290 (i := 0) rfl rfl ?_
                                      refine v_aload_n X dL_same_291 (i := 2) rfl rfl ?_
                                      refine v_bipush X dL_same_292 (v := (7 : Int32)) (by decide) ?_
                                      refine v_ialdB X hB dL_same_294 179 (Nat.le_of_ble_eq_true rfl) rfl 7 rfl (by omega) (Nat.le_of_ble_eq_true rfl) ?_
                                      refine v_iconst X dL_same_295 (v := (1 : Int32)) (by decide) ?_
                                      refine v_isub X dL_same_296 ?_
                                      refine v_iload X dL_same_297 rfl ?_
                                      refine v_isub X dL_same_299 ?_
                                      refine v_iload X dL_same_300 rfl ?_
                                      refine v_cvB X rfl yv_X7_cloth m_ml_L_43 0 0 (c_X7_cloth l g N o σ ρ S P φ κ τ π (((q 7) - (1 : Int32)) - (nI r)) (nI k4) R lt hR hR20 hlt hlt20) hB (Nat.le_of_ble_eq_true rfl) rfl (Nat.le_of_ble_eq_true rfl) rfl (L' := (yaL g o σ ρ S P φ κ τ π q h t c w b b2)) (rfl) rfl (Nat.le_of_ble_eq_true rfl) rfl rfl (Nat.le_of_ble_eq_true rfl) ⟨Nat.le_of_ble_eq_true rfl, Nat.le_of_ble_eq_true rfl⟩ ⟨Nat.le_of_ble_eq_true rfl, Nat.le_of_ble_eq_true rfl⟩ dL_same_302 rfl ?_
                                      refine v_iload X dL_same_305 rfl ?_
                                      refine v_iload X dL_same_307 rfl ?_
                                      refine v_ishr X dL_same_309 ?_
                                      refine v_iconst X dL_same_310 (v := (1 : Int32)) (by decide) ?_
                                      refine v_iand X dL_same_311 ?_
                                      refine v_iconst X dL_same_312 (v := (1 : Int32)) (by decide) ?_
                                      refine v_icmp_ne X dL_same_313 (tgt := 324) (by decide) (fun c313 => ?_) (fun c313 => ?_)
                                      · skip
                                        refine v_aload X dL_same_324 rfl ?_
                                        refine v_iconst X dL_same_326 (v := (2 : Int32)) (by decide) ?_
                                        refine v_iload X dL_same_327 rfl ?_
                                        refine v_imul X dL_same_329 ?_
                                        refine v_ialdB X hB dL_same_330 183 (Nat.le_of_ble_eq_true rfl) rfl (2 * r) (ix_mul rfl rfl) (by omega) (Nat.le_of_ble_eq_true rfl) ?_
                                        refine v_icmp_eq X dL_same_331 (tgt := 336) (by decide) (fun c331 => ?_) (fun c331 => ?_)
                                        · skip
                                          refine v_iinc X dL_same_336 (v := nI (r + 1)) rfl (ix_inc rfl) (Nat.le_of_ble_eq_true rfl) rfl ?_
                                          refine v_goto X dL_same_339 (tgt := 219) (by decide) ?_
                                          refine v_drop 11 ?_
                                          exact ih219 (r + 1) (by omega) (by omega)
                                        · skip
                                          exact absurd ((cl_k hR hq7 hRC hR20 hr5 hk45).trans (if_neg c313)) c331
                                      · skip
                                        refine v_bipush X dL_same_316 (v := (100 : Int32)) (by decide) ?_
                                        refine v_iload X dL_same_318 rfl ?_
                                        refine v_iadd X dL_same_320 ?_
                                        refine v_goto X dL_same_321 (tgt := 331) (by decide) ?_
                                        refine v_icmp_eq X dL_same_331 (tgt := 336) (by decide) (fun c331 => ?_) (fun c331 => ?_)
                                        · skip
                                          refine v_iinc X dL_same_336 (v := nI (r + 1)) rfl (ix_inc rfl) (Nat.le_of_ble_eq_true rfl) rfl ?_
                                          refine v_goto X dL_same_339 (tgt := 219) (by decide) ?_
                                          refine v_drop 11 ?_
                                          exact ih219 (r + 1) (by omega) (by omega)
                                        · skip
                                          exact absurd ((cl_k hR hq7 hRC hR20 hr5 hk45).trans (if_pos c313)) c331
                          exact LP219 _ 0 (Nat.zero_le _) (Nat.lt_succ_self _)
                    exact LP203 _ 0 (Nat.zero_le _) (Nat.lt_succ_self _)
                  · skip
                    have hk35 : k3 < 4 := lt_of_nI (b := 4) (by omega) (by omega) c148
                    refine v_aload_n X dL_same_151 (i := 0) rfl rfl ?_
                    refine v_iconst X dL_same_152 (v := (0 : Int32)) (by decide) ?_
                    refine v_iload X dL_same_153 rfl ?_
                    refine v_cvB X rfl yv_X7_inBox m_ml_L_40 0 0 (c_X7_inBox l g N o σ ρ S P φ κ τ π (0 : Int32) (nI k3) ) hB (Nat.le_of_ble_eq_true rfl) rfl (Nat.le_of_ble_eq_true rfl) rfl (L' := (yaL g o σ ρ S P φ κ τ π q h t c w b b2)) (rfl) rfl (Nat.le_of_ble_eq_true rfl) rfl rfl (Nat.le_of_ble_eq_true rfl) ⟨Nat.le_of_ble_eq_true rfl, Nat.le_of_ble_eq_true rfl⟩ ⟨Nat.le_of_ble_eq_true rfl, Nat.le_of_ble_eq_true rfl⟩ dL_same_155 rfl ?_
                    refine v_iload X dL_same_158 rfl ?_
                    refine v_aload_n X dL_same_160 (i := 3) rfl rfl ?_
                    refine v_csB X rfl yv_L_in m_ml_L_10 180 (c_L_in l g N (o + 180) h (nI k3) ) hB (Nat.le_of_ble_eq_true rfl) rfl (Nat.le_of_ble_eq_true rfl) rfl (L' := (yaL g o σ ρ S P φ κ τ π q h t c w b b2)) (rfl) rfl rfl (Nat.le_of_ble_eq_true rfl) ⟨Nat.le_of_ble_eq_true rfl, Nat.le_of_ble_eq_true rfl⟩ ⟨Nat.le_of_ble_eq_true rfl, Nat.le_of_ble_eq_true rfl⟩ dL_same_161 rfl ?_
                    refine v_icmp_ne X dL_same_164 (tgt := 192) (by decide) (fun c164 => ?_) (fun c164 => ?_)
                    · skip
                      exact absurd ((ib_0 hk35).trans (in_0 hA hV hk35 5 0 rfl).symm) c164
                    · skip
                      refine v_iload X dL_same_167 rfl ?_
                      refine v_iconst X dL_same_169 (v := (2 : Int32)) (by decide) ?_
                      refine v_icmp_ge X dL_same_170 (tgt := 194) (by decide) (fun c170 => ?_) (fun c170 => ?_)
                      · skip
                        refine v_iinc X dL_same_194 (v := nI (k3 + 1)) rfl (ix_inc rfl) (Nat.le_of_ble_eq_true rfl) rfl ?_
                        refine v_goto X dL_same_197 (tgt := 145) (by decide) ?_
                        exact ih145 (k3 + 1) (by omega) (by omega)
                      · skip
                        have hk32 : k3 < 2 := lt_of_nI (b := 2) (by omega) (by omega) c170
                        refine v_aload_n X dL_same_173 (i := 0) rfl rfl ?_
                        refine v_iconst X dL_same_174 (v := (1 : Int32)) (by decide) ?_
                        refine v_iload X dL_same_175 rfl ?_
                        refine v_cvB X rfl yv_X7_inBox m_ml_L_40 0 0 (c_X7_inBox l g N o σ ρ S P φ κ τ π (1 : Int32) (nI k3) ) hB (Nat.le_of_ble_eq_true rfl) rfl (Nat.le_of_ble_eq_true rfl) rfl (L' := (yaL g o σ ρ S P φ κ τ π q h t c w b b2)) (rfl) rfl (Nat.le_of_ble_eq_true rfl) rfl rfl (Nat.le_of_ble_eq_true rfl) ⟨Nat.le_of_ble_eq_true rfl, Nat.le_of_ble_eq_true rfl⟩ ⟨Nat.le_of_ble_eq_true rfl, Nat.le_of_ble_eq_true rfl⟩ dL_same_177 rfl ?_
                        refine v_bipush X dL_same_180 (v := (10 : Int32)) (by decide) ?_
                        refine v_iload X dL_same_182 rfl ?_
                        refine v_iadd X dL_same_184 ?_
                        refine v_aload_n X dL_same_185 (i := 3) rfl rfl ?_
                        refine v_csB X rfl yv_L_in m_ml_L_10 180 (c_L_in l g N (o + 180) h ((10 : Int32) + (nI k3)) ) hB (Nat.le_of_ble_eq_true rfl) rfl (Nat.le_of_ble_eq_true rfl) rfl (L' := (yaL g o σ ρ S P φ κ τ π q h t c w b b2)) (rfl) rfl rfl (Nat.le_of_ble_eq_true rfl) ⟨Nat.le_of_ble_eq_true rfl, Nat.le_of_ble_eq_true rfl⟩ ⟨Nat.le_of_ble_eq_true rfl, Nat.le_of_ble_eq_true rfl⟩ dL_same_186 rfl ?_
                        refine v_icmp_eq X dL_same_189 (tgt := 194) (by decide) (fun c189 => ?_) (fun c189 => ?_)
                        · skip
                          refine v_iinc X dL_same_194 (v := nI (k3 + 1)) rfl (ix_inc rfl) (Nat.le_of_ble_eq_true rfl) rfl ?_
                          refine v_goto X dL_same_197 (tgt := 145) (by decide) ?_
                          exact ih145 (k3 + 1) (by omega) (by omega)
                        · skip
                          exact absurd ((ib_1 hk32).trans (in_1 hA hV hk35 5 0 rfl).symm) c189
              exact LP145 _ 0 (Nat.zero_le _) (Nat.lt_succ_self _)
            · skip
              have hk25 : k2 < 5 := lt_of_nI (b := 5) (by omega) (by omega) c37
              have hw := (hA.2.1 k2 hk25).2.2
              have w1 : h (3 * k2 + 2) < 0 → σ (14 + 4 * k2) = -6 ∧ σ (15 + 4 * k2) = -6 := by rw [hw]; exact (wh_sb hV hk25).1
              have w2 : ¬ h (3 * k2 + 2) < 0 → σ (14 + 4 * k2) = h (3 * k2 + 2) / 10 ∧ σ (15 + 4 * k2) = h (3 * k2 + 2) - h (3 * k2 + 2) / 10 * 10 := by rw [hw]; exact (wh_sb hV hk25).2
              have s0 : shF σ (nI k2) 0 = σ (12 + 4 * k2) := sh_j 0 hk25 (by omega)
              have s1 : shF σ (nI k2) 1 = σ (13 + 4 * k2) := (sh_j 1 hk25 (by omega)).trans (congrArg σ (by omega))
              have s2 : shF σ (nI k2) 2 = σ (14 + 4 * k2) := (sh_j 2 hk25 (by omega)).trans (congrArg σ (by omega))
              have s3 : shF σ (nI k2) 3 = σ (15 + 4 * k2) := (sh_j 3 hk25 (by omega)).trans (congrArg σ (by omega))
              refine v_aload_n X dL_same_40 (i := 3) rfl rfl ?_
              refine v_iconst X dL_same_41 (v := (3 : Int32)) (by decide) ?_
              refine v_iload X dL_same_42 rfl ?_
              refine v_imul X dL_same_44 ?_
              refine v_iconst X dL_same_45 (v := (2 : Int32)) (by decide) ?_
              refine v_iadd X dL_same_46 ?_
              refine v_ialdB X hB dL_same_47 180 (Nat.le_of_ble_eq_true rfl) rfl ((3 * k2) + 2) (ix_add (ix_mul rfl rfl) rfl) (by omega) (Nat.le_of_ble_eq_true rfl) ?_
              refine v_istore X dL_same_48 (Nat.le_of_ble_eq_true rfl) rfl ?_
              refine v_aload_n X dL_same_50 (i := 0) rfl rfl ?_
              refine v_iload X dL_same_51 rfl ?_
              refine v_iconst X dL_same_53 (v := (0 : Int32)) (by decide) ?_
              refine v_cvB X rfl yv_X7_shuttle m_ml_L_36 0 0 (c_X7_shuttle l g N o σ ρ S P φ κ τ π (nI k2) (0 : Int32) ) hB (Nat.le_of_ble_eq_true rfl) rfl (Nat.le_of_ble_eq_true rfl) rfl (L' := (yaL g o σ ρ S P φ κ τ π q h t c w b b2)) (rfl) rfl (Nat.le_of_ble_eq_true rfl) rfl rfl (Nat.le_of_ble_eq_true rfl) ⟨Nat.le_of_ble_eq_true rfl, Nat.le_of_ble_eq_true rfl⟩ ⟨Nat.le_of_ble_eq_true rfl, Nat.le_of_ble_eq_true rfl⟩ dL_same_54 rfl ?_
              refine v_aload_n X dL_same_57 (i := 3) rfl rfl ?_
              refine v_iconst X dL_same_58 (v := (3 : Int32)) (by decide) ?_
              refine v_iload X dL_same_59 rfl ?_
              refine v_imul X dL_same_61 ?_
              refine v_ialdB X hB dL_same_62 180 (Nat.le_of_ble_eq_true rfl) rfl (3 * k2) (ix_mul rfl rfl) (by omega) (Nat.le_of_ble_eq_true rfl) ?_
              refine v_icmp_ne X dL_same_63 (tgt := 134) (by decide) (fun c63 => ?_) (fun c63 => ?_)
              · skip
                exact absurd (s0.trans (hA.2.1 k2 hk25).1.symm) c63
              · skip
                refine v_aload_n X dL_same_66 (i := 0) rfl rfl ?_
                refine v_iload X dL_same_67 rfl ?_
                refine v_iconst X dL_same_69 (v := (1 : Int32)) (by decide) ?_
                refine v_cvB X rfl yv_X7_shuttle m_ml_L_36 0 0 (c_X7_shuttle l g N o σ ρ S P φ κ τ π (nI k2) (1 : Int32) ) hB (Nat.le_of_ble_eq_true rfl) rfl (Nat.le_of_ble_eq_true rfl) rfl (L' := (yaL g o σ ρ S P φ κ τ π q h t c w b b2)) (rfl) rfl (Nat.le_of_ble_eq_true rfl) rfl rfl (Nat.le_of_ble_eq_true rfl) ⟨Nat.le_of_ble_eq_true rfl, Nat.le_of_ble_eq_true rfl⟩ ⟨Nat.le_of_ble_eq_true rfl, Nat.le_of_ble_eq_true rfl⟩ dL_same_70 rfl ?_
                refine v_aload_n X dL_same_73 (i := 3) rfl rfl ?_
                refine v_iconst X dL_same_74 (v := (3 : Int32)) (by decide) ?_
                refine v_iload X dL_same_75 rfl ?_
                refine v_imul X dL_same_77 ?_
                refine v_iconst X dL_same_78 (v := (1 : Int32)) (by decide) ?_
                refine v_iadd X dL_same_79 ?_
                refine v_ialdB X hB dL_same_80 180 (Nat.le_of_ble_eq_true rfl) rfl ((3 * k2) + 1) (ix_add (ix_mul rfl rfl) rfl) (by omega) (Nat.le_of_ble_eq_true rfl) ?_
                refine v_icmp_ne X dL_same_81 (tgt := 134) (by decide) (fun c81 => ?_) (fun c81 => ?_)
                · skip
                  exact absurd (s1.trans (hA.2.1 k2 hk25).2.1.symm) c81
                · skip
                  refine v_aload_n X dL_same_84 (i := 0) rfl rfl ?_
                  refine v_iload X dL_same_85 rfl ?_
                  refine v_iconst X dL_same_87 (v := (2 : Int32)) (by decide) ?_
                  refine v_cvB X rfl yv_X7_shuttle m_ml_L_36 0 0 (c_X7_shuttle l g N o σ ρ S P φ κ τ π (nI k2) (2 : Int32) ) hB (Nat.le_of_ble_eq_true rfl) rfl (Nat.le_of_ble_eq_true rfl) rfl (L' := (yaL g o σ ρ S P φ κ τ π q h t c w b b2)) (rfl) rfl (Nat.le_of_ble_eq_true rfl) rfl rfl (Nat.le_of_ble_eq_true rfl) ⟨Nat.le_of_ble_eq_true rfl, Nat.le_of_ble_eq_true rfl⟩ ⟨Nat.le_of_ble_eq_true rfl, Nat.le_of_ble_eq_true rfl⟩ dL_same_88 rfl ?_
                  refine v_iload X dL_same_91 rfl ?_
                  refine v_if_ge X dL_same_93 (tgt := 101) (by decide) (fun c93 => ?_) (fun c93 => ?_)
                  · skip
                    refine v_iload X dL_same_101 rfl ?_
                    refine v_bipush X dL_same_103 (v := (10 : Int32)) (by decide) ?_
                    refine v_idiv X dL_same_105 (by decide) ?_
                    refine v_icmp_ne X dL_same_106 (tgt := 134) (by decide) (fun c106 => ?_) (fun c106 => ?_)
                    · skip
                      exact absurd (s2.trans (w2 (Int32.not_lt.mpr c93)).1) c106
                    · skip
                      refine v_aload_n X dL_same_109 (i := 0) rfl rfl ?_
                      refine v_iload X dL_same_110 rfl ?_
                      refine v_iconst X dL_same_112 (v := (3 : Int32)) (by decide) ?_
                      refine v_cvB X rfl yv_X7_shuttle m_ml_L_36 0 0 (c_X7_shuttle l g N o σ ρ S P φ κ τ π (nI k2) (3 : Int32) ) hB (Nat.le_of_ble_eq_true rfl) rfl (Nat.le_of_ble_eq_true rfl) rfl (L' := (yaL g o σ ρ S P φ κ τ π q h t c w b b2)) (rfl) rfl (Nat.le_of_ble_eq_true rfl) rfl rfl (Nat.le_of_ble_eq_true rfl) ⟨Nat.le_of_ble_eq_true rfl, Nat.le_of_ble_eq_true rfl⟩ ⟨Nat.le_of_ble_eq_true rfl, Nat.le_of_ble_eq_true rfl⟩ dL_same_113 rfl ?_
                      refine v_iload X dL_same_116 rfl ?_
                      refine v_if_ge X dL_same_118 (tgt := 126) (by decide) (fun c118 => ?_) (fun c118 => ?_)
                      · skip
                        refine v_iload X dL_same_126 rfl ?_
                        refine v_bipush X dL_same_128 (v := (10 : Int32)) (by decide) ?_
                        refine v_irem X dL_same_130 (by decide) ?_
                        refine v_icmp_eq X dL_same_131 (tgt := 136) (by decide) (fun c131 => ?_) (fun c131 => ?_)
                        · skip
                          refine v_iinc X dL_same_136 (v := nI (k2 + 1)) rfl (ix_inc rfl) (Nat.le_of_ble_eq_true rfl) rfl ?_
                          refine v_goto X dL_same_139 (tgt := 34) (by decide) ?_
                          refine v_drop 8 ?_
                          exact ih34 (k2 + 1) (by omega) (by omega)
                        · skip
                          exact absurd (s3.trans (w2 (Int32.not_lt.mpr c93)).2) c131
                      · skip
                        exact absurd (c118) (Int32.not_lt.mpr c93)
                  · skip
                    refine v_bipush X dL_same_96 (v := (-6 : Int32)) (by decide) ?_
                    refine v_goto X dL_same_98 (tgt := 106) (by decide) ?_
                    refine v_icmp_ne X dL_same_106 (tgt := 134) (by decide) (fun c106 => ?_) (fun c106 => ?_)
                    · skip
                      exact absurd (s2.trans (w1 c93).1) c106
                    · skip
                      refine v_aload_n X dL_same_109 (i := 0) rfl rfl ?_
                      refine v_iload X dL_same_110 rfl ?_
                      refine v_iconst X dL_same_112 (v := (3 : Int32)) (by decide) ?_
                      refine v_cvB X rfl yv_X7_shuttle m_ml_L_36 0 0 (c_X7_shuttle l g N o σ ρ S P φ κ τ π (nI k2) (3 : Int32) ) hB (Nat.le_of_ble_eq_true rfl) rfl (Nat.le_of_ble_eq_true rfl) rfl (L' := (yaL g o σ ρ S P φ κ τ π q h t c w b b2)) (rfl) rfl (Nat.le_of_ble_eq_true rfl) rfl rfl (Nat.le_of_ble_eq_true rfl) ⟨Nat.le_of_ble_eq_true rfl, Nat.le_of_ble_eq_true rfl⟩ ⟨Nat.le_of_ble_eq_true rfl, Nat.le_of_ble_eq_true rfl⟩ dL_same_113 rfl ?_
                      refine v_iload X dL_same_116 rfl ?_
                      refine v_if_ge X dL_same_118 (tgt := 126) (by decide) (fun c118 => ?_) (fun c118 => ?_)
                      · skip
                        exact absurd (c93) (Int32.not_lt.mpr c118)
                      · skip
                        refine v_bipush X dL_same_121 (v := (-6 : Int32)) (by decide) ?_
                        refine v_goto X dL_same_123 (tgt := 131) (by decide) ?_
                        refine v_icmp_eq X dL_same_131 (tgt := 136) (by decide) (fun c131 => ?_) (fun c131 => ?_)
                        · skip
                          refine v_iinc X dL_same_136 (v := nI (k2 + 1)) rfl (ix_inc rfl) (Nat.le_of_ble_eq_true rfl) rfl ?_
                          refine v_goto X dL_same_139 (tgt := 34) (by decide) ?_
                          refine v_drop 8 ?_
                          exact ih34 (k2 + 1) (by omega) (by omega)
                        · skip
                          exact absurd (s3.trans (w1 c93).2) c131
        exact LP34 _ 0 (Nat.zero_le _) (Nat.lt_succ_self _)
      · skip
        have hk15 : k1 < 12 := lt_of_nI (b := 12) (by omega) (by omega) c7
        refine v_aload_n X dL_same_10 (i := 0) rfl rfl ?_
        refine v_iload X dL_same_11 rfl ?_
        refine v_cvB X rfl yv_X7_count m_ml_L_31 0 0 (c_X7_count l g N o σ ρ S P φ κ τ π (nI k1) ) hB (Nat.le_of_ble_eq_true rfl) rfl (Nat.le_of_ble_eq_true rfl) rfl (L' := (yaL g o σ ρ S P φ κ τ π q h t c w b b2)) (rfl) rfl (Nat.le_of_ble_eq_true rfl) rfl rfl (Nat.le_of_ble_eq_true rfl) ⟨Nat.le_of_ble_eq_true rfl, Nat.le_of_ble_eq_true rfl⟩ ⟨Nat.le_of_ble_eq_true rfl, Nat.le_of_ble_eq_true rfl⟩ dL_same_13 rfl ?_
        refine v_aload_n X dL_same_16 (i := 2) rfl rfl ?_
        refine v_iload X dL_same_17 rfl ?_
        refine v_ialdB X hB dL_same_19 179 (Nat.le_of_ble_eq_true rfl) rfl k1 rfl (by omega) (Nat.le_of_ble_eq_true rfl) ?_
        refine v_icmp_eq X dL_same_20 (tgt := 25) (by decide) (fun c20 => ?_) (fun c20 => ?_)
        · skip
          refine v_iinc X dL_same_25 (v := nI (k1 + 1)) rfl (ix_inc rfl) (Nat.le_of_ble_eq_true rfl) rfl ?_
          refine v_goto X dL_same_28 (tgt := 3) (by decide) ?_
          exact ih3 (k1 + 1) (by omega) (by omega)
        · skip
          exact absurd ((cn_k hk15).trans (hA.1 k1 hk15).symm) c20
  exact LP3 _ 0 (Nat.zero_le _) (Nat.lt_succ_self _)
set_option maxRecDepth 100000 in
set_option maxHeartbeats 4000000 in
theorem c_L_same_1 (l : Launch) (g : Ge) (N o : Nat) (σ ρ : Nat → Int32) (S P : Nat → Nat → Int32) (φ κ τ π : Nat → Int32) (q h t c w b b2 : Nat → Int32) (x : Int32) (C P0 R lt : Nat) (hA : RA C σ q h t c) (g9 : GC C P0 σ) (hV : VR C σ) (hY : YN σ) (hF : FR σ) (hR : σ 7 = nI R) (hR20 : R ≤ 20) (hlt : ρ 140 = nI lt) (hlt20 : lt < 20) (hRC : RC R lt ρ w) (hx : ¬ 0 < lwF x 4) (f F : Pic) (hF9 : F = ovr (ovr (ovr (ovr f (g.2.2 + N) (qhL g (g.2.2 + N) (itA c (cG 200 σ) (cpM q 12 24, cpM h 15 24, cpM t 24 24)).1 (itA c (cG 200 σ) (cpM q 12 24, cpM h 15 24, cpM t 24 24)).2.1 (itA c (cG 200 σ) (cpM q 12 24, cpM h 15 24, cpM t 24 24)).2.2)) (g.2.2 + (N + 3)) (qhL g (g.2.2 + (N + 3)) (itA c (cC 999 σ) (cpM q 12 24, cpM h 15 24, cpM t 24 24)).1 (itA c (cC 999 σ) (cpM q 12 24, cpM h 15 24, cpM t 24 24)).2.1 (itA c (cC 999 σ) (cpM q 12 24, cpM h 15 24, cpM t 24 24)).2.2)) (g.2.2 + (N + 6)) (qhL g (g.2.2 + (N + 6)) (itA c (cG C (upd σ 1 0)) (upd (cpM q 12 24) 1 0, cpM h 15 24, cpM t 24 24)).1 (itA c (cG C (upd σ 1 0)) (upd (cpM q 12 24) 1 0, cpM h 15 24, cpM t 24 24)).2.1 (itA c (cG C (upd σ 1 0)) (upd (cpM q 12 24) 1 0, cpM h 15 24, cpM t 24 24)).2.2)) o (yaL g o σ ρ S P (if C = 0 then (feS 999 σ) else plS C (upd σ 1 0)) κ τ π q h t c w b b2)) (hB : BB g N o 186) : Ct l g yL_same (.code yL_same cL_same 12 (some .boolean)) 6 [.ref o, .int x, .ref (o + 179), .ref (o + 180), .ref (o + 181), .ref (o + 182), .ref (o + 183)] N (ovr f o (yaL g o σ ρ S P φ κ τ π q h t c w b b2)) (some (.int 1)) (N + 9) F 9 153 := by
  have hq0 : q 0 = nI C := (hA.1 0 (by omega)).trans g9.1
  have hq7 : q 7 = nI R := (hA.1 7 (by omega)).trans hR
  have hC16 := g9.2.2.2
  refine ct_of (own := RL) [some (.ref o), some (.int x), some (.ref (o + 179)), some (.ref (o + 180)), some (.ref (o + 181)), some (.ref (o + 182)), some (.ref (o + 183)), none, none, none, none, none] (by decide +kernel) rfl rfl (Nat.le_of_ble_eq_true rfl) ?_
  intro vp ve vs vm va vb vt vc hnm X
  refine v_iconst X dL_same_0 (v := (0 : Int32)) (by decide) ?_
  refine v_istore X dL_same_1 (Nat.le_of_ble_eq_true rfl) rfl ?_
  have LP3 : ∀ (n_ : Nat) (k1 : Nat), (k1 ≤ 12) → 12 - k1 < n_ → V vp l ve (rmD 6 9 153) vs vm va vb vt vc (MQ vb (CtQ g (some (.int 1)) (N + 9) F) va vs 9 153 (gA g)) g 12 0 0 N (ovr f o (yaL g o σ ρ S P φ κ τ π q h t c w b b2)) 3 [some (.ref o), some (.int x), some (.ref (o + 179)), some (.ref (o + 180)), some (.ref (o + 181)), some (.ref (o + 182)), some (.ref (o + 183)), some (.int (nI k1)), none, none, none, none] [] := by
    intro n_
    induction n_ with
    | zero => intro k1 hk1 hm_; exact absurd hm_ (Nat.not_lt_zero _)
    | succ n_ ih3 =>
      intro k1 hk1 hm3
      refine v_iload X dL_same_3 rfl ?_
      refine v_bipush X dL_same_5 (v := (12 : Int32)) (by decide) ?_
      refine v_icmp_ge X dL_same_7 (tgt := 31) (by decide) (fun c7 => ?_) (fun c7 => ?_)
      · skip
        refine v_iconst X dL_same_31 (v := (0 : Int32)) (by decide) ?_
        refine v_istore X dL_same_32 (Nat.le_of_ble_eq_true rfl) rfl ?_
        have LP34 : ∀ (n_ : Nat) (k2 : Nat), (k2 ≤ 5) → 5 - k2 < n_ → V vp l ve (rmD 6 9 153) vs vm va vb vt vc (MQ vb (CtQ g (some (.int 1)) (N + 9) F) va vs 9 153 (gA g)) g 12 0 0 N (ovr f o (yaL g o σ ρ S P φ κ τ π q h t c w b b2)) 34 [some (.ref o), some (.int x), some (.ref (o + 179)), some (.ref (o + 180)), some (.ref (o + 181)), some (.ref (o + 182)), some (.ref (o + 183)), some (.int (nI k2)), none, none, none, none] [] := by
          intro n_
          induction n_ with
          | zero => intro k2 hk2 hm_; exact absurd hm_ (Nat.not_lt_zero _)
          | succ n_ ih34 =>
            intro k2 hk2 hm34
            refine v_iload X dL_same_34 rfl ?_
            refine v_iconst X dL_same_36 (v := (5 : Int32)) (by decide) ?_
            refine v_icmp_ge X dL_same_37 (tgt := 142) (by decide) (fun c37 => ?_) (fun c37 => ?_)
            · skip
              refine v_iconst X dL_same_142 (v := (0 : Int32)) (by decide) ?_
              refine v_istore X dL_same_143 (Nat.le_of_ble_eq_true rfl) rfl ?_
              have LP145 : ∀ (n_ : Nat) (k3 : Nat), (k3 ≤ 4) → 4 - k3 < n_ → V vp l ve (rmD 6 9 153) vs vm va vb vt vc (MQ vb (CtQ g (some (.int 1)) (N + 9) F) va vs 9 153 (gA g)) g 12 0 0 N (ovr f o (yaL g o σ ρ S P φ κ τ π q h t c w b b2)) 145 [some (.ref o), some (.int x), some (.ref (o + 179)), some (.ref (o + 180)), some (.ref (o + 181)), some (.ref (o + 182)), some (.ref (o + 183)), some (.int (nI k3)), none, none, none, none] [] := by
                intro n_
                induction n_ with
                | zero => intro k3 hk3 hm_; exact absurd hm_ (Nat.not_lt_zero _)
                | succ n_ ih145 =>
                  intro k3 hk3 hm145
                  refine v_iload X dL_same_145 rfl ?_
                  refine v_iconst X dL_same_147 (v := (4 : Int32)) (by decide) ?_
                  refine v_icmp_ge X dL_same_148 (tgt := 200) (by decide) (fun c148 => ?_) (fun c148 => ?_)
                  · skip
                    refine v_iconst X dL_same_200 (v := (0 : Int32)) (by decide) ?_
                    refine v_istore X dL_same_201 (Nat.le_of_ble_eq_true rfl) rfl ?_
                    have LP203 : ∀ (n_ : Nat) (k4 : Nat), (k4 ≤ 12) → 12 - k4 < n_ → V vp l ve (rmD 6 9 153) vs vm va vb vt vc (MQ vb (CtQ g (some (.int 1)) (N + 9) F) va vs 9 153 (gA g)) g 12 0 0 N (ovr f o (yaL g o σ ρ S P φ κ τ π q h t c w b b2)) 203 [some (.ref o), some (.int x), some (.ref (o + 179)), some (.ref (o + 180)), some (.ref (o + 181)), some (.ref (o + 182)), some (.ref (o + 183)), some (.int (nI k4)), none, none, none, none] [] := by
                      intro n_
                      induction n_ with
                      | zero => intro k4 hk4 hm_; exact absurd hm_ (Nat.not_lt_zero _)
                      | succ n_ ih203 =>
                        intro k4 hk4 hm203
                        refine v_iload X dL_same_203 rfl ?_
                        refine v_bipush X dL_same_205 (v := (12 : Int32)) (by decide) ?_
                        refine v_icmp_ge X dL_same_207 (tgt := 420) (by decide) (fun c207 => ?_) (fun c207 => ?_)
                        · skip
                          refine v_iconst X dL_same_420 (v := (0 : Int32)) (by decide) ?_
                          refine v_istore X dL_same_421 (Nat.le_of_ble_eq_true rfl) rfl ?_
                          have LP423 : ∀ (n_ : Nat) (k5 : Nat), (k5 ≤ C) → C - k5 < n_ → V vp l ve (rmD 6 9 153) vs vm va vb vt vc (MQ vb (CtQ g (some (.int 1)) (N + 9) F) va vs 9 153 (gA g)) g 12 0 0 N (ovr f o (yaL g o σ ρ S P φ κ τ π q h t c w b b2)) 423 [some (.ref o), some (.int x), some (.ref (o + 179)), some (.ref (o + 180)), some (.ref (o + 181)), some (.ref (o + 182)), some (.ref (o + 183)), some (.int (nI k5)), none, none, none, none] [] := by
                            intro n_
                            induction n_ with
                            | zero => intro k5 hk5 hm_; exact absurd hm_ (Nat.not_lt_zero _)
                            | succ n_ ih423 =>
                              intro k5 hk5 hm423
                              refine v_iload X dL_same_423 rfl ?_
                              refine v_aload_n X dL_same_425 (i := 2) rfl rfl ?_
                              refine v_iconst X dL_same_426 (v := (0 : Int32)) (by decide) ?_
                              refine v_ialdB X hB dL_same_427 179 (Nat.le_of_ble_eq_true rfl) rfl 0 rfl (by omega) (Nat.le_of_ble_eq_true rfl) ?_
                              refine v_icmp_ge X dL_same_428 (tgt := 497) (by decide) (fun c428 => ?_) (fun c428 => ?_)
                              · skip
                                refine v_aload_n X dL_same_497 (i := 0) rfl rfl ?_
                                refine v_cvB X rfl yv_X7_whyNot m_ml_L_58 0 0 (c_X7_whyNot l g N o σ ρ S P φ κ τ π C P0 g9.1 g9.2.1 g9.2.2.1 g9.2.2.2) hB (Nat.le_of_ble_eq_true rfl) rfl (Nat.le_of_ble_eq_true rfl) rfl (L' := (yaL g o σ ρ S P φ κ τ π q h t c w b b2)) (rfl) rfl (Nat.le_of_ble_eq_true rfl) rfl rfl (Nat.le_of_ble_eq_true rfl) ⟨Nat.le_of_ble_eq_true rfl, Nat.le_of_ble_eq_true rfl⟩ ⟨Nat.le_of_ble_eq_true rfl, Nat.le_of_ble_eq_true rfl⟩ dL_same_498 rfl ?_
                                refine v_iconst X dL_same_501 (v := (1 : Int32)) (by decide) ?_
                                refine v_aload_n X dL_same_502 (i := 2) rfl rfl ?_
                                refine v_aload_n X dL_same_503 (i := 3) rfl rfl ?_
                                refine v_aload X dL_same_504 rfl ?_
                                refine v_aload X dL_same_506 rfl ?_
                                refine v_csB2 X rfl yv_L_why m_ml_L_16 179 (c_L_why_1 l g N (o + 179) (o + 182) σ q h t c C P0 hA g9 hV hY) hB (OB.of 179 182 hB rfl rfl (Nat.le_of_ble_eq_true rfl) (Or.inl (Nat.le_of_ble_eq_true rfl)) rfl rfl) (Nat.le_of_ble_eq_true rfl) rfl (Nat.le_of_ble_eq_true rfl) rfl (L' := (yaL g o σ ρ S P φ κ τ π q h t c w b b2)) (rfl) rfl rfl (Nat.le_of_ble_eq_true rfl) ⟨Nat.le_of_ble_eq_true rfl, Nat.le_of_ble_eq_true rfl⟩ ⟨Nat.le_of_ble_eq_true rfl, Nat.le_of_ble_eq_true rfl⟩ dL_same_508 rfl ?_
                                refine v_cs X rfl yv_L_reason m_ml_L_24 (c_L_reason l g (wyV (rsG σ C P0) (nTold σ P0 (rsG σ C P0))) ) rfl rfl (Nat.le_of_ble_eq_true rfl) ⟨Nat.le_of_ble_eq_true rfl, Nat.le_of_ble_eq_true rfl⟩ ⟨Nat.le_of_ble_eq_true rfl, Nat.le_of_ble_eq_true rfl⟩ dL_same_511 rfl ?_
                                refine v_icmp_ne X dL_same_514 (tgt := 542) (by decide) (fun c514 => ?_) (fun c514 => ?_)
                                · skip
                                  exact absurd ((wok_v (wok_G σ C P0)).2.1.symm) c514
                                · skip
                                  refine v_aload_n X dL_same_517 (i := 0) rfl rfl ?_
                                  refine v_aload_n X dL_same_518 (i := 2) rfl rfl ?_
                                  refine v_iconst X dL_same_519 (v := (0 : Int32)) (by decide) ?_
                                  refine v_ialdB X hB dL_same_520 179 (Nat.le_of_ble_eq_true rfl) rfl 0 rfl (by omega) (Nat.le_of_ble_eq_true rfl) ?_
                                  refine v_iconst X dL_same_521 (v := (0 : Int32)) (by decide) ?_
                                  refine v_cvB X rfl yv_X7_card m_ml_L_52 0 0 (c_X7_card l g N o σ ρ S P φ κ τ π (q 0) (0 : Int32) C g9.1 g9.2.2.2) hB (Nat.le_of_ble_eq_true rfl) rfl (Nat.le_of_ble_eq_true rfl) rfl (L' := (yaL g o σ ρ S P φ κ τ π q h t c w b b2)) (rfl) rfl (Nat.le_of_ble_eq_true rfl) rfl rfl (Nat.le_of_ble_eq_true rfl) ⟨Nat.le_of_ble_eq_true rfl, Nat.le_of_ble_eq_true rfl⟩ ⟨Nat.le_of_ble_eq_true rfl, Nat.le_of_ble_eq_true rfl⟩ dL_same_522 rfl ?_
                                  refine v_iconst X dL_same_525 (v := (-1 : Int32)) (by decide) ?_
                                  refine v_icmp_ne X dL_same_526 (tgt := 542) (by decide) (fun c526 => ?_) (fun c526 => ?_)
                                  · skip
                                    exact absurd (cd_n (hA.1 0 (by omega))) c526
                                  · skip
                                    refine v_aload_n X dL_same_529 (i := 0) rfl rfl ?_
                                    refine v_aload_n X dL_same_530 (i := 2) rfl rfl ?_
                                    refine v_bipush X dL_same_531 (v := (7 : Int32)) (by decide) ?_
                                    refine v_ialdB X hB dL_same_533 179 (Nat.le_of_ble_eq_true rfl) rfl 7 rfl (by omega) (Nat.le_of_ble_eq_true rfl) ?_
                                    refine v_iconst X dL_same_534 (v := (0 : Int32)) (by decide) ?_
                                    refine v_cvB X rfl yv_X7_cloth m_ml_L_43 0 0 (c_X7_cloth l g N o σ ρ S P φ κ τ π (q 7) (0 : Int32) R lt hR hR20 hlt hlt20) hB (Nat.le_of_ble_eq_true rfl) rfl (Nat.le_of_ble_eq_true rfl) rfl (L' := (yaL g o σ ρ S P φ κ τ π q h t c w b b2)) (rfl) rfl (Nat.le_of_ble_eq_true rfl) rfl rfl (Nat.le_of_ble_eq_true rfl) ⟨Nat.le_of_ble_eq_true rfl, Nat.le_of_ble_eq_true rfl⟩ ⟨Nat.le_of_ble_eq_true rfl, Nat.le_of_ble_eq_true rfl⟩ dL_same_535 rfl ?_
                                    refine v_iconst X dL_same_538 (v := (-1 : Int32)) (by decide) ?_
                                    refine v_icmp_eq X dL_same_539 (tgt := 544) (by decide) (fun c539 => ?_) (fun c539 => ?_)
                                    · skip
                                      refine v_iload_n X dL_same_544 (i := 1) rfl rfl ?_
                                      refine v_iconst X dL_same_545 (v := (4 : Int32)) (by decide) ?_
                                      refine v_cs X rfl yv_L_low m_ml_L_62 (c_L_low l g (4 : Int32) 4 rfl x (by decide) (by decide)) rfl rfl (Nat.le_of_ble_eq_true rfl) ⟨Nat.le_of_ble_eq_true rfl, Nat.le_of_ble_eq_true rfl⟩ ⟨Nat.le_of_ble_eq_true rfl, Nat.le_of_ble_eq_true rfl⟩ dL_same_546 rfl ?_
                                      refine v_if_gt X dL_same_549 (tgt := 603) (by decide) (fun c549 => ?_) (fun c549 => ?_)
                                      · skip
                                        exact absurd c549 hx
                                      · skip
                                        refine v_aload_n X dL_same_552 (i := 0) rfl rfl ?_
                                        refine v_cvB X rfl yv_X7_picksLeft m_ml_L_65 0 0 (c_X7_picksLeft l g N o σ ρ S P φ κ τ π (GC_gv g9)) hB (Nat.le_of_ble_eq_true rfl) rfl (Nat.le_of_ble_eq_true rfl) rfl (L' := (yaL g o σ ρ S P (plS 200 σ) κ τ π q h t c w b b2)) (rfl) rfl (Nat.le_of_ble_eq_true rfl) rfl rfl (Nat.le_of_ble_eq_true rfl) ⟨Nat.le_of_ble_eq_true rfl, Nat.le_of_ble_eq_true rfl⟩ ⟨Nat.le_of_ble_eq_true rfl, Nat.le_of_ble_eq_true rfl⟩ dL_same_553 rfl ?_
                                        refine v_iconst X dL_same_556 (v := (0 : Int32)) (by decide) ?_
                                        refine v_aload_n X dL_same_557 (i := 2) rfl rfl ?_
                                        refine v_aload_n X dL_same_558 (i := 3) rfl rfl ?_
                                        refine v_aload X dL_same_559 rfl ?_
                                        refine v_aload X dL_same_561 rfl ?_
                                        refine v_csT X rfl yv_L_then m_ml_L_68 (c_L_then_0 l g N (g.2.2 + N) (o + 179) rfl σ q h t c C P0 hA g9 hV hY _ (RO.of (j := 179) (M := qhcL g (o + 179) q h t c) hB (Nat.le_of_ble_eq_true rfl) rfl)) hB rfl rfl rfl (Nat.le_of_ble_eq_true rfl) ⟨Nat.le_of_ble_eq_true rfl, Nat.le_of_ble_eq_true rfl⟩ ⟨Nat.le_of_ble_eq_true rfl, Nat.le_of_ble_eq_true rfl⟩ dL_same_563 rfl ?_
                                        have hB : BB g (N + 3) o 186 := ⟨hB.1, by have := hB.2; omega⟩
                                        refine v_icmp_ne X dL_same_566 (tgt := 607) (by decide) (fun c566 => ?_) (fun c566 => ?_)
                                        · skip
                                          exact absurd (rfl) c566
                                        · skip
                                          refine v_aload_n X dL_same_569 (i := 0) rfl rfl ?_
                                          refine v_cvB X rfl yv_X7_firstEmpty m_ml_L_72 0 0 (c_X7_firstEmpty l g (N + 3) o σ ρ S P (plS 200 σ) κ τ π (GC_gv g9)) hB (Nat.le_of_ble_eq_true rfl) rfl (Nat.le_of_ble_eq_true rfl) rfl (L' := (yaL g o σ ρ S P (feS 999 σ) κ τ π q h t c w b b2)) (rfl) rfl (Nat.le_of_ble_eq_true rfl) rfl rfl (Nat.le_of_ble_eq_true rfl) ⟨Nat.le_of_ble_eq_true rfl, Nat.le_of_ble_eq_true rfl⟩ ⟨Nat.le_of_ble_eq_true rfl, Nat.le_of_ble_eq_true rfl⟩ dL_same_570 rfl ?_
                                          refine v_iconst X dL_same_573 (v := (1 : Int32)) (by decide) ?_
                                          refine v_aload_n X dL_same_574 (i := 2) rfl rfl ?_
                                          refine v_aload_n X dL_same_575 (i := 3) rfl rfl ?_
                                          refine v_aload X dL_same_576 rfl ?_
                                          refine v_aload X dL_same_578 rfl ?_
                                          refine v_csT X rfl yv_L_then m_ml_L_68 (c_L_then_1 l g (N + 3) (g.2.2 + (N + 3)) (o + 179) rfl σ q h t c C P0 hA g9 hV hY _ (RO.of (j := 179) (M := qhcL g (o + 179) q h t c) hB (Nat.le_of_ble_eq_true rfl) rfl)) hB rfl rfl rfl (Nat.le_of_ble_eq_true rfl) ⟨Nat.le_of_ble_eq_true rfl, Nat.le_of_ble_eq_true rfl⟩ ⟨Nat.le_of_ble_eq_true rfl, Nat.le_of_ble_eq_true rfl⟩ dL_same_580 rfl ?_
                                          have hB : BB g (N + 6) o 186 := ⟨hB.1, by have := hB.2; omega⟩
                                          refine v_icmp_ne X dL_same_583 (tgt := 607) (by decide) (fun c583 => ?_) (fun c583 => ?_)
                                          · skip
                                            exact absurd (rfl) c583
                                          · skip
                                            refine v_aload_n X dL_same_586 (i := 0) rfl rfl ?_
                                            refine v_cvB X rfl yv_X7_repeats m_ml_L_75 0 0 (c_X7_repeats l g (N + 6) o σ ρ S P (feS 999 σ) κ τ π C g9.1 g9.2.2.2) hB (Nat.le_of_ble_eq_true rfl) rfl (Nat.le_of_ble_eq_true rfl) rfl (L' := (yaL g o σ ρ S P (if C = 0 then (feS 999 σ) else plS C (upd σ 1 0)) κ τ π q h t c w b b2)) (rfl) rfl (Nat.le_of_ble_eq_true rfl) rfl rfl (Nat.le_of_ble_eq_true rfl) ⟨Nat.le_of_ble_eq_true rfl, Nat.le_of_ble_eq_true rfl⟩ ⟨Nat.le_of_ble_eq_true rfl, Nat.le_of_ble_eq_true rfl⟩ dL_same_587 rfl ?_
                                            refine v_iconst X dL_same_590 (v := (2 : Int32)) (by decide) ?_
                                            refine v_aload_n X dL_same_591 (i := 2) rfl rfl ?_
                                            refine v_aload_n X dL_same_592 (i := 3) rfl rfl ?_
                                            refine v_aload X dL_same_593 rfl ?_
                                            refine v_aload X dL_same_595 rfl ?_
                                            refine v_csT X rfl yv_L_then m_ml_L_68 (c_L_then_2 l g (N + 6) (g.2.2 + (N + 6)) (o + 179) rfl σ q h t c C P0 hA g9 hV hY _ (RO.of (j := 179) (M := qhcL g (o + 179) q h t c) hB (Nat.le_of_ble_eq_true rfl) rfl)) hB rfl rfl rfl (Nat.le_of_ble_eq_true rfl) ⟨Nat.le_of_ble_eq_true rfl, Nat.le_of_ble_eq_true rfl⟩ ⟨Nat.le_of_ble_eq_true rfl, Nat.le_of_ble_eq_true rfl⟩ dL_same_597 rfl ?_
                                            have hB : BB g (N + 9) o 186 := ⟨hB.1, by have := hB.2; omega⟩
                                            refine v_icmp_ne X dL_same_600 (tgt := 607) (by decide) (fun c600 => ?_) (fun c600 => ?_)
                                            · skip
                                              exact absurd (rfl) c600
                                            · skip
                                              refine v_iconst X dL_same_603 (v := (1 : Int32)) (by decide) ?_
                                              refine v_goto X dL_same_604 (tgt := 608) (by decide) ?_
                                              exact v_zret X rfl dL_same_608 (rfl) (rfl) (by rw [hF9])
                                    · skip
                                      exact absurd (cl_n (hA.1 7 (by omega))) c539
                              · skip
                                rw [hq0] at c428
                                have hk55 : k5 < C := lt_of_nI (b := C) (by omega) (by omega) c428
                                refine v_iconst X dL_same_431 (v := (0 : Int32)) (by decide) ?_
                                refine v_istore X dL_same_432 (Nat.le_of_ble_eq_true rfl) rfl ?_
                                have LP434 : ∀ (n_ : Nat) (i : Nat), (i ≤ 3) → 3 - i < n_ → V vp l ve (rmD 6 9 153) vs vm va vb vt vc (MQ vb (CtQ g (some (.int 1)) (N + 9) F) va vs 9 153 (gA g)) g 12 0 0 N (ovr f o (yaL g o σ ρ S P φ κ τ π q h t c w b b2)) 434 [some (.ref o), some (.int x), some (.ref (o + 179)), some (.ref (o + 180)), some (.ref (o + 181)), some (.ref (o + 182)), some (.ref (o + 183)), some (.int (nI k5)), some (.int (nI i)), none, none, none] [] := by
                                  intro n_
                                  induction n_ with
                                  | zero => intro i hi hm_; exact absurd hm_ (Nat.not_lt_zero _)
                                  | succ n_ ih434 =>
                                    intro i hi hm434
                                    refine v_iload X dL_same_434 rfl ?_
                                    refine v_iconst X dL_same_436 (v := (3 : Int32)) (by decide) ?_
                                    refine v_icmp_ge X dL_same_437 (tgt := 491) (by decide) (fun c437 => ?_) (fun c437 => ?_)
                                    · skip
                                      refine v_iinc X dL_same_491 (v := nI (k5 + 1)) rfl (ix_inc rfl) (Nat.le_of_ble_eq_true rfl) rfl ?_
                                      refine v_goto X dL_same_494 (tgt := 423) (by decide) ?_
                                      refine v_drop 8 ?_
                                      exact ih423 (k5 + 1) (by omega) (by omega)
                                    · skip
                                      have hi5 : i < 3 := lt_of_nI (b := 3) (by omega) (by omega) c437
                                      refine v_aload_n X dL_same_440 (i := 0) rfl rfl ?_
                                      refine v_iload X dL_same_441 rfl ?_
                                      refine v_iload X dL_same_443 rfl ?_
                                      refine v_cvB X rfl yv_X7_card m_ml_L_52 0 0 (c_X7_card l g N o σ ρ S P φ κ τ π (nI k5) (nI i) C g9.1 g9.2.2.2) hB (Nat.le_of_ble_eq_true rfl) rfl (Nat.le_of_ble_eq_true rfl) rfl (L' := (yaL g o σ ρ S P φ κ τ π q h t c w b b2)) (rfl) rfl (Nat.le_of_ble_eq_true rfl) rfl rfl (Nat.le_of_ble_eq_true rfl) ⟨Nat.le_of_ble_eq_true rfl, Nat.le_of_ble_eq_true rfl⟩ ⟨Nat.le_of_ble_eq_true rfl, Nat.le_of_ble_eq_true rfl⟩ dL_same_445 rfl ?_
                                      refine v_aload X dL_same_448 rfl ?_
                                      refine v_iconst X dL_same_450 (v := (3 : Int32)) (by decide) ?_
                                      refine v_iload X dL_same_451 rfl ?_
                                      refine v_imul X dL_same_453 ?_
                                      refine v_iload X dL_same_454 rfl ?_
                                      refine v_iadd X dL_same_456 ?_
                                      refine v_ialdB X hB dL_same_457 182 (Nat.le_of_ble_eq_true rfl) rfl ((3 * k5) + i) (ix_add (ix_mul rfl rfl) rfl) (by omega) (Nat.le_of_ble_eq_true rfl) ?_
                                      refine v_icmp_ne X dL_same_458 (tgt := 483) (by decide) (fun c458 => ?_) (fun c458 => ?_)
                                      · skip
                                        exact absurd ((cd_i g9.1 hC16 hk55 hi5).trans (hA.2.2.2 _ (by omega)).symm) c458
                                      · skip
                                        refine v_aload_n X dL_same_461 (i := 0) rfl rfl ?_
                                        refine v_iload X dL_same_462 rfl ?_
                                        refine v_iconst X dL_same_464 (v := (3 : Int32)) (by decide) ?_
                                        refine v_cvB X rfl yv_X7_card m_ml_L_52 0 0 (c_X7_card l g N o σ ρ S P φ κ τ π (nI k5) (3 : Int32) C g9.1 g9.2.2.2) hB (Nat.le_of_ble_eq_true rfl) rfl (Nat.le_of_ble_eq_true rfl) rfl (L' := (yaL g o σ ρ S P φ κ τ π q h t c w b b2)) (rfl) rfl (Nat.le_of_ble_eq_true rfl) rfl rfl (Nat.le_of_ble_eq_true rfl) ⟨Nat.le_of_ble_eq_true rfl, Nat.le_of_ble_eq_true rfl⟩ ⟨Nat.le_of_ble_eq_true rfl, Nat.le_of_ble_eq_true rfl⟩ dL_same_465 rfl ?_
                                        refine v_aload X dL_same_468 rfl ?_
                                        refine v_iconst X dL_same_470 (v := (3 : Int32)) (by decide) ?_
                                        refine v_iload X dL_same_471 rfl ?_
                                        refine v_imul X dL_same_473 ?_
                                        refine v_ialdB X hB dL_same_474 182 (Nat.le_of_ble_eq_true rfl) rfl (3 * k5) (ix_mul rfl rfl) (by omega) (Nat.le_of_ble_eq_true rfl) ?_
                                        refine v_aload X dL_same_475 rfl ?_
                                        refine v_csB X rfl yv_L_threads m_ml_L_55 181 (c_L_threads l g N (o + 181) t (c (3 * k5)) ) hB (Nat.le_of_ble_eq_true rfl) rfl (Nat.le_of_ble_eq_true rfl) rfl (L' := (yaL g o σ ρ S P φ κ τ π q h t c w b b2)) (rfl) rfl rfl (Nat.le_of_ble_eq_true rfl) ⟨Nat.le_of_ble_eq_true rfl, Nat.le_of_ble_eq_true rfl⟩ ⟨Nat.le_of_ble_eq_true rfl, Nat.le_of_ble_eq_true rfl⟩ dL_same_477 rfl ?_
                                        refine v_icmp_eq X dL_same_480 (tgt := 485) (by decide) (fun c480 => ?_) (fun c480 => ?_)
                                        · skip
                                          refine v_iinc X dL_same_485 (v := nI (i + 1)) rfl (ix_inc rfl) (Nat.le_of_ble_eq_true rfl) rfl ?_
                                          refine v_goto X dL_same_488 (tgt := 434) (by decide) ?_
                                          exact ih434 (i + 1) (by omega) (by omega)
                                        · skip
                                          exact absurd ((cd_3 g9.1 hC16 hk55).trans (by rw [hA.2.2.2 (3 * k5) (by omega), thW_S hF hA.2.2.1 12 (Nat.le_refl _)])) c480
                                exact LP434 _ 0 (Nat.zero_le _) (Nat.lt_succ_self _)
                          exact LP423 _ 0 (Nat.zero_le _) (Nat.lt_succ_self _)
                        · skip
                          have hk45 : k4 < 12 := lt_of_nI (b := 12) (by omega) (by omega) c207
                          refine v_iconst X dL_same_210 (v := (0 : Int32)) (by decide) ?_
                          refine v_istore X dL_same_211 (Nat.le_of_ble_eq_true rfl) rfl ?_
                          refine v_iconst X dL_same_213 (v := (0 : Int32)) (by decide) ?_
                          refine v_istore X dL_same_214 (Nat.le_of_ble_eq_true rfl) rfl ?_
                          refine v_iconst X dL_same_216 (v := (0 : Int32)) (by decide) ?_
                          refine v_istore X dL_same_217 (Nat.le_of_ble_eq_true rfl) rfl ?_
                          have LP219 : ∀ (n_ : Nat) (r : Nat), (r ≤ R) → R - r < n_ → V vp l ve (rmD 6 9 153) vs vm va vb vt vc (MQ vb (CtQ g (some (.int 1)) (N + 9) F) va vs 9 153 (gA g)) g 12 0 0 N (ovr f o (yaL g o σ ρ S P φ κ τ π q h t c w b b2)) 219 [some (.ref o), some (.int x), some (.ref (o + 179)), some (.ref (o + 180)), some (.ref (o + 181)), some (.ref (o + 182)), some (.ref (o + 183)), some (.int (nI k4)), some (.int (nI (rnX (wbt w k4) r))), some (.int (nI (rnN (wbt w k4) r))), some (.int (nI r)), none] [] := by
                            intro n_
                            induction n_ with
                            | zero => intro r hr hm_; exact absurd hm_ (Nat.not_lt_zero _)
                            | succ n_ ih219 =>
                              intro r hr hm219
                              refine v_iload X dL_same_219 rfl ?_
                              refine v_aload_n X dL_same_221 (i := 2) rfl rfl ?_
                              refine v_bipush X dL_same_222 (v := (7 : Int32)) (by decide) ?_
                              refine v_ialdB X hB dL_same_224 179 (Nat.le_of_ble_eq_true rfl) rfl 7 rfl (by omega) (Nat.le_of_ble_eq_true rfl) ?_
                              refine v_icmp_ge X dL_same_225 (tgt := 342) (by decide) (fun c225 => ?_) (fun c225 => ?_)
                              · skip
                                rw [hq7] at c225
                                have hr5 : r = R := Nat.le_antisymm hr (le_of_nI (by omega) (by omega) c225)
                                refine v_aload_n X dL_same_342 (i := 0) rfl rfl ?_
                                refine v_iload X dL_same_343 rfl ?_
                                refine v_iconst X dL_same_345 (v := (0 : Int32)) (by decide) ?_
                                refine v_cvB X rfl yv_X7_thread m_ml_L_46 0 0 (c_X7_thread l g N o σ ρ S P φ κ τ π (nI k4) (0 : Int32) ) hB (Nat.le_of_ble_eq_true rfl) rfl (Nat.le_of_ble_eq_true rfl) rfl (L' := (yaL g o σ ρ S P φ κ τ π q h t c w b b2)) (rfl) rfl (Nat.le_of_ble_eq_true rfl) rfl rfl (Nat.le_of_ble_eq_true rfl) ⟨Nat.le_of_ble_eq_true rfl, Nat.le_of_ble_eq_true rfl⟩ ⟨Nat.le_of_ble_eq_true rfl, Nat.le_of_ble_eq_true rfl⟩ dL_same_346 rfl ?_
                                refine v_aload X dL_same_349 rfl ?_
                                refine v_iconst X dL_same_351 (v := (2 : Int32)) (by decide) ?_
                                refine v_iload X dL_same_352 rfl ?_
                                refine v_imul X dL_same_354 ?_
                                refine v_ialdB X hB dL_same_355 181 (Nat.le_of_ble_eq_true rfl) rfl (2 * k4) (ix_mul rfl rfl) (by omega) (Nat.le_of_ble_eq_true rfl) ?_
                                refine v_icmp_ne X dL_same_356 (tgt := 412) (by decide) (fun c356 => ?_) (fun c356 => ?_)
                                · skip
                                  exact absurd ((th_0 hk45).trans (hA.2.2.1 (2 * k4) (by omega)).symm) c356
                                · skip
                                  refine v_aload_n X dL_same_359 (i := 0) rfl rfl ?_
                                  refine v_iload X dL_same_360 rfl ?_
                                  refine v_iconst X dL_same_362 (v := (1 : Int32)) (by decide) ?_
                                  refine v_cvB X rfl yv_X7_thread m_ml_L_46 0 0 (c_X7_thread l g N o σ ρ S P φ κ τ π (nI k4) (1 : Int32) ) hB (Nat.le_of_ble_eq_true rfl) rfl (Nat.le_of_ble_eq_true rfl) rfl (L' := (yaL g o σ ρ S P φ κ τ π q h t c w b b2)) (rfl) rfl (Nat.le_of_ble_eq_true rfl) rfl rfl (Nat.le_of_ble_eq_true rfl) ⟨Nat.le_of_ble_eq_true rfl, Nat.le_of_ble_eq_true rfl⟩ ⟨Nat.le_of_ble_eq_true rfl, Nat.le_of_ble_eq_true rfl⟩ dL_same_363 rfl ?_
                                  refine v_aload X dL_same_366 rfl ?_
                                  refine v_iconst X dL_same_368 (v := (2 : Int32)) (by decide) ?_
                                  refine v_iload X dL_same_369 rfl ?_
                                  refine v_imul X dL_same_371 ?_
                                  refine v_iconst X dL_same_372 (v := (1 : Int32)) (by decide) ?_
                                  refine v_iadd X dL_same_373 ?_
                                  refine v_ialdB X hB dL_same_374 181 (Nat.le_of_ble_eq_true rfl) rfl ((2 * k4) + 1) (ix_add (ix_mul rfl rfl) rfl) (by omega) (Nat.le_of_ble_eq_true rfl) ?_
                                  refine v_icmp_ne X dL_same_375 (tgt := 412) (by decide) (fun c375 => ?_) (fun c375 => ?_)
                                  · skip
                                    exact absurd ((th_1 hk45).trans ((congrArg σ (by omega)).trans (hA.2.2.1 (2 * k4 + 1) (by omega)).symm)) c375
                                  · skip
                                    refine v_aload_n X dL_same_378 (i := 0) rfl rfl ?_
                                    refine v_iload X dL_same_379 rfl ?_
                                    refine v_iconst X dL_same_381 (v := (2 : Int32)) (by decide) ?_
                                    refine v_cvB X rfl yv_X7_thread m_ml_L_46 0 0 (c_X7_thread l g N o σ ρ S P φ κ τ π (nI k4) (2 : Int32) ) hB (Nat.le_of_ble_eq_true rfl) rfl (Nat.le_of_ble_eq_true rfl) rfl (L' := (yaL g o σ ρ S P φ κ τ π q h t c w b b2)) (rfl) rfl (Nat.le_of_ble_eq_true rfl) rfl rfl (Nat.le_of_ble_eq_true rfl) ⟨Nat.le_of_ble_eq_true rfl, Nat.le_of_ble_eq_true rfl⟩ ⟨Nat.le_of_ble_eq_true rfl, Nat.le_of_ble_eq_true rfl⟩ dL_same_382 rfl ?_
                                    refine v_aload_n X dL_same_385 (i := 2) rfl rfl ?_
                                    refine v_iconst X dL_same_386 (v := (5 : Int32)) (by decide) ?_
                                    refine v_ialdB X hB dL_same_387 179 (Nat.le_of_ble_eq_true rfl) rfl 5 rfl (by omega) (Nat.le_of_ble_eq_true rfl) ?_
                                    refine v_aload X dL_same_388 rfl ?_
                                    refine v_iconst X dL_same_390 (v := (2 : Int32)) (by decide) ?_
                                    refine v_iload X dL_same_391 rfl ?_
                                    refine v_imul X dL_same_393 ?_
                                    refine v_ialdB X hB dL_same_394 181 (Nat.le_of_ble_eq_true rfl) rfl (2 * k4) (ix_mul rfl rfl) (by omega) (Nat.le_of_ble_eq_true rfl) ?_
                                    refine v_ishr X dL_same_395 ?_
                                    refine v_iconst X dL_same_396 (v := (1 : Int32)) (by decide) ?_
                                    refine v_iand X dL_same_397 ?_
                                    refine v_icmp_ne X dL_same_398 (tgt := 412) (by decide) (fun c398 => ?_) (fun c398 => ?_)
                                    · skip
                                      exact absurd ((th_2 hk45).trans (by rw [hA.1 5 (by omega), hA.2.2.1 (2 * k4) (by omega)])) c398
                                    · skip
                                      refine v_aload_n X dL_same_401 (i := 0) rfl rfl ?_
                                      refine v_iload X dL_same_402 rfl ?_
                                      refine v_cvB X rfl yv_X7_longestFloat m_ml_L_49 0 0 (c_X7_longestFloat l g N o σ ρ S P φ κ τ π (nI k4) R lt hR hR20 hlt hlt20) hB (Nat.le_of_ble_eq_true rfl) rfl (Nat.le_of_ble_eq_true rfl) rfl (L' := (yaL g o σ ρ S P φ κ τ π q h t c w b b2)) (rfl) rfl (Nat.le_of_ble_eq_true rfl) rfl rfl (Nat.le_of_ble_eq_true rfl) ⟨Nat.le_of_ble_eq_true rfl, Nat.le_of_ble_eq_true rfl⟩ ⟨Nat.le_of_ble_eq_true rfl, Nat.le_of_ble_eq_true rfl⟩ dL_same_404 rfl ?_
                                      refine v_iload X dL_same_407 rfl ?_
                                      refine v_icmp_eq X dL_same_409 (tgt := 414) (by decide) (fun c409 => ?_) (fun c409 => ?_)
                                      · skip
                                        refine v_iinc X dL_same_414 (v := nI (k4 + 1)) rfl (ix_inc rfl) (Nat.le_of_ble_eq_true rfl) rfl ?_
                                        refine v_goto X dL_same_417 (tgt := 203) (by decide) ?_
                                        refine v_drop 8 ?_
                                        refine v_drop 9 ?_
                                        refine v_drop 10 ?_
                                        exact ih203 (k4 + 1) (by omega) (by omega)
                                      · skip
                                        exact absurd ((lg_k hRC hR20 hk45).trans (by rw [hr5])) c409
                              · skip
                                rw [hq7] at c225
                                have hr5 : r < R := lt_of_nI (b := R) (by omega) (by omega) c225
                                have z1 := rnN_le (wbt w k4) (r + 1)
                                have z2 := rnX_le (wbt w k4) r
                                refine v_aload X dL_same_228 rfl ?_
                                refine v_iconst X dL_same_230 (v := (2 : Int32)) (by decide) ?_
                                refine v_iload X dL_same_231 rfl ?_
                                refine v_imul X dL_same_233 ?_
                                refine v_iconst X dL_same_234 (v := (1 : Int32)) (by decide) ?_
                                refine v_iadd X dL_same_235 ?_
                                refine v_ialdB X hB dL_same_236 183 (Nat.le_of_ble_eq_true rfl) rfl ((2 * r) + 1) (ix_add (ix_mul rfl rfl) rfl) (by omega) (Nat.le_of_ble_eq_true rfl) ?_
                                refine v_istore X dL_same_237 (Nat.le_of_ble_eq_true rfl) rfl ?_
                                refine v_iload X dL_same_239 rfl ?_
                                refine v_if_le X dL_same_241 (tgt := 271) (by decide) (fun c241 => ?_) (fun c241 => ?_)
                                · skip
                                  have hr0 : r = 0 := by
                                    have := le_of_nI (b := 0) (by omega) (by omega) c241
                                    omega
                                  refine v_iconst X dL_same_271 (v := (1 : Int32)) (by decide) ?_
                                  refine V.cast (st' := [.int (nI (rnN (wbt w k4) (r + 1)))]) ?_ rfl (by rw [rnN, if_neg (fun z => absurd z.1 (by omega))]; rfl) rfl
                                  refine v_istore X dL_same_272 (Nat.le_of_ble_eq_true rfl) rfl ?_
                                  refine v_iload X dL_same_274 rfl ?_
                                  refine v_iload X dL_same_276 rfl ?_
                                  refine v_icmp_le X dL_same_278 (tgt := 286) (by decide) (fun c278 => ?_) (fun c278 => ?_)
                                  · skip
                                    refine v_iload X dL_same_286 rfl ?_
                                    refine V.cast (st' := [.int (nI (rnX (wbt w k4) (r + 1)))]) ?_ rfl (by rw [rnX, if_neg (fun z => absurd (le_of_nI (by omega) (by omega) c278) (by omega))]) rfl
                                    refine v_istore X dL_same_288 (Nat.le_of_ble_eq_true rfl) rfl ?_
                                    refine v_aload_n X dL_same_290 (i := 0) rfl rfl ?_
                                    refine v_aload_n X dL_same_291 (i := 2) rfl rfl ?_
                                    refine v_bipush X dL_same_292 (v := (7 : Int32)) (by decide) ?_
                                    refine v_ialdB X hB dL_same_294 179 (Nat.le_of_ble_eq_true rfl) rfl 7 rfl (by omega) (Nat.le_of_ble_eq_true rfl) ?_
                                    refine v_iconst X dL_same_295 (v := (1 : Int32)) (by decide) ?_
                                    refine v_isub X dL_same_296 ?_
                                    refine v_iload X dL_same_297 rfl ?_
                                    refine v_isub X dL_same_299 ?_
                                    refine v_iload X dL_same_300 rfl ?_
                                    refine v_cvB X rfl yv_X7_cloth m_ml_L_43 0 0 (c_X7_cloth l g N o σ ρ S P φ κ τ π (((q 7) - (1 : Int32)) - (nI r)) (nI k4) R lt hR hR20 hlt hlt20) hB (Nat.le_of_ble_eq_true rfl) rfl (Nat.le_of_ble_eq_true rfl) rfl (L' := (yaL g o σ ρ S P φ κ τ π q h t c w b b2)) (rfl) rfl (Nat.le_of_ble_eq_true rfl) rfl rfl (Nat.le_of_ble_eq_true rfl) ⟨Nat.le_of_ble_eq_true rfl, Nat.le_of_ble_eq_true rfl⟩ ⟨Nat.le_of_ble_eq_true rfl, Nat.le_of_ble_eq_true rfl⟩ dL_same_302 rfl ?_
                                    refine v_iload X dL_same_305 rfl ?_
                                    refine v_iload X dL_same_307 rfl ?_
                                    refine v_ishr X dL_same_309 ?_
                                    refine v_iconst X dL_same_310 (v := (1 : Int32)) (by decide) ?_
                                    refine v_iand X dL_same_311 ?_
                                    refine v_iconst X dL_same_312 (v := (1 : Int32)) (by decide) ?_
                                    refine v_icmp_ne X dL_same_313 (tgt := 324) (by decide) (fun c313 => ?_) (fun c313 => ?_)
                                    · skip
                                      refine v_aload X dL_same_324 rfl ?_
                                      refine v_iconst X dL_same_326 (v := (2 : Int32)) (by decide) ?_
                                      refine v_iload X dL_same_327 rfl ?_
                                      refine v_imul X dL_same_329 ?_
                                      refine v_ialdB X hB dL_same_330 183 (Nat.le_of_ble_eq_true rfl) rfl (2 * r) (ix_mul rfl rfl) (by omega) (Nat.le_of_ble_eq_true rfl) ?_
                                      refine v_icmp_eq X dL_same_331 (tgt := 336) (by decide) (fun c331 => ?_) (fun c331 => ?_)
                                      · skip
                                        refine v_iinc X dL_same_336 (v := nI (r + 1)) rfl (ix_inc rfl) (Nat.le_of_ble_eq_true rfl) rfl ?_
                                        refine v_goto X dL_same_339 (tgt := 219) (by decide) ?_
                                        refine v_drop 11 ?_
                                        exact ih219 (r + 1) (by omega) (by omega)
                                      · skip
                                        exact absurd ((cl_k hR hq7 hRC hR20 hr5 hk45).trans (if_neg c313)) c331
                                    · skip
                                      refine v_bipush X dL_same_316 (v := (100 : Int32)) (by decide) ?_
                                      refine v_iload X dL_same_318 rfl ?_
                                      refine v_iadd X dL_same_320 ?_
                                      refine v_goto X dL_same_321 (tgt := 331) (by decide) ?_
                                      refine v_icmp_eq X dL_same_331 (tgt := 336) (by decide) (fun c331 => ?_) (fun c331 => ?_)
                                      · skip
                                        refine v_iinc X dL_same_336 (v := nI (r + 1)) rfl (ix_inc rfl) (Nat.le_of_ble_eq_true rfl) rfl ?_
                                        refine v_goto X dL_same_339 (tgt := 219) (by decide) ?_
                                        refine v_drop 11 ?_
                                        exact ih219 (r + 1) (by omega) (by omega)
                                      · skip
                                        exact absurd ((cl_k hR hq7 hRC hR20 hr5 hk45).trans (if_pos c313)) c331
                                  · skip
                                    refine v_iload X dL_same_281 rfl ?_
                                    refine v_goto X dL_same_283 (tgt := 288) (by decide) ?_
                                    refine V.cast (st' := [.int (nI (rnX (wbt w k4) (r + 1)))]) ?_ rfl (by rw [rnX, if_pos (lt_of_nI (by omega) (by omega) c278)]) rfl
                                    refine v_istore X dL_same_288 (Nat.le_of_ble_eq_true rfl) rfl ?_
                                    refine v_aload_n X dL_same_290 (i := 0) rfl rfl ?_
                                    refine v_aload_n X dL_same_291 (i := 2) rfl rfl ?_
                                    refine v_bipush X dL_same_292 (v := (7 : Int32)) (by decide) ?_
                                    refine v_ialdB X hB dL_same_294 179 (Nat.le_of_ble_eq_true rfl) rfl 7 rfl (by omega) (Nat.le_of_ble_eq_true rfl) ?_
                                    refine v_iconst X dL_same_295 (v := (1 : Int32)) (by decide) ?_
                                    refine v_isub X dL_same_296 ?_
                                    refine v_iload X dL_same_297 rfl ?_
                                    refine v_isub X dL_same_299 ?_
                                    refine v_iload X dL_same_300 rfl ?_
                                    refine v_cvB X rfl yv_X7_cloth m_ml_L_43 0 0 (c_X7_cloth l g N o σ ρ S P φ κ τ π (((q 7) - (1 : Int32)) - (nI r)) (nI k4) R lt hR hR20 hlt hlt20) hB (Nat.le_of_ble_eq_true rfl) rfl (Nat.le_of_ble_eq_true rfl) rfl (L' := (yaL g o σ ρ S P φ κ τ π q h t c w b b2)) (rfl) rfl (Nat.le_of_ble_eq_true rfl) rfl rfl (Nat.le_of_ble_eq_true rfl) ⟨Nat.le_of_ble_eq_true rfl, Nat.le_of_ble_eq_true rfl⟩ ⟨Nat.le_of_ble_eq_true rfl, Nat.le_of_ble_eq_true rfl⟩ dL_same_302 rfl ?_
                                    refine v_iload X dL_same_305 rfl ?_
                                    refine v_iload X dL_same_307 rfl ?_
                                    refine v_ishr X dL_same_309 ?_
                                    refine v_iconst X dL_same_310 (v := (1 : Int32)) (by decide) ?_
                                    refine v_iand X dL_same_311 ?_
                                    refine v_iconst X dL_same_312 (v := (1 : Int32)) (by decide) ?_
                                    refine v_icmp_ne X dL_same_313 (tgt := 324) (by decide) (fun c313 => ?_) (fun c313 => ?_)
                                    · skip
                                      refine v_aload X dL_same_324 rfl ?_
                                      refine v_iconst X dL_same_326 (v := (2 : Int32)) (by decide) ?_
                                      refine v_iload X dL_same_327 rfl ?_
                                      refine v_imul X dL_same_329 ?_
                                      refine v_ialdB X hB dL_same_330 183 (Nat.le_of_ble_eq_true rfl) rfl (2 * r) (ix_mul rfl rfl) (by omega) (Nat.le_of_ble_eq_true rfl) ?_
                                      refine v_icmp_eq X dL_same_331 (tgt := 336) (by decide) (fun c331 => ?_) (fun c331 => ?_)
                                      · skip
                                        refine v_iinc X dL_same_336 (v := nI (r + 1)) rfl (ix_inc rfl) (Nat.le_of_ble_eq_true rfl) rfl ?_
                                        refine v_goto X dL_same_339 (tgt := 219) (by decide) ?_
                                        refine v_drop 11 ?_
                                        exact ih219 (r + 1) (by omega) (by omega)
                                      · skip
                                        exact absurd ((cl_k hR hq7 hRC hR20 hr5 hk45).trans (if_neg c313)) c331
                                    · skip
                                      refine v_bipush X dL_same_316 (v := (100 : Int32)) (by decide) ?_
                                      refine v_iload X dL_same_318 rfl ?_
                                      refine v_iadd X dL_same_320 ?_
                                      refine v_goto X dL_same_321 (tgt := 331) (by decide) ?_
                                      refine v_icmp_eq X dL_same_331 (tgt := 336) (by decide) (fun c331 => ?_) (fun c331 => ?_)
                                      · skip
                                        refine v_iinc X dL_same_336 (v := nI (r + 1)) rfl (ix_inc rfl) (Nat.le_of_ble_eq_true rfl) rfl ?_
                                        refine v_goto X dL_same_339 (tgt := 219) (by decide) ?_
                                        refine v_drop 11 ?_
                                        exact ih219 (r + 1) (by omega) (by omega)
                                      · skip
                                        exact absurd ((cl_k hR hq7 hRC hR20 hr5 hk45).trans (if_pos c313)) c331
                                · skip
                                  have hr0 : 0 < r := lt_of_nI (a := 0) (by omega) (by omega) c241
                                  refine v_iload X dL_same_244 rfl ?_
                                  refine v_aload X dL_same_246 rfl ?_
                                  refine v_iconst X dL_same_248 (v := (2 : Int32)) (by decide) ?_
                                  refine v_iload X dL_same_249 rfl ?_
                                  refine v_imul X dL_same_251 ?_
                                  refine v_iconst X dL_same_252 (v := (1 : Int32)) (by decide) ?_
                                  refine v_isub X dL_same_253 ?_
                                  refine v_ialdB X hB dL_same_254 183 (Nat.le_of_ble_eq_true rfl) rfl (2 * (r - 1) + 1) (by rw [show (2 : Int32) * nI r = nI (2 * r) from ix_mul rfl rfl, show 2 * (r - 1) + 1 = 2 * r - 1 by omega]; exact pk_sub (b := 1) (by omega)) (by omega) (Nat.le_of_ble_eq_true rfl) ?_
                                  refine v_ixor X dL_same_255 ?_
                                  refine v_iload X dL_same_256 rfl ?_
                                  refine v_ishr X dL_same_258 ?_
                                  refine v_iconst X dL_same_259 (v := (1 : Int32)) (by decide) ?_
                                  refine v_iand X dL_same_260 ?_
                                  refine v_if_ne X dL_same_261 (tgt := 271) (by decide) (fun c261 => ?_) (fun c261 => ?_)
                                  · skip
                                    refine v_iconst X dL_same_271 (v := (1 : Int32)) (by decide) ?_
                                    refine V.cast (st' := [.int (nI (rnN (wbt w k4) (r + 1)))]) ?_ rfl (by rw [rnN, if_neg (fun z => c261 ((xor_bit0 _ _ _).mpr z.2))]; rfl) rfl
                                    refine v_istore X dL_same_272 (Nat.le_of_ble_eq_true rfl) rfl ?_
                                    refine v_iload X dL_same_274 rfl ?_
                                    refine v_iload X dL_same_276 rfl ?_
                                    refine v_icmp_le X dL_same_278 (tgt := 286) (by decide) (fun c278 => ?_) (fun c278 => ?_)
                                    · skip
                                      refine v_iload X dL_same_286 rfl ?_
                                      refine V.cast (st' := [.int (nI (rnX (wbt w k4) (r + 1)))]) ?_ rfl (by rw [rnX, if_neg (fun z => absurd (le_of_nI (by omega) (by omega) c278) (by omega))]) rfl
                                      refine v_istore X dL_same_288 (Nat.le_of_ble_eq_true rfl) rfl ?_
                                      refine v_aload_n X dL_same_290 (i := 0) rfl rfl ?_
                                      refine v_aload_n X dL_same_291 (i := 2) rfl rfl ?_
                                      refine v_bipush X dL_same_292 (v := (7 : Int32)) (by decide) ?_
                                      refine v_ialdB X hB dL_same_294 179 (Nat.le_of_ble_eq_true rfl) rfl 7 rfl (by omega) (Nat.le_of_ble_eq_true rfl) ?_
                                      refine v_iconst X dL_same_295 (v := (1 : Int32)) (by decide) ?_
                                      refine v_isub X dL_same_296 ?_
                                      refine v_iload X dL_same_297 rfl ?_
                                      refine v_isub X dL_same_299 ?_
                                      refine v_iload X dL_same_300 rfl ?_
                                      refine v_cvB X rfl yv_X7_cloth m_ml_L_43 0 0 (c_X7_cloth l g N o σ ρ S P φ κ τ π (((q 7) - (1 : Int32)) - (nI r)) (nI k4) R lt hR hR20 hlt hlt20) hB (Nat.le_of_ble_eq_true rfl) rfl (Nat.le_of_ble_eq_true rfl) rfl (L' := (yaL g o σ ρ S P φ κ τ π q h t c w b b2)) (rfl) rfl (Nat.le_of_ble_eq_true rfl) rfl rfl (Nat.le_of_ble_eq_true rfl) ⟨Nat.le_of_ble_eq_true rfl, Nat.le_of_ble_eq_true rfl⟩ ⟨Nat.le_of_ble_eq_true rfl, Nat.le_of_ble_eq_true rfl⟩ dL_same_302 rfl ?_
                                      refine v_iload X dL_same_305 rfl ?_
                                      refine v_iload X dL_same_307 rfl ?_
                                      refine v_ishr X dL_same_309 ?_
                                      refine v_iconst X dL_same_310 (v := (1 : Int32)) (by decide) ?_
                                      refine v_iand X dL_same_311 ?_
                                      refine v_iconst X dL_same_312 (v := (1 : Int32)) (by decide) ?_
                                      refine v_icmp_ne X dL_same_313 (tgt := 324) (by decide) (fun c313 => ?_) (fun c313 => ?_)
                                      · skip
                                        refine v_aload X dL_same_324 rfl ?_
                                        refine v_iconst X dL_same_326 (v := (2 : Int32)) (by decide) ?_
                                        refine v_iload X dL_same_327 rfl ?_
                                        refine v_imul X dL_same_329 ?_
                                        refine v_ialdB X hB dL_same_330 183 (Nat.le_of_ble_eq_true rfl) rfl (2 * r) (ix_mul rfl rfl) (by omega) (Nat.le_of_ble_eq_true rfl) ?_
                                        refine v_icmp_eq X dL_same_331 (tgt := 336) (by decide) (fun c331 => ?_) (fun c331 => ?_)
                                        · skip
                                          refine v_iinc X dL_same_336 (v := nI (r + 1)) rfl (ix_inc rfl) (Nat.le_of_ble_eq_true rfl) rfl ?_
                                          refine v_goto X dL_same_339 (tgt := 219) (by decide) ?_
                                          refine v_drop 11 ?_
                                          exact ih219 (r + 1) (by omega) (by omega)
                                        · skip
                                          exact absurd ((cl_k hR hq7 hRC hR20 hr5 hk45).trans (if_neg c313)) c331
                                      · skip
                                        refine v_bipush X dL_same_316 (v := (100 : Int32)) (by decide) ?_
                                        refine v_iload X dL_same_318 rfl ?_
                                        refine v_iadd X dL_same_320 ?_
                                        refine v_goto X dL_same_321 (tgt := 331) (by decide) ?_
                                        refine v_icmp_eq X dL_same_331 (tgt := 336) (by decide) (fun c331 => ?_) (fun c331 => ?_)
                                        · skip
                                          refine v_iinc X dL_same_336 (v := nI (r + 1)) rfl (ix_inc rfl) (Nat.le_of_ble_eq_true rfl) rfl ?_
                                          refine v_goto X dL_same_339 (tgt := 219) (by decide) ?_
                                          refine v_drop 11 ?_
                                          exact ih219 (r + 1) (by omega) (by omega)
                                        · skip
                                          exact absurd ((cl_k hR hq7 hRC hR20 hr5 hk45).trans (if_pos c313)) c331
                                    · skip
                                      refine v_iload X dL_same_281 rfl ?_
                                      refine v_goto X dL_same_283 (tgt := 288) (by decide) ?_
                                      refine V.cast (st' := [.int (nI (rnX (wbt w k4) (r + 1)))]) ?_ rfl (by rw [rnX, if_pos (lt_of_nI (by omega) (by omega) c278)]) rfl
                                      refine v_istore X dL_same_288 (Nat.le_of_ble_eq_true rfl) rfl ?_
                                      refine v_aload_n X dL_same_290 (i := 0) rfl rfl ?_
                                      refine v_aload_n X dL_same_291 (i := 2) rfl rfl ?_
                                      refine v_bipush X dL_same_292 (v := (7 : Int32)) (by decide) ?_
                                      refine v_ialdB X hB dL_same_294 179 (Nat.le_of_ble_eq_true rfl) rfl 7 rfl (by omega) (Nat.le_of_ble_eq_true rfl) ?_
                                      refine v_iconst X dL_same_295 (v := (1 : Int32)) (by decide) ?_
                                      refine v_isub X dL_same_296 ?_
                                      refine v_iload X dL_same_297 rfl ?_
                                      refine v_isub X dL_same_299 ?_
                                      refine v_iload X dL_same_300 rfl ?_
                                      refine v_cvB X rfl yv_X7_cloth m_ml_L_43 0 0 (c_X7_cloth l g N o σ ρ S P φ κ τ π (((q 7) - (1 : Int32)) - (nI r)) (nI k4) R lt hR hR20 hlt hlt20) hB (Nat.le_of_ble_eq_true rfl) rfl (Nat.le_of_ble_eq_true rfl) rfl (L' := (yaL g o σ ρ S P φ κ τ π q h t c w b b2)) (rfl) rfl (Nat.le_of_ble_eq_true rfl) rfl rfl (Nat.le_of_ble_eq_true rfl) ⟨Nat.le_of_ble_eq_true rfl, Nat.le_of_ble_eq_true rfl⟩ ⟨Nat.le_of_ble_eq_true rfl, Nat.le_of_ble_eq_true rfl⟩ dL_same_302 rfl ?_
                                      refine v_iload X dL_same_305 rfl ?_
                                      refine v_iload X dL_same_307 rfl ?_
                                      refine v_ishr X dL_same_309 ?_
                                      refine v_iconst X dL_same_310 (v := (1 : Int32)) (by decide) ?_
                                      refine v_iand X dL_same_311 ?_
                                      refine v_iconst X dL_same_312 (v := (1 : Int32)) (by decide) ?_
                                      refine v_icmp_ne X dL_same_313 (tgt := 324) (by decide) (fun c313 => ?_) (fun c313 => ?_)
                                      · skip
                                        refine v_aload X dL_same_324 rfl ?_
                                        refine v_iconst X dL_same_326 (v := (2 : Int32)) (by decide) ?_
                                        refine v_iload X dL_same_327 rfl ?_
                                        refine v_imul X dL_same_329 ?_
                                        refine v_ialdB X hB dL_same_330 183 (Nat.le_of_ble_eq_true rfl) rfl (2 * r) (ix_mul rfl rfl) (by omega) (Nat.le_of_ble_eq_true rfl) ?_
                                        refine v_icmp_eq X dL_same_331 (tgt := 336) (by decide) (fun c331 => ?_) (fun c331 => ?_)
                                        · skip
                                          refine v_iinc X dL_same_336 (v := nI (r + 1)) rfl (ix_inc rfl) (Nat.le_of_ble_eq_true rfl) rfl ?_
                                          refine v_goto X dL_same_339 (tgt := 219) (by decide) ?_
                                          refine v_drop 11 ?_
                                          exact ih219 (r + 1) (by omega) (by omega)
                                        · skip
                                          exact absurd ((cl_k hR hq7 hRC hR20 hr5 hk45).trans (if_neg c313)) c331
                                      · skip
                                        refine v_bipush X dL_same_316 (v := (100 : Int32)) (by decide) ?_
                                        refine v_iload X dL_same_318 rfl ?_
                                        refine v_iadd X dL_same_320 ?_
                                        refine v_goto X dL_same_321 (tgt := 331) (by decide) ?_
                                        refine v_icmp_eq X dL_same_331 (tgt := 336) (by decide) (fun c331 => ?_) (fun c331 => ?_)
                                        · skip
                                          refine v_iinc X dL_same_336 (v := nI (r + 1)) rfl (ix_inc rfl) (Nat.le_of_ble_eq_true rfl) rfl ?_
                                          refine v_goto X dL_same_339 (tgt := 219) (by decide) ?_
                                          refine v_drop 11 ?_
                                          exact ih219 (r + 1) (by omega) (by omega)
                                        · skip
                                          exact absurd ((cl_k hR hq7 hRC hR20 hr5 hk45).trans (if_pos c313)) c331
                                  · skip
                                    refine v_iload X dL_same_264 rfl ?_
                                    refine v_iconst X dL_same_266 (v := (1 : Int32)) (by decide) ?_
                                    refine v_iadd X dL_same_267 ?_
                                    refine v_goto X dL_same_268 (tgt := 272) (by decide) ?_
                                    refine V.cast (st' := [.int (nI (rnN (wbt w k4) (r + 1)))]) ?_ rfl (by rw [rnN, if_pos ⟨hr0, (xor_bit0 _ _ _).mp c261⟩]; exact congrArg (fun z => [Value.int z]) (nI_add _ 1)) rfl
                                    refine v_istore X dL_same_272 (Nat.le_of_ble_eq_true rfl) rfl ?_
                                    refine v_iload X dL_same_274 rfl ?_
                                    refine v_iload X dL_same_276 rfl ?_
                                    refine v_icmp_le X dL_same_278 (tgt := 286) (by decide) (fun c278 => ?_) (fun c278 => ?_)
                                    · skip
                                      refine v_iload X dL_same_286 rfl ?_
                                      refine V.cast (st' := [.int (nI (rnX (wbt w k4) (r + 1)))]) ?_ rfl (by rw [rnX, if_neg (fun z => absurd (le_of_nI (by omega) (by omega) c278) (by omega))]) rfl
                                      refine v_istore X dL_same_288 (Nat.le_of_ble_eq_true rfl) rfl ?_
                                      refine v_aload_n X dL_same_290 (i := 0) rfl rfl ?_
                                      refine v_aload_n X dL_same_291 (i := 2) rfl rfl ?_
                                      refine v_bipush X dL_same_292 (v := (7 : Int32)) (by decide) ?_
                                      refine v_ialdB X hB dL_same_294 179 (Nat.le_of_ble_eq_true rfl) rfl 7 rfl (by omega) (Nat.le_of_ble_eq_true rfl) ?_
                                      refine v_iconst X dL_same_295 (v := (1 : Int32)) (by decide) ?_
                                      refine v_isub X dL_same_296 ?_
                                      refine v_iload X dL_same_297 rfl ?_
                                      refine v_isub X dL_same_299 ?_
                                      refine v_iload X dL_same_300 rfl ?_
                                      refine v_cvB X rfl yv_X7_cloth m_ml_L_43 0 0 (c_X7_cloth l g N o σ ρ S P φ κ τ π (((q 7) - (1 : Int32)) - (nI r)) (nI k4) R lt hR hR20 hlt hlt20) hB (Nat.le_of_ble_eq_true rfl) rfl (Nat.le_of_ble_eq_true rfl) rfl (L' := (yaL g o σ ρ S P φ κ τ π q h t c w b b2)) (rfl) rfl (Nat.le_of_ble_eq_true rfl) rfl rfl (Nat.le_of_ble_eq_true rfl) ⟨Nat.le_of_ble_eq_true rfl, Nat.le_of_ble_eq_true rfl⟩ ⟨Nat.le_of_ble_eq_true rfl, Nat.le_of_ble_eq_true rfl⟩ dL_same_302 rfl ?_
                                      refine v_iload X dL_same_305 rfl ?_
                                      refine v_iload X dL_same_307 rfl ?_
                                      refine v_ishr X dL_same_309 ?_
                                      refine v_iconst X dL_same_310 (v := (1 : Int32)) (by decide) ?_
                                      refine v_iand X dL_same_311 ?_
                                      refine v_iconst X dL_same_312 (v := (1 : Int32)) (by decide) ?_
                                      refine v_icmp_ne X dL_same_313 (tgt := 324) (by decide) (fun c313 => ?_) (fun c313 => ?_)
                                      · skip
                                        refine v_aload X dL_same_324 rfl ?_
                                        refine v_iconst X dL_same_326 (v := (2 : Int32)) (by decide) ?_
                                        refine v_iload X dL_same_327 rfl ?_
                                        refine v_imul X dL_same_329 ?_
                                        refine v_ialdB X hB dL_same_330 183 (Nat.le_of_ble_eq_true rfl) rfl (2 * r) (ix_mul rfl rfl) (by omega) (Nat.le_of_ble_eq_true rfl) ?_
                                        refine v_icmp_eq X dL_same_331 (tgt := 336) (by decide) (fun c331 => ?_) (fun c331 => ?_)
                                        · skip
                                          refine v_iinc X dL_same_336 (v := nI (r + 1)) rfl (ix_inc rfl) (Nat.le_of_ble_eq_true rfl) rfl ?_
                                          refine v_goto X dL_same_339 (tgt := 219) (by decide) ?_
                                          refine v_drop 11 ?_
                                          exact ih219 (r + 1) (by omega) (by omega)
                                        · skip
                                          exact absurd ((cl_k hR hq7 hRC hR20 hr5 hk45).trans (if_neg c313)) c331
                                      · skip
                                        refine v_bipush X dL_same_316 (v := (100 : Int32)) (by decide) ?_
                                        refine v_iload X dL_same_318 rfl ?_
                                        refine v_iadd X dL_same_320 ?_
                                        refine v_goto X dL_same_321 (tgt := 331) (by decide) ?_
                                        refine v_icmp_eq X dL_same_331 (tgt := 336) (by decide) (fun c331 => ?_) (fun c331 => ?_)
                                        · skip
                                          refine v_iinc X dL_same_336 (v := nI (r + 1)) rfl (ix_inc rfl) (Nat.le_of_ble_eq_true rfl) rfl ?_
                                          refine v_goto X dL_same_339 (tgt := 219) (by decide) ?_
                                          refine v_drop 11 ?_
                                          exact ih219 (r + 1) (by omega) (by omega)
                                        · skip
                                          exact absurd ((cl_k hR hq7 hRC hR20 hr5 hk45).trans (if_pos c313)) c331
                                    · skip
                                      refine v_iload X dL_same_281 rfl ?_
                                      refine v_goto X dL_same_283 (tgt := 288) (by decide) ?_
                                      refine V.cast (st' := [.int (nI (rnX (wbt w k4) (r + 1)))]) ?_ rfl (by rw [rnX, if_pos (lt_of_nI (by omega) (by omega) c278)]) rfl
                                      refine v_istore X dL_same_288 (Nat.le_of_ble_eq_true rfl) rfl ?_
                                      refine v_aload_n X dL_same_290 (i := 0) rfl rfl ?_
                                      refine v_aload_n X dL_same_291 (i := 2) rfl rfl ?_
                                      refine v_bipush X dL_same_292 (v := (7 : Int32)) (by decide) ?_
                                      refine v_ialdB X hB dL_same_294 179 (Nat.le_of_ble_eq_true rfl) rfl 7 rfl (by omega) (Nat.le_of_ble_eq_true rfl) ?_
                                      refine v_iconst X dL_same_295 (v := (1 : Int32)) (by decide) ?_
                                      refine v_isub X dL_same_296 ?_
                                      refine v_iload X dL_same_297 rfl ?_
                                      refine v_isub X dL_same_299 ?_
                                      refine v_iload X dL_same_300 rfl ?_
                                      refine v_cvB X rfl yv_X7_cloth m_ml_L_43 0 0 (c_X7_cloth l g N o σ ρ S P φ κ τ π (((q 7) - (1 : Int32)) - (nI r)) (nI k4) R lt hR hR20 hlt hlt20) hB (Nat.le_of_ble_eq_true rfl) rfl (Nat.le_of_ble_eq_true rfl) rfl (L' := (yaL g o σ ρ S P φ κ τ π q h t c w b b2)) (rfl) rfl (Nat.le_of_ble_eq_true rfl) rfl rfl (Nat.le_of_ble_eq_true rfl) ⟨Nat.le_of_ble_eq_true rfl, Nat.le_of_ble_eq_true rfl⟩ ⟨Nat.le_of_ble_eq_true rfl, Nat.le_of_ble_eq_true rfl⟩ dL_same_302 rfl ?_
                                      refine v_iload X dL_same_305 rfl ?_
                                      refine v_iload X dL_same_307 rfl ?_
                                      refine v_ishr X dL_same_309 ?_
                                      refine v_iconst X dL_same_310 (v := (1 : Int32)) (by decide) ?_
                                      refine v_iand X dL_same_311 ?_
                                      refine v_iconst X dL_same_312 (v := (1 : Int32)) (by decide) ?_
                                      refine v_icmp_ne X dL_same_313 (tgt := 324) (by decide) (fun c313 => ?_) (fun c313 => ?_)
                                      · skip
                                        refine v_aload X dL_same_324 rfl ?_
                                        refine v_iconst X dL_same_326 (v := (2 : Int32)) (by decide) ?_
                                        refine v_iload X dL_same_327 rfl ?_
                                        refine v_imul X dL_same_329 ?_
                                        refine v_ialdB X hB dL_same_330 183 (Nat.le_of_ble_eq_true rfl) rfl (2 * r) (ix_mul rfl rfl) (by omega) (Nat.le_of_ble_eq_true rfl) ?_
                                        refine v_icmp_eq X dL_same_331 (tgt := 336) (by decide) (fun c331 => ?_) (fun c331 => ?_)
                                        · skip
                                          refine v_iinc X dL_same_336 (v := nI (r + 1)) rfl (ix_inc rfl) (Nat.le_of_ble_eq_true rfl) rfl ?_
                                          refine v_goto X dL_same_339 (tgt := 219) (by decide) ?_
                                          refine v_drop 11 ?_
                                          exact ih219 (r + 1) (by omega) (by omega)
                                        · skip
                                          exact absurd ((cl_k hR hq7 hRC hR20 hr5 hk45).trans (if_neg c313)) c331
                                      · skip
                                        refine v_bipush X dL_same_316 (v := (100 : Int32)) (by decide) ?_
                                        refine v_iload X dL_same_318 rfl ?_
                                        refine v_iadd X dL_same_320 ?_
                                        refine v_goto X dL_same_321 (tgt := 331) (by decide) ?_
                                        refine v_icmp_eq X dL_same_331 (tgt := 336) (by decide) (fun c331 => ?_) (fun c331 => ?_)
                                        · skip
                                          refine v_iinc X dL_same_336 (v := nI (r + 1)) rfl (ix_inc rfl) (Nat.le_of_ble_eq_true rfl) rfl ?_
                                          refine v_goto X dL_same_339 (tgt := 219) (by decide) ?_
                                          refine v_drop 11 ?_
                                          exact ih219 (r + 1) (by omega) (by omega)
                                        · skip
                                          exact absurd ((cl_k hR hq7 hRC hR20 hr5 hk45).trans (if_pos c313)) c331
                          exact LP219 _ 0 (Nat.zero_le _) (Nat.lt_succ_self _)
                    exact LP203 _ 0 (Nat.zero_le _) (Nat.lt_succ_self _)
                  · skip
                    have hk35 : k3 < 4 := lt_of_nI (b := 4) (by omega) (by omega) c148
                    refine v_aload_n X dL_same_151 (i := 0) rfl rfl ?_
                    refine v_iconst X dL_same_152 (v := (0 : Int32)) (by decide) ?_
                    refine v_iload X dL_same_153 rfl ?_
                    refine v_cvB X rfl yv_X7_inBox m_ml_L_40 0 0 (c_X7_inBox l g N o σ ρ S P φ κ τ π (0 : Int32) (nI k3) ) hB (Nat.le_of_ble_eq_true rfl) rfl (Nat.le_of_ble_eq_true rfl) rfl (L' := (yaL g o σ ρ S P φ κ τ π q h t c w b b2)) (rfl) rfl (Nat.le_of_ble_eq_true rfl) rfl rfl (Nat.le_of_ble_eq_true rfl) ⟨Nat.le_of_ble_eq_true rfl, Nat.le_of_ble_eq_true rfl⟩ ⟨Nat.le_of_ble_eq_true rfl, Nat.le_of_ble_eq_true rfl⟩ dL_same_155 rfl ?_
                    refine v_iload X dL_same_158 rfl ?_
                    refine v_aload_n X dL_same_160 (i := 3) rfl rfl ?_
                    refine v_csB X rfl yv_L_in m_ml_L_10 180 (c_L_in l g N (o + 180) h (nI k3) ) hB (Nat.le_of_ble_eq_true rfl) rfl (Nat.le_of_ble_eq_true rfl) rfl (L' := (yaL g o σ ρ S P φ κ τ π q h t c w b b2)) (rfl) rfl rfl (Nat.le_of_ble_eq_true rfl) ⟨Nat.le_of_ble_eq_true rfl, Nat.le_of_ble_eq_true rfl⟩ ⟨Nat.le_of_ble_eq_true rfl, Nat.le_of_ble_eq_true rfl⟩ dL_same_161 rfl ?_
                    refine v_icmp_ne X dL_same_164 (tgt := 192) (by decide) (fun c164 => ?_) (fun c164 => ?_)
                    · skip
                      exact absurd ((ib_0 hk35).trans (in_0 hA hV hk35 5 0 rfl).symm) c164
                    · skip
                      refine v_iload X dL_same_167 rfl ?_
                      refine v_iconst X dL_same_169 (v := (2 : Int32)) (by decide) ?_
                      refine v_icmp_ge X dL_same_170 (tgt := 194) (by decide) (fun c170 => ?_) (fun c170 => ?_)
                      · skip
                        refine v_iinc X dL_same_194 (v := nI (k3 + 1)) rfl (ix_inc rfl) (Nat.le_of_ble_eq_true rfl) rfl ?_
                        refine v_goto X dL_same_197 (tgt := 145) (by decide) ?_
                        exact ih145 (k3 + 1) (by omega) (by omega)
                      · skip
                        have hk32 : k3 < 2 := lt_of_nI (b := 2) (by omega) (by omega) c170
                        refine v_aload_n X dL_same_173 (i := 0) rfl rfl ?_
                        refine v_iconst X dL_same_174 (v := (1 : Int32)) (by decide) ?_
                        refine v_iload X dL_same_175 rfl ?_
                        refine v_cvB X rfl yv_X7_inBox m_ml_L_40 0 0 (c_X7_inBox l g N o σ ρ S P φ κ τ π (1 : Int32) (nI k3) ) hB (Nat.le_of_ble_eq_true rfl) rfl (Nat.le_of_ble_eq_true rfl) rfl (L' := (yaL g o σ ρ S P φ κ τ π q h t c w b b2)) (rfl) rfl (Nat.le_of_ble_eq_true rfl) rfl rfl (Nat.le_of_ble_eq_true rfl) ⟨Nat.le_of_ble_eq_true rfl, Nat.le_of_ble_eq_true rfl⟩ ⟨Nat.le_of_ble_eq_true rfl, Nat.le_of_ble_eq_true rfl⟩ dL_same_177 rfl ?_
                        refine v_bipush X dL_same_180 (v := (10 : Int32)) (by decide) ?_
                        refine v_iload X dL_same_182 rfl ?_
                        refine v_iadd X dL_same_184 ?_
                        refine v_aload_n X dL_same_185 (i := 3) rfl rfl ?_
                        refine v_csB X rfl yv_L_in m_ml_L_10 180 (c_L_in l g N (o + 180) h ((10 : Int32) + (nI k3)) ) hB (Nat.le_of_ble_eq_true rfl) rfl (Nat.le_of_ble_eq_true rfl) rfl (L' := (yaL g o σ ρ S P φ κ τ π q h t c w b b2)) (rfl) rfl rfl (Nat.le_of_ble_eq_true rfl) ⟨Nat.le_of_ble_eq_true rfl, Nat.le_of_ble_eq_true rfl⟩ ⟨Nat.le_of_ble_eq_true rfl, Nat.le_of_ble_eq_true rfl⟩ dL_same_186 rfl ?_
                        refine v_icmp_eq X dL_same_189 (tgt := 194) (by decide) (fun c189 => ?_) (fun c189 => ?_)
                        · skip
                          refine v_iinc X dL_same_194 (v := nI (k3 + 1)) rfl (ix_inc rfl) (Nat.le_of_ble_eq_true rfl) rfl ?_
                          refine v_goto X dL_same_197 (tgt := 145) (by decide) ?_
                          exact ih145 (k3 + 1) (by omega) (by omega)
                        · skip
                          exact absurd ((ib_1 hk32).trans (in_1 hA hV hk35 5 0 rfl).symm) c189
              exact LP145 _ 0 (Nat.zero_le _) (Nat.lt_succ_self _)
            · skip
              have hk25 : k2 < 5 := lt_of_nI (b := 5) (by omega) (by omega) c37
              have hw := (hA.2.1 k2 hk25).2.2
              have w1 : h (3 * k2 + 2) < 0 → σ (14 + 4 * k2) = -6 ∧ σ (15 + 4 * k2) = -6 := by rw [hw]; exact (wh_sb hV hk25).1
              have w2 : ¬ h (3 * k2 + 2) < 0 → σ (14 + 4 * k2) = h (3 * k2 + 2) / 10 ∧ σ (15 + 4 * k2) = h (3 * k2 + 2) - h (3 * k2 + 2) / 10 * 10 := by rw [hw]; exact (wh_sb hV hk25).2
              have s0 : shF σ (nI k2) 0 = σ (12 + 4 * k2) := sh_j 0 hk25 (by omega)
              have s1 : shF σ (nI k2) 1 = σ (13 + 4 * k2) := (sh_j 1 hk25 (by omega)).trans (congrArg σ (by omega))
              have s2 : shF σ (nI k2) 2 = σ (14 + 4 * k2) := (sh_j 2 hk25 (by omega)).trans (congrArg σ (by omega))
              have s3 : shF σ (nI k2) 3 = σ (15 + 4 * k2) := (sh_j 3 hk25 (by omega)).trans (congrArg σ (by omega))
              refine v_aload_n X dL_same_40 (i := 3) rfl rfl ?_
              refine v_iconst X dL_same_41 (v := (3 : Int32)) (by decide) ?_
              refine v_iload X dL_same_42 rfl ?_
              refine v_imul X dL_same_44 ?_
              refine v_iconst X dL_same_45 (v := (2 : Int32)) (by decide) ?_
              refine v_iadd X dL_same_46 ?_
              refine v_ialdB X hB dL_same_47 180 (Nat.le_of_ble_eq_true rfl) rfl ((3 * k2) + 2) (ix_add (ix_mul rfl rfl) rfl) (by omega) (Nat.le_of_ble_eq_true rfl) ?_
              refine v_istore X dL_same_48 (Nat.le_of_ble_eq_true rfl) rfl ?_
              refine v_aload_n X dL_same_50 (i := 0) rfl rfl ?_
              refine v_iload X dL_same_51 rfl ?_
              refine v_iconst X dL_same_53 (v := (0 : Int32)) (by decide) ?_
              refine v_cvB X rfl yv_X7_shuttle m_ml_L_36 0 0 (c_X7_shuttle l g N o σ ρ S P φ κ τ π (nI k2) (0 : Int32) ) hB (Nat.le_of_ble_eq_true rfl) rfl (Nat.le_of_ble_eq_true rfl) rfl (L' := (yaL g o σ ρ S P φ κ τ π q h t c w b b2)) (rfl) rfl (Nat.le_of_ble_eq_true rfl) rfl rfl (Nat.le_of_ble_eq_true rfl) ⟨Nat.le_of_ble_eq_true rfl, Nat.le_of_ble_eq_true rfl⟩ ⟨Nat.le_of_ble_eq_true rfl, Nat.le_of_ble_eq_true rfl⟩ dL_same_54 rfl ?_
              refine v_aload_n X dL_same_57 (i := 3) rfl rfl ?_
              refine v_iconst X dL_same_58 (v := (3 : Int32)) (by decide) ?_
              refine v_iload X dL_same_59 rfl ?_
              refine v_imul X dL_same_61 ?_
              refine v_ialdB X hB dL_same_62 180 (Nat.le_of_ble_eq_true rfl) rfl (3 * k2) (ix_mul rfl rfl) (by omega) (Nat.le_of_ble_eq_true rfl) ?_
              refine v_icmp_ne X dL_same_63 (tgt := 134) (by decide) (fun c63 => ?_) (fun c63 => ?_)
              · skip
                exact absurd (s0.trans (hA.2.1 k2 hk25).1.symm) c63
              · skip
                refine v_aload_n X dL_same_66 (i := 0) rfl rfl ?_
                refine v_iload X dL_same_67 rfl ?_
                refine v_iconst X dL_same_69 (v := (1 : Int32)) (by decide) ?_
                refine v_cvB X rfl yv_X7_shuttle m_ml_L_36 0 0 (c_X7_shuttle l g N o σ ρ S P φ κ τ π (nI k2) (1 : Int32) ) hB (Nat.le_of_ble_eq_true rfl) rfl (Nat.le_of_ble_eq_true rfl) rfl (L' := (yaL g o σ ρ S P φ κ τ π q h t c w b b2)) (rfl) rfl (Nat.le_of_ble_eq_true rfl) rfl rfl (Nat.le_of_ble_eq_true rfl) ⟨Nat.le_of_ble_eq_true rfl, Nat.le_of_ble_eq_true rfl⟩ ⟨Nat.le_of_ble_eq_true rfl, Nat.le_of_ble_eq_true rfl⟩ dL_same_70 rfl ?_
                refine v_aload_n X dL_same_73 (i := 3) rfl rfl ?_
                refine v_iconst X dL_same_74 (v := (3 : Int32)) (by decide) ?_
                refine v_iload X dL_same_75 rfl ?_
                refine v_imul X dL_same_77 ?_
                refine v_iconst X dL_same_78 (v := (1 : Int32)) (by decide) ?_
                refine v_iadd X dL_same_79 ?_
                refine v_ialdB X hB dL_same_80 180 (Nat.le_of_ble_eq_true rfl) rfl ((3 * k2) + 1) (ix_add (ix_mul rfl rfl) rfl) (by omega) (Nat.le_of_ble_eq_true rfl) ?_
                refine v_icmp_ne X dL_same_81 (tgt := 134) (by decide) (fun c81 => ?_) (fun c81 => ?_)
                · skip
                  exact absurd (s1.trans (hA.2.1 k2 hk25).2.1.symm) c81
                · skip
                  refine v_aload_n X dL_same_84 (i := 0) rfl rfl ?_
                  refine v_iload X dL_same_85 rfl ?_
                  refine v_iconst X dL_same_87 (v := (2 : Int32)) (by decide) ?_
                  refine v_cvB X rfl yv_X7_shuttle m_ml_L_36 0 0 (c_X7_shuttle l g N o σ ρ S P φ κ τ π (nI k2) (2 : Int32) ) hB (Nat.le_of_ble_eq_true rfl) rfl (Nat.le_of_ble_eq_true rfl) rfl (L' := (yaL g o σ ρ S P φ κ τ π q h t c w b b2)) (rfl) rfl (Nat.le_of_ble_eq_true rfl) rfl rfl (Nat.le_of_ble_eq_true rfl) ⟨Nat.le_of_ble_eq_true rfl, Nat.le_of_ble_eq_true rfl⟩ ⟨Nat.le_of_ble_eq_true rfl, Nat.le_of_ble_eq_true rfl⟩ dL_same_88 rfl ?_
                  refine v_iload X dL_same_91 rfl ?_
                  refine v_if_ge X dL_same_93 (tgt := 101) (by decide) (fun c93 => ?_) (fun c93 => ?_)
                  · skip
                    refine v_iload X dL_same_101 rfl ?_
                    refine v_bipush X dL_same_103 (v := (10 : Int32)) (by decide) ?_
                    refine v_idiv X dL_same_105 (by decide) ?_
                    refine v_icmp_ne X dL_same_106 (tgt := 134) (by decide) (fun c106 => ?_) (fun c106 => ?_)
                    · skip
                      exact absurd (s2.trans (w2 (Int32.not_lt.mpr c93)).1) c106
                    · skip
                      refine v_aload_n X dL_same_109 (i := 0) rfl rfl ?_
                      refine v_iload X dL_same_110 rfl ?_
                      refine v_iconst X dL_same_112 (v := (3 : Int32)) (by decide) ?_
                      refine v_cvB X rfl yv_X7_shuttle m_ml_L_36 0 0 (c_X7_shuttle l g N o σ ρ S P φ κ τ π (nI k2) (3 : Int32) ) hB (Nat.le_of_ble_eq_true rfl) rfl (Nat.le_of_ble_eq_true rfl) rfl (L' := (yaL g o σ ρ S P φ κ τ π q h t c w b b2)) (rfl) rfl (Nat.le_of_ble_eq_true rfl) rfl rfl (Nat.le_of_ble_eq_true rfl) ⟨Nat.le_of_ble_eq_true rfl, Nat.le_of_ble_eq_true rfl⟩ ⟨Nat.le_of_ble_eq_true rfl, Nat.le_of_ble_eq_true rfl⟩ dL_same_113 rfl ?_
                      refine v_iload X dL_same_116 rfl ?_
                      refine v_if_ge X dL_same_118 (tgt := 126) (by decide) (fun c118 => ?_) (fun c118 => ?_)
                      · skip
                        refine v_iload X dL_same_126 rfl ?_
                        refine v_bipush X dL_same_128 (v := (10 : Int32)) (by decide) ?_
                        refine v_irem X dL_same_130 (by decide) ?_
                        refine v_icmp_eq X dL_same_131 (tgt := 136) (by decide) (fun c131 => ?_) (fun c131 => ?_)
                        · skip
                          refine v_iinc X dL_same_136 (v := nI (k2 + 1)) rfl (ix_inc rfl) (Nat.le_of_ble_eq_true rfl) rfl ?_
                          refine v_goto X dL_same_139 (tgt := 34) (by decide) ?_
                          refine v_drop 8 ?_
                          exact ih34 (k2 + 1) (by omega) (by omega)
                        · skip
                          exact absurd (s3.trans (w2 (Int32.not_lt.mpr c93)).2) c131
                      · skip
                        exact absurd (c118) (Int32.not_lt.mpr c93)
                  · skip
                    refine v_bipush X dL_same_96 (v := (-6 : Int32)) (by decide) ?_
                    refine v_goto X dL_same_98 (tgt := 106) (by decide) ?_
                    refine v_icmp_ne X dL_same_106 (tgt := 134) (by decide) (fun c106 => ?_) (fun c106 => ?_)
                    · skip
                      exact absurd (s2.trans (w1 c93).1) c106
                    · skip
                      refine v_aload_n X dL_same_109 (i := 0) rfl rfl ?_
                      refine v_iload X dL_same_110 rfl ?_
                      refine v_iconst X dL_same_112 (v := (3 : Int32)) (by decide) ?_
                      refine v_cvB X rfl yv_X7_shuttle m_ml_L_36 0 0 (c_X7_shuttle l g N o σ ρ S P φ κ τ π (nI k2) (3 : Int32) ) hB (Nat.le_of_ble_eq_true rfl) rfl (Nat.le_of_ble_eq_true rfl) rfl (L' := (yaL g o σ ρ S P φ κ τ π q h t c w b b2)) (rfl) rfl (Nat.le_of_ble_eq_true rfl) rfl rfl (Nat.le_of_ble_eq_true rfl) ⟨Nat.le_of_ble_eq_true rfl, Nat.le_of_ble_eq_true rfl⟩ ⟨Nat.le_of_ble_eq_true rfl, Nat.le_of_ble_eq_true rfl⟩ dL_same_113 rfl ?_
                      refine v_iload X dL_same_116 rfl ?_
                      refine v_if_ge X dL_same_118 (tgt := 126) (by decide) (fun c118 => ?_) (fun c118 => ?_)
                      · skip
                        exact absurd (c93) (Int32.not_lt.mpr c118)
                      · skip
                        refine v_bipush X dL_same_121 (v := (-6 : Int32)) (by decide) ?_
                        refine v_goto X dL_same_123 (tgt := 131) (by decide) ?_
                        refine v_icmp_eq X dL_same_131 (tgt := 136) (by decide) (fun c131 => ?_) (fun c131 => ?_)
                        · skip
                          refine v_iinc X dL_same_136 (v := nI (k2 + 1)) rfl (ix_inc rfl) (Nat.le_of_ble_eq_true rfl) rfl ?_
                          refine v_goto X dL_same_139 (tgt := 34) (by decide) ?_
                          refine v_drop 8 ?_
                          exact ih34 (k2 + 1) (by omega) (by omega)
                        · skip
                          exact absurd (s3.trans (w1 c93).2) c131
        exact LP34 _ 0 (Nat.zero_le _) (Nat.lt_succ_self _)
      · skip
        have hk15 : k1 < 12 := lt_of_nI (b := 12) (by omega) (by omega) c7
        refine v_aload_n X dL_same_10 (i := 0) rfl rfl ?_
        refine v_iload X dL_same_11 rfl ?_
        refine v_cvB X rfl yv_X7_count m_ml_L_31 0 0 (c_X7_count l g N o σ ρ S P φ κ τ π (nI k1) ) hB (Nat.le_of_ble_eq_true rfl) rfl (Nat.le_of_ble_eq_true rfl) rfl (L' := (yaL g o σ ρ S P φ κ τ π q h t c w b b2)) (rfl) rfl (Nat.le_of_ble_eq_true rfl) rfl rfl (Nat.le_of_ble_eq_true rfl) ⟨Nat.le_of_ble_eq_true rfl, Nat.le_of_ble_eq_true rfl⟩ ⟨Nat.le_of_ble_eq_true rfl, Nat.le_of_ble_eq_true rfl⟩ dL_same_13 rfl ?_
        refine v_aload_n X dL_same_16 (i := 2) rfl rfl ?_
        refine v_iload X dL_same_17 rfl ?_
        refine v_ialdB X hB dL_same_19 179 (Nat.le_of_ble_eq_true rfl) rfl k1 rfl (by omega) (Nat.le_of_ble_eq_true rfl) ?_
        refine v_icmp_eq X dL_same_20 (tgt := 25) (by decide) (fun c20 => ?_) (fun c20 => ?_)
        · skip
          refine v_iinc X dL_same_25 (v := nI (k1 + 1)) rfl (ix_inc rfl) (Nat.le_of_ble_eq_true rfl) rfl ?_
          refine v_goto X dL_same_28 (tgt := 3) (by decide) ?_
          exact ih3 (k1 + 1) (by omega) (by omega)
        · skip
          exact absurd ((cn_k hk15).trans (hA.1 k1 hk15).symm) c20
  exact LP3 _ 0 (Nat.zero_le _) (Nat.lt_succ_self _)
