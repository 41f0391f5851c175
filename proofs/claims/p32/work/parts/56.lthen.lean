/-! the law's forecasts, by copies -/
def RO (g : Ge) (N : Nat) (f : Pic) (o2 : Nat) (L : List va_E) : Prop := BB g N o2 L.length ∧ ∀ (j : Nat) (c : va_E), L[j]? = some c → f (o2 + j) = c
theorem RO.ob {g : Ge} {M k o o2 n n2 : Nat} {f : Pic} {L : List va_E} (h : RO g M f o2 L) (ho : o = g.2.2 + M) (hn : L.length = n2) : OB g (M + k) f o n o2 n2 L := by
  subst hn
  have h1 := h.1.1
  have h2 := h.1.2
  exact ⟨⟨h1, by omega⟩, Or.inr (by omega), rfl, h.2⟩
def qhcL (g : Ge) (_ : Nat) (q h t c : Nat → Int32) : List va_E := [iA g 12 q, iA g 15 h, iA g 24 t, iA g 48 c]
set_option maxRecDepth 100000 in
set_option maxHeartbeats 4000000 in
theorem c_L_then_0 (l : Launch) (g : Ge) (M o o2 : Nat) (ho : o = g.2.2 + M) (σ q h t c : Nat → Int32) (C P : Nat) (hA : RA C σ q h t c) (g9 : GC C P σ) (hV : VR C σ) (hY : YN σ) : ∀ f : Pic, RO g M f o2 (qhcL g o2 q h t c) → Ct l g yL_then (.code yL_then cL_then 12 (some .int)) 2 [.int (0 : Int32), .ref o2, .ref (o2 + 1), .ref (o2 + 2), .ref (o2 + 3)] M f (some (.int (plC 200 0 σ))) (M + 3) (ovr f o (qhL g o (itA c (cG 200 σ) (cpM q 12 24, cpM h 15 24, cpM t 24 24)).1 (itA c (cG 200 σ) (cpM q 12 24, cpM h 15 24, cpM t 24 24)).2.1 (itA c (cG 200 σ) (cpM q 12 24, cpM h 15 24, cpM t 24 24)).2.2)) 3 51 := by
  intro f hO0
  have hO : OB g (M + 3) f o 3 o2 4 (qhcL g o2 q h t c) := hO0.ob ho rfl
  have hB : BB g (M + 3) o 3 := ⟨by omega, by omega⟩
  have hq0 : q 0 = nI C := (hA.1 0 (by omega)).trans g9.1
  have hC16 := g9.2.2.2
  refine ct_of (own := RL) [some (.int (0 : Int32)), some (.ref o2), some (.ref (o2 + 1)), some (.ref (o2 + 2)), some (.ref (o2 + 3)), none, none, none, none, none, none, none] (by decide +kernel) rfl rfl (Nat.le_of_ble_eq_true rfl) ?_
  intro vp ve vs vm va vb vt vc hnm X
  refine V.cast (f' := ovr f o []) ?_ rfl rfl (ovr_nil f o).symm
  refine v_bipush X dL_then_0 (v := (12 : Int32)) (by decide) ?_
  refine v_newaB_i X 0 (by rw [ho]; omega) rfl (by omega) m_ac_int (n' := 12) rfl (by decide) ⟨Nat.le_of_ble_eq_true rfl, Nat.le_of_ble_eq_true rfl⟩ dL_then_2 (L' := [iA g 12 (fun _ => 0)]) rfl ?_
  refine v_astore X dL_then_4 (Nat.le_of_ble_eq_true rfl) rfl ?_
  refine v_bipush X dL_then_6 (v := (15 : Int32)) (by decide) ?_
  refine v_newaB_i X 1 (by rw [ho]; omega) rfl (by omega) m_ac_int (n' := 15) rfl (by decide) ⟨Nat.le_of_ble_eq_true rfl, Nat.le_of_ble_eq_true rfl⟩ dL_then_8 (L' := [iA g 12 (fun _ => 0), iA g 15 (fun _ => 0)]) rfl ?_
  refine v_astore X dL_then_10 (Nat.le_of_ble_eq_true rfl) rfl ?_
  refine v_bipush X dL_then_12 (v := (24 : Int32)) (by decide) ?_
  refine v_newaB_i X 2 (by rw [ho]; omega) rfl (by omega) m_ac_int (n' := 24) rfl (by decide) ⟨Nat.le_of_ble_eq_true rfl, Nat.le_of_ble_eq_true rfl⟩ dL_then_14 (L' := (qhL g o (fun _ => 0) (fun _ => 0) (fun _ => 0))) rfl ?_
  refine v_astore X dL_then_16 (Nat.le_of_ble_eq_true rfl) rfl ?_
  refine v_iconst X dL_then_18 (v := (0 : Int32)) (by decide) ?_
  refine v_istore X dL_then_19 (Nat.le_of_ble_eq_true rfl) rfl ?_
  have LP21 : ∀ (n_ : Nat) (k : Nat), (k ≤ 24) → 24 - k < n_ → V vp l ve (rmD 2 3 51) vs vm va vb vt vc (MQ vb (CtQ g (some (.int (plC 200 0 σ))) (M + 3) (ovr f o (qhL g o (itA c (cG 200 σ) (cpM q 12 24, cpM h 15 24, cpM t 24 24)).1 (itA c (cG 200 σ) (cpM q 12 24, cpM h 15 24, cpM t 24 24)).2.1 (itA c (cG 200 σ) (cpM q 12 24, cpM h 15 24, cpM t 24 24)).2.2))) va vs 3 51 (gA g)) g 12 3 51 (M + 3) (ovr f o (qhL g o (cpM q 12 k) (cpM h 15 k) (cpM t 24 k))) 21 [some (.int (0 : Int32)), some (.ref o2), some (.ref (o2 + 1)), some (.ref (o2 + 2)), some (.ref (o2 + 3)), some (.ref o), some (.ref (o + 1)), some (.ref (o + 2)), some (.int (nI k)), none, none, none] [] := by
    intro n_
    induction n_ with
    | zero => intro k hk hm_; exact absurd hm_ (Nat.not_lt_zero _)
    | succ n_ ih21 =>
      intro k hk hm21
      refine v_iload X dL_then_21 rfl ?_
      refine v_bipush X dL_then_23 (v := (24 : Int32)) (by decide) ?_
      refine v_icmp_ge X dL_then_25 (tgt := 75) (by decide) (fun c25 => ?_) (fun c25 => ?_)
      · skip
        have hk24 : k = 24 := Nat.le_antisymm hk (le_of_nI (a := 24) (by omega) (by omega) c25)
        subst hk24
        refine v_iload_n X dL_then_75 (i := 0) rfl rfl ?_
        refine v_if_ne X dL_then_76 (tgt := 85) (by decide) (fun c76 => ?_) (fun c76 => ?_)
        · skip
          exact absurd c76 (by decide)
        · skip
          refine v_sipush X dL_then_79 (v := (200 : Int32)) (by decide) ?_
          refine v_goto X dL_then_82 (tgt := 99) (by decide) ?_
          refine v_istore X dL_then_99 (Nat.le_of_ble_eq_true rfl) rfl ?_
          refine v_iload_n X dL_then_101 (i := 0) rfl rfl ?_
          refine v_iconst X dL_then_102 (v := (2 : Int32)) (by decide) ?_
          refine v_icmp_ne X dL_then_103 (tgt := 111) (by decide) (fun c103 => ?_) (fun c103 => ?_)
          · skip
            refine v_iconst X dL_then_111 (v := (0 : Int32)) (by decide) ?_
            refine v_istore X dL_then_112 (Nat.le_of_ble_eq_true rfl) rfl ?_
            refine v_iload_n X dL_then_114 (i := 0) rfl rfl ?_
            refine v_iconst X dL_then_115 (v := (1 : Int32)) (by decide) ?_
            refine v_icmp_eq X dL_then_116 (tgt := 123) (by decide) (fun c116 => ?_) (fun c116 => ?_)
            · skip
              exact absurd c116 (by decide)
            · skip
              refine v_iconst X dL_then_119 (v := (1 : Int32)) (by decide) ?_
              refine v_goto X dL_then_120 (tgt := 124) (by decide) ?_
              refine v_aload X dL_then_124 rfl ?_
              refine v_aload X dL_then_126 rfl ?_
              refine v_aload X dL_then_128 rfl ?_
              refine v_aload X dL_then_130 rfl ?_
              refine v_csB2 X rfl yv_L_why m_ml_L_16 0 (c_L_why_1 l g (M + 3) o (o2 + 3) σ (cpM q 12 24) (cpM h 15 24) (cpM t 24 24) c C P (RA_cp hA) g9 hV hY) hB (hO.sub rfl (Nat.le_of_ble_eq_true rfl) (j2 := 3) (Nat.le_of_ble_eq_true rfl) rfl) (Nat.le_of_ble_eq_true rfl) rfl (Nat.le_of_ble_eq_true rfl) rfl (L' := (qhL g o (cpM q 12 24) (cpM h 15 24) (cpM t 24 24))) (rfl) rfl rfl (Nat.le_of_ble_eq_true rfl) ⟨Nat.le_of_ble_eq_true rfl, Nat.le_of_ble_eq_true rfl⟩ ⟨Nat.le_of_ble_eq_true rfl, Nat.le_of_ble_eq_true rfl⟩ dL_then_132 rfl ?_
              refine v_istore X dL_then_135 (Nat.le_of_ble_eq_true rfl) rfl ?_
              have LP137 : ∀ (n_ : Nat) (k : Nat) (Pk : Nat) (σk : Nat → Int32) (qk : Nat → Int32) (hh : Nat → Int32) (tk : Nat → Int32), (k ≤ 200) → (RA C σk qk hh tk c) → (GC C Pk σk) → (VR C σk) → (YN σk) → (plC 200 0 σ = plC (200 - k) k σk) → (itA c (cG 200 σ) (cpM q 12 24, cpM h 15 24, cpM t 24 24) = itA c (cG (200 - k) σk) (qk, hh, tk)) → 200 - k < n_ → V vp l ve (rmD 2 3 51) vs vm va vb vt vc (MQ vb (CtQ g (some (.int (plC 200 0 σ))) (M + 3) (ovr f o (qhL g o (itA c (cG 200 σ) (cpM q 12 24, cpM h 15 24, cpM t 24 24)).1 (itA c (cG 200 σ) (cpM q 12 24, cpM h 15 24, cpM t 24 24)).2.1 (itA c (cG 200 σ) (cpM q 12 24, cpM h 15 24, cpM t 24 24)).2.2))) va vs 3 51 (gA g)) g 12 3 51 (M + 3) (ovr f o (qhL g o qk hh tk)) 137 [some (.int (0 : Int32)), some (.ref o2), some (.ref (o2 + 1)), some (.ref (o2 + 2)), some (.ref (o2 + 3)), some (.ref o), some (.ref (o + 1)), some (.ref (o + 2)), some (.int (200 : Int32)), some (.int (nI k)), some (.int (wyV (rsG σk C Pk) (nTold σk Pk (rsG σk C Pk)))), none] [] := by
                intro n_
                induction n_ with
                | zero => intro k Pk σk qk hh tk hkm hAk gk hVk hYk hr hs hm_; exact absurd hm_ (Nat.not_lt_zero _)
                | succ n_ ih137 =>
                  intro k Pk σk qk hh tk hkm hAk gk hVk hYk hr hs hm137
                  refine v_iload X dL_then_137 rfl ?_
                  refine v_iload X dL_then_139 rfl ?_
                  refine v_icmp_ge X dL_then_141 (tgt := 190) (by decide) (fun c141 => ?_) (fun c141 => ?_)
                  · skip
                    have hk2 : k = 200 := Nat.le_antisymm hkm (le_of_nI (a := 200) (by omega) (by omega) c141)
                    refine v_iload_n X dL_then_190 (i := 0) rfl rfl ?_
                    refine v_if_ne X dL_then_191 (tgt := 197) (by decide) (fun c191 => ?_) (fun c191 => ?_)
                    · skip
                      exact absurd c191 (by decide)
                    · skip
                      refine v_iload X dL_then_194 rfl ?_
                      exact v_iret X rfl dL_then_196 (by subst hk2; rw [hr]; rfl) (by subst hk2; rw [hs, Nat.sub_self]; rfl)
                  · skip
                    have hk2 : k < 200 := lt_of_nI (b := 200) (by omega) (by omega) c141
                    obtain ⟨n1, h1⟩ : ∃ n1, 200 - k = n1 + 1 := ⟨200 - k - 1, by omega⟩
                    refine v_iload X dL_then_144 rfl ?_
                    refine v_if_ne X dL_then_146 (tgt := 190) (by decide) (fun c146 => ?_) (fun c146 => ?_)
                    · skip
                      have hz : ¬ rsG σk C Pk = 0 := fun z => c146 ((wok_v (wok_G σk C Pk)).1.mpr z)
                      have hz2 : ¬ rsG' σk = 0 := fun z => hz ((rsG'_c gk).symm.trans z)
                      refine v_iload_n X dL_then_190 (i := 0) rfl rfl ?_
                      refine v_if_ne X dL_then_191 (tgt := 197) (by decide) (fun c191 => ?_) (fun c191 => ?_)
                      · skip
                        exact absurd c191 (by decide)
                      · skip
                        refine v_iload X dL_then_194 rfl ?_
                        exact v_iret X rfl dL_then_196 (by rw [hr, h1, plC, if_neg hz2]) (by rw [hs, h1, cG, if_neg hz2]; rfl)
                    · skip
                      have hz : rsG σk C Pk = 0 := (wok_v (wok_G σk C Pk)).1.mp c146
                      have hz2 : rsG' σk = 0 := (rsG'_c gk).trans hz
                      have h0 : rsC σk C Pk = 0 := rsG_0 hz
                      obtain ⟨hC0, k9, hk9, hfl⟩ := rsC_0 h0
                      have hPC : Pk < C := by
                        have := gk.2.2.1
                        omega
                      refine v_aload X dL_then_149 rfl ?_
                      refine v_aload X dL_then_151 rfl ?_
                      refine v_aload X dL_then_153 rfl ?_
                      refine v_aload X dL_then_155 rfl ?_
                      refine v_csB2 X rfl yv_L_pick m_ml_L_20 0 (c_L_pick l g (M + 3) o (o2 + 3) qk hh tk c C Pk k9 ((hAk.1 0 (by omega)).trans gk.1) ((hAk.1 1 (by omega)).trans gk.2.1) hPC gk.2.2.2 hk9 ((fl_eq hAk hVk hPC).trans hfl)) hB (hO.sub rfl (Nat.le_of_ble_eq_true rfl) (j2 := 3) (Nat.le_of_ble_eq_true rfl) rfl) (Nat.le_of_ble_eq_true rfl) rfl (Nat.le_of_ble_eq_true rfl) rfl (L' := (qhL g o (pkQ qk c Pk) (pkH hh c Pk k9) (pkT qk c Pk tk 12))) (rfl) rfl rfl (Nat.le_of_ble_eq_true rfl) ⟨Nat.le_of_ble_eq_true rfl, Nat.le_of_ble_eq_true rfl⟩ ⟨Nat.le_of_ble_eq_true rfl, Nat.le_of_ble_eq_true rfl⟩ dL_then_157 rfl ?_
                      refine v_pop X dL_then_160 rfl ?_
                      refine v_iinc X dL_then_161 (v := nI (k + 1)) rfl (ix_inc rfl) (Nat.le_of_ble_eq_true rfl) rfl ?_
                      refine v_iload_n X dL_then_164 (i := 0) rfl rfl ?_
                      refine v_iconst X dL_then_165 (v := (1 : Int32)) (by decide) ?_
                      refine v_icmp_eq X dL_then_166 (tgt := 173) (by decide) (fun c166 => ?_) (fun c166 => ?_)
                      · skip
                        exact absurd c166 (by decide)
                      · skip
                        refine v_iconst X dL_then_169 (v := (1 : Int32)) (by decide) ?_
                        refine v_goto X dL_then_170 (tgt := 174) (by decide) ?_
                        refine v_aload X dL_then_174 rfl ?_
                        refine v_aload X dL_then_176 rfl ?_
                        refine v_aload X dL_then_178 rfl ?_
                        refine v_aload X dL_then_180 rfl ?_
                        refine v_csB2 X rfl yv_L_why m_ml_L_16 0 (c_L_why_1 l g (M + 3) o (o2 + 3) (mvS σk C Pk k9) (pkQ qk c Pk) (pkH hh c Pk k9) (pkT qk c Pk tk 12) c C (goP Pk C) (RA_mv hAk gk hVk hPC hk9 hfl) (GC_mv gk hPC hk9) (VR_mv hVk hPC gk.2.2.2 hk9) (YN_mv hYk h0 hk9 hfl)) hB (hO.sub rfl (Nat.le_of_ble_eq_true rfl) (j2 := 3) (Nat.le_of_ble_eq_true rfl) rfl) (Nat.le_of_ble_eq_true rfl) rfl (Nat.le_of_ble_eq_true rfl) rfl (L' := (qhL g o (pkQ qk c Pk) (pkH hh c Pk k9) (pkT qk c Pk tk 12))) (rfl) rfl rfl (Nat.le_of_ble_eq_true rfl) ⟨Nat.le_of_ble_eq_true rfl, Nat.le_of_ble_eq_true rfl⟩ ⟨Nat.le_of_ble_eq_true rfl, Nat.le_of_ble_eq_true rfl⟩ dL_then_182 rfl ?_
                        refine v_istore X dL_then_185 (Nat.le_of_ble_eq_true rfl) rfl ?_
                        refine v_goto X dL_then_187 (tgt := 137) (by decide) ?_
                        exact ih137 (k + 1) (goP Pk C) (mvS σk C Pk k9) (pkQ qk c Pk) (pkH hh c Pk k9) (pkT qk c Pk tk 12) (by omega) (RA_mv hAk gk hVk hPC hk9 hfl) (GC_mv gk hPC hk9) (VR_mv hVk hPC gk.2.2.2 hk9) (YN_mv hYk h0 hk9 hfl) (by rw [hr, h1, plC, if_pos hz2, mvS'_eq gk.1 gk.2.1 gk.2.2.2 hPC hk9 hfl, show 200 - (k + 1) = n1 by omega]) (by rw [hs, h1, cG, if_pos hz2, mvS'_eq gk.1 gk.2.1 gk.2.2.2 hPC hk9 hfl, itA, pkA_eq hAk gk hVk hPC hk9 hfl, show 200 - (k + 1) = n1 by omega]) (by omega)
              exact LP137 _ 0 P σ (cpM q 12 24) (cpM h 15 24) (cpM t 24 24) (Nat.zero_le _) (RA_cp hA) g9 hV hY rfl rfl (Nat.lt_succ_self _)
          · skip
            exact absurd c103 (by decide)
      · skip
        have hk24 : k < 24 := lt_of_nI (b := 24) (by omega) (by omega) c25
        refine v_aload X dL_then_28 rfl ?_
        refine v_iload X dL_then_30 rfl ?_
        refine v_aload_n X dL_then_32 (i := 3) rfl rfl ?_
        refine v_iload X dL_then_33 rfl ?_
        refine v_ialdR X hO rfl dL_then_35 2 rfl k rfl (by omega) (Nat.le_of_ble_eq_true rfl) ?_
        refine v_iastB X hB dL_then_36 2 (Nat.le_of_ble_eq_true rfl) rfl k rfl (by omega) (Nat.le_of_ble_eq_true rfl) (L' := (qhL g o (cpM q 12 k) (cpM h 15 k) (upd (cpM t 24 k) k (t k)))) rfl ?_
        refine v_iload X dL_then_37 rfl ?_
        refine v_bipush X dL_then_39 (v := (15 : Int32)) (by decide) ?_
        refine v_icmp_ge X dL_then_41 (tgt := 53) (by decide) (fun c41 => ?_) (fun c41 => ?_)
        · skip
          have hk15 : 15 ≤ k := le_of_nI (a := 15) (by omega) (by omega) c41
          refine v_iload X dL_then_53 rfl ?_
          refine v_bipush X dL_then_55 (v := (12 : Int32)) (by decide) ?_
          refine v_icmp_ge X dL_then_57 (tgt := 69) (by decide) (fun c57 => ?_) (fun c57 => ?_)
          · skip
            have hk12 : 12 ≤ k := by omega
            refine v_iinc X dL_then_69 (v := nI (k + 1)) rfl (ix_inc rfl) (Nat.le_of_ble_eq_true rfl) rfl ?_
            refine v_goto X dL_then_72 (tgt := 21) (by decide) ?_
            exact V.cast (ih21 (k + 1) (by omega) (by omega)) (rfl) (rfl) (by rw [cpM_in (f := t) hk24, cpM_out (f := h) hk15, cpM_out (f := q) hk12])
          · skip
            exact absurd (lt_of_nI (b := 12) (by omega) (by omega) c57) (by omega)
        · skip
          have hk15 : k < 15 := lt_of_nI (b := 15) (by omega) (by omega) c41
          refine v_aload X dL_then_44 rfl ?_
          refine v_iload X dL_then_46 rfl ?_
          refine v_aload_n X dL_then_48 (i := 2) rfl rfl ?_
          refine v_iload X dL_then_49 rfl ?_
          refine v_ialdR X hO rfl dL_then_51 1 rfl k rfl (by omega) (Nat.le_of_ble_eq_true rfl) ?_
          refine v_iastB X hB dL_then_52 1 (Nat.le_of_ble_eq_true rfl) rfl k rfl (by omega) (Nat.le_of_ble_eq_true rfl) (L' := (qhL g o (cpM q 12 k) (upd (cpM h 15 k) k (h k)) (upd (cpM t 24 k) k (t k)))) rfl ?_
          refine v_iload X dL_then_53 rfl ?_
          refine v_bipush X dL_then_55 (v := (12 : Int32)) (by decide) ?_
          refine v_icmp_ge X dL_then_57 (tgt := 69) (by decide) (fun c57 => ?_) (fun c57 => ?_)
          · skip
            have hk12 : 12 ≤ k := le_of_nI (a := 12) (by omega) (by omega) c57
            refine v_iinc X dL_then_69 (v := nI (k + 1)) rfl (ix_inc rfl) (Nat.le_of_ble_eq_true rfl) rfl ?_
            refine v_goto X dL_then_72 (tgt := 21) (by decide) ?_
            exact V.cast (ih21 (k + 1) (by omega) (by omega)) (rfl) (rfl) (by rw [cpM_in (f := t) hk24, cpM_in (f := h) hk15, cpM_out (f := q) hk12])
          · skip
            have hk12 : k < 12 := lt_of_nI (b := 12) (by omega) (by omega) c57
            refine v_aload X dL_then_60 rfl ?_
            refine v_iload X dL_then_62 rfl ?_
            refine v_aload_n X dL_then_64 (i := 1) rfl rfl ?_
            refine v_iload X dL_then_65 rfl ?_
            refine v_ialdR X hO rfl dL_then_67 0 rfl k rfl (by omega) (Nat.le_of_ble_eq_true rfl) ?_
            refine v_iastB X hB dL_then_68 0 (Nat.le_of_ble_eq_true rfl) rfl k rfl (by omega) (Nat.le_of_ble_eq_true rfl) (L' := (qhL g o (upd (cpM q 12 k) k (q k)) (upd (cpM h 15 k) k (h k)) (upd (cpM t 24 k) k (t k)))) rfl ?_
            refine v_iinc X dL_then_69 (v := nI (k + 1)) rfl (ix_inc rfl) (Nat.le_of_ble_eq_true rfl) rfl ?_
            refine v_goto X dL_then_72 (tgt := 21) (by decide) ?_
            exact V.cast (ih21 (k + 1) (by omega) (by omega)) (rfl) (rfl) (by rw [cpM_in (f := t) hk24, cpM_in (f := h) hk15, cpM_in (f := q) hk12])
  exact V.cast (LP21 _ 0 (Nat.zero_le _) (Nat.lt_succ_self _)) (rfl) (rfl) (by rw [cpM_0, cpM_0, cpM_0])
set_option maxRecDepth 100000 in
set_option maxHeartbeats 4000000 in
theorem c_L_then_1 (l : Launch) (g : Ge) (M o o2 : Nat) (ho : o = g.2.2 + M) (σ q h t c : Nat → Int32) (C P : Nat) (hA : RA C σ q h t c) (g9 : GC C P σ) (hV : VR C σ) (hY : YN σ) : ∀ f : Pic, RO g M f o2 (qhcL g o2 q h t c) → Ct l g yL_then (.code yL_then cL_then 12 (some .int)) 2 [.int (1 : Int32), .ref o2, .ref (o2 + 1), .ref (o2 + 2), .ref (o2 + 3)] M f (some (.int (feC 999 σ))) (M + 3) (ovr f o (qhL g o (itA c (cC 999 σ) (cpM q 12 24, cpM h 15 24, cpM t 24 24)).1 (itA c (cC 999 σ) (cpM q 12 24, cpM h 15 24, cpM t 24 24)).2.1 (itA c (cC 999 σ) (cpM q 12 24, cpM h 15 24, cpM t 24 24)).2.2)) 3 51 := by
  intro f hO0
  have hO : OB g (M + 3) f o 3 o2 4 (qhcL g o2 q h t c) := hO0.ob ho rfl
  have hB : BB g (M + 3) o 3 := ⟨by omega, by omega⟩
  have hq0 : q 0 = nI C := (hA.1 0 (by omega)).trans g9.1
  have hC16 := g9.2.2.2
  refine ct_of (own := RL) [some (.int (1 : Int32)), some (.ref o2), some (.ref (o2 + 1)), some (.ref (o2 + 2)), some (.ref (o2 + 3)), none, none, none, none, none, none, none] (by decide +kernel) rfl rfl (Nat.le_of_ble_eq_true rfl) ?_
  intro vp ve vs vm va vb vt vc hnm X
  refine V.cast (f' := ovr f o []) ?_ rfl rfl (ovr_nil f o).symm
  refine v_bipush X dL_then_0 (v := (12 : Int32)) (by decide) ?_
  refine v_newaB_i X 0 (by rw [ho]; omega) rfl (by omega) m_ac_int (n' := 12) rfl (by decide) ⟨Nat.le_of_ble_eq_true rfl, Nat.le_of_ble_eq_true rfl⟩ dL_then_2 (L' := [iA g 12 (fun _ => 0)]) rfl ?_
  refine v_astore X dL_then_4 (Nat.le_of_ble_eq_true rfl) rfl ?_
  refine v_bipush X dL_then_6 (v := (15 : Int32)) (by decide) ?_
  refine v_newaB_i X 1 (by rw [ho]; omega) rfl (by omega) m_ac_int (n' := 15) rfl (by decide) ⟨Nat.le_of_ble_eq_true rfl, Nat.le_of_ble_eq_true rfl⟩ dL_then_8 (L' := [iA g 12 (fun _ => 0), iA g 15 (fun _ => 0)]) rfl ?_
  refine v_astore X dL_then_10 (Nat.le_of_ble_eq_true rfl) rfl ?_
  refine v_bipush X dL_then_12 (v := (24 : Int32)) (by decide) ?_
  refine v_newaB_i X 2 (by rw [ho]; omega) rfl (by omega) m_ac_int (n' := 24) rfl (by decide) ⟨Nat.le_of_ble_eq_true rfl, Nat.le_of_ble_eq_true rfl⟩ dL_then_14 (L' := (qhL g o (fun _ => 0) (fun _ => 0) (fun _ => 0))) rfl ?_
  refine v_astore X dL_then_16 (Nat.le_of_ble_eq_true rfl) rfl ?_
  refine v_iconst X dL_then_18 (v := (0 : Int32)) (by decide) ?_
  refine v_istore X dL_then_19 (Nat.le_of_ble_eq_true rfl) rfl ?_
  have LP21 : ∀ (n_ : Nat) (k : Nat), (k ≤ 24) → 24 - k < n_ → V vp l ve (rmD 2 3 51) vs vm va vb vt vc (MQ vb (CtQ g (some (.int (feC 999 σ))) (M + 3) (ovr f o (qhL g o (itA c (cC 999 σ) (cpM q 12 24, cpM h 15 24, cpM t 24 24)).1 (itA c (cC 999 σ) (cpM q 12 24, cpM h 15 24, cpM t 24 24)).2.1 (itA c (cC 999 σ) (cpM q 12 24, cpM h 15 24, cpM t 24 24)).2.2))) va vs 3 51 (gA g)) g 12 3 51 (M + 3) (ovr f o (qhL g o (cpM q 12 k) (cpM h 15 k) (cpM t 24 k))) 21 [some (.int (1 : Int32)), some (.ref o2), some (.ref (o2 + 1)), some (.ref (o2 + 2)), some (.ref (o2 + 3)), some (.ref o), some (.ref (o + 1)), some (.ref (o + 2)), some (.int (nI k)), none, none, none] [] := by
    intro n_
    induction n_ with
    | zero => intro k hk hm_; exact absurd hm_ (Nat.not_lt_zero _)
    | succ n_ ih21 =>
      intro k hk hm21
      refine v_iload X dL_then_21 rfl ?_
      refine v_bipush X dL_then_23 (v := (24 : Int32)) (by decide) ?_
      refine v_icmp_ge X dL_then_25 (tgt := 75) (by decide) (fun c25 => ?_) (fun c25 => ?_)
      · skip
        have hk24 : k = 24 := Nat.le_antisymm hk (le_of_nI (a := 24) (by omega) (by omega) c25)
        subst hk24
        refine v_iload_n X dL_then_75 (i := 0) rfl rfl ?_
        refine v_if_ne X dL_then_76 (tgt := 85) (by decide) (fun c76 => ?_) (fun c76 => ?_)
        · skip
          refine v_iload_n X dL_then_85 (i := 0) rfl rfl ?_
          refine v_iconst X dL_then_86 (v := (1 : Int32)) (by decide) ?_
          refine v_icmp_ne X dL_then_87 (tgt := 96) (by decide) (fun c87 => ?_) (fun c87 => ?_)
          · skip
            exact absurd c87 (by decide)
          · skip
            refine v_sipush X dL_then_90 (v := (999 : Int32)) (by decide) ?_
            refine v_goto X dL_then_93 (tgt := 99) (by decide) ?_
            refine v_istore X dL_then_99 (Nat.le_of_ble_eq_true rfl) rfl ?_
            refine v_iload_n X dL_then_101 (i := 0) rfl rfl ?_
            refine v_iconst X dL_then_102 (v := (2 : Int32)) (by decide) ?_
            refine v_icmp_ne X dL_then_103 (tgt := 111) (by decide) (fun c103 => ?_) (fun c103 => ?_)
            · skip
              refine v_iconst X dL_then_111 (v := (0 : Int32)) (by decide) ?_
              refine v_istore X dL_then_112 (Nat.le_of_ble_eq_true rfl) rfl ?_
              refine v_iload_n X dL_then_114 (i := 0) rfl rfl ?_
              refine v_iconst X dL_then_115 (v := (1 : Int32)) (by decide) ?_
              refine v_icmp_eq X dL_then_116 (tgt := 123) (by decide) (fun c116 => ?_) (fun c116 => ?_)
              · skip
                refine v_iconst X dL_then_123 (v := (0 : Int32)) (by decide) ?_
                refine v_aload X dL_then_124 rfl ?_
                refine v_aload X dL_then_126 rfl ?_
                refine v_aload X dL_then_128 rfl ?_
                refine v_aload X dL_then_130 rfl ?_
                refine v_csB2 X rfl yv_L_why m_ml_L_16 0 (c_L_why_0 l g (M + 3) o (o2 + 3) σ (cpM q 12 24) (cpM h 15 24) (cpM t 24 24) c C P (RA_cp hA) g9 hV hY) hB (hO.sub rfl (Nat.le_of_ble_eq_true rfl) (j2 := 3) (Nat.le_of_ble_eq_true rfl) rfl) (Nat.le_of_ble_eq_true rfl) rfl (Nat.le_of_ble_eq_true rfl) rfl (L' := (qhL g o (cpM q 12 24) (cpM h 15 24) (cpM t 24 24))) (rfl) rfl rfl (Nat.le_of_ble_eq_true rfl) ⟨Nat.le_of_ble_eq_true rfl, Nat.le_of_ble_eq_true rfl⟩ ⟨Nat.le_of_ble_eq_true rfl, Nat.le_of_ble_eq_true rfl⟩ dL_then_132 rfl ?_
                refine v_istore X dL_then_135 (Nat.le_of_ble_eq_true rfl) rfl ?_
                have LP137 : ∀ (n_ : Nat) (k : Nat) (Pk : Nat) (σk : Nat → Int32) (qk : Nat → Int32) (hh : Nat → Int32) (tk : Nat → Int32), (k ≤ 999) → (RA C σk qk hh tk c) → (GC C Pk σk) → (VR C σk) → (YN σk) → (feC 999 σ = feC (999 - k) σk) → (itA c (cC 999 σ) (cpM q 12 24, cpM h 15 24, cpM t 24 24) = itA c (cC (999 - k) σk) (qk, hh, tk)) → 999 - k < n_ → V vp l ve (rmD 2 3 51) vs vm va vb vt vc (MQ vb (CtQ g (some (.int (feC 999 σ))) (M + 3) (ovr f o (qhL g o (itA c (cC 999 σ) (cpM q 12 24, cpM h 15 24, cpM t 24 24)).1 (itA c (cC 999 σ) (cpM q 12 24, cpM h 15 24, cpM t 24 24)).2.1 (itA c (cC 999 σ) (cpM q 12 24, cpM h 15 24, cpM t 24 24)).2.2))) va vs 3 51 (gA g)) g 12 3 51 (M + 3) (ovr f o (qhL g o qk hh tk)) 137 [some (.int (1 : Int32)), some (.ref o2), some (.ref (o2 + 1)), some (.ref (o2 + 2)), some (.ref (o2 + 3)), some (.ref o), some (.ref (o + 1)), some (.ref (o + 2)), some (.int (999 : Int32)), some (.int (nI k)), some (.int (wyV (rsC σk C Pk) (nTold σk Pk (rsC σk C Pk)))), none] [] := by
                  intro n_
                  induction n_ with
                  | zero => intro k Pk σk qk hh tk hkm hAk gk hVk hYk hr hs hm_; exact absurd hm_ (Nat.not_lt_zero _)
                  | succ n_ ih137 =>
                    intro k Pk σk qk hh tk hkm hAk gk hVk hYk hr hs hm137
                    refine v_iload X dL_then_137 rfl ?_
                    refine v_iload X dL_then_139 rfl ?_
                    refine v_icmp_ge X dL_then_141 (tgt := 190) (by decide) (fun c141 => ?_) (fun c141 => ?_)
                    · skip
                      have hk2 : k = 999 := Nat.le_antisymm hkm (le_of_nI (a := 999) (by omega) (by omega) c141)
                      refine v_iload_n X dL_then_190 (i := 0) rfl rfl ?_
                      refine v_if_ne X dL_then_191 (tgt := 197) (by decide) (fun c191 => ?_) (fun c191 => ?_)
                      · skip
                        refine v_iload_n X dL_then_197 (i := 0) rfl rfl ?_
                        refine v_iconst X dL_then_198 (v := (1 : Int32)) (by decide) ?_
                        refine v_icmp_ne X dL_then_199 (tgt := 230) (by decide) (fun c199 => ?_) (fun c199 => ?_)
                        · skip
                          exact absurd c199 (by decide)
                        · skip
                          refine v_iload X dL_then_202 rfl ?_
                          refine v_iload X dL_then_204 rfl ?_
                          refine v_icmp_ge X dL_then_206 (tgt := 227) (by decide) (fun c206 => ?_) (fun c206 => ?_)
                          · skip
                            refine v_bipush X dL_then_227 (v := (-6 : Int32)) (by decide) ?_
                            exact v_iret X rfl dL_then_229 (by subst hk2; rw [hr]; rfl) (by subst hk2; rw [hs, Nat.sub_self]; rfl)
                          · skip
                            exact absurd (lt_of_nI (b := 999) (by omega) (by omega) c206) (by omega)
                      · skip
                        exact absurd c191 (by decide)
                    · skip
                      have hk2 : k < 999 := lt_of_nI (b := 999) (by omega) (by omega) c141
                      obtain ⟨n1, h1⟩ : ∃ n1, 999 - k = n1 + 1 := ⟨999 - k - 1, by omega⟩
                      refine v_iload X dL_then_144 rfl ?_
                      refine v_if_ne X dL_then_146 (tgt := 190) (by decide) (fun c146 => ?_) (fun c146 => ?_)
                      · skip
                        have hz : ¬ rsC σk C Pk = 0 := fun z => c146 ((wok_v (wok_C σk C Pk)).1.mpr z)
                        have hz2 : ¬ rsC' σk = 0 := fun z => hz ((rsC'_c gk).symm.trans z)
                        refine v_iload_n X dL_then_190 (i := 0) rfl rfl ?_
                        refine v_if_ne X dL_then_191 (tgt := 197) (by decide) (fun c191 => ?_) (fun c191 => ?_)
                        · skip
                          refine v_iload_n X dL_then_197 (i := 0) rfl rfl ?_
                          refine v_iconst X dL_then_198 (v := (1 : Int32)) (by decide) ?_
                          refine v_icmp_ne X dL_then_199 (tgt := 230) (by decide) (fun c199 => ?_) (fun c199 => ?_)
                          · skip
                            exact absurd c199 (by decide)
                          · skip
                            refine v_iload X dL_then_202 rfl ?_
                            refine v_iload X dL_then_204 rfl ?_
                            refine v_icmp_ge X dL_then_206 (tgt := 227) (by decide) (fun c206 => ?_) (fun c206 => ?_)
                            · skip
                              exact absurd (le_of_nI (a := 999) (by omega) (by omega) c206) (by omega)
                            · skip
                              refine v_iload X dL_then_209 rfl ?_
                              refine v_cs X rfl yv_L_reason m_ml_L_24 (c_L_reason l g (wyV (rsC σk C Pk) (nTold σk Pk (rsC σk C Pk))) ) rfl rfl (Nat.le_of_ble_eq_true rfl) ⟨Nat.le_of_ble_eq_true rfl, Nat.le_of_ble_eq_true rfl⟩ ⟨Nat.le_of_ble_eq_true rfl, Nat.le_of_ble_eq_true rfl⟩ dL_then_211 rfl ?_
                              refine v_bipush X dL_then_214 (v := (6 : Int32)) (by decide) ?_
                              refine v_icmp_ne X dL_then_216 (tgt := 227) (by decide) (fun c216 => ?_) (fun c216 => ?_)
                              · skip
                                have e6 : ¬ rsC σk C Pk = 6 := fun z => c216 ((wok_v (wok_C σk C Pk)).2.1.trans z)
                                refine v_bipush X dL_then_227 (v := (-6 : Int32)) (by decide) ?_
                                exact v_iret X rfl dL_then_229 (by rw [hr, h1, feC, if_neg hz2, rsC'_c gk, if_neg e6]) (by rw [hs, h1, cC, if_neg hz2]; rfl)
                              · skip
                                have e6 : rsC σk C Pk = 6 := (wok_v (wok_C σk C Pk)).2.1.symm.trans c216
                                refine v_iload X dL_then_219 rfl ?_
                                refine v_cs X rfl yv_L_number m_ml_L_28 (c_L_number l g (wyV (rsC σk C Pk) (nTold σk Pk (rsC σk C Pk))) ) rfl rfl (Nat.le_of_ble_eq_true rfl) ⟨Nat.le_of_ble_eq_true rfl, Nat.le_of_ble_eq_true rfl⟩ ⟨Nat.le_of_ble_eq_true rfl, Nat.le_of_ble_eq_true rfl⟩ dL_then_221 rfl ?_
                                refine v_goto X dL_then_224 (tgt := 229) (by decide) ?_
                                exact v_iret X rfl dL_then_229 (by rw [hr, h1, feC, if_neg hz2, rsC'_c gk, if_pos e6, fly', nt_of gk.2.1 (by have := gk.2.2; omega), (wok_v (wok_C σk C Pk)).2.2, e6, nT_6]) (by rw [hs, h1, cC, if_neg hz2]; rfl)
                        · skip
                          exact absurd c191 (by decide)
                      · skip
                        have hz : rsC σk C Pk = 0 := (wok_v (wok_C σk C Pk)).1.mp c146
                        have hz2 : rsC' σk = 0 := (rsC'_c gk).trans hz
                        have h0 : rsC σk C Pk = 0 := hz
                        obtain ⟨hC0, k9, hk9, hfl⟩ := rsC_0 h0
                        have hPC : Pk < C := by
                          have := gk.2.2.1
                          omega
                        refine v_aload X dL_then_149 rfl ?_
                        refine v_aload X dL_then_151 rfl ?_
                        refine v_aload X dL_then_153 rfl ?_
                        refine v_aload X dL_then_155 rfl ?_
                        refine v_csB2 X rfl yv_L_pick m_ml_L_20 0 (c_L_pick l g (M + 3) o (o2 + 3) qk hh tk c C Pk k9 ((hAk.1 0 (by omega)).trans gk.1) ((hAk.1 1 (by omega)).trans gk.2.1) hPC gk.2.2.2 hk9 ((fl_eq hAk hVk hPC).trans hfl)) hB (hO.sub rfl (Nat.le_of_ble_eq_true rfl) (j2 := 3) (Nat.le_of_ble_eq_true rfl) rfl) (Nat.le_of_ble_eq_true rfl) rfl (Nat.le_of_ble_eq_true rfl) rfl (L' := (qhL g o (pkQ qk c Pk) (pkH hh c Pk k9) (pkT qk c Pk tk 12))) (rfl) rfl rfl (Nat.le_of_ble_eq_true rfl) ⟨Nat.le_of_ble_eq_true rfl, Nat.le_of_ble_eq_true rfl⟩ ⟨Nat.le_of_ble_eq_true rfl, Nat.le_of_ble_eq_true rfl⟩ dL_then_157 rfl ?_
                        refine v_pop X dL_then_160 rfl ?_
                        refine v_iinc X dL_then_161 (v := nI (k + 1)) rfl (ix_inc rfl) (Nat.le_of_ble_eq_true rfl) rfl ?_
                        refine v_iload_n X dL_then_164 (i := 0) rfl rfl ?_
                        refine v_iconst X dL_then_165 (v := (1 : Int32)) (by decide) ?_
                        refine v_icmp_eq X dL_then_166 (tgt := 173) (by decide) (fun c166 => ?_) (fun c166 => ?_)
                        · skip
                          refine v_iconst X dL_then_173 (v := (0 : Int32)) (by decide) ?_
                          refine v_aload X dL_then_174 rfl ?_
                          refine v_aload X dL_then_176 rfl ?_
                          refine v_aload X dL_then_178 rfl ?_
                          refine v_aload X dL_then_180 rfl ?_
                          refine v_csB2 X rfl yv_L_why m_ml_L_16 0 (c_L_why_0 l g (M + 3) o (o2 + 3) (mvS σk C Pk k9) (pkQ qk c Pk) (pkH hh c Pk k9) (pkT qk c Pk tk 12) c C (goP Pk C) (RA_mv hAk gk hVk hPC hk9 hfl) (GC_mv gk hPC hk9) (VR_mv hVk hPC gk.2.2.2 hk9) (YN_mv hYk h0 hk9 hfl)) hB (hO.sub rfl (Nat.le_of_ble_eq_true rfl) (j2 := 3) (Nat.le_of_ble_eq_true rfl) rfl) (Nat.le_of_ble_eq_true rfl) rfl (Nat.le_of_ble_eq_true rfl) rfl (L' := (qhL g o (pkQ qk c Pk) (pkH hh c Pk k9) (pkT qk c Pk tk 12))) (rfl) rfl rfl (Nat.le_of_ble_eq_true rfl) ⟨Nat.le_of_ble_eq_true rfl, Nat.le_of_ble_eq_true rfl⟩ ⟨Nat.le_of_ble_eq_true rfl, Nat.le_of_ble_eq_true rfl⟩ dL_then_182 rfl ?_
                          refine v_istore X dL_then_185 (Nat.le_of_ble_eq_true rfl) rfl ?_
                          refine v_goto X dL_then_187 (tgt := 137) (by decide) ?_
                          exact ih137 (k + 1) (goP Pk C) (mvS σk C Pk k9) (pkQ qk c Pk) (pkH hh c Pk k9) (pkT qk c Pk tk 12) (by omega) (RA_mv hAk gk hVk hPC hk9 hfl) (GC_mv gk hPC hk9) (VR_mv hVk hPC gk.2.2.2 hk9) (YN_mv hYk h0 hk9 hfl) (by rw [hr, h1, feC, if_pos hz2, mvS'_eq gk.1 gk.2.1 gk.2.2.2 hPC hk9 hfl, show 999 - (k + 1) = n1 by omega]) (by rw [hs, h1, cC, if_pos hz2, mvS'_eq gk.1 gk.2.1 gk.2.2.2 hPC hk9 hfl, itA, pkA_eq hAk gk hVk hPC hk9 hfl, show 999 - (k + 1) = n1 by omega]) (by omega)
                        · skip
                          exact absurd c166 (by decide)
                exact LP137 _ 0 P σ (cpM q 12 24) (cpM h 15 24) (cpM t 24 24) (Nat.zero_le _) (RA_cp hA) g9 hV hY rfl rfl (Nat.lt_succ_self _)
              · skip
                exact absurd c116 (by decide)
            · skip
              exact absurd c103 (by decide)
        · skip
          exact absurd c76 (by decide)
      · skip
        have hk24 : k < 24 := lt_of_nI (b := 24) (by omega) (by omega) c25
        refine v_aload X dL_then_28 rfl ?_
        refine v_iload X dL_then_30 rfl ?_
        refine v_aload_n X dL_then_32 (i := 3) rfl rfl ?_
        refine v_iload X dL_then_33 rfl ?_
        refine v_ialdR X hO rfl dL_then_35 2 rfl k rfl (by omega) (Nat.le_of_ble_eq_true rfl) ?_
        refine v_iastB X hB dL_then_36 2 (Nat.le_of_ble_eq_true rfl) rfl k rfl (by omega) (Nat.le_of_ble_eq_true rfl) (L' := (qhL g o (cpM q 12 k) (cpM h 15 k) (upd (cpM t 24 k) k (t k)))) rfl ?_
        refine v_iload X dL_then_37 rfl ?_
        refine v_bipush X dL_then_39 (v := (15 : Int32)) (by decide) ?_
        refine v_icmp_ge X dL_then_41 (tgt := 53) (by decide) (fun c41 => ?_) (fun c41 => ?_)
        · skip
          have hk15 : 15 ≤ k := le_of_nI (a := 15) (by omega) (by omega) c41
          refine v_iload X dL_then_53 rfl ?_
          refine v_bipush X dL_then_55 (v := (12 : Int32)) (by decide) ?_
          refine v_icmp_ge X dL_then_57 (tgt := 69) (by decide) (fun c57 => ?_) (fun c57 => ?_)
          · skip
            have hk12 : 12 ≤ k := by omega
            refine v_iinc X dL_then_69 (v := nI (k + 1)) rfl (ix_inc rfl) (Nat.le_of_ble_eq_true rfl) rfl ?_
            refine v_goto X dL_then_72 (tgt := 21) (by decide) ?_
            exact V.cast (ih21 (k + 1) (by omega) (by omega)) (rfl) (rfl) (by rw [cpM_in (f := t) hk24, cpM_out (f := h) hk15, cpM_out (f := q) hk12])
          · skip
            exact absurd (lt_of_nI (b := 12) (by omega) (by omega) c57) (by omega)
        · skip
          have hk15 : k < 15 := lt_of_nI (b := 15) (by omega) (by omega) c41
          refine v_aload X dL_then_44 rfl ?_
          refine v_iload X dL_then_46 rfl ?_
          refine v_aload_n X dL_then_48 (i := 2) rfl rfl ?_
          refine v_iload X dL_then_49 rfl ?_
          refine v_ialdR X hO rfl dL_then_51 1 rfl k rfl (by omega) (Nat.le_of_ble_eq_true rfl) ?_
          refine v_iastB X hB dL_then_52 1 (Nat.le_of_ble_eq_true rfl) rfl k rfl (by omega) (Nat.le_of_ble_eq_true rfl) (L' := (qhL g o (cpM q 12 k) (upd (cpM h 15 k) k (h k)) (upd (cpM t 24 k) k (t k)))) rfl ?_
          refine v_iload X dL_then_53 rfl ?_
          refine v_bipush X dL_then_55 (v := (12 : Int32)) (by decide) ?_
          refine v_icmp_ge X dL_then_57 (tgt := 69) (by decide) (fun c57 => ?_) (fun c57 => ?_)
          · skip
            have hk12 : 12 ≤ k := le_of_nI (a := 12) (by omega) (by omega) c57
            refine v_iinc X dL_then_69 (v := nI (k + 1)) rfl (ix_inc rfl) (Nat.le_of_ble_eq_true rfl) rfl ?_
            refine v_goto X dL_then_72 (tgt := 21) (by decide) ?_
            exact V.cast (ih21 (k + 1) (by omega) (by omega)) (rfl) (rfl) (by rw [cpM_in (f := t) hk24, cpM_in (f := h) hk15, cpM_out (f := q) hk12])
          · skip
            have hk12 : k < 12 := lt_of_nI (b := 12) (by omega) (by omega) c57
            refine v_aload X dL_then_60 rfl ?_
            refine v_iload X dL_then_62 rfl ?_
            refine v_aload_n X dL_then_64 (i := 1) rfl rfl ?_
            refine v_iload X dL_then_65 rfl ?_
            refine v_ialdR X hO rfl dL_then_67 0 rfl k rfl (by omega) (Nat.le_of_ble_eq_true rfl) ?_
            refine v_iastB X hB dL_then_68 0 (Nat.le_of_ble_eq_true rfl) rfl k rfl (by omega) (Nat.le_of_ble_eq_true rfl) (L' := (qhL g o (upd (cpM q 12 k) k (q k)) (upd (cpM h 15 k) k (h k)) (upd (cpM t 24 k) k (t k)))) rfl ?_
            refine v_iinc X dL_then_69 (v := nI (k + 1)) rfl (ix_inc rfl) (Nat.le_of_ble_eq_true rfl) rfl ?_
            refine v_goto X dL_then_72 (tgt := 21) (by decide) ?_
            exact V.cast (ih21 (k + 1) (by omega) (by omega)) (rfl) (rfl) (by rw [cpM_in (f := t) hk24, cpM_in (f := h) hk15, cpM_in (f := q) hk12])
  exact V.cast (LP21 _ 0 (Nat.zero_le _) (Nat.lt_succ_self _)) (rfl) (rfl) (by rw [cpM_0, cpM_0, cpM_0])
set_option maxRecDepth 100000 in
set_option maxHeartbeats 4000000 in
theorem c_L_then_2 (l : Launch) (g : Ge) (M o o2 : Nat) (ho : o = g.2.2 + M) (σ q h t c : Nat → Int32) (C P : Nat) (hA : RA C σ q h t c) (g9 : GC C P σ) (hV : VR C σ) (hY : YN σ) : ∀ f : Pic, RO g M f o2 (qhcL g o2 q h t c) → Ct l g yL_then (.code yL_then cL_then 12 (some .int)) 2 [.int (2 : Int32), .ref o2, .ref (o2 + 1), .ref (o2 + 2), .ref (o2 + 3)] M f (some (.int (if C = 0 then (0 : Int32) else rpC C (upd σ 1 0) σ))) (M + 3) (ovr f o (qhL g o (itA c (cG C (upd σ 1 0)) (upd (cpM q 12 24) 1 0, cpM h 15 24, cpM t 24 24)).1 (itA c (cG C (upd σ 1 0)) (upd (cpM q 12 24) 1 0, cpM h 15 24, cpM t 24 24)).2.1 (itA c (cG C (upd σ 1 0)) (upd (cpM q 12 24) 1 0, cpM h 15 24, cpM t 24 24)).2.2)) 3 51 := by
  intro f hO0
  have hO : OB g (M + 3) f o 3 o2 4 (qhcL g o2 q h t c) := hO0.ob ho rfl
  have hB : BB g (M + 3) o 3 := ⟨by omega, by omega⟩
  have hq0 : q 0 = nI C := (hA.1 0 (by omega)).trans g9.1
  have hC16 := g9.2.2.2
  refine ct_of (own := RL) [some (.int (2 : Int32)), some (.ref o2), some (.ref (o2 + 1)), some (.ref (o2 + 2)), some (.ref (o2 + 3)), none, none, none, none, none, none, none] (by decide +kernel) rfl rfl (Nat.le_of_ble_eq_true rfl) ?_
  intro vp ve vs vm va vb vt vc hnm X
  refine V.cast (f' := ovr f o []) ?_ rfl rfl (ovr_nil f o).symm
  refine v_bipush X dL_then_0 (v := (12 : Int32)) (by decide) ?_
  refine v_newaB_i X 0 (by rw [ho]; omega) rfl (by omega) m_ac_int (n' := 12) rfl (by decide) ⟨Nat.le_of_ble_eq_true rfl, Nat.le_of_ble_eq_true rfl⟩ dL_then_2 (L' := [iA g 12 (fun _ => 0)]) rfl ?_
  refine v_astore X dL_then_4 (Nat.le_of_ble_eq_true rfl) rfl ?_
  refine v_bipush X dL_then_6 (v := (15 : Int32)) (by decide) ?_
  refine v_newaB_i X 1 (by rw [ho]; omega) rfl (by omega) m_ac_int (n' := 15) rfl (by decide) ⟨Nat.le_of_ble_eq_true rfl, Nat.le_of_ble_eq_true rfl⟩ dL_then_8 (L' := [iA g 12 (fun _ => 0), iA g 15 (fun _ => 0)]) rfl ?_
  refine v_astore X dL_then_10 (Nat.le_of_ble_eq_true rfl) rfl ?_
  refine v_bipush X dL_then_12 (v := (24 : Int32)) (by decide) ?_
  refine v_newaB_i X 2 (by rw [ho]; omega) rfl (by omega) m_ac_int (n' := 24) rfl (by decide) ⟨Nat.le_of_ble_eq_true rfl, Nat.le_of_ble_eq_true rfl⟩ dL_then_14 (L' := (qhL g o (fun _ => 0) (fun _ => 0) (fun _ => 0))) rfl ?_
  refine v_astore X dL_then_16 (Nat.le_of_ble_eq_true rfl) rfl ?_
  refine v_iconst X dL_then_18 (v := (0 : Int32)) (by decide) ?_
  refine v_istore X dL_then_19 (Nat.le_of_ble_eq_true rfl) rfl ?_
  have LP21 : ∀ (n_ : Nat) (k : Nat), (k ≤ 24) → 24 - k < n_ → V vp l ve (rmD 2 3 51) vs vm va vb vt vc (MQ vb (CtQ g (some (.int (if C = 0 then (0 : Int32) else rpC C (upd σ 1 0) σ))) (M + 3) (ovr f o (qhL g o (itA c (cG C (upd σ 1 0)) (upd (cpM q 12 24) 1 0, cpM h 15 24, cpM t 24 24)).1 (itA c (cG C (upd σ 1 0)) (upd (cpM q 12 24) 1 0, cpM h 15 24, cpM t 24 24)).2.1 (itA c (cG C (upd σ 1 0)) (upd (cpM q 12 24) 1 0, cpM h 15 24, cpM t 24 24)).2.2))) va vs 3 51 (gA g)) g 12 3 51 (M + 3) (ovr f o (qhL g o (cpM q 12 k) (cpM h 15 k) (cpM t 24 k))) 21 [some (.int (2 : Int32)), some (.ref o2), some (.ref (o2 + 1)), some (.ref (o2 + 2)), some (.ref (o2 + 3)), some (.ref o), some (.ref (o + 1)), some (.ref (o + 2)), some (.int (nI k)), none, none, none] [] := by
    intro n_
    induction n_ with
    | zero => intro k hk hm_; exact absurd hm_ (Nat.not_lt_zero _)
    | succ n_ ih21 =>
      intro k hk hm21
      refine v_iload X dL_then_21 rfl ?_
      refine v_bipush X dL_then_23 (v := (24 : Int32)) (by decide) ?_
      refine v_icmp_ge X dL_then_25 (tgt := 75) (by decide) (fun c25 => ?_) (fun c25 => ?_)
      · skip
        have hk24 : k = 24 := Nat.le_antisymm hk (le_of_nI (a := 24) (by omega) (by omega) c25)
        subst hk24
        refine v_iload_n X dL_then_75 (i := 0) rfl rfl ?_
        refine v_if_ne X dL_then_76 (tgt := 85) (by decide) (fun c76 => ?_) (fun c76 => ?_)
        · skip
          refine v_iload_n X dL_then_85 (i := 0) rfl rfl ?_
          refine v_iconst X dL_then_86 (v := (1 : Int32)) (by decide) ?_
          refine v_icmp_ne X dL_then_87 (tgt := 96) (by decide) (fun c87 => ?_) (fun c87 => ?_)
          · skip
            refine v_aload_n X dL_then_96 (i := 1) rfl rfl ?_
            refine v_iconst X dL_then_97 (v := (0 : Int32)) (by decide) ?_
            refine v_ialdR X hO rfl dL_then_98 0 rfl 0 rfl (by omega) (Nat.le_of_ble_eq_true rfl) ?_
            refine v_istore X dL_then_99 (Nat.le_of_ble_eq_true rfl) rfl ?_
            refine v_iload_n X dL_then_101 (i := 0) rfl rfl ?_
            refine v_iconst X dL_then_102 (v := (2 : Int32)) (by decide) ?_
            refine v_icmp_ne X dL_then_103 (tgt := 111) (by decide) (fun c103 => ?_) (fun c103 => ?_)
            · skip
              exact absurd c103 (by decide)
            · skip
              refine v_aload X dL_then_106 rfl ?_
              refine v_iconst X dL_then_108 (v := (1 : Int32)) (by decide) ?_
              refine v_iconst X dL_then_109 (v := (0 : Int32)) (by decide) ?_
              refine v_iastB X hB dL_then_110 0 (Nat.le_of_ble_eq_true rfl) rfl 1 rfl (by omega) (Nat.le_of_ble_eq_true rfl) (L' := (qhL g o (upd (cpM q 12 24) 1 (0 : Int32)) (cpM h 15 24) (cpM t 24 24))) rfl ?_
              refine v_iconst X dL_then_111 (v := (0 : Int32)) (by decide) ?_
              refine v_istore X dL_then_112 (Nat.le_of_ble_eq_true rfl) rfl ?_
              refine v_iload_n X dL_then_114 (i := 0) rfl rfl ?_
              refine v_iconst X dL_then_115 (v := (1 : Int32)) (by decide) ?_
              refine v_icmp_eq X dL_then_116 (tgt := 123) (by decide) (fun c116 => ?_) (fun c116 => ?_)
              · skip
                exact absurd c116 (by decide)
              · skip
                refine v_iconst X dL_then_119 (v := (1 : Int32)) (by decide) ?_
                refine v_goto X dL_then_120 (tgt := 124) (by decide) ?_
                refine v_aload X dL_then_124 rfl ?_
                refine v_aload X dL_then_126 rfl ?_
                refine v_aload X dL_then_128 rfl ?_
                refine v_aload X dL_then_130 rfl ?_
                refine v_csB2 X rfl yv_L_why m_ml_L_16 0 (c_L_why_1 l g (M + 3) o (o2 + 3) (upd σ 1 0) (upd (cpM q 12 24) 1 (0 : Int32)) (cpM h 15 24) (cpM t 24 24) c C 0 (RA_q1 (RA_cp hA)) (GC_q1 g9) (VR_q1 hV) (YN_q1 hY)) hB (hO.sub rfl (Nat.le_of_ble_eq_true rfl) (j2 := 3) (Nat.le_of_ble_eq_true rfl) rfl) (Nat.le_of_ble_eq_true rfl) rfl (Nat.le_of_ble_eq_true rfl) rfl (L' := (qhL g o (upd (cpM q 12 24) 1 (0 : Int32)) (cpM h 15 24) (cpM t 24 24))) (rfl) rfl rfl (Nat.le_of_ble_eq_true rfl) ⟨Nat.le_of_ble_eq_true rfl, Nat.le_of_ble_eq_true rfl⟩ ⟨Nat.le_of_ble_eq_true rfl, Nat.le_of_ble_eq_true rfl⟩ dL_then_132 rfl ?_
                refine v_istore X dL_then_135 (Nat.le_of_ble_eq_true rfl) rfl ?_
                have LP137 : ∀ (n_ : Nat) (k : Nat) (Pk : Nat) (σk : Nat → Int32) (qk : Nat → Int32) (hh : Nat → Int32) (tk : Nat → Int32), (k ≤ C) → (RA C σk qk hh tk c) → (GC C Pk σk) → (VR C σk) → (YN σk) → (rpC C (upd σ 1 0) σ = rpC (C - k) σk σ) → (itA c (cG C (upd σ 1 0)) (upd (cpM q 12 24) 1 0, cpM h 15 24, cpM t 24 24) = itA c (cG (C - k) σk) (qk, hh, tk)) → C - k < n_ → V vp l ve (rmD 2 3 51) vs vm va vb vt vc (MQ vb (CtQ g (some (.int (if C = 0 then (0 : Int32) else rpC C (upd σ 1 0) σ))) (M + 3) (ovr f o (qhL g o (itA c (cG C (upd σ 1 0)) (upd (cpM q 12 24) 1 0, cpM h 15 24, cpM t 24 24)).1 (itA c (cG C (upd σ 1 0)) (upd (cpM q 12 24) 1 0, cpM h 15 24, cpM t 24 24)).2.1 (itA c (cG C (upd σ 1 0)) (upd (cpM q 12 24) 1 0, cpM h 15 24, cpM t 24 24)).2.2))) va vs 3 51 (gA g)) g 12 3 51 (M + 3) (ovr f o (qhL g o qk hh tk)) 137 [some (.int (2 : Int32)), some (.ref o2), some (.ref (o2 + 1)), some (.ref (o2 + 2)), some (.ref (o2 + 3)), some (.ref o), some (.ref (o + 1)), some (.ref (o + 2)), some (.int (q 0)), some (.int (nI k)), some (.int (wyV (rsG σk C Pk) (nTold σk Pk (rsG σk C Pk)))), none] [] := by
                  intro n_
                  induction n_ with
                  | zero => intro k Pk σk qk hh tk hkm hAk gk hVk hYk hr hs hm_; exact absurd hm_ (Nat.not_lt_zero _)
                  | succ n_ ih137 =>
                    intro k Pk σk qk hh tk hkm hAk gk hVk hYk hr hs hm137
                    refine v_iload X dL_then_137 rfl ?_
                    refine v_iload X dL_then_139 rfl ?_
                    refine v_icmp_ge X dL_then_141 (tgt := 190) (by decide) (fun c141 => ?_) (fun c141 => ?_)
                    · skip
                      rw [hq0] at c141
                      have hk2 : k = C := Nat.le_antisymm hkm (le_of_nI (a := C) (by omega) (by omega) c141)
                      refine v_iload_n X dL_then_190 (i := 0) rfl rfl ?_
                      refine v_if_ne X dL_then_191 (tgt := 197) (by decide) (fun c191 => ?_) (fun c191 => ?_)
                      · skip
                        refine v_iload_n X dL_then_197 (i := 0) rfl rfl ?_
                        refine v_iconst X dL_then_198 (v := (1 : Int32)) (by decide) ?_
                        refine v_icmp_ne X dL_then_199 (tgt := 230) (by decide) (fun c199 => ?_) (fun c199 => ?_)
                        · skip
                          refine v_iconst X dL_then_230 (v := (0 : Int32)) (by decide) ?_
                          refine v_istore X dL_then_231 (Nat.le_of_ble_eq_true rfl) rfl ?_
                          have LP233 : ∀ (n_ : Nat) (i : Nat), (i ≤ 5) → (∀ x, x < i → hh (3 * x + 2) = h (3 * x + 2)) → 5 - i < n_ → V vp l ve (rmD 2 3 51) vs vm va vb vt vc (MQ vb (CtQ g (some (.int (if C = 0 then (0 : Int32) else rpC C (upd σ 1 0) σ))) (M + 3) (ovr f o (qhL g o (itA c (cG C (upd σ 1 0)) (upd (cpM q 12 24) 1 0, cpM h 15 24, cpM t 24 24)).1 (itA c (cG C (upd σ 1 0)) (upd (cpM q 12 24) 1 0, cpM h 15 24, cpM t 24 24)).2.1 (itA c (cG C (upd σ 1 0)) (upd (cpM q 12 24) 1 0, cpM h 15 24, cpM t 24 24)).2.2))) va vs 3 51 (gA g)) g 12 3 51 (M + 3) (ovr f o (qhL g o qk hh tk)) 233 [some (.int (2 : Int32)), some (.ref o2), some (.ref (o2 + 1)), some (.ref (o2 + 2)), some (.ref (o2 + 3)), some (.ref o), some (.ref (o + 1)), some (.ref (o + 2)), some (.int (q 0)), some (.int (nI k)), some (.int (wyV (rsG σk C Pk) (nTold σk Pk (rsG σk C Pk)))), some (.int (nI i))] [] := by
                            intro n_
                            induction n_ with
                            | zero => intro i hi hq hm_; exact absurd hm_ (Nat.not_lt_zero _)
                            | succ n_ ih233 =>
                              intro i hi hq hm233
                              refine v_iload X dL_then_233 rfl ?_
                              refine v_iconst X dL_then_235 (v := (5 : Int32)) (by decide) ?_
                              refine v_icmp_ge X dL_then_236 (tgt := 267) (by decide) (fun c236 => ?_) (fun c236 => ?_)
                              · skip
                                have hi5 : i = 5 := Nat.le_antisymm hi (le_of_nI (a := 5) (by omega) (by omega) c236)
                                have hstd : stdB σk σ 5 = true := (std_wh hA hAk hV hVk).mp (fun x hx => hq x (by omega))
                                refine v_aload_n X dL_then_267 (i := 1) rfl rfl ?_
                                refine v_iconst X dL_then_268 (v := (0 : Int32)) (by decide) ?_
                                refine v_ialdR X hO rfl dL_then_269 0 rfl 0 rfl (by omega) (Nat.le_of_ble_eq_true rfl) ?_
                                refine v_if_le X dL_then_270 (tgt := 284) (by decide) (fun c270 => ?_) (fun c270 => ?_)
                                · skip
                                  rw [hq0] at c270
                                  have hC0 : C = 0 := by
                                    have := le_of_nI (b := 0) (by omega) (by omega) c270
                                    omega
                                  refine v_iconst X dL_then_284 (v := (0 : Int32)) (by decide) ?_
                                  exact v_iret X rfl dL_then_285 (by rw [if_pos hC0]) (by subst hk2; rw [hs, Nat.sub_self]; rfl)
                                · skip
                                  rw [hq0] at c270
                                  have hC0 : ¬ C = 0 := fun z => absurd c270 (by rw [z]; decide)
                                  refine v_iload X dL_then_273 rfl ?_
                                  refine v_iload X dL_then_275 rfl ?_
                                  refine v_icmp_ne X dL_then_277 (tgt := 284) (by decide) (fun c277 => ?_) (fun c277 => ?_)
                                  · skip
                                    exact absurd (by rw [hk2, hq0]) c277
                                  · skip
                                    refine v_iconst X dL_then_280 (v := (1 : Int32)) (by decide) ?_
                                    refine v_goto X dL_then_281 (tgt := 285) (by decide) ?_
                                    exact v_iret X rfl dL_then_285 (by rw [if_neg hC0, hr, hk2, Nat.sub_self, rpC, if_pos hstd]) (by subst hk2; rw [hs, Nat.sub_self]; rfl)
                              · skip
                                have hi5 : i < 5 := lt_of_nI (b := 5) (by omega) (by omega) c236
                                refine v_aload X dL_then_239 rfl ?_
                                refine v_iconst X dL_then_241 (v := (3 : Int32)) (by decide) ?_
                                refine v_iload X dL_then_242 rfl ?_
                                refine v_imul X dL_then_244 ?_
                                refine v_iconst X dL_then_245 (v := (2 : Int32)) (by decide) ?_
                                refine v_iadd X dL_then_246 ?_
                                refine v_ialdB X hB dL_then_247 1 (Nat.le_of_ble_eq_true rfl) rfl ((3 * i) + 2) (ix_add (ix_mul rfl rfl) rfl) (by omega) (Nat.le_of_ble_eq_true rfl) ?_
                                refine v_aload_n X dL_then_248 (i := 2) rfl rfl ?_
                                refine v_iconst X dL_then_249 (v := (3 : Int32)) (by decide) ?_
                                refine v_iload X dL_then_250 rfl ?_
                                refine v_imul X dL_then_252 ?_
                                refine v_iconst X dL_then_253 (v := (2 : Int32)) (by decide) ?_
                                refine v_iadd X dL_then_254 ?_
                                refine v_ialdR X hO rfl dL_then_255 1 rfl ((3 * i) + 2) (ix_add (ix_mul rfl rfl) rfl) (by omega) (Nat.le_of_ble_eq_true rfl) ?_
                                refine v_icmp_eq X dL_then_256 (tgt := 261) (by decide) (fun c256 => ?_) (fun c256 => ?_)
                                · skip
                                  refine v_iinc X dL_then_261 (v := nI (i + 1)) rfl (ix_inc rfl) (Nat.le_of_ble_eq_true rfl) rfl ?_
                                  refine v_goto X dL_then_264 (tgt := 233) (by decide) ?_
                                  exact ih233 (i + 1) (by omega) (fun x hx => (Nat.lt_succ_iff_lt_or_eq.mp hx).elim (fun z => hq x z) (fun z => by rw [z]; exact c256)) (by omega)
                                · skip
                                  have hstd : ¬ stdB σk σ 5 = true := fun z => c256 ((std_wh hA hAk hV hVk).mpr z i hi5)
                                  refine v_iconst X dL_then_259 (v := (0 : Int32)) (by decide) ?_
                                  exact v_iret X rfl dL_then_260 (by
                                      by_cases hC0 : C = 0
                                      · rw [if_pos hC0]
                                      · rw [if_neg hC0, hr, hk2, Nat.sub_self, rpC, if_neg hstd]) (by subst hk2; rw [hs, Nat.sub_self]; rfl)
                          exact LP233 _ 0 (Nat.zero_le _) (fun x hx => absurd hx (Nat.not_lt_zero _)) (Nat.lt_succ_self _)
                        · skip
                          exact absurd c199 (by decide)
                      · skip
                        exact absurd c191 (by decide)
                    · skip
                      rw [hq0] at c141
                      have hk2 : k < C := lt_of_nI (b := C) (by omega) (by omega) c141
                      obtain ⟨n1, h1⟩ : ∃ n1, C - k = n1 + 1 := ⟨C - k - 1, by omega⟩
                      refine v_iload X dL_then_144 rfl ?_
                      refine v_if_ne X dL_then_146 (tgt := 190) (by decide) (fun c146 => ?_) (fun c146 => ?_)
                      · skip
                        have hz : ¬ rsG σk C Pk = 0 := fun z => c146 ((wok_v (wok_G σk C Pk)).1.mpr z)
                        have hz2 : ¬ rsG' σk = 0 := fun z => hz ((rsG'_c gk).symm.trans z)
                        refine v_iload_n X dL_then_190 (i := 0) rfl rfl ?_
                        refine v_if_ne X dL_then_191 (tgt := 197) (by decide) (fun c191 => ?_) (fun c191 => ?_)
                        · skip
                          refine v_iload_n X dL_then_197 (i := 0) rfl rfl ?_
                          refine v_iconst X dL_then_198 (v := (1 : Int32)) (by decide) ?_
                          refine v_icmp_ne X dL_then_199 (tgt := 230) (by decide) (fun c199 => ?_) (fun c199 => ?_)
                          · skip
                            refine v_iconst X dL_then_230 (v := (0 : Int32)) (by decide) ?_
                            refine v_istore X dL_then_231 (Nat.le_of_ble_eq_true rfl) rfl ?_
                            have LP233 : ∀ (n_ : Nat) (i : Nat), (i ≤ 5) → (∀ x, x < i → hh (3 * x + 2) = h (3 * x + 2)) → 5 - i < n_ → V vp l ve (rmD 2 3 51) vs vm va vb vt vc (MQ vb (CtQ g (some (.int (if C = 0 then (0 : Int32) else rpC C (upd σ 1 0) σ))) (M + 3) (ovr f o (qhL g o (itA c (cG C (upd σ 1 0)) (upd (cpM q 12 24) 1 0, cpM h 15 24, cpM t 24 24)).1 (itA c (cG C (upd σ 1 0)) (upd (cpM q 12 24) 1 0, cpM h 15 24, cpM t 24 24)).2.1 (itA c (cG C (upd σ 1 0)) (upd (cpM q 12 24) 1 0, cpM h 15 24, cpM t 24 24)).2.2))) va vs 3 51 (gA g)) g 12 3 51 (M + 3) (ovr f o (qhL g o qk hh tk)) 233 [some (.int (2 : Int32)), some (.ref o2), some (.ref (o2 + 1)), some (.ref (o2 + 2)), some (.ref (o2 + 3)), some (.ref o), some (.ref (o + 1)), some (.ref (o + 2)), some (.int (q 0)), some (.int (nI k)), some (.int (wyV (rsG σk C Pk) (nTold σk Pk (rsG σk C Pk)))), some (.int (nI i))] [] := by
                              intro n_
                              induction n_ with
                              | zero => intro i hi hq hm_; exact absurd hm_ (Nat.not_lt_zero _)
                              | succ n_ ih233 =>
                                intro i hi hq hm233
                                refine v_iload X dL_then_233 rfl ?_
                                refine v_iconst X dL_then_235 (v := (5 : Int32)) (by decide) ?_
                                refine v_icmp_ge X dL_then_236 (tgt := 267) (by decide) (fun c236 => ?_) (fun c236 => ?_)
                                · skip
                                  have hi5 : i = 5 := Nat.le_antisymm hi (le_of_nI (a := 5) (by omega) (by omega) c236)
                                  have hstd : stdB σk σ 5 = true := (std_wh hA hAk hV hVk).mp (fun x hx => hq x (by omega))
                                  refine v_aload_n X dL_then_267 (i := 1) rfl rfl ?_
                                  refine v_iconst X dL_then_268 (v := (0 : Int32)) (by decide) ?_
                                  refine v_ialdR X hO rfl dL_then_269 0 rfl 0 rfl (by omega) (Nat.le_of_ble_eq_true rfl) ?_
                                  refine v_if_le X dL_then_270 (tgt := 284) (by decide) (fun c270 => ?_) (fun c270 => ?_)
                                  · skip
                                    rw [hq0] at c270
                                    have hC0 : C = 0 := by
                                      have := le_of_nI (b := 0) (by omega) (by omega) c270
                                      omega
                                    refine v_iconst X dL_then_284 (v := (0 : Int32)) (by decide) ?_
                                    exact v_iret X rfl dL_then_285 (by rw [if_pos hC0]) (by rw [hs, h1, cG, if_neg hz2]; rfl)
                                  · skip
                                    rw [hq0] at c270
                                    have hC0 : ¬ C = 0 := fun z => absurd c270 (by rw [z]; decide)
                                    refine v_iload X dL_then_273 rfl ?_
                                    refine v_iload X dL_then_275 rfl ?_
                                    refine v_icmp_ne X dL_then_277 (tgt := 284) (by decide) (fun c277 => ?_) (fun c277 => ?_)
                                    · skip
                                      refine v_iconst X dL_then_284 (v := (0 : Int32)) (by decide) ?_
                                      exact v_iret X rfl dL_then_285 (by rw [if_neg hC0, hr, h1, rpC, if_neg hz2]) (by rw [hs, h1, cG, if_neg hz2]; rfl)
                                    · skip
                                      exact absurd ((nI_eq (by omega) (by omega)).mp (c277.trans hq0)) (by omega)
                                · skip
                                  have hi5 : i < 5 := lt_of_nI (b := 5) (by omega) (by omega) c236
                                  refine v_aload X dL_then_239 rfl ?_
                                  refine v_iconst X dL_then_241 (v := (3 : Int32)) (by decide) ?_
                                  refine v_iload X dL_then_242 rfl ?_
                                  refine v_imul X dL_then_244 ?_
                                  refine v_iconst X dL_then_245 (v := (2 : Int32)) (by decide) ?_
                                  refine v_iadd X dL_then_246 ?_
                                  refine v_ialdB X hB dL_then_247 1 (Nat.le_of_ble_eq_true rfl) rfl ((3 * i) + 2) (ix_add (ix_mul rfl rfl) rfl) (by omega) (Nat.le_of_ble_eq_true rfl) ?_
                                  refine v_aload_n X dL_then_248 (i := 2) rfl rfl ?_
                                  refine v_iconst X dL_then_249 (v := (3 : Int32)) (by decide) ?_
                                  refine v_iload X dL_then_250 rfl ?_
                                  refine v_imul X dL_then_252 ?_
                                  refine v_iconst X dL_then_253 (v := (2 : Int32)) (by decide) ?_
                                  refine v_iadd X dL_then_254 ?_
                                  refine v_ialdR X hO rfl dL_then_255 1 rfl ((3 * i) + 2) (ix_add (ix_mul rfl rfl) rfl) (by omega) (Nat.le_of_ble_eq_true rfl) ?_
                                  refine v_icmp_eq X dL_then_256 (tgt := 261) (by decide) (fun c256 => ?_) (fun c256 => ?_)
                                  · skip
                                    refine v_iinc X dL_then_261 (v := nI (i + 1)) rfl (ix_inc rfl) (Nat.le_of_ble_eq_true rfl) rfl ?_
                                    refine v_goto X dL_then_264 (tgt := 233) (by decide) ?_
                                    exact ih233 (i + 1) (by omega) (fun x hx => (Nat.lt_succ_iff_lt_or_eq.mp hx).elim (fun z => hq x z) (fun z => by rw [z]; exact c256)) (by omega)
                                  · skip
                                    have hstd : ¬ stdB σk σ 5 = true := fun z => c256 ((std_wh hA hAk hV hVk).mpr z i hi5)
                                    refine v_iconst X dL_then_259 (v := (0 : Int32)) (by decide) ?_
                                    exact v_iret X rfl dL_then_260 (by
                                        by_cases hC0 : C = 0
                                        · rw [if_pos hC0]
                                        · rw [if_neg hC0, hr, h1, rpC, if_neg hz2]) (by rw [hs, h1, cG, if_neg hz2]; rfl)
                            exact LP233 _ 0 (Nat.zero_le _) (fun x hx => absurd hx (Nat.not_lt_zero _)) (Nat.lt_succ_self _)
                          · skip
                            exact absurd c199 (by decide)
                        · skip
                          exact absurd c191 (by decide)
                      · skip
                        have hz : rsG σk C Pk = 0 := (wok_v (wok_G σk C Pk)).1.mp c146
                        have hz2 : rsG' σk = 0 := (rsG'_c gk).trans hz
                        have h0 : rsC σk C Pk = 0 := rsG_0 hz
                        obtain ⟨hC0, k9, hk9, hfl⟩ := rsC_0 h0
                        have hPC : Pk < C := by
                          have := gk.2.2.1
                          omega
                        refine v_aload X dL_then_149 rfl ?_
                        refine v_aload X dL_then_151 rfl ?_
                        refine v_aload X dL_then_153 rfl ?_
                        refine v_aload X dL_then_155 rfl ?_
                        refine v_csB2 X rfl yv_L_pick m_ml_L_20 0 (c_L_pick l g (M + 3) o (o2 + 3) qk hh tk c C Pk k9 ((hAk.1 0 (by omega)).trans gk.1) ((hAk.1 1 (by omega)).trans gk.2.1) hPC gk.2.2.2 hk9 ((fl_eq hAk hVk hPC).trans hfl)) hB (hO.sub rfl (Nat.le_of_ble_eq_true rfl) (j2 := 3) (Nat.le_of_ble_eq_true rfl) rfl) (Nat.le_of_ble_eq_true rfl) rfl (Nat.le_of_ble_eq_true rfl) rfl (L' := (qhL g o (pkQ qk c Pk) (pkH hh c Pk k9) (pkT qk c Pk tk 12))) (rfl) rfl rfl (Nat.le_of_ble_eq_true rfl) ⟨Nat.le_of_ble_eq_true rfl, Nat.le_of_ble_eq_true rfl⟩ ⟨Nat.le_of_ble_eq_true rfl, Nat.le_of_ble_eq_true rfl⟩ dL_then_157 rfl ?_
                        refine v_pop X dL_then_160 rfl ?_
                        refine v_iinc X dL_then_161 (v := nI (k + 1)) rfl (ix_inc rfl) (Nat.le_of_ble_eq_true rfl) rfl ?_
                        refine v_iload_n X dL_then_164 (i := 0) rfl rfl ?_
                        refine v_iconst X dL_then_165 (v := (1 : Int32)) (by decide) ?_
                        refine v_icmp_eq X dL_then_166 (tgt := 173) (by decide) (fun c166 => ?_) (fun c166 => ?_)
                        · skip
                          exact absurd c166 (by decide)
                        · skip
                          refine v_iconst X dL_then_169 (v := (1 : Int32)) (by decide) ?_
                          refine v_goto X dL_then_170 (tgt := 174) (by decide) ?_
                          refine v_aload X dL_then_174 rfl ?_
                          refine v_aload X dL_then_176 rfl ?_
                          refine v_aload X dL_then_178 rfl ?_
                          refine v_aload X dL_then_180 rfl ?_
                          refine v_csB2 X rfl yv_L_why m_ml_L_16 0 (c_L_why_1 l g (M + 3) o (o2 + 3) (mvS σk C Pk k9) (pkQ qk c Pk) (pkH hh c Pk k9) (pkT qk c Pk tk 12) c C (goP Pk C) (RA_mv hAk gk hVk hPC hk9 hfl) (GC_mv gk hPC hk9) (VR_mv hVk hPC gk.2.2.2 hk9) (YN_mv hYk h0 hk9 hfl)) hB (hO.sub rfl (Nat.le_of_ble_eq_true rfl) (j2 := 3) (Nat.le_of_ble_eq_true rfl) rfl) (Nat.le_of_ble_eq_true rfl) rfl (Nat.le_of_ble_eq_true rfl) rfl (L' := (qhL g o (pkQ qk c Pk) (pkH hh c Pk k9) (pkT qk c Pk tk 12))) (rfl) rfl rfl (Nat.le_of_ble_eq_true rfl) ⟨Nat.le_of_ble_eq_true rfl, Nat.le_of_ble_eq_true rfl⟩ ⟨Nat.le_of_ble_eq_true rfl, Nat.le_of_ble_eq_true rfl⟩ dL_then_182 rfl ?_
                          refine v_istore X dL_then_185 (Nat.le_of_ble_eq_true rfl) rfl ?_
                          refine v_goto X dL_then_187 (tgt := 137) (by decide) ?_
                          exact ih137 (k + 1) (goP Pk C) (mvS σk C Pk k9) (pkQ qk c Pk) (pkH hh c Pk k9) (pkT qk c Pk tk 12) (by omega) (RA_mv hAk gk hVk hPC hk9 hfl) (GC_mv gk hPC hk9) (VR_mv hVk hPC gk.2.2.2 hk9) (YN_mv hYk h0 hk9 hfl) (by rw [hr, h1, rpC, if_pos hz2, mvS'_eq gk.1 gk.2.1 gk.2.2.2 hPC hk9 hfl, show C - (k + 1) = n1 by omega]) (by rw [hs, h1, cG, if_pos hz2, mvS'_eq gk.1 gk.2.1 gk.2.2.2 hPC hk9 hfl, itA, pkA_eq hAk gk hVk hPC hk9 hfl, show C - (k + 1) = n1 by omega]) (by omega)
                exact LP137 _ 0 0 (upd σ 1 0) (upd (cpM q 12 24) 1 0) (cpM h 15 24) (cpM t 24 24) (Nat.zero_le _) (RA_q1 (RA_cp hA)) (GC_q1 g9) (VR_q1 hV) (YN_q1 hY) rfl rfl (Nat.lt_succ_self _)
          · skip
            exact absurd c87 (by decide)
        · skip
          exact absurd c76 (by decide)
      · skip
        have hk24 : k < 24 := lt_of_nI (b := 24) (by omega) (by omega) c25
        refine v_aload X dL_then_28 rfl ?_
        refine v_iload X dL_then_30 rfl ?_
        refine v_aload_n X dL_then_32 (i := 3) rfl rfl ?_
        refine v_iload X dL_then_33 rfl ?_
        refine v_ialdR X hO rfl dL_then_35 2 rfl k rfl (by omega) (Nat.le_of_ble_eq_true rfl) ?_
        refine v_iastB X hB dL_then_36 2 (Nat.le_of_ble_eq_true rfl) rfl k rfl (by omega) (Nat.le_of_ble_eq_true rfl) (L' := (qhL g o (cpM q 12 k) (cpM h 15 k) (upd (cpM t 24 k) k (t k)))) rfl ?_
        refine v_iload X dL_then_37 rfl ?_
        refine v_bipush X dL_then_39 (v := (15 : Int32)) (by decide) ?_
        refine v_icmp_ge X dL_then_41 (tgt := 53) (by decide) (fun c41 => ?_) (fun c41 => ?_)
        · skip
          have hk15 : 15 ≤ k := le_of_nI (a := 15) (by omega) (by omega) c41
          refine v_iload X dL_then_53 rfl ?_
          refine v_bipush X dL_then_55 (v := (12 : Int32)) (by decide) ?_
          refine v_icmp_ge X dL_then_57 (tgt := 69) (by decide) (fun c57 => ?_) (fun c57 => ?_)
          · skip
            have hk12 : 12 ≤ k := by omega
            refine v_iinc X dL_then_69 (v := nI (k + 1)) rfl (ix_inc rfl) (Nat.le_of_ble_eq_true rfl) rfl ?_
            refine v_goto X dL_then_72 (tgt := 21) (by decide) ?_
            exact V.cast (ih21 (k + 1) (by omega) (by omega)) (rfl) (rfl) (by rw [cpM_in (f := t) hk24, cpM_out (f := h) hk15, cpM_out (f := q) hk12])
          · skip
            exact absurd (lt_of_nI (b := 12) (by omega) (by omega) c57) (by omega)
        · skip
          have hk15 : k < 15 := lt_of_nI (b := 15) (by omega) (by omega) c41
          refine v_aload X dL_then_44 rfl ?_
          refine v_iload X dL_then_46 rfl ?_
          refine v_aload_n X dL_then_48 (i := 2) rfl rfl ?_
          refine v_iload X dL_then_49 rfl ?_
          refine v_ialdR X hO rfl dL_then_51 1 rfl k rfl (by omega) (Nat.le_of_ble_eq_true rfl) ?_
          refine v_iastB X hB dL_then_52 1 (Nat.le_of_ble_eq_true rfl) rfl k rfl (by omega) (Nat.le_of_ble_eq_true rfl) (L' := (qhL g o (cpM q 12 k) (upd (cpM h 15 k) k (h k)) (upd (cpM t 24 k) k (t k)))) rfl ?_
          refine v_iload X dL_then_53 rfl ?_
          refine v_bipush X dL_then_55 (v := (12 : Int32)) (by decide) ?_
          refine v_icmp_ge X dL_then_57 (tgt := 69) (by decide) (fun c57 => ?_) (fun c57 => ?_)
          · skip
            have hk12 : 12 ≤ k := le_of_nI (a := 12) (by omega) (by omega) c57
            refine v_iinc X dL_then_69 (v := nI (k + 1)) rfl (ix_inc rfl) (Nat.le_of_ble_eq_true rfl) rfl ?_
            refine v_goto X dL_then_72 (tgt := 21) (by decide) ?_
            exact V.cast (ih21 (k + 1) (by omega) (by omega)) (rfl) (rfl) (by rw [cpM_in (f := t) hk24, cpM_in (f := h) hk15, cpM_out (f := q) hk12])
          · skip
            have hk12 : k < 12 := lt_of_nI (b := 12) (by omega) (by omega) c57
            refine v_aload X dL_then_60 rfl ?_
            refine v_iload X dL_then_62 rfl ?_
            refine v_aload_n X dL_then_64 (i := 1) rfl rfl ?_
            refine v_iload X dL_then_65 rfl ?_
            refine v_ialdR X hO rfl dL_then_67 0 rfl k rfl (by omega) (Nat.le_of_ble_eq_true rfl) ?_
            refine v_iastB X hB dL_then_68 0 (Nat.le_of_ble_eq_true rfl) rfl k rfl (by omega) (Nat.le_of_ble_eq_true rfl) (L' := (qhL g o (upd (cpM q 12 k) k (q k)) (upd (cpM h 15 k) k (h k)) (upd (cpM t 24 k) k (t k)))) rfl ?_
            refine v_iinc X dL_then_69 (v := nI (k + 1)) rfl (ix_inc rfl) (Nat.le_of_ble_eq_true rfl) rfl ?_
            refine v_goto X dL_then_72 (tgt := 21) (by decide) ?_
            exact V.cast (ih21 (k + 1) (by omega) (by omega)) (rfl) (rfl) (by rw [cpM_in (f := t) hk24, cpM_in (f := h) hk15, cpM_in (f := q) hk12])
  exact V.cast (LP21 _ 0 (Nat.zero_le _) (Nat.lt_succ_self _)) (rfl) (rfl) (by rw [cpM_0, cpM_0, cpM_0])
