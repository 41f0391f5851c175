/-! the law's main method: cards -/
set_option maxRecDepth 100000 in
set_option maxHeartbeats 4000000 in
theorem lk_8 {p : Program} {l : Launch} {e : Env} {s : State} {m : MethodId} {below : List Frame} {meth : Method} {c0 : Code} {Q : State → Prop} {g : Ge} {a0 o : Nat} (X : Cx p #[Value.ref a0] s m meth c0 g cL_law 28 RL ret 0) (ho : g.2.2 = o) {f : Pic} {cs ss tn : Nat} {σ ρ : Nat → Int32} {S P : Nat → Nat → Int32} {φ κ τ π q h t c w b b2 : Nat → Int32} {x y kd ki sd bx tq vv : Int32} {C P0 R lt B : Nat} (h186 : 186 ≤ cs) (hcM : cs + 60 ≤ 599000) (hsM : ss + 330 ≤ 7300000) (H : RQ C P0 R lt B σ ρ q h t c w b b2) (hPI : PI π)
    (kk : ∀ (f : Pic) (cs' ss' : Nat) (σ' ρ' : Nat → Int32) (S' P' : Nat → Nat → Int32) (φ' π' q' h' t' c' w' b' b2' : Nat → Int32) (C' P0' R' lt' B' : Nat) (ot : Int32), 186 ≤ cs' → cs' ≤ cs + 60 → ss' ≤ ss + 330 → RQ C' P0' R' lt' B' σ' ρ' (upd q' 8 (if ot = 0 then q' 8 else 0)) h' t' c' w' b' b2' → PI π' → V p l e room_1 s m #[Value.ref a0] below meth c0 Q g 28 cs' ss' cs' (ovr f o (yaL g o σ' ρ' S' P' φ' κ τ π' q' h' t' c' w' b' b2')) 1826 [some (.ref a0), some (.ref o), some (.ref (o + 179)), some (.ref (o + 180)), some (.ref (o + 181)), some (.ref (o + 182)), some (.ref (o + 183)), some (.ref (o + 184)), some (.ref (o + 185)), some (.int (nI tn)), some (.int x), some (.int y), some (.int kd), some (.int ki), some (.int sd), some (.int bx), some (.int tq), some (.int vv), some (.int ot), none, none, none, none, none, none, none, none, none] []) :
    V p l e room_1 s m #[Value.ref a0] below meth c0 Q g 28 cs ss cs (ovr f o (yaL g o σ ρ S P φ κ τ π q h t c w b b2)) 803 [some (.ref a0), some (.ref o), some (.ref (o + 179)), some (.ref (o + 180)), some (.ref (o + 181)), some (.ref (o + 182)), some (.ref (o + 183)), some (.ref (o + 184)), some (.ref (o + 185)), some (.int (nI tn)), some (.int x), some (.int y), some (.int kd), some (.int ki), some (.int sd), some (.int bx), some (.int tq), some (.int vv), some (.int (1 : Int32)), none, none, none, none, none, none, none, none, none] [] := by
  have rc9 : 599000 ≤ room_1.cells := Nat.le_of_ble_eq_true rfl
  have rs9 : 7300000 ≤ room_1.slots := Nat.le_of_ble_eq_true rfl
  have hcs : cs + 0 ≤ room_1.cells ∧ ss + 0 ≤ room_1.slots := ⟨by omega, by omega⟩
  have hB : BB g cs o 186 := ⟨by rw [ho]; exact Nat.le_refl _, by rw [ho]; omega⟩
  obtain ⟨qq, nn, hq, hq6, hn, hn6⟩ := id hPI
  obtain ⟨g9, hA, hV, hF, hYB, ⟨hR, hR20⟩, ⟨hlt, hlt20⟩, hRC, ⟨hB8, hBR⟩, hKH⟩ := id H
  have hC16 := g9.2.2.2
  have hq0 : q 0 = nI C := (hA.1 0 (by omega)).trans g9.1
  have hq1 : q 1 = nI P0 := (hA.1 1 (by omega)).trans g9.2.1
  refine v_iload X dL_law_803 rfl ?_
  refine v_iconst X dL_law_805 (v := (4 : Int32)) (by decide) ?_
  refine v_ishr X dL_law_806 ?_
  refine v_bipush X dL_law_807 (v := (64 : Int32)) (by decide) ?_
  refine v_cs X (Nat.zero_add _).symm yv_L_low m_ml_L_62 (c_L_low l g (64 : Int32) 64 rfl (x >>> ((4 : Int32) &&& 31)) (by decide) (by decide)) rfl rfl (Nat.le_of_ble_eq_true rfl) ⟨Nat.le_of_ble_eq_true rfl, Nat.le_of_ble_eq_true rfl⟩ hcs dL_law_809 rfl ?_
  obtain ⟨fr, hfr, efr⟩ : ∃ k, k < 64 ∧ (lwF (x >>> ((4 : Int32) &&& 31)) 64) = nI k := lwF_lt (by decide) (by decide)
  rw [efr]
  refine v_istore X dL_law_812 (Nat.le_of_ble_eq_true rfl) rfl ?_
  refine v_iload X dL_law_814 rfl ?_
  refine v_iconst X dL_law_816 (v := (2 : Int32)) (by decide) ?_
  refine v_cs X (Nat.zero_add _).symm yv_L_low m_ml_L_62 (c_L_low l g (2 : Int32) 2 rfl y (by decide) (by decide)) rfl rfl (Nat.le_of_ble_eq_true rfl) ⟨Nat.le_of_ble_eq_true rfl, Nat.le_of_ble_eq_true rfl⟩ hcs dL_law_817 rfl ?_
  refine v_if_ne X dL_law_820 (tgt := 827) (by decide) (fun c820 => ?_) (fun c820 => ?_)
  · skip
    refine v_iload X dL_law_827 rfl ?_
    refine v_iconst X dL_law_829 (v := (1 : Int32)) (by decide) ?_
    refine v_ishr X dL_law_830 ?_
    refine v_iconst X dL_law_831 (v := (4 : Int32)) (by decide) ?_
    refine v_cs X (Nat.zero_add _).symm yv_L_low m_ml_L_62 (c_L_low l g (4 : Int32) 4 rfl (y >>> ((1 : Int32) &&& 31)) (by decide) (by decide)) rfl rfl (Nat.le_of_ble_eq_true rfl) ⟨Nat.le_of_ble_eq_true rfl, Nat.le_of_ble_eq_true rfl⟩ hcs dL_law_832 rfl ?_
    obtain ⟨le, hle, ele⟩ : ∃ k, k < 4 ∧ (lwF (y >>> ((1 : Int32) &&& 31)) 4) = nI k := lwF_lt (by decide) (by decide)
    rw [ele]
    refine v_istore X dL_law_835 (Nat.le_of_ble_eq_true rfl) rfl ?_
    refine v_iload X dL_law_837 rfl ?_
    refine v_iconst X dL_law_839 (v := (3 : Int32)) (by decide) ?_
    refine v_ishr X dL_law_840 ?_
    refine v_iconst X dL_law_841 (v := (2 : Int32)) (by decide) ?_
    refine v_cs X (Nat.zero_add _).symm yv_L_low m_ml_L_62 (c_L_low l g (2 : Int32) 2 rfl (y >>> ((3 : Int32) &&& 31)) (by decide) (by decide)) rfl rfl (Nat.le_of_ble_eq_true rfl) ⟨Nat.le_of_ble_eq_true rfl, Nat.le_of_ble_eq_true rfl⟩ hcs dL_law_842 rfl ?_
    obtain ⟨ri, hri, eri⟩ : ∃ k, k < 2 ∧ (lwF (y >>> ((3 : Int32) &&& 31)) 2) = nI k := lwF_lt (by decide) (by decide)
    rw [eri]
    refine v_istore X dL_law_845 (Nat.le_of_ble_eq_true rfl) rfl ?_
    refine v_aload_n X dL_law_847 (i := 2) rfl rfl ?_
    refine v_iconst X dL_law_848 (v := (0 : Int32)) (by decide) ?_
    refine v_ialdB X hB dL_law_849 179 (Nat.le_of_ble_eq_true rfl) rfl 0 rfl (by omega) (Nat.le_of_ble_eq_true rfl) ?_
    refine v_bipush X dL_law_850 (v := (16 : Int32)) (by decide) ?_
    refine v_icmp_ge X dL_law_852 (tgt := 859) (by decide) (fun c852 => ?_) (fun c852 => ?_)
    · skip
      have hC1 : ¬ C < 16 := by
        rw [hq0] at c852
        have := le_of_nI (a := 16) (by omega) (by omega) c852
        omega
      refine v_iconst X dL_law_859 (v := (0 : Int32)) (by decide) ?_
      refine v_istore X dL_law_860 (Nat.le_of_ble_eq_true rfl) rfl ?_
      refine v_aload_n X dL_law_862 (i := 1) rfl rfl ?_
      refine v_iload X dL_law_863 rfl ?_
      refine v_iload X dL_law_865 rfl ?_
      refine v_iload X dL_law_867 rfl ?_
      refine v_cvB X (Nat.zero_add _).symm yv_X7_addCard m_ml_L_105 0 0 (c_X7_addCard l g cs o σ ρ S P φ κ τ π qq nn hq hq6 hn hn6 (nI fr) (nI le) (nI ri) C g9.1 hC16) hB (Nat.le_of_ble_eq_true rfl) rfl (Nat.le_of_ble_eq_true rfl) rfl (L' := (yaL g o (if (acE C (nI fr) (nI le) (nI ri)) = 0 then (apS (c8 σ) C (nI fr) (nI le) (nI ri)) else σ) ρ (svS (acE C (nI fr) (nI le) (nI ri)) S qq σ) (svS (acE C (nI fr) (nI le) (nI ri)) P qq ρ) φ κ τ (svπ (acE C (nI fr) (nI le) (nI ri)) π qq nn) q h t c w b b2)) (rfl) rfl (Nat.le_of_ble_eq_true rfl) rfl rfl (Nat.le_of_ble_eq_true rfl) ⟨Nat.le_of_ble_eq_true rfl, Nat.le_of_ble_eq_true rfl⟩ hcs dL_law_869 rfl ?_
      have hE : (acE C (nI fr) (nI le) (nI ri)) = -4 := (E_ac hfr hle hri).trans (if_neg hC1)
      have hn0 : ¬ (acE C (nI fr) (nI le) (nI ri)) = 0 := by rw [hE]; decide
      rw [if_neg hn0, if_neg hn0, hE]
      refine v_iload X dL_law_872 rfl ?_
      refine v_if_eq X dL_law_874 (tgt := 883) (by decide) (fun c874 => ?_) (fun c874 => ?_)
      · skip
        refine v_bipush X dL_law_883 (v := (-4 : Int32)) (by decide) ?_
        refine v_icmp_eq X dL_law_885 (tgt := 890) (by decide) (fun c885 => ?_) (fun c885 => ?_)
        · skip
          refine v_iload X dL_law_890 rfl ?_
          refine v_if_eq X dL_law_892 (tgt := 936) (by decide) (fun c892 => ?_) (fun c892 => ?_)
          · skip
            refine v_goto X dL_law_936 (tgt := 1826) (by decide) ?_
            refine v_drop 19 ?_
            refine v_drop 20 ?_
            refine v_drop 21 ?_
            exact kk f cs ss σ ρ (svS (-4 : Int32) S qq σ) (svS (-4 : Int32) P qq ρ) φ (svπ (-4 : Int32) π qq nn) q h t c w b b2 C P0 R lt B 0    (by omega) (by omega) (by omega) ((by rw [if_pos rfl]; simp only [up_self]; exact H)) (PI_sv hPI hq6 hn6)
          · skip
            exact absurd c892 (by decide)
        · skip
          exact absurd rfl c885
      · skip
        exact absurd c874 (by decide)
    · skip
      have hC1 : C < 16 := by
        rw [hq0] at c852
        exact lt_of_nI (b := 16) (by omega) (by omega) c852
      refine v_iconst X dL_law_855 (v := (1 : Int32)) (by decide) ?_
      refine v_goto X dL_law_856 (tgt := 860) (by decide) ?_
      refine v_istore X dL_law_860 (Nat.le_of_ble_eq_true rfl) rfl ?_
      refine v_aload_n X dL_law_862 (i := 1) rfl rfl ?_
      refine v_iload X dL_law_863 rfl ?_
      refine v_iload X dL_law_865 rfl ?_
      refine v_iload X dL_law_867 rfl ?_
      refine v_cvB X (Nat.zero_add _).symm yv_X7_addCard m_ml_L_105 0 0 (c_X7_addCard l g cs o σ ρ S P φ κ τ π qq nn hq hq6 hn hn6 (nI fr) (nI le) (nI ri) C g9.1 hC16) hB (Nat.le_of_ble_eq_true rfl) rfl (Nat.le_of_ble_eq_true rfl) rfl (L' := (yaL g o (if (acE C (nI fr) (nI le) (nI ri)) = 0 then (apS (c8 σ) C (nI fr) (nI le) (nI ri)) else σ) ρ (svS (acE C (nI fr) (nI le) (nI ri)) S qq σ) (svS (acE C (nI fr) (nI le) (nI ri)) P qq ρ) φ κ τ (svπ (acE C (nI fr) (nI le) (nI ri)) π qq nn) q h t c w b b2)) (rfl) rfl (Nat.le_of_ble_eq_true rfl) rfl rfl (Nat.le_of_ble_eq_true rfl) ⟨Nat.le_of_ble_eq_true rfl, Nat.le_of_ble_eq_true rfl⟩ hcs dL_law_869 rfl ?_
      have hE : (acE C (nI fr) (nI le) (nI ri)) = 0 := (E_ac hfr hle hri).trans (if_pos hC1)
      rw [if_pos hE, if_pos hE]
      refine v_iload X dL_law_872 rfl ?_
      refine v_if_eq X dL_law_874 (tgt := 883) (by decide) (fun c874 => ?_) (fun c874 => ?_)
      · skip
        exact absurd c874 (by decide)
      · skip
        refine v_aload_n X dL_law_877 (i := 2) rfl rfl ?_
        refine v_iconst X dL_law_878 (v := (0 : Int32)) (by decide) ?_
        refine v_ialdB X hB dL_law_879 179 (Nat.le_of_ble_eq_true rfl) rfl 0 rfl (by omega) (Nat.le_of_ble_eq_true rfl) ?_
        refine v_goto X dL_law_880 (tgt := 885) (by decide) ?_
        refine v_icmp_eq X dL_law_885 (tgt := 890) (by decide) (fun c885 => ?_) (fun c885 => ?_)
        · skip
          refine v_iload X dL_law_890 rfl ?_
          refine v_if_eq X dL_law_892 (tgt := 936) (by decide) (fun c892 => ?_) (fun c892 => ?_)
          · skip
            exact absurd c892 (by decide)
          · skip
            refine v_aload X dL_law_895 rfl ?_
            refine v_iconst X dL_law_897 (v := (3 : Int32)) (by decide) ?_
            refine v_aload_n X dL_law_898 (i := 2) rfl rfl ?_
            refine v_iconst X dL_law_899 (v := (0 : Int32)) (by decide) ?_
            refine v_ialdB X hB dL_law_900 179 (Nat.le_of_ble_eq_true rfl) rfl 0 rfl (by omega) (Nat.le_of_ble_eq_true rfl) ?_
            refine v_imul X dL_law_901 ?_
            refine v_iload X dL_law_902 rfl ?_
            refine v_iastB X hB dL_law_904 182 (Nat.le_of_ble_eq_true rfl) rfl (3 * C) (ix_mul rfl hq0) (by omega) (Nat.le_of_ble_eq_true rfl) (L' := (yaL g o (apS (c8 σ) C (nI fr) (nI le) (nI ri)) ρ (svS (acE C (nI fr) (nI le) (nI ri)) S qq σ) (svS (acE C (nI fr) (nI le) (nI ri)) P qq ρ) φ κ τ (svπ (acE C (nI fr) (nI le) (nI ri)) π qq nn) q h t (upd c (3 * C) (nI fr)) w b b2)) rfl ?_
            refine v_aload X dL_law_905 rfl ?_
            refine v_iconst X dL_law_907 (v := (3 : Int32)) (by decide) ?_
            refine v_aload_n X dL_law_908 (i := 2) rfl rfl ?_
            refine v_iconst X dL_law_909 (v := (0 : Int32)) (by decide) ?_
            refine v_ialdB X hB dL_law_910 179 (Nat.le_of_ble_eq_true rfl) rfl 0 rfl (by omega) (Nat.le_of_ble_eq_true rfl) ?_
            refine v_imul X dL_law_911 ?_
            refine v_iconst X dL_law_912 (v := (1 : Int32)) (by decide) ?_
            refine v_iadd X dL_law_913 ?_
            refine v_iload X dL_law_914 rfl ?_
            refine v_iastB X hB dL_law_916 182 (Nat.le_of_ble_eq_true rfl) rfl ((3 * C) + 1) (ix_add (ix_mul rfl hq0) rfl) (by omega) (Nat.le_of_ble_eq_true rfl) (L' := (yaL g o (apS (c8 σ) C (nI fr) (nI le) (nI ri)) ρ (svS (acE C (nI fr) (nI le) (nI ri)) S qq σ) (svS (acE C (nI fr) (nI le) (nI ri)) P qq ρ) φ κ τ (svπ (acE C (nI fr) (nI le) (nI ri)) π qq nn) q h t (upd (upd c (3 * C) (nI fr)) ((3 * C) + 1) (nI le)) w b b2)) rfl ?_
            refine v_aload X dL_law_917 rfl ?_
            refine v_iconst X dL_law_919 (v := (3 : Int32)) (by decide) ?_
            refine v_aload_n X dL_law_920 (i := 2) rfl rfl ?_
            refine v_iconst X dL_law_921 (v := (0 : Int32)) (by decide) ?_
            refine v_ialdB X hB dL_law_922 179 (Nat.le_of_ble_eq_true rfl) rfl 0 rfl (by omega) (Nat.le_of_ble_eq_true rfl) ?_
            refine v_imul X dL_law_923 ?_
            refine v_iconst X dL_law_924 (v := (2 : Int32)) (by decide) ?_
            refine v_iadd X dL_law_925 ?_
            refine v_iload X dL_law_926 rfl ?_
            refine v_iastB X hB dL_law_928 182 (Nat.le_of_ble_eq_true rfl) rfl ((3 * C) + 2) (ix_add (ix_mul rfl hq0) rfl) (by omega) (Nat.le_of_ble_eq_true rfl) (L' := (yaL g o (apS (c8 σ) C (nI fr) (nI le) (nI ri)) ρ (svS (acE C (nI fr) (nI le) (nI ri)) S qq σ) (svS (acE C (nI fr) (nI le) (nI ri)) P qq ρ) φ κ τ (svπ (acE C (nI fr) (nI le) (nI ri)) π qq nn) q h t (upd (upd (upd c (3 * C) (nI fr)) ((3 * C) + 1) (nI le)) ((3 * C) + 2) (nI ri)) w b b2)) rfl ?_
            refine v_aload_n X dL_law_929 (i := 2) rfl rfl ?_
            refine v_iconst X dL_law_930 (v := (0 : Int32)) (by decide) ?_
            refine v_dup2 X dL_law_931 rfl rfl ?_
            refine v_ialdB X hB dL_law_932 179 (Nat.le_of_ble_eq_true rfl) rfl 0 rfl (by omega) (Nat.le_of_ble_eq_true rfl) ?_
            refine v_iconst X dL_law_933 (v := (1 : Int32)) (by decide) ?_
            refine v_iadd X dL_law_934 ?_
            rw [show ((q 0) + (1 : Int32)) = nI (C + 1) from ix_add hq0 rfl]
            refine v_iastB X hB dL_law_935 179 (Nat.le_of_ble_eq_true rfl) rfl 0 rfl (by omega) (Nat.le_of_ble_eq_true rfl) (L' := (yaL g o (apS (c8 σ) C (nI fr) (nI le) (nI ri)) ρ (svS (acE C (nI fr) (nI le) (nI ri)) S qq σ) (svS (acE C (nI fr) (nI le) (nI ri)) P qq ρ) φ κ τ (svπ (acE C (nI fr) (nI le) (nI ri)) π qq nn) (upd q 0 (nI (C + 1))) h t (upd (upd (upd c (3 * C) (nI fr)) ((3 * C) + 1) (nI le)) ((3 * C) + 2) (nI ri)) w b b2)) rfl ?_
            refine v_goto X dL_law_936 (tgt := 1826) (by decide) ?_
            refine v_drop 19 ?_
            refine v_drop 20 ?_
            refine v_drop 21 ?_
            exact kk f cs ss (apS (c8 σ) C (nI fr) (nI le) (nI ri)) ρ (svS (acE C (nI fr) (nI le) (nI ri)) S qq σ) (svS (acE C (nI fr) (nI le) (nI ri)) P qq ρ) φ (svπ (acE C (nI fr) (nI le) (nI ri)) π qq nn) (upd q 0 (nI (C + 1))) h t (upd (upd (upd c (3 * C) (nI fr)) ((3 * C) + 1) (nI le)) ((3 * C) + 2) (nI ri)) w b b2 (C + 1) P0 R lt 0 1    (by omega) (by omega) (by omega) ((by rw [if_neg (by decide)]; exact RQ_add H hC1 hle rfl hri rfl)) (PI_sv hPI hq6 hn6)
        · skip
          exact absurd (by rw [hq0, show apS (c8 σ) C (nI fr) (nI le) (nI ri) 0 = nI (C + 1) from pk_us]; exact pk_sub (b := 1) (by omega)) c885
  · skip
    refine v_iconst X dL_law_823 (v := (0 : Int32)) (by decide) ?_
    refine v_goto X dL_law_824 (tgt := 835) (by decide) ?_
    obtain ⟨le, hle, ele⟩ : ∃ k, k < 4 ∧ (0 : Int32) = nI k := ⟨0, by omega, rfl⟩
    refine V.cast (st' := [.int (nI le)]) ?_ rfl (by rw [← ele] <;> rfl) rfl
    refine v_istore X dL_law_835 (Nat.le_of_ble_eq_true rfl) rfl ?_
    refine v_iload X dL_law_837 rfl ?_
    refine v_iconst X dL_law_839 (v := (3 : Int32)) (by decide) ?_
    refine v_ishr X dL_law_840 ?_
    refine v_iconst X dL_law_841 (v := (2 : Int32)) (by decide) ?_
    refine v_cs X (Nat.zero_add _).symm yv_L_low m_ml_L_62 (c_L_low l g (2 : Int32) 2 rfl (y >>> ((3 : Int32) &&& 31)) (by decide) (by decide)) rfl rfl (Nat.le_of_ble_eq_true rfl) ⟨Nat.le_of_ble_eq_true rfl, Nat.le_of_ble_eq_true rfl⟩ hcs dL_law_842 rfl ?_
    obtain ⟨ri, hri, eri⟩ : ∃ k, k < 2 ∧ (lwF (y >>> ((3 : Int32) &&& 31)) 2) = nI k := lwF_lt (by decide) (by decide)
    rw [eri]
    refine v_istore X dL_law_845 (Nat.le_of_ble_eq_true rfl) rfl ?_
    refine v_aload_n X dL_law_847 (i := 2) rfl rfl ?_
    refine v_iconst X dL_law_848 (v := (0 : Int32)) (by decide) ?_
    refine v_ialdB X hB dL_law_849 179 (Nat.le_of_ble_eq_true rfl) rfl 0 rfl (by omega) (Nat.le_of_ble_eq_true rfl) ?_
    refine v_bipush X dL_law_850 (v := (16 : Int32)) (by decide) ?_
    refine v_icmp_ge X dL_law_852 (tgt := 859) (by decide) (fun c852 => ?_) (fun c852 => ?_)
    · skip
      have hC1 : ¬ C < 16 := by
        rw [hq0] at c852
        have := le_of_nI (a := 16) (by omega) (by omega) c852
        omega
      refine v_iconst X dL_law_859 (v := (0 : Int32)) (by decide) ?_
      refine v_istore X dL_law_860 (Nat.le_of_ble_eq_true rfl) rfl ?_
      refine v_aload_n X dL_law_862 (i := 1) rfl rfl ?_
      refine v_iload X dL_law_863 rfl ?_
      refine v_iload X dL_law_865 rfl ?_
      refine v_iload X dL_law_867 rfl ?_
      refine v_cvB X (Nat.zero_add _).symm yv_X7_addCard m_ml_L_105 0 0 (c_X7_addCard l g cs o σ ρ S P φ κ τ π qq nn hq hq6 hn hn6 (nI fr) (nI le) (nI ri) C g9.1 hC16) hB (Nat.le_of_ble_eq_true rfl) rfl (Nat.le_of_ble_eq_true rfl) rfl (L' := (yaL g o (if (acE C (nI fr) (nI le) (nI ri)) = 0 then (apS (c8 σ) C (nI fr) (nI le) (nI ri)) else σ) ρ (svS (acE C (nI fr) (nI le) (nI ri)) S qq σ) (svS (acE C (nI fr) (nI le) (nI ri)) P qq ρ) φ κ τ (svπ (acE C (nI fr) (nI le) (nI ri)) π qq nn) q h t c w b b2)) (rfl) rfl (Nat.le_of_ble_eq_true rfl) rfl rfl (Nat.le_of_ble_eq_true rfl) ⟨Nat.le_of_ble_eq_true rfl, Nat.le_of_ble_eq_true rfl⟩ hcs dL_law_869 rfl ?_
      have hE : (acE C (nI fr) (nI le) (nI ri)) = -4 := (E_ac hfr hle hri).trans (if_neg hC1)
      have hn0 : ¬ (acE C (nI fr) (nI le) (nI ri)) = 0 := by rw [hE]; decide
      rw [if_neg hn0, if_neg hn0, hE]
      refine v_iload X dL_law_872 rfl ?_
      refine v_if_eq X dL_law_874 (tgt := 883) (by decide) (fun c874 => ?_) (fun c874 => ?_)
      · skip
        refine v_bipush X dL_law_883 (v := (-4 : Int32)) (by decide) ?_
        refine v_icmp_eq X dL_law_885 (tgt := 890) (by decide) (fun c885 => ?_) (fun c885 => ?_)
        · skip
          refine v_iload X dL_law_890 rfl ?_
          refine v_if_eq X dL_law_892 (tgt := 936) (by decide) (fun c892 => ?_) (fun c892 => ?_)
          · skip
            refine v_goto X dL_law_936 (tgt := 1826) (by decide) ?_
            refine v_drop 19 ?_
            refine v_drop 20 ?_
            refine v_drop 21 ?_
            exact kk f cs ss σ ρ (svS (-4 : Int32) S qq σ) (svS (-4 : Int32) P qq ρ) φ (svπ (-4 : Int32) π qq nn) q h t c w b b2 C P0 R lt B 0    (by omega) (by omega) (by omega) ((by rw [if_pos rfl]; simp only [up_self]; exact H)) (PI_sv hPI hq6 hn6)
          · skip
            exact absurd c892 (by decide)
        · skip
          exact absurd rfl c885
      · skip
        exact absurd c874 (by decide)
    · skip
      have hC1 : C < 16 := by
        rw [hq0] at c852
        exact lt_of_nI (b := 16) (by omega) (by omega) c852
      refine v_iconst X dL_law_855 (v := (1 : Int32)) (by decide) ?_
      refine v_goto X dL_law_856 (tgt := 860) (by decide) ?_
      refine v_istore X dL_law_860 (Nat.le_of_ble_eq_true rfl) rfl ?_
      refine v_aload_n X dL_law_862 (i := 1) rfl rfl ?_
      refine v_iload X dL_law_863 rfl ?_
      refine v_iload X dL_law_865 rfl ?_
      refine v_iload X dL_law_867 rfl ?_
      refine v_cvB X (Nat.zero_add _).symm yv_X7_addCard m_ml_L_105 0 0 (c_X7_addCard l g cs o σ ρ S P φ κ τ π qq nn hq hq6 hn hn6 (nI fr) (nI le) (nI ri) C g9.1 hC16) hB (Nat.le_of_ble_eq_true rfl) rfl (Nat.le_of_ble_eq_true rfl) rfl (L' := (yaL g o (if (acE C (nI fr) (nI le) (nI ri)) = 0 then (apS (c8 σ) C (nI fr) (nI le) (nI ri)) else σ) ρ (svS (acE C (nI fr) (nI le) (nI ri)) S qq σ) (svS (acE C (nI fr) (nI le) (nI ri)) P qq ρ) φ κ τ (svπ (acE C (nI fr) (nI le) (nI ri)) π qq nn) q h t c w b b2)) (rfl) rfl (Nat.le_of_ble_eq_true rfl) rfl rfl (Nat.le_of_ble_eq_true rfl) ⟨Nat.le_of_ble_eq_true rfl, Nat.le_of_ble_eq_true rfl⟩ hcs dL_law_869 rfl ?_
      have hE : (acE C (nI fr) (nI le) (nI ri)) = 0 := (E_ac hfr hle hri).trans (if_pos hC1)
      rw [if_pos hE, if_pos hE]
      refine v_iload X dL_law_872 rfl ?_
      refine v_if_eq X dL_law_874 (tgt := 883) (by decide) (fun c874 => ?_) (fun c874 => ?_)
      · skip
        exact absurd c874 (by decide)
      · skip
        refine v_aload_n X dL_law_877 (i := 2) rfl rfl ?_
        refine v_iconst X dL_law_878 (v := (0 : Int32)) (by decide) ?_
        refine v_ialdB X hB dL_law_879 179 (Nat.le_of_ble_eq_true rfl) rfl 0 rfl (by omega) (Nat.le_of_ble_eq_true rfl) ?_
        refine v_goto X dL_law_880 (tgt := 885) (by decide) ?_
        refine v_icmp_eq X dL_law_885 (tgt := 890) (by decide) (fun c885 => ?_) (fun c885 => ?_)
        · skip
          refine v_iload X dL_law_890 rfl ?_
          refine v_if_eq X dL_law_892 (tgt := 936) (by decide) (fun c892 => ?_) (fun c892 => ?_)
          · skip
            exact absurd c892 (by decide)
          · skip
            refine v_aload X dL_law_895 rfl ?_
            refine v_iconst X dL_law_897 (v := (3 : Int32)) (by decide) ?_
            refine v_aload_n X dL_law_898 (i := 2) rfl rfl ?_
            refine v_iconst X dL_law_899 (v := (0 : Int32)) (by decide) ?_
            refine v_ialdB X hB dL_law_900 179 (Nat.le_of_ble_eq_true rfl) rfl 0 rfl (by omega) (Nat.le_of_ble_eq_true rfl) ?_
            refine v_imul X dL_law_901 ?_
            refine v_iload X dL_law_902 rfl ?_
            refine v_iastB X hB dL_law_904 182 (Nat.le_of_ble_eq_true rfl) rfl (3 * C) (ix_mul rfl hq0) (by omega) (Nat.le_of_ble_eq_true rfl) (L' := (yaL g o (apS (c8 σ) C (nI fr) (nI le) (nI ri)) ρ (svS (acE C (nI fr) (nI le) (nI ri)) S qq σ) (svS (acE C (nI fr) (nI le) (nI ri)) P qq ρ) φ κ τ (svπ (acE C (nI fr) (nI le) (nI ri)) π qq nn) q h t (upd c (3 * C) (nI fr)) w b b2)) rfl ?_
            refine v_aload X dL_law_905 rfl ?_
            refine v_iconst X dL_law_907 (v := (3 : Int32)) (by decide) ?_
            refine v_aload_n X dL_law_908 (i := 2) rfl rfl ?_
            refine v_iconst X dL_law_909 (v := (0 : Int32)) (by decide) ?_
            refine v_ialdB X hB dL_law_910 179 (Nat.le_of_ble_eq_true rfl) rfl 0 rfl (by omega) (Nat.le_of_ble_eq_true rfl) ?_
            refine v_imul X dL_law_911 ?_
            refine v_iconst X dL_law_912 (v := (1 : Int32)) (by decide) ?_
            refine v_iadd X dL_law_913 ?_
            refine v_iload X dL_law_914 rfl ?_
            refine v_iastB X hB dL_law_916 182 (Nat.le_of_ble_eq_true rfl) rfl ((3 * C) + 1) (ix_add (ix_mul rfl hq0) rfl) (by omega) (Nat.le_of_ble_eq_true rfl) (L' := (yaL g o (apS (c8 σ) C (nI fr) (nI le) (nI ri)) ρ (svS (acE C (nI fr) (nI le) (nI ri)) S qq σ) (svS (acE C (nI fr) (nI le) (nI ri)) P qq ρ) φ κ τ (svπ (acE C (nI fr) (nI le) (nI ri)) π qq nn) q h t (upd (upd c (3 * C) (nI fr)) ((3 * C) + 1) (nI le)) w b b2)) rfl ?_
            refine v_aload X dL_law_917 rfl ?_
            refine v_iconst X dL_law_919 (v := (3 : Int32)) (by decide) ?_
            refine v_aload_n X dL_law_920 (i := 2) rfl rfl ?_
            refine v_iconst X dL_law_921 (v := (0 : Int32)) (by decide) ?_
            refine v_ialdB X hB dL_law_922 179 (Nat.le_of_ble_eq_true rfl) rfl 0 rfl (by omega) (Nat.le_of_ble_eq_true rfl) ?_
            refine v_imul X dL_law_923 ?_
            refine v_iconst X dL_law_924 (v := (2 : Int32)) (by decide) ?_
            refine v_iadd X dL_law_925 ?_
            refine v_iload X dL_law_926 rfl ?_
            refine v_iastB X hB dL_law_928 182 (Nat.le_of_ble_eq_true rfl) rfl ((3 * C) + 2) (ix_add (ix_mul rfl hq0) rfl) (by omega) (Nat.le_of_ble_eq_true rfl) (L' := (yaL g o (apS (c8 σ) C (nI fr) (nI le) (nI ri)) ρ (svS (acE C (nI fr) (nI le) (nI ri)) S qq σ) (svS (acE C (nI fr) (nI le) (nI ri)) P qq ρ) φ κ τ (svπ (acE C (nI fr) (nI le) (nI ri)) π qq nn) q h t (upd (upd (upd c (3 * C) (nI fr)) ((3 * C) + 1) (nI le)) ((3 * C) + 2) (nI ri)) w b b2)) rfl ?_
            refine v_aload_n X dL_law_929 (i := 2) rfl rfl ?_
            refine v_iconst X dL_law_930 (v := (0 : Int32)) (by decide) ?_
            refine v_dup2 X dL_law_931 rfl rfl ?_
            refine v_ialdB X hB dL_law_932 179 (Nat.le_of_ble_eq_true rfl) rfl 0 rfl (by omega) (Nat.le_of_ble_eq_true rfl) ?_
            refine v_iconst X dL_law_933 (v := (1 : Int32)) (by decide) ?_
            refine v_iadd X dL_law_934 ?_
            rw [show ((q 0) + (1 : Int32)) = nI (C + 1) from ix_add hq0 rfl]
            refine v_iastB X hB dL_law_935 179 (Nat.le_of_ble_eq_true rfl) rfl 0 rfl (by omega) (Nat.le_of_ble_eq_true rfl) (L' := (yaL g o (apS (c8 σ) C (nI fr) (nI le) (nI ri)) ρ (svS (acE C (nI fr) (nI le) (nI ri)) S qq σ) (svS (acE C (nI fr) (nI le) (nI ri)) P qq ρ) φ κ τ (svπ (acE C (nI fr) (nI le) (nI ri)) π qq nn) (upd q 0 (nI (C + 1))) h t (upd (upd (upd c (3 * C) (nI fr)) ((3 * C) + 1) (nI le)) ((3 * C) + 2) (nI ri)) w b b2)) rfl ?_
            refine v_goto X dL_law_936 (tgt := 1826) (by decide) ?_
            refine v_drop 19 ?_
            refine v_drop 20 ?_
            refine v_drop 21 ?_
            exact kk f cs ss (apS (c8 σ) C (nI fr) (nI le) (nI ri)) ρ (svS (acE C (nI fr) (nI le) (nI ri)) S qq σ) (svS (acE C (nI fr) (nI le) (nI ri)) P qq ρ) φ (svπ (acE C (nI fr) (nI le) (nI ri)) π qq nn) (upd q 0 (nI (C + 1))) h t (upd (upd (upd c (3 * C) (nI fr)) ((3 * C) + 1) (nI le)) ((3 * C) + 2) (nI ri)) w b b2 (C + 1) P0 R lt 0 1    (by omega) (by omega) (by omega) ((by rw [if_neg (by decide)]; exact RQ_add H hC1 hle rfl hri rfl)) (PI_sv hPI hq6 hn6)
        · skip
          exact absurd (by rw [hq0, show apS (c8 σ) C (nI fr) (nI le) (nI ri) 0 = nI (C + 1) from pk_us]; exact pk_sub (b := 1) (by omega)) c885
set_option maxRecDepth 100000 in
set_option maxHeartbeats 4000000 in
theorem lk_10 {p : Program} {l : Launch} {e : Env} {s : State} {m : MethodId} {below : List Frame} {meth : Method} {c0 : Code} {Q : State → Prop} {g : Ge} {a0 o : Nat} (X : Cx p #[Value.ref a0] s m meth c0 g cL_law 28 RL ret 0) (ho : g.2.2 = o) {f : Pic} {cs ss tn : Nat} {σ ρ : Nat → Int32} {S P : Nat → Nat → Int32} {φ κ τ π q h t c w b b2 : Nat → Int32} {x y kd ki sd bx tq vv : Int32} {C P0 R lt B : Nat} (h186 : 186 ≤ cs) (hcM : cs + 60 ≤ 599000) (hsM : ss + 330 ≤ 7300000) (H : RQ C P0 R lt B σ ρ q h t c w b b2) (hPI : PI π)
    (kk : ∀ (f : Pic) (cs' ss' : Nat) (σ' ρ' : Nat → Int32) (S' P' : Nat → Nat → Int32) (φ' π' q' h' t' c' w' b' b2' : Nat → Int32) (C' P0' R' lt' B' : Nat) (ot : Int32), 186 ≤ cs' → cs' ≤ cs + 60 → ss' ≤ ss + 330 → RQ C' P0' R' lt' B' σ' ρ' (upd q' 8 (if ot = 0 then q' 8 else 0)) h' t' c' w' b' b2' → PI π' → V p l e room_1 s m #[Value.ref a0] below meth c0 Q g 28 cs' ss' cs' (ovr f o (yaL g o σ' ρ' S' P' φ' κ τ π' q' h' t' c' w' b' b2')) 1826 [some (.ref a0), some (.ref o), some (.ref (o + 179)), some (.ref (o + 180)), some (.ref (o + 181)), some (.ref (o + 182)), some (.ref (o + 183)), some (.ref (o + 184)), some (.ref (o + 185)), some (.int (nI tn)), some (.int x), some (.int y), some (.int kd), some (.int ki), some (.int sd), some (.int bx), some (.int tq), some (.int vv), some (.int ot), none, none, none, none, none, none, none, none, none] []) :
    V p l e room_1 s m #[Value.ref a0] below meth c0 Q g 28 cs ss cs (ovr f o (yaL g o σ ρ S P φ κ τ π q h t c w b b2)) 946 [some (.ref a0), some (.ref o), some (.ref (o + 179)), some (.ref (o + 180)), some (.ref (o + 181)), some (.ref (o + 182)), some (.ref (o + 183)), some (.ref (o + 184)), some (.ref (o + 185)), some (.int (nI tn)), some (.int x), some (.int y), some (.int kd), some (.int ki), some (.int sd), some (.int bx), some (.int tq), some (.int vv), some (.int (1 : Int32)), none, none, none, none, none, none, none, none, none] [] := by
  have rc9 : 599000 ≤ room_1.cells := Nat.le_of_ble_eq_true rfl
  have rs9 : 7300000 ≤ room_1.slots := Nat.le_of_ble_eq_true rfl
  have hcs : cs + 0 ≤ room_1.cells ∧ ss + 0 ≤ room_1.slots := ⟨by omega, by omega⟩
  have hB : BB g cs o 186 := ⟨by rw [ho]; exact Nat.le_refl _, by rw [ho]; omega⟩
  obtain ⟨qq, nn, hq, hq6, hn, hn6⟩ := id hPI
  obtain ⟨g9, hA, hV, hF, hYB, ⟨hR, hR20⟩, ⟨hlt, hlt20⟩, hRC, ⟨hB8, hBR⟩, hKH⟩ := id H
  have hC16 := g9.2.2.2
  have hq0 : q 0 = nI C := (hA.1 0 (by omega)).trans g9.1
  have hq1 : q 1 = nI P0 := (hA.1 1 (by omega)).trans g9.2.1
  refine v_iload X dL_law_946 rfl ?_
  refine v_bipush X dL_law_948 (v := (17 : Int32)) (by decide) ?_
  refine v_cs X (Nat.zero_add _).symm yv_L_low m_ml_L_62 (c_L_low l g (17 : Int32) 17 rfl y (by decide) (by decide)) rfl rfl (Nat.le_of_ble_eq_true rfl) ⟨Nat.le_of_ble_eq_true rfl, Nat.le_of_ble_eq_true rfl⟩ hcs dL_law_950 rfl ?_
  obtain ⟨cd, hcd, ecd⟩ : ∃ k, k < 17 ∧ (lwF y 17) = nI k := lwF_lt (by decide) (by decide)
  rw [ecd]
  refine v_istore X dL_law_953 (Nat.le_of_ble_eq_true rfl) rfl ?_
  refine v_iload X dL_law_955 rfl ?_
  refine v_aload_n X dL_law_957 (i := 2) rfl rfl ?_
  refine v_iconst X dL_law_958 (v := (0 : Int32)) (by decide) ?_
  refine v_ialdB X hB dL_law_959 179 (Nat.le_of_ble_eq_true rfl) rfl 0 rfl (by omega) (Nat.le_of_ble_eq_true rfl) ?_
  refine v_icmp_ge X dL_law_960 (tgt := 967) (by decide) (fun c960 => ?_) (fun c960 => ?_)
  · skip
    have hcC : ¬ cd < C := by
      rw [hq0] at c960
      have := le_of_nI (by omega) (by omega) c960
      omega
    refine v_iconst X dL_law_967 (v := (0 : Int32)) (by decide) ?_
    refine v_istore X dL_law_968 (Nat.le_of_ble_eq_true rfl) rfl ?_
    refine v_aload_n X dL_law_970 (i := 1) rfl rfl ?_
    refine v_iload X dL_law_971 rfl ?_
    refine v_cvB X (Nat.zero_add _).symm yv_X7_removeCard m_ml_L_108 0 0 (c_X7_removeCard l g cs o σ ρ S P φ κ τ π qq nn hq hq6 hn hn6 (nI cd) C P0 g9.1 g9.2.1 g9.2.2.1 hC16) hB (Nat.le_of_ble_eq_true rfl) rfl (Nat.le_of_ble_eq_true rfl) rfl (L' := (yaL g o (if (rcE σ (nI cd)) = 0 then (rmS (c8 σ) (nt (nI cd)) P0 C) else σ) ρ (svS (rcE σ (nI cd)) S qq σ) (svS (rcE σ (nI cd)) P qq ρ) φ κ τ (svπ (rcE σ (nI cd)) π qq nn) q h t c w b b2)) (rfl) rfl (Nat.le_of_ble_eq_true rfl) rfl rfl (Nat.le_of_ble_eq_true rfl) ⟨Nat.le_of_ble_eq_true rfl, Nat.le_of_ble_eq_true rfl⟩ hcs dL_law_973 rfl ?_
    have hE : (rcE σ (nI cd)) = -1 := (E_rc g9.1 hC16 (by omega)).trans (if_neg hcC)
    have hn0 : ¬ (rcE σ (nI cd)) = 0 := by rw [hE]; decide
    rw [if_neg hn0, if_neg hn0, hE]
    refine v_iload X dL_law_976 rfl ?_
    refine v_if_eq X dL_law_978 (tgt := 989) (by decide) (fun c978 => ?_) (fun c978 => ?_)
    · skip
      refine v_iconst X dL_law_989 (v := (-1 : Int32)) (by decide) ?_
      refine v_icmp_eq X dL_law_990 (tgt := 995) (by decide) (fun c990 => ?_) (fun c990 => ?_)
      · skip
        refine v_iload X dL_law_995 rfl ?_
        refine v_if_eq X dL_law_997 (tgt := 1069) (by decide) (fun c997 => ?_) (fun c997 => ?_)
        · skip
          refine v_goto X dL_law_1069 (tgt := 1826) (by decide) ?_
          refine v_drop 19 ?_
          exact kk f cs ss σ ρ (svS (-1 : Int32) S qq σ) (svS (-1 : Int32) P qq ρ) φ (svπ (-1 : Int32) π qq nn) q h t c w b b2 C P0 R lt B 0    (by omega) (by omega) (by omega) ((by rw [if_pos rfl]; simp only [up_self]; exact H)) (PI_sv hPI hq6 hn6)
        · skip
          exact absurd c997 (by decide)
      · skip
        exact absurd rfl c990
    · skip
      exact absurd c978 (by decide)
  · skip
    have hcC : cd < C := by
      rw [hq0] at c960
      exact lt_of_nI (by omega) (by omega) c960
    refine v_iconst X dL_law_963 (v := (1 : Int32)) (by decide) ?_
    refine v_goto X dL_law_964 (tgt := 968) (by decide) ?_
    refine v_istore X dL_law_968 (Nat.le_of_ble_eq_true rfl) rfl ?_
    refine v_aload_n X dL_law_970 (i := 1) rfl rfl ?_
    refine v_iload X dL_law_971 rfl ?_
    refine v_cvB X (Nat.zero_add _).symm yv_X7_removeCard m_ml_L_108 0 0 (c_X7_removeCard l g cs o σ ρ S P φ κ τ π qq nn hq hq6 hn hn6 (nI cd) C P0 g9.1 g9.2.1 g9.2.2.1 hC16) hB (Nat.le_of_ble_eq_true rfl) rfl (Nat.le_of_ble_eq_true rfl) rfl (L' := (yaL g o (if (rcE σ (nI cd)) = 0 then (rmS (c8 σ) (nt (nI cd)) P0 C) else σ) ρ (svS (rcE σ (nI cd)) S qq σ) (svS (rcE σ (nI cd)) P qq ρ) φ κ τ (svπ (rcE σ (nI cd)) π qq nn) q h t c w b b2)) (rfl) rfl (Nat.le_of_ble_eq_true rfl) rfl rfl (Nat.le_of_ble_eq_true rfl) ⟨Nat.le_of_ble_eq_true rfl, Nat.le_of_ble_eq_true rfl⟩ hcs dL_law_973 rfl ?_
    have hPC9 : P0 < C := by have := g9.2.2.1; omega
    have hE : (rcE σ (nI cd)) = 0 := (E_rc g9.1 hC16 (by omega)).trans (if_pos hcC)
    rw [if_pos hE, if_pos hE, nt_nI (by omega)]
    refine v_iload X dL_law_976 rfl ?_
    refine v_if_eq X dL_law_978 (tgt := 989) (by decide) (fun c978 => ?_) (fun c978 => ?_)
    · skip
      exact absurd c978 (by decide)
    · skip
      refine v_aload_n X dL_law_981 (i := 2) rfl rfl ?_
      refine v_iconst X dL_law_982 (v := (0 : Int32)) (by decide) ?_
      refine v_ialdB X hB dL_law_983 179 (Nat.le_of_ble_eq_true rfl) rfl 0 rfl (by omega) (Nat.le_of_ble_eq_true rfl) ?_
      refine v_iconst X dL_law_984 (v := (1 : Int32)) (by decide) ?_
      refine v_isub X dL_law_985 ?_
      refine v_goto X dL_law_986 (tgt := 990) (by decide) ?_
      refine v_icmp_eq X dL_law_990 (tgt := 995) (by decide) (fun c990 => ?_) (fun c990 => ?_)
      · skip
        refine v_iload X dL_law_995 rfl ?_
        refine v_if_eq X dL_law_997 (tgt := 1069) (by decide) (fun c997 => ?_) (fun c997 => ?_)
        · skip
          exact absurd c997 (by decide)
        · skip
          refine v_aload_n X dL_law_1000 (i := 2) rfl rfl ?_
          refine v_iconst X dL_law_1001 (v := (0 : Int32)) (by decide) ?_
          refine v_dup2 X dL_law_1002 rfl rfl ?_
          refine v_ialdB X hB dL_law_1003 179 (Nat.le_of_ble_eq_true rfl) rfl 0 rfl (by omega) (Nat.le_of_ble_eq_true rfl) ?_
          refine v_iconst X dL_law_1004 (v := (1 : Int32)) (by decide) ?_
          refine v_isub X dL_law_1005 ?_
          rw [show ((q 0) - (1 : Int32)) = nI (C - 1) from by rw [hq0]; exact pk_sub (b := 1) (by omega)]
          refine v_iastB X hB dL_law_1006 179 (Nat.le_of_ble_eq_true rfl) rfl 0 rfl (by omega) (Nat.le_of_ble_eq_true rfl) (L' := (yaL g o (rmS (c8 σ) cd P0 C) ρ (svS (rcE σ (nI cd)) S qq σ) (svS (rcE σ (nI cd)) P qq ρ) φ κ τ (svπ (rcE σ (nI cd)) π qq nn) (upd q 0 (nI (C - 1))) h t c w b b2)) rfl ?_
          refine v_iconst X dL_law_1007 (v := (3 : Int32)) (by decide) ?_
          refine v_iload X dL_law_1008 rfl ?_
          refine v_imul X dL_law_1010 ?_
          refine v_istore X dL_law_1011 (Nat.le_of_ble_eq_true rfl) rfl ?_
          have LP1013 : ∀ (n_ : Nat) (m0 : Nat), (3 * cd ≤ m0) → (m0 ≤ 3 * (C - 1)) → 3 * (C - 1) - m0 < n_ → V p l e room_1 s m #[Value.ref a0] below meth c0 Q g 28 cs ss cs (ovr f o (yaL g o (rmS (c8 σ) cd P0 C) ρ (svS (rcE σ (nI cd)) S qq σ) (svS (rcE σ (nI cd)) P qq ρ) φ κ τ (svπ (rcE σ (nI cd)) π qq nn) (upd q 0 (nI (C - 1))) h t (csh c cd m0) w b b2)) 1013 [some (.ref a0), some (.ref o), some (.ref (o + 179)), some (.ref (o + 180)), some (.ref (o + 181)), some (.ref (o + 182)), some (.ref (o + 183)), some (.ref (o + 184)), some (.ref (o + 185)), some (.int (nI tn)), some (.int x), some (.int y), some (.int kd), some (.int ki), some (.int sd), some (.int bx), some (.int tq), some (.int vv), some (.int (1 : Int32)), some (.int (nI cd)), some (.int (nI m0)), none, none, none, none, none, none, none] [] := by
            intro n_
            induction n_ with
            | zero => intro m0 hm1 hm2 hm_; exact absurd hm_ (Nat.not_lt_zero _)
            | succ n_ ih1013 =>
              intro m0 hm1 hm2 hm1013
              refine v_iload X dL_law_1013 rfl ?_
              refine v_iconst X dL_law_1015 (v := (3 : Int32)) (by decide) ?_
              refine v_aload_n X dL_law_1016 (i := 2) rfl rfl ?_
              refine v_iconst X dL_law_1017 (v := (0 : Int32)) (by decide) ?_
              refine v_ialdB X hB dL_law_1018 179 (Nat.le_of_ble_eq_true rfl) rfl 0 rfl (by omega) (Nat.le_of_ble_eq_true rfl) ?_
              refine v_imul X dL_law_1019 ?_
              refine v_icmp_ge X dL_law_1020 (tgt := 1041) (by decide) (fun c1020 => ?_) (fun c1020 => ?_)
              · skip
                have hm5 : m0 = 3 * (C - 1) := Nat.le_antisymm hm2 (le_of_nI (by omega) (by omega) (by have z := c1020; rw [show (3 : Int32) * (upd q 0 (nI (C - 1))) 0 = nI (3 * (C - 1)) from ix_mul rfl pk_us] at z; exact z))
                refine v_iload X dL_law_1041 rfl ?_
                refine v_aload_n X dL_law_1043 (i := 2) rfl rfl ?_
                refine v_iconst X dL_law_1044 (v := (1 : Int32)) (by decide) ?_
                refine v_ialdB X hB dL_law_1045 179 (Nat.le_of_ble_eq_true rfl) rfl 1 rfl (by omega) (Nat.le_of_ble_eq_true rfl) ?_
                refine v_icmp_ge X dL_law_1046 (tgt := 1056) (by decide) (fun c1046 => ?_) (fun c1046 => ?_)
                · skip
                  have hcP : ¬ cd < P0 := by
                    have z := c1046
                    rw [show (upd q 0 (nI (C - 1))) 1 = nI P0 from (pk_un (by omega)).trans hq1] at z
                    have := le_of_nI (by omega) (by omega) z
                    omega
                  refine v_aload_n X dL_law_1056 (i := 2) rfl rfl ?_
                  refine v_iconst X dL_law_1057 (v := (1 : Int32)) (by decide) ?_
                  refine v_ialdB X hB dL_law_1058 179 (Nat.le_of_ble_eq_true rfl) rfl 1 rfl (by omega) (Nat.le_of_ble_eq_true rfl) ?_
                  refine v_aload_n X dL_law_1059 (i := 2) rfl rfl ?_
                  refine v_iconst X dL_law_1060 (v := (0 : Int32)) (by decide) ?_
                  refine v_ialdB X hB dL_law_1061 179 (Nat.le_of_ble_eq_true rfl) rfl 0 rfl (by omega) (Nat.le_of_ble_eq_true rfl) ?_
                  refine v_icmp_lt X dL_law_1062 (tgt := 1069) (by decide) (fun c1062 => ?_) (fun c1062 => ?_)
                  · skip
                    have hrm : rmP cd P0 C = P0 := by
                      have z := c1062
                      rw [show (upd q 0 (nI (C - 1))) 1 = nI P0 from (pk_un (by omega)).trans hq1, show (upd q 0 (nI (C - 1))) 0 = nI (C - 1) from pk_us] at z
                      have z2 := lt_of_nI (by omega) (by omega) z
                      rw [rmP, if_neg hcP, if_neg (by omega)]
                    refine v_goto X dL_law_1069 (tgt := 1826) (by decide) ?_
                    refine v_drop 19 ?_
                    refine v_drop 20 ?_
                    exact kk f cs ss (rmS (c8 σ) cd P0 C) ρ (svS (rcE σ (nI cd)) S qq σ) (svS (rcE σ (nI cd)) P qq ρ) φ (svπ (rcE σ (nI cd)) π qq nn) (upd q 0 (nI (C - 1))) h t (csh c cd m0) w b b2 (C - 1) (rmP cd P0 C) R lt 0 1    (by omega) (by omega) (by omega) ((by rw [if_neg (by decide), hm5]; exact RQ_rm H hcC (by rw [pk_un (by omega), pk_us]) (by rw [pk_un (by omega), pk_un (by omega), hq1, hrm]) pk_us (fun i hi h0 h1 h8 => by rw [pk_un h8, pk_un h0]))) (PI_sv hPI hq6 hn6)
                  · skip
                    have hrm : rmP cd P0 C = 0 := by
                      have z := c1062
                      rw [show (upd q 0 (nI (C - 1))) 1 = nI P0 from (pk_un (by omega)).trans hq1, show (upd q 0 (nI (C - 1))) 0 = nI (C - 1) from pk_us] at z
                      have z2 := le_of_nI (by omega) (by omega) z
                      rw [rmP, if_neg hcP, if_pos (by omega)]
                    refine v_aload_n X dL_law_1065 (i := 2) rfl rfl ?_
                    refine v_iconst X dL_law_1066 (v := (1 : Int32)) (by decide) ?_
                    refine v_iconst X dL_law_1067 (v := (0 : Int32)) (by decide) ?_
                    refine v_iastB X hB dL_law_1068 179 (Nat.le_of_ble_eq_true rfl) rfl 1 rfl (by omega) (Nat.le_of_ble_eq_true rfl) (L' := (yaL g o (rmS (c8 σ) cd P0 C) ρ (svS (rcE σ (nI cd)) S qq σ) (svS (rcE σ (nI cd)) P qq ρ) φ κ τ (svπ (rcE σ (nI cd)) π qq nn) (upd (upd q 0 (nI (C - 1))) 1 (0 : Int32)) h t (csh c cd m0) w b b2)) rfl ?_
                    refine v_goto X dL_law_1069 (tgt := 1826) (by decide) ?_
                    refine v_drop 19 ?_
                    refine v_drop 20 ?_
                    exact kk f cs ss (rmS (c8 σ) cd P0 C) ρ (svS (rcE σ (nI cd)) S qq σ) (svS (rcE σ (nI cd)) P qq ρ) φ (svπ (rcE σ (nI cd)) π qq nn) (upd (upd q 0 (nI (C - 1))) 1 (0 : Int32)) h t (csh c cd m0) w b b2 (C - 1) (rmP cd P0 C) R lt 0 1    (by omega) (by omega) (by omega) ((by rw [if_neg (by decide), hm5]; exact RQ_rm H hcC (by rw [pk_un (by omega), pk_un (by omega), pk_us]) (by rw [pk_un (by omega), pk_us, hrm] <;> rfl) pk_us (fun i hi h0 h1 h8 => by rw [pk_un h8, pk_un h1, pk_un h0]))) (PI_sv hPI hq6 hn6)
                · skip
                  have hcP : cd < P0 := lt_of_nI (by omega) (by omega) (by have z := c1046; rw [show (upd q 0 (nI (C - 1))) 1 = nI P0 from (pk_un (by omega)).trans hq1] at z; exact z)
                  refine v_aload_n X dL_law_1049 (i := 2) rfl rfl ?_
                  refine v_iconst X dL_law_1050 (v := (1 : Int32)) (by decide) ?_
                  refine v_dup2 X dL_law_1051 rfl rfl ?_
                  refine v_ialdB X hB dL_law_1052 179 (Nat.le_of_ble_eq_true rfl) rfl 1 rfl (by omega) (Nat.le_of_ble_eq_true rfl) ?_
                  refine v_iconst X dL_law_1053 (v := (1 : Int32)) (by decide) ?_
                  refine v_isub X dL_law_1054 ?_
                  rw [show (((upd q 0 (nI (C - 1))) 1) - (1 : Int32)) = nI (P0 - 1) from by rw [pk_un (by omega), hq1]; exact pk_sub (b := 1) (by omega)]
                  refine v_iastB X hB dL_law_1055 179 (Nat.le_of_ble_eq_true rfl) rfl 1 rfl (by omega) (Nat.le_of_ble_eq_true rfl) (L' := (yaL g o (rmS (c8 σ) cd P0 C) ρ (svS (rcE σ (nI cd)) S qq σ) (svS (rcE σ (nI cd)) P qq ρ) φ κ τ (svπ (rcE σ (nI cd)) π qq nn) (upd (upd q 0 (nI (C - 1))) 1 (nI (P0 - 1))) h t (csh c cd m0) w b b2)) rfl ?_
                  refine v_aload_n X dL_law_1056 (i := 2) rfl rfl ?_
                  refine v_iconst X dL_law_1057 (v := (1 : Int32)) (by decide) ?_
                  refine v_ialdB X hB dL_law_1058 179 (Nat.le_of_ble_eq_true rfl) rfl 1 rfl (by omega) (Nat.le_of_ble_eq_true rfl) ?_
                  refine v_aload_n X dL_law_1059 (i := 2) rfl rfl ?_
                  refine v_iconst X dL_law_1060 (v := (0 : Int32)) (by decide) ?_
                  refine v_ialdB X hB dL_law_1061 179 (Nat.le_of_ble_eq_true rfl) rfl 0 rfl (by omega) (Nat.le_of_ble_eq_true rfl) ?_
                  refine v_icmp_lt X dL_law_1062 (tgt := 1069) (by decide) (fun c1062 => ?_) (fun c1062 => ?_)
                  · skip
                    have hrm : rmP cd P0 C = (P0 - 1) := by
                      have z := c1062
                      rw [show (upd (upd q 0 (nI (C - 1))) 1 (nI (P0 - 1))) 1 = nI (P0 - 1) from pk_us, show (upd (upd q 0 (nI (C - 1))) 1 (nI (P0 - 1))) 0 = nI (C - 1) from (pk_un (by omega)).trans pk_us] at z
                      have z2 := lt_of_nI (by omega) (by omega) z
                      rw [rmP, if_pos hcP, if_neg (by omega)]
                    refine v_goto X dL_law_1069 (tgt := 1826) (by decide) ?_
                    refine v_drop 19 ?_
                    refine v_drop 20 ?_
                    exact kk f cs ss (rmS (c8 σ) cd P0 C) ρ (svS (rcE σ (nI cd)) S qq σ) (svS (rcE σ (nI cd)) P qq ρ) φ (svπ (rcE σ (nI cd)) π qq nn) (upd (upd q 0 (nI (C - 1))) 1 (nI (P0 - 1))) h t (csh c cd m0) w b b2 (C - 1) (rmP cd P0 C) R lt 0 1    (by omega) (by omega) (by omega) ((by rw [if_neg (by decide), hm5]; exact RQ_rm H hcC (by rw [pk_un (by omega), pk_un (by omega), pk_us]) (by rw [pk_un (by omega), pk_us, hrm]) pk_us (fun i hi h0 h1 h8 => by rw [pk_un h8, pk_un h1, pk_un h0]))) (PI_sv hPI hq6 hn6)
                  · skip
                    have hrm : rmP cd P0 C = 0 := by
                      have z := c1062
                      rw [show (upd (upd q 0 (nI (C - 1))) 1 (nI (P0 - 1))) 1 = nI (P0 - 1) from pk_us, show (upd (upd q 0 (nI (C - 1))) 1 (nI (P0 - 1))) 0 = nI (C - 1) from (pk_un (by omega)).trans pk_us] at z
                      have z2 := le_of_nI (by omega) (by omega) z
                      rw [rmP, if_pos hcP, if_pos (by omega)]
                    refine v_aload_n X dL_law_1065 (i := 2) rfl rfl ?_
                    refine v_iconst X dL_law_1066 (v := (1 : Int32)) (by decide) ?_
                    refine v_iconst X dL_law_1067 (v := (0 : Int32)) (by decide) ?_
                    refine v_iastB X hB dL_law_1068 179 (Nat.le_of_ble_eq_true rfl) rfl 1 rfl (by omega) (Nat.le_of_ble_eq_true rfl) (L' := (yaL g o (rmS (c8 σ) cd P0 C) ρ (svS (rcE σ (nI cd)) S qq σ) (svS (rcE σ (nI cd)) P qq ρ) φ κ τ (svπ (rcE σ (nI cd)) π qq nn) (upd (upd (upd q 0 (nI (C - 1))) 1 (nI (P0 - 1))) 1 (0 : Int32)) h t (csh c cd m0) w b b2)) rfl ?_
                    refine v_goto X dL_law_1069 (tgt := 1826) (by decide) ?_
                    refine v_drop 19 ?_
                    refine v_drop 20 ?_
                    exact kk f cs ss (rmS (c8 σ) cd P0 C) ρ (svS (rcE σ (nI cd)) S qq σ) (svS (rcE σ (nI cd)) P qq ρ) φ (svπ (rcE σ (nI cd)) π qq nn) (upd (upd (upd q 0 (nI (C - 1))) 1 (nI (P0 - 1))) 1 (0 : Int32)) h t (csh c cd m0) w b b2 (C - 1) (rmP cd P0 C) R lt 0 1    (by omega) (by omega) (by omega) ((by rw [if_neg (by decide), hm5]; exact RQ_rm H hcC (by rw [pk_un (by omega), pk_un (by omega), pk_un (by omega), pk_us]) (by rw [pk_un (by omega), pk_us, hrm] <;> rfl) pk_us (fun i hi h0 h1 h8 => by rw [pk_un h8, pk_un h1, pk_un h1, pk_un h0]))) (PI_sv hPI hq6 hn6)
              · skip
                have hm5 : m0 < 3 * (C - 1) := lt_of_nI (by omega) (by omega) (by have z := c1020; rw [show (3 : Int32) * (upd q 0 (nI (C - 1))) 0 = nI (3 * (C - 1)) from ix_mul rfl pk_us] at z; exact z)
                refine v_aload X dL_law_1023 rfl ?_
                refine v_iload X dL_law_1025 rfl ?_
                refine v_aload X dL_law_1027 rfl ?_
                refine v_iload X dL_law_1029 rfl ?_
                refine v_iconst X dL_law_1031 (v := (3 : Int32)) (by decide) ?_
                refine v_iadd X dL_law_1032 ?_
                refine v_ialdB X hB dL_law_1033 182 (Nat.le_of_ble_eq_true rfl) rfl (m0 + 3) (ix_add rfl rfl) (by omega) (Nat.le_of_ble_eq_true rfl) ?_
                refine v_iastB X hB dL_law_1034 182 (Nat.le_of_ble_eq_true rfl) rfl m0 rfl (by omega) (Nat.le_of_ble_eq_true rfl) (L' := (yaL g o (rmS (c8 σ) cd P0 C) ρ (svS (rcE σ (nI cd)) S qq σ) (svS (rcE σ (nI cd)) P qq ρ) φ κ τ (svπ (rcE σ (nI cd)) π qq nn) (upd q 0 (nI (C - 1))) h t (upd (csh c cd m0) m0 ((csh c cd m0) (m0 + 3))) w b b2)) rfl ?_
                refine v_iinc X dL_law_1035 (v := nI (m0 + 1)) rfl (ix_inc rfl) (Nat.le_of_ble_eq_true rfl) rfl ?_
                refine v_goto X dL_law_1038 (tgt := 1013) (by decide) ?_
                exact V.cast (ih1013 (m0 + 1) (by omega) (by omega) (by omega)) (rfl) (rfl) (by rw [csh_s (by omega)])
          exact V.cast (LP1013 _ (3 * cd) (Nat.le_refl _) (by omega) (Nat.lt_succ_self _)) (by rw [show (3 : Int32) * nI cd = nI (3 * cd) from ix_mul rfl rfl]; rfl) (rfl) (by rw [csh_0])
      · skip
        exact absurd (by rw [rmS, pk_un (by omega), pk_us, hq0]; exact (pk_sub (b := 1) (by omega)).symm) c990
