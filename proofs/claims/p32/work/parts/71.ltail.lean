/-! the law's main method: the end of a turn -/
set_option maxRecDepth 100000 in
set_option maxHeartbeats 4000000 in
theorem law_tail {p : Program} {l : Launch} {e : Env} {s : State} {m : MethodId} {below : List Frame} {meth : Method} {c0 : Code} {Q : State → Prop} {g : Ge} {a0 o : Nat} (X : Cx p #[Value.ref a0] s m meth c0 g cL_law 28 RL ret 0) (ho : g.2.2 = o) {f : Pic} {cs ss tn : Nat} {σ ρ : Nat → Int32} {S P : Nat → Nat → Int32} {φ κ τ π q h t c w b b2 : Nat → Int32} {x y kd ki sd bx tq vv ot : Int32} {C P0 R lt B : Nat} (h186 : 186 ≤ cs) (hcM : cs + 9 ≤ 599000) (hsM : ss + 153 ≤ 7300000) (HQ : RQ C P0 R lt B σ ρ (upd q 8 (if ot = 0 then q 8 else 0)) h t c w b b2)
    (kk : ∀ (f : Pic) (cs' ss' : Nat) (φ q : Nat → Int32), 186 ≤ cs' → cs' ≤ cs + 9 → ss' ≤ ss + 153 → RQ C P0 R lt B σ ρ q h t c w b b2 → V p l e room_1 s m #[Value.ref a0] below meth c0 Q g 28 cs' ss' cs' (ovr f o (yaL g o σ ρ S P φ κ τ π q h t c w b b2)) 142 [some (.ref a0), some (.ref o), some (.ref (o + 179)), some (.ref (o + 180)), some (.ref (o + 181)), some (.ref (o + 182)), some (.ref (o + 183)), some (.ref (o + 184)), some (.ref (o + 185)), some (.int (nI (tn + 1))), some (.int x), some (.int y), some (.int kd), some (.int ki), some (.int sd), some (.int bx), some (.int tq), some (.int vv), some (.int ot), none, none, none, none, none, none, none, none, none] []) :
    V p l e room_1 s m #[Value.ref a0] below meth c0 Q g 28 cs ss cs (ovr f o (yaL g o σ ρ S P φ κ τ π q h t c w b b2)) 1826 [some (.ref a0), some (.ref o), some (.ref (o + 179)), some (.ref (o + 180)), some (.ref (o + 181)), some (.ref (o + 182)), some (.ref (o + 183)), some (.ref (o + 184)), some (.ref (o + 185)), some (.int (nI tn)), some (.int x), some (.int y), some (.int kd), some (.int ki), some (.int sd), some (.int bx), some (.int tq), some (.int vv), some (.int ot), none, none, none, none, none, none, none, none, none] [] := by
  have rc9 : 599000 ≤ room_1.cells := Nat.le_of_ble_eq_true rfl
  have rs9 : 7300000 ≤ room_1.slots := Nat.le_of_ble_eq_true rfl
  have hB : BB g cs o 186 := ⟨by rw [ho]; exact Nat.le_refl _, by rw [ho]; omega⟩
  refine v_aload_n X dL_law_1826 (i := 2) rfl rfl ?_
  refine v_bipush X dL_law_1827 (v := (8 : Int32)) (by decide) ?_
  refine v_iload X dL_law_1829 rfl ?_
  refine v_if_eq X dL_law_1831 (tgt := 1838) (by decide) (fun c1831 => ?_) (fun c1831 => ?_)
  · skip
    rw [if_pos c1831] at HQ
    obtain ⟨g9, hA, hV, hF, hYB, ⟨hR, hR20⟩, ⟨hlt, hlt20⟩, hRC, -, -⟩ := id HQ
    have hY := YB_n hYB
    refine v_aload_n X dL_law_1838 (i := 2) rfl rfl ?_
    refine v_bipush X dL_law_1839 (v := (8 : Int32)) (by decide) ?_
    refine v_ialdB X hB dL_law_1841 179 (Nat.le_of_ble_eq_true rfl) rfl 8 rfl (by omega) (Nat.le_of_ble_eq_true rfl) ?_
    refine v_iastB X hB dL_law_1842 179 (Nat.le_of_ble_eq_true rfl) rfl 8 rfl (by omega) (Nat.le_of_ble_eq_true rfl) (L' := (yaL g o σ ρ S P φ κ τ π (upd q 8 (q 8)) h t c w b b2)) rfl ?_
    refine v_aload_n X dL_law_1843 (i := 1) rfl rfl ?_
    refine v_iload X dL_law_1844 rfl ?_
    refine v_iconst X dL_law_1846 (v := (3 : Int32)) (by decide) ?_
    refine v_ishr X dL_law_1847 ?_
    refine v_aload_n X dL_law_1848 (i := 2) rfl rfl ?_
    refine v_aload_n X dL_law_1849 (i := 3) rfl rfl ?_
    refine v_aload X dL_law_1850 rfl ?_
    refine v_aload X dL_law_1852 rfl ?_
    refine v_aload X dL_law_1854 rfl ?_
    by_cases hx : 0 < lwF (y >>> ((3 : Int32) &&& 31)) 4
    · skip
      refine v_callS X (Nat.zero_add _).symm yv_L_same m_ml_L_120 (c_L_same_0 l g cs o σ ρ S P φ κ τ π (upd q 8 (q 8)) h t c w b b2 (y >>> ((3 : Int32) &&& 31)) C P0 R lt hA g9 hV hY hF hR hR20 hlt hlt20 hRC hx f _ rfl hB) rfl rfl (Nat.le_of_ble_eq_true rfl) ⟨Nat.le_of_ble_eq_true rfl, Nat.le_of_ble_eq_true rfl⟩ ⟨by omega, by omega⟩ dL_law_1856 rfl ?_
      refine v_if_ne X dL_law_1859 (tgt := 1864) (by decide) (fun c1859 => ?_) (fun c1859 => ?_)
      · skip
        refine v_iinc X dL_law_1864 (v := nI (tn + 1)) rfl (ix_inc rfl) (Nat.le_of_ble_eq_true rfl) rfl ?_
        refine v_goto X dL_law_1867 (tgt := 142) (by decide) ?_
        exact kk f cs ss φ (upd q 8 (q 8)) (by omega) (by omega) (by omega) HQ
      · skip
        exact absurd c1859 (by decide)
    · skip
      refine v_callS X (Nat.zero_add _).symm yv_L_same m_ml_L_120 (c_L_same_1 l g cs o σ ρ S P φ κ τ π (upd q 8 (q 8)) h t c w b b2 (y >>> ((3 : Int32) &&& 31)) C P0 R lt hA g9 hV hY hF hR hR20 hlt hlt20 hRC hx f _ rfl hB) rfl rfl (Nat.le_of_ble_eq_true rfl) ⟨Nat.le_of_ble_eq_true rfl, Nat.le_of_ble_eq_true rfl⟩ ⟨by omega, by omega⟩ dL_law_1856 rfl ?_
      refine v_if_ne X dL_law_1859 (tgt := 1864) (by decide) (fun c1859 => ?_) (fun c1859 => ?_)
      · skip
        refine v_iinc X dL_law_1864 (v := nI (tn + 1)) rfl (ix_inc rfl) (Nat.le_of_ble_eq_true rfl) rfl ?_
        refine v_goto X dL_law_1867 (tgt := 142) (by decide) ?_
        exact kk _ (cs + 9) (ss + 153) _ (upd q 8 (q 8)) (by omega) (by omega) (by omega) HQ
      · skip
        exact absurd c1859 (by decide)
  · skip
    rw [if_neg c1831] at HQ
    obtain ⟨g9, hA, hV, hF, hYB, ⟨hR, hR20⟩, ⟨hlt, hlt20⟩, hRC, -, -⟩ := id HQ
    have hY := YB_n hYB
    refine v_iconst X dL_law_1834 (v := (0 : Int32)) (by decide) ?_
    refine v_goto X dL_law_1835 (tgt := 1842) (by decide) ?_
    refine v_iastB X hB dL_law_1842 179 (Nat.le_of_ble_eq_true rfl) rfl 8 rfl (by omega) (Nat.le_of_ble_eq_true rfl) (L' := (yaL g o σ ρ S P φ κ τ π (upd q 8 (0 : Int32)) h t c w b b2)) rfl ?_
    refine v_aload_n X dL_law_1843 (i := 1) rfl rfl ?_
    refine v_iload X dL_law_1844 rfl ?_
    refine v_iconst X dL_law_1846 (v := (3 : Int32)) (by decide) ?_
    refine v_ishr X dL_law_1847 ?_
    refine v_aload_n X dL_law_1848 (i := 2) rfl rfl ?_
    refine v_aload_n X dL_law_1849 (i := 3) rfl rfl ?_
    refine v_aload X dL_law_1850 rfl ?_
    refine v_aload X dL_law_1852 rfl ?_
    refine v_aload X dL_law_1854 rfl ?_
    by_cases hx : 0 < lwF (y >>> ((3 : Int32) &&& 31)) 4
    · skip
      refine v_callS X (Nat.zero_add _).symm yv_L_same m_ml_L_120 (c_L_same_0 l g cs o σ ρ S P φ κ τ π (upd q 8 (0 : Int32)) h t c w b b2 (y >>> ((3 : Int32) &&& 31)) C P0 R lt hA g9 hV hY hF hR hR20 hlt hlt20 hRC hx f _ rfl hB) rfl rfl (Nat.le_of_ble_eq_true rfl) ⟨Nat.le_of_ble_eq_true rfl, Nat.le_of_ble_eq_true rfl⟩ ⟨by omega, by omega⟩ dL_law_1856 rfl ?_
      refine v_if_ne X dL_law_1859 (tgt := 1864) (by decide) (fun c1859 => ?_) (fun c1859 => ?_)
      · skip
        refine v_iinc X dL_law_1864 (v := nI (tn + 1)) rfl (ix_inc rfl) (Nat.le_of_ble_eq_true rfl) rfl ?_
        refine v_goto X dL_law_1867 (tgt := 142) (by decide) ?_
        exact kk f cs ss φ (upd q 8 (0 : Int32)) (by omega) (by omega) (by omega) HQ
      · skip
        exact absurd c1859 (by decide)
    · skip
      refine v_callS X (Nat.zero_add _).symm yv_L_same m_ml_L_120 (c_L_same_1 l g cs o σ ρ S P φ κ τ π (upd q 8 (0 : Int32)) h t c w b b2 (y >>> ((3 : Int32) &&& 31)) C P0 R lt hA g9 hV hY hF hR hR20 hlt hlt20 hRC hx f _ rfl hB) rfl rfl (Nat.le_of_ble_eq_true rfl) ⟨Nat.le_of_ble_eq_true rfl, Nat.le_of_ble_eq_true rfl⟩ ⟨by omega, by omega⟩ dL_law_1856 rfl ?_
      refine v_if_ne X dL_law_1859 (tgt := 1864) (by decide) (fun c1859 => ?_) (fun c1859 => ?_)
      · skip
        refine v_iinc X dL_law_1864 (v := nI (tn + 1)) rfl (ix_inc rfl) (Nat.le_of_ble_eq_true rfl) rfl ?_
        refine v_goto X dL_law_1867 (tgt := 142) (by decide) ?_
        exact kk _ (cs + 9) (ss + 153) _ (upd q 8 (0 : Int32)) (by omega) (by omega) (by omega) HQ
      · skip
        exact absurd c1859 (by decide)
