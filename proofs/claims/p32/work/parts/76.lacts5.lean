/-! the law's main method: a pick is taken back -/
set_option maxRecDepth 100000 in
set_option maxHeartbeats 4000000 in
theorem lk_16 {p : Program} {l : Launch} {e : Env} {s : State} {m : MethodId} {below : List Frame} {meth : Method} {c0 : Code} {Q : State → Prop} {g : Ge} {a0 o : Nat} (X : Cx p #[Value.ref a0] s m meth c0 g cL_law 28 RL ret 0) (ho : g.2.2 = o) {f : Pic} {cs ss tn : Nat} {σ ρ : Nat → Int32} {S P : Nat → Nat → Int32} {φ κ τ π q h t c w b b2 : Nat → Int32} {x y kd ki sd bx tq vv : Int32} {C P0 R lt B : Nat} (h186 : 186 ≤ cs) (hcM : cs + 60 ≤ 599000) (hsM : ss + 330 ≤ 7300000) (H : RQ C P0 R lt B σ ρ q h t c w b b2) (hPI : PI π)
    (kk : ∀ (f : Pic) (cs' ss' : Nat) (σ' ρ' : Nat → Int32) (S' P' : Nat → Nat → Int32) (φ' π' q' h' t' c' w' b' b2' : Nat → Int32) (C' P0' R' lt' B' : Nat) (ot : Int32), 186 ≤ cs' → cs' ≤ cs + 60 → ss' ≤ ss + 330 → RQ C' P0' R' lt' B' σ' ρ' (upd q' 8 (if ot = 0 then q' 8 else 0)) h' t' c' w' b' b2' → PI π' → V p l e room_1 s m #[Value.ref a0] below meth c0 Q g 28 cs' ss' cs' (ovr f o (yaL g o σ' ρ' S' P' φ' κ τ π' q' h' t' c' w' b' b2')) 1826 [some (.ref a0), some (.ref o), some (.ref (o + 179)), some (.ref (o + 180)), some (.ref (o + 181)), some (.ref (o + 182)), some (.ref (o + 183)), some (.ref (o + 184)), some (.ref (o + 185)), some (.int (nI tn)), some (.int x), some (.int y), some (.int kd), some (.int ki), some (.int sd), some (.int bx), some (.int tq), some (.int vv), some (.int ot), none, none, none, none, none, none, none, none, none] []) :
    V p l e room_1 s m #[Value.ref a0] below meth c0 Q g 28 cs ss cs (ovr f o (yaL g o σ ρ S P φ κ τ π q h t c w b b2)) 1638 [some (.ref a0), some (.ref o), some (.ref (o + 179)), some (.ref (o + 180)), some (.ref (o + 181)), some (.ref (o + 182)), some (.ref (o + 183)), some (.ref (o + 184)), some (.ref (o + 185)), some (.int (nI tn)), some (.int x), some (.int y), some (.int kd), some (.int ki), some (.int sd), some (.int bx), some (.int tq), some (.int vv), some (.int (1 : Int32)), none, none, none, none, none, none, none, none, none] [] := by
  have rc9 : 599000 ≤ room_1.cells := Nat.le_of_ble_eq_true rfl
  have rs9 : 7300000 ≤ room_1.slots := Nat.le_of_ble_eq_true rfl
  have hcs : cs + 0 ≤ room_1.cells ∧ ss + 0 ≤ room_1.slots := ⟨by omega, by omega⟩
  have hB : BB g cs o 186 := ⟨by rw [ho]; exact Nat.le_refl _, by rw [ho]; omega⟩
  obtain ⟨qq, nn, hq, hq6, hn, hn6⟩ := id hPI
  obtain ⟨g9, hA, hV, hF, hYB, ⟨hR, hR20⟩, ⟨hlt, hlt20⟩, hRC, ⟨hB8, hBR⟩, hKH⟩ := id H
  have hC16 := g9.2.2.2
  have hq8 : q 8 = nI B := (hA.1 8 (by omega)).trans hB8
  refine v_iconst X dL_law_1638 (v := (0 : Int32)) (by decide) ?_
  refine v_istore X dL_law_1639 (Nat.le_of_ble_eq_true rfl) rfl ?_
  refine v_aload_n X dL_law_1641 (i := 2) rfl rfl ?_
  refine v_bipush X dL_law_1642 (v := (8 : Int32)) (by decide) ?_
  refine v_ialdB X hB dL_law_1644 179 (Nat.le_of_ble_eq_true rfl) rfl 8 rfl (by omega) (Nat.le_of_ble_eq_true rfl) ?_
  refine v_if_le X dL_law_1645 (tgt := 1652) (by decide) (fun c1645 => ?_) (fun c1645 => ?_)
  · skip
    have hB0 : B = 0 := by
      have z := c1645
      rw [hq8] at z
      have := le_of_nI (b := 0) (by omega) (by omega) z
      omega
    refine v_iconst X dL_law_1652 (v := (0 : Int32)) (by decide) ?_
    refine v_istore X dL_law_1653 (Nat.le_of_ble_eq_true rfl) rfl ?_
    refine v_aload_n X dL_law_1655 (i := 2) rfl rfl ?_
    refine v_bipush X dL_law_1656 (v := (8 : Int32)) (by decide) ?_
    refine v_ialdB X hB dL_law_1658 179 (Nat.le_of_ble_eq_true rfl) rfl 8 rfl (by omega) (Nat.le_of_ble_eq_true rfl) ?_
    refine v_iconst X dL_law_1659 (v := (1 : Int32)) (by decide) ?_
    refine v_isub X dL_law_1660 ?_
    rw [show ((q 8) - (1 : Int32)) = (-1 : Int32) from by rw [hq8, hB0]; decide]
    refine v_istore X dL_law_1661 (Nat.le_of_ble_eq_true rfl) rfl ?_
    refine v_iload X dL_law_1663 rfl ?_
    refine v_bipush X dL_law_1665 (v := (9 : Int32)) (by decide) ?_
    refine v_icmp_le X dL_law_1667 (tgt := 1675) (by decide) (fun c1667 => ?_) (fun c1667 => ?_)
    · skip
      refine v_aload X dL_law_1675 rfl ?_
      refine v_astore X dL_law_1677 (Nat.le_of_ble_eq_true rfl) rfl ?_
      refine v_bipush X dL_law_1679 (v := (6 : Int32)) (by decide) ?_
      refine v_iload X dL_law_1681 rfl ?_
      refine v_if_ge X dL_law_1683 (tgt := 1690) (by decide) (fun c1683 => ?_) (fun c1683 => ?_)
      · skip
        exact absurd c1683 (by decide)
      · skip
        refine v_iconst X dL_law_1686 (v := (0 : Int32)) (by decide) ?_
        refine v_goto X dL_law_1687 (tgt := 1695) (by decide) ?_
        refine v_imul X dL_law_1695 ?_
        refine v_istore X dL_law_1696 (Nat.le_of_ble_eq_true rfl) rfl ?_
        refine v_aload_n X dL_law_1698 (i := 1) rfl rfl ?_
        refine v_cvB X (Nat.zero_add _).symm yv_X7_takeBack m_ml_L_117 0 0 (c_X7_takeBack l g cs o σ ρ S P φ κ τ π qq nn hq hq6 hn hn6 B 0 lt hB8 (by omega) (by omega) (fun q => absurd q (by omega)) hlt hlt20) hB (Nat.le_of_ble_eq_true rfl) rfl (Nat.le_of_ble_eq_true rfl) rfl (L' := (yaL g o (if tbE B = 0 then ltS σ ρ lt 0 else σ) (if tbE B = 0 then upd ρ 140 (nI ((lt + 19) % 20)) else ρ) (svS (tbE B) S qq σ) (svS (tbE B) P qq ρ) φ κ τ (svπ (tbE B) π qq nn) q h t c w b b2)) (rfl) rfl (Nat.le_of_ble_eq_true rfl) rfl rfl (Nat.le_of_ble_eq_true rfl) ⟨Nat.le_of_ble_eq_true rfl, Nat.le_of_ble_eq_true rfl⟩ hcs dL_law_1699 rfl ?_
        have hE : tbE B = -3 := by rw [tbE, if_pos hB0]
        have hn0 : ¬ tbE B = 0 := by rw [hE]; decide
        rw [if_neg hn0, if_neg hn0, if_neg hn0, hE]
        refine v_iload X dL_law_1702 rfl ?_
        refine v_if_eq X dL_law_1704 (tgt := 1715) (by decide) (fun c1704 => ?_) (fun c1704 => ?_)
        · skip
          refine v_bipush X dL_law_1715 (v := (-3 : Int32)) (by decide) ?_
          refine v_icmp_eq X dL_law_1717 (tgt := 1722) (by decide) (fun c1717 => ?_) (fun c1717 => ?_)
          · skip
            refine v_iload X dL_law_1722 rfl ?_
            refine v_if_eq X dL_law_1724 (tgt := 1826) (by decide) (fun c1724 => ?_) (fun c1724 => ?_)
            · skip
              refine v_drop 19 ?_
              refine v_drop 20 ?_
              refine v_drop 21 ?_
              refine v_drop 22 ?_
              exact kk f cs ss σ ρ (svS (-3 : Int32) S qq σ) (svS (-3 : Int32) P qq ρ) φ (svπ (-3 : Int32) π qq nn) q h t c w b b2 C P0 R lt B 0    (by omega) (by omega) (by omega) ((by rw [if_pos rfl]; simp only [up_self]; exact H)) (PI_sv hPI hq6 hn6)
            · skip
              exact absurd c1724 (by decide)
          · skip
            exact absurd rfl c1717
        · skip
          exact absurd c1704 (by decide)
    · skip
      exact absurd c1667 (by decide)
  · skip
    obtain ⟨B1, hB1⟩ : ∃ B1, B = B1 + 1 := ⟨B - 1, by
      have z := c1645
      rw [hq8] at z
      have := lt_of_nI (a := 0) (by omega) (by omega) z
      omega⟩
    subst hB1
    obtain ⟨k9, pp, hk9, hpp, hr2, en4, en0, hs1, HB⟩ := RQ_back H
    refine v_iconst X dL_law_1648 (v := (1 : Int32)) (by decide) ?_
    refine v_goto X dL_law_1649 (tgt := 1653) (by decide) ?_
    refine v_istore X dL_law_1653 (Nat.le_of_ble_eq_true rfl) rfl ?_
    refine v_aload_n X dL_law_1655 (i := 2) rfl rfl ?_
    refine v_bipush X dL_law_1656 (v := (8 : Int32)) (by decide) ?_
    refine v_ialdB X hB dL_law_1658 179 (Nat.le_of_ble_eq_true rfl) rfl 8 rfl (by omega) (Nat.le_of_ble_eq_true rfl) ?_
    refine v_iconst X dL_law_1659 (v := (1 : Int32)) (by decide) ?_
    refine v_isub X dL_law_1660 ?_
    rw [show ((q 8) - (1 : Int32)) = nI B1 from by rw [hq8]; exact pk_sub (b := 1) (by omega)]
    refine v_istore X dL_law_1661 (Nat.le_of_ble_eq_true rfl) rfl ?_
    refine v_iload X dL_law_1663 rfl ?_
    refine v_bipush X dL_law_1665 (v := (9 : Int32)) (by decide) ?_
    refine v_icmp_le X dL_law_1667 (tgt := 1675) (by decide) (fun c1667 => ?_) (fun c1667 => ?_)
    · skip
      have hn9 : B1 < 10 := by
        have := le_of_nI (b := 9) (by omega) (by omega) c1667
        omega
      refine v_aload X dL_law_1675 rfl ?_
      refine v_astore X dL_law_1677 (Nat.le_of_ble_eq_true rfl) rfl ?_
      refine v_bipush X dL_law_1679 (v := (6 : Int32)) (by decide) ?_
      refine v_iload X dL_law_1681 rfl ?_
      refine v_if_ge X dL_law_1683 (tgt := 1690) (by decide) (fun c1683 => ?_) (fun c1683 => ?_)
      · skip
        refine v_iload X dL_law_1690 rfl ?_
        refine v_bipush X dL_law_1692 (v := (10 : Int32)) (by decide) ?_
        refine v_irem X dL_law_1694 (by decide) ?_
        rw [show ((nI B1) - (nI B1) / (10 : Int32) * (10 : Int32)) = nI B1 from (pk_rem (a := B1) (d := 10) (by omega) (by omega) (by omega)).trans (congrArg nI (by omega))]
        refine v_imul X dL_law_1695 ?_
        refine v_istore X dL_law_1696 (Nat.le_of_ble_eq_true rfl) rfl ?_
        refine v_aload_n X dL_law_1698 (i := 1) rfl rfl ?_
        refine v_cvB X (Nat.zero_add _).symm yv_X7_takeBack m_ml_L_117 0 0 (c_X7_takeBack l g cs o σ ρ S P φ κ τ π qq nn hq hq6 hn hn6 (B1 + 1) k9 lt hB8 (by omega) hk9 (fun _ => hr2) hlt hlt20) hB (Nat.le_of_ble_eq_true rfl) rfl (Nat.le_of_ble_eq_true rfl) rfl (L' := (yaL g o (if tbE (B1 + 1) = 0 then ltS σ ρ lt k9 else σ) (if tbE (B1 + 1) = 0 then upd ρ 140 (nI ((lt + 19) % 20)) else ρ) (svS (tbE (B1 + 1)) S qq σ) (svS (tbE (B1 + 1)) P qq ρ) φ κ τ (svπ (tbE (B1 + 1)) π qq nn) q h t c w b b2)) (rfl) rfl (Nat.le_of_ble_eq_true rfl) rfl rfl (Nat.le_of_ble_eq_true rfl) ⟨Nat.le_of_ble_eq_true rfl, Nat.le_of_ble_eq_true rfl⟩ hcs dL_law_1699 rfl ?_
        have hE : tbE (B1 + 1) = 0 := by rw [tbE, if_neg (by omega)]
        rw [if_pos hE, if_pos hE, if_pos hE]
        have ev : ∀ i, enB b b2 B1 i = b ((6 * B1) + i) := fun i => by rw [enB, if_pos hn9]
        refine v_iload X dL_law_1702 rfl ?_
        refine v_if_eq X dL_law_1704 (tgt := 1715) (by decide) (fun c1704 => ?_) (fun c1704 => ?_)
        · skip
          exact absurd c1704 (by decide)
        · skip
          refine v_aload X dL_law_1707 rfl ?_
          refine v_iload X dL_law_1709 rfl ?_
          refine v_ialdB X hB dL_law_1711 184 (Nat.le_of_ble_eq_true rfl) rfl (6 * B1) (ix_mul rfl rfl) (by omega) (Nat.le_of_ble_eq_true rfl) ?_
          refine v_goto X dL_law_1712 (tgt := 1717) (by decide) ?_
          refine v_icmp_eq X dL_law_1717 (tgt := 1722) (by decide) (fun c1717 => ?_) (fun c1717 => ?_)
          · skip
            refine v_iload X dL_law_1722 rfl ?_
            refine v_if_eq X dL_law_1724 (tgt := 1826) (by decide) (fun c1724 => ?_) (fun c1724 => ?_)
            · skip
              exact absurd c1724 (by decide)
            · skip
              refine v_aload_n X dL_law_1727 (i := 2) rfl rfl ?_
              refine v_iconst X dL_law_1728 (v := (1 : Int32)) (by decide) ?_
              refine v_aload X dL_law_1729 rfl ?_
              refine v_iload X dL_law_1731 rfl ?_
              refine v_ialdB X hB dL_law_1733 184 (Nat.le_of_ble_eq_true rfl) rfl (6 * B1) (ix_mul rfl rfl) (by omega) (Nat.le_of_ble_eq_true rfl) ?_
              refine v_iastB X hB dL_law_1734 179 (Nat.le_of_ble_eq_true rfl) rfl 1 rfl (by omega) (Nat.le_of_ble_eq_true rfl) (L' := (yaL g o (ltS σ ρ lt k9) (upd ρ 140 (nI ((lt + 19) % 20))) (svS (tbE (B1 + 1)) S qq σ) (svS (tbE (B1 + 1)) P qq ρ) φ κ τ (svπ (tbE (B1 + 1)) π qq nn) (upd q 1 (b (6 * B1))) h t c w b b2)) rfl ?_
              refine v_aload_n X dL_law_1735 (i := 2) rfl rfl ?_
              refine v_iconst X dL_law_1736 (v := (3 : Int32)) (by decide) ?_
              refine v_aload X dL_law_1737 rfl ?_
              refine v_iload X dL_law_1739 rfl ?_
              refine v_iconst X dL_law_1741 (v := (1 : Int32)) (by decide) ?_
              refine v_iadd X dL_law_1742 ?_
              refine v_ialdB X hB dL_law_1743 184 (Nat.le_of_ble_eq_true rfl) rfl ((6 * B1) + 1) (ix_add (ix_mul rfl rfl) rfl) (by omega) (Nat.le_of_ble_eq_true rfl) ?_
              refine v_iastB X hB dL_law_1744 179 (Nat.le_of_ble_eq_true rfl) rfl 3 rfl (by omega) (Nat.le_of_ble_eq_true rfl) (L' := (yaL g o (ltS σ ρ lt k9) (upd ρ 140 (nI ((lt + 19) % 20))) (svS (tbE (B1 + 1)) S qq σ) (svS (tbE (B1 + 1)) P qq ρ) φ κ τ (svπ (tbE (B1 + 1)) π qq nn) (upd (upd q 1 (b (6 * B1))) 3 (b ((6 * B1) + 1))) h t c w b b2)) rfl ?_
              refine v_aload_n X dL_law_1745 (i := 2) rfl rfl ?_
              refine v_iconst X dL_law_1746 (v := (4 : Int32)) (by decide) ?_
              refine v_aload X dL_law_1747 rfl ?_
              refine v_iload X dL_law_1749 rfl ?_
              refine v_iconst X dL_law_1751 (v := (2 : Int32)) (by decide) ?_
              refine v_iadd X dL_law_1752 ?_
              refine v_ialdB X hB dL_law_1753 184 (Nat.le_of_ble_eq_true rfl) rfl ((6 * B1) + 2) (ix_add (ix_mul rfl rfl) rfl) (by omega) (Nat.le_of_ble_eq_true rfl) ?_
              refine v_iastB X hB dL_law_1754 179 (Nat.le_of_ble_eq_true rfl) rfl 4 rfl (by omega) (Nat.le_of_ble_eq_true rfl) (L' := (yaL g o (ltS σ ρ lt k9) (upd ρ 140 (nI ((lt + 19) % 20))) (svS (tbE (B1 + 1)) S qq σ) (svS (tbE (B1 + 1)) P qq ρ) φ κ τ (svπ (tbE (B1 + 1)) π qq nn) (upd (upd (upd q 1 (b (6 * B1))) 3 (b ((6 * B1) + 1))) 4 (b ((6 * B1) + 2))) h t c w b b2)) rfl ?_
              refine v_aload_n X dL_law_1755 (i := 2) rfl rfl ?_
              refine v_iconst X dL_law_1756 (v := (5 : Int32)) (by decide) ?_
              refine v_aload X dL_law_1757 rfl ?_
              refine v_iload X dL_law_1759 rfl ?_
              refine v_iconst X dL_law_1761 (v := (3 : Int32)) (by decide) ?_
              refine v_iadd X dL_law_1762 ?_
              refine v_ialdB X hB dL_law_1763 184 (Nat.le_of_ble_eq_true rfl) rfl ((6 * B1) + 3) (ix_add (ix_mul rfl rfl) rfl) (by omega) (Nat.le_of_ble_eq_true rfl) ?_
              refine v_iastB X hB dL_law_1764 179 (Nat.le_of_ble_eq_true rfl) rfl 5 rfl (by omega) (Nat.le_of_ble_eq_true rfl) (L' := (yaL g o (ltS σ ρ lt k9) (upd ρ 140 (nI ((lt + 19) % 20))) (svS (tbE (B1 + 1)) S qq σ) (svS (tbE (B1 + 1)) P qq ρ) φ κ τ (svπ (tbE (B1 + 1)) π qq nn) (upd (upd (upd (upd q 1 (b (6 * B1))) 3 (b ((6 * B1) + 1))) 4 (b ((6 * B1) + 2))) 5 (b ((6 * B1) + 3))) h t c w b b2)) rfl ?_
              refine v_aload_n X dL_law_1765 (i := 3) rfl rfl ?_
              refine v_iconst X dL_law_1766 (v := (3 : Int32)) (by decide) ?_
              refine v_aload X dL_law_1767 rfl ?_
              refine v_iload X dL_law_1769 rfl ?_
              refine v_iconst X dL_law_1771 (v := (4 : Int32)) (by decide) ?_
              refine v_iadd X dL_law_1772 ?_
              refine v_ialdB X hB dL_law_1773 184 (Nat.le_of_ble_eq_true rfl) rfl ((6 * B1) + 4) (ix_add (ix_mul rfl rfl) rfl) (by omega) (Nat.le_of_ble_eq_true rfl) ?_
              refine v_imul X dL_law_1774 ?_
              refine v_iconst X dL_law_1775 (v := (2 : Int32)) (by decide) ?_
              refine v_iadd X dL_law_1776 ?_
              refine v_aload X dL_law_1777 rfl ?_
              refine v_iload X dL_law_1779 rfl ?_
              refine v_iconst X dL_law_1781 (v := (5 : Int32)) (by decide) ?_
              refine v_iadd X dL_law_1782 ?_
              refine v_ialdB X hB dL_law_1783 184 (Nat.le_of_ble_eq_true rfl) rfl ((6 * B1) + 5) (ix_add (ix_mul rfl rfl) rfl) (by omega) (Nat.le_of_ble_eq_true rfl) ?_
              refine v_iastB X hB dL_law_1784 180 (Nat.le_of_ble_eq_true rfl) rfl ((3 * k9) + 2) (ix_add (ix_mul rfl ((ev 4).symm.trans en4)) rfl) (by omega) (Nat.le_of_ble_eq_true rfl) (L' := (yaL g o (ltS σ ρ lt k9) (upd ρ 140 (nI ((lt + 19) % 20))) (svS (tbE (B1 + 1)) S qq σ) (svS (tbE (B1 + 1)) P qq ρ) φ κ τ (svπ (tbE (B1 + 1)) π qq nn) (upd (upd (upd (upd q 1 (b (6 * B1))) 3 (b ((6 * B1) + 1))) 4 (b ((6 * B1) + 2))) 5 (b ((6 * B1) + 3))) (upd h ((3 * k9) + 2) (b ((6 * B1) + 5))) t c w b b2)) rfl ?_
              refine v_aload_n X dL_law_1785 (i := 3) rfl rfl ?_
              refine v_iconst X dL_law_1786 (v := (3 : Int32)) (by decide) ?_
              refine v_aload X dL_law_1787 rfl ?_
              refine v_iload X dL_law_1789 rfl ?_
              refine v_iconst X dL_law_1791 (v := (4 : Int32)) (by decide) ?_
              refine v_iadd X dL_law_1792 ?_
              refine v_ialdB X hB dL_law_1793 184 (Nat.le_of_ble_eq_true rfl) rfl ((6 * B1) + 4) (ix_add (ix_mul rfl rfl) rfl) (by omega) (Nat.le_of_ble_eq_true rfl) ?_
              refine v_imul X dL_law_1794 ?_
              refine v_iconst X dL_law_1795 (v := (1 : Int32)) (by decide) ?_
              refine v_iadd X dL_law_1796 ?_
              refine v_dup2 X dL_law_1797 rfl rfl ?_
              refine v_ialdB X hB dL_law_1798 180 (Nat.le_of_ble_eq_true rfl) rfl ((3 * k9) + 1) (ix_add (ix_mul rfl ((ev 4).symm.trans en4)) rfl) (by omega) (Nat.le_of_ble_eq_true rfl) ?_
              refine v_iconst X dL_law_1799 (v := (1 : Int32)) (by decide) ?_
              refine v_iadd X dL_law_1800 ?_
              rw [show (upd h ((3 * k9) + 2) (b ((6 * B1) + 5))) ((3 * k9) + 1) = h ((3 * k9) + 1) from pk_un (by omega)]
              refine v_iastB X hB dL_law_1801 180 (Nat.le_of_ble_eq_true rfl) rfl ((3 * k9) + 1) (ix_add (ix_mul rfl ((ev 4).symm.trans en4)) rfl) (by omega) (Nat.le_of_ble_eq_true rfl) (L' := (yaL g o (ltS σ ρ lt k9) (upd ρ 140 (nI ((lt + 19) % 20))) (svS (tbE (B1 + 1)) S qq σ) (svS (tbE (B1 + 1)) P qq ρ) φ κ τ (svπ (tbE (B1 + 1)) π qq nn) (upd (upd (upd (upd q 1 (b (6 * B1))) 3 (b ((6 * B1) + 1))) 4 (b ((6 * B1) + 2))) 5 (b ((6 * B1) + 3))) (upd (upd h ((3 * k9) + 2) (b ((6 * B1) + 5))) ((3 * k9) + 1) ((h ((3 * k9) + 1)) + (1 : Int32))) t c w b b2)) rfl ?_
              refine v_aload_n X dL_law_1802 (i := 2) rfl rfl ?_
              refine v_bipush X dL_law_1803 (v := (6 : Int32)) (by decide) ?_
              refine v_dup2 X dL_law_1805 rfl rfl ?_
              refine v_ialdB X hB dL_law_1806 179 (Nat.le_of_ble_eq_true rfl) rfl 6 rfl (by omega) (Nat.le_of_ble_eq_true rfl) ?_
              refine v_iconst X dL_law_1807 (v := (1 : Int32)) (by decide) ?_
              refine v_isub X dL_law_1808 ?_
              rw [show (upd (upd (upd (upd q 1 (b (6 * B1))) 3 (b ((6 * B1) + 1))) 4 (b ((6 * B1) + 2))) 5 (b ((6 * B1) + 3))) 6 = q 6 from by rw [pk_un (by omega), pk_un (by omega), pk_un (by omega), pk_un (by omega)]]
              refine v_iastB X hB dL_law_1809 179 (Nat.le_of_ble_eq_true rfl) rfl 6 rfl (by omega) (Nat.le_of_ble_eq_true rfl) (L' := (yaL g o (ltS σ ρ lt k9) (upd ρ 140 (nI ((lt + 19) % 20))) (svS (tbE (B1 + 1)) S qq σ) (svS (tbE (B1 + 1)) P qq ρ) φ κ τ (svπ (tbE (B1 + 1)) π qq nn) (upd (upd (upd (upd (upd q 1 (b (6 * B1))) 3 (b ((6 * B1) + 1))) 4 (b ((6 * B1) + 2))) 5 (b ((6 * B1) + 3))) 6 ((q 6) - (1 : Int32))) (upd (upd h ((3 * k9) + 2) (b ((6 * B1) + 5))) ((3 * k9) + 1) ((h ((3 * k9) + 1)) + (1 : Int32))) t c w b b2)) rfl ?_
              refine v_aload_n X dL_law_1810 (i := 2) rfl rfl ?_
              refine v_bipush X dL_law_1811 (v := (7 : Int32)) (by decide) ?_
              refine v_dup2 X dL_law_1813 rfl rfl ?_
              refine v_ialdB X hB dL_law_1814 179 (Nat.le_of_ble_eq_true rfl) rfl 7 rfl (by omega) (Nat.le_of_ble_eq_true rfl) ?_
              refine v_iconst X dL_law_1815 (v := (1 : Int32)) (by decide) ?_
              refine v_isub X dL_law_1816 ?_
              rw [show (upd (upd (upd (upd (upd q 1 (b (6 * B1))) 3 (b ((6 * B1) + 1))) 4 (b ((6 * B1) + 2))) 5 (b ((6 * B1) + 3))) 6 ((q 6) - (1 : Int32))) 7 = q 7 from by rw [pk_un (by omega), pk_un (by omega), pk_un (by omega), pk_un (by omega), pk_un (by omega)]]
              refine v_iastB X hB dL_law_1817 179 (Nat.le_of_ble_eq_true rfl) rfl 7 rfl (by omega) (Nat.le_of_ble_eq_true rfl) (L' := (yaL g o (ltS σ ρ lt k9) (upd ρ 140 (nI ((lt + 19) % 20))) (svS (tbE (B1 + 1)) S qq σ) (svS (tbE (B1 + 1)) P qq ρ) φ κ τ (svπ (tbE (B1 + 1)) π qq nn) (upd (upd (upd (upd (upd (upd q 1 (b (6 * B1))) 3 (b ((6 * B1) + 1))) 4 (b ((6 * B1) + 2))) 5 (b ((6 * B1) + 3))) 6 ((q 6) - (1 : Int32))) 7 ((q 7) - (1 : Int32))) (upd (upd h ((3 * k9) + 2) (b ((6 * B1) + 5))) ((3 * k9) + 1) ((h ((3 * k9) + 1)) + (1 : Int32))) t c w b b2)) rfl ?_
              refine v_aload_n X dL_law_1818 (i := 2) rfl rfl ?_
              refine v_bipush X dL_law_1819 (v := (8 : Int32)) (by decide) ?_
              refine v_dup2 X dL_law_1821 rfl rfl ?_
              refine v_ialdB X hB dL_law_1822 179 (Nat.le_of_ble_eq_true rfl) rfl 8 rfl (by omega) (Nat.le_of_ble_eq_true rfl) ?_
              refine v_iconst X dL_law_1823 (v := (1 : Int32)) (by decide) ?_
              refine v_isub X dL_law_1824 ?_
              rw [show (upd (upd (upd (upd (upd (upd q 1 (b (6 * B1))) 3 (b ((6 * B1) + 1))) 4 (b ((6 * B1) + 2))) 5 (b ((6 * B1) + 3))) 6 ((q 6) - (1 : Int32))) 7 ((q 7) - (1 : Int32))) 8 = q 8 from by rw [pk_un (by omega), pk_un (by omega), pk_un (by omega), pk_un (by omega), pk_un (by omega), pk_un (by omega)]]
              refine v_iastB X hB dL_law_1825 179 (Nat.le_of_ble_eq_true rfl) rfl 8 rfl (by omega) (Nat.le_of_ble_eq_true rfl) (L' := (yaL g o (ltS σ ρ lt k9) (upd ρ 140 (nI ((lt + 19) % 20))) (svS (tbE (B1 + 1)) S qq σ) (svS (tbE (B1 + 1)) P qq ρ) φ κ τ (svπ (tbE (B1 + 1)) π qq nn) (upd (upd (upd (upd (upd (upd (upd q 1 (b (6 * B1))) 3 (b ((6 * B1) + 1))) 4 (b ((6 * B1) + 2))) 5 (b ((6 * B1) + 3))) 6 ((q 6) - (1 : Int32))) 7 ((q 7) - (1 : Int32))) 8 ((q 8) - (1 : Int32))) (upd (upd h ((3 * k9) + 2) (b ((6 * B1) + 5))) ((3 * k9) + 1) ((h ((3 * k9) + 1)) + (1 : Int32))) t c w b b2)) rfl ?_
              refine v_drop 19 ?_
              refine v_drop 20 ?_
              refine v_drop 21 ?_
              refine v_drop 22 ?_
              exact kk f cs ss (ltS σ ρ lt k9) (upd ρ 140 (nI ((lt + 19) % 20))) (svS (tbE (B1 + 1)) S qq σ) (svS (tbE (B1 + 1)) P qq ρ) φ (svπ (tbE (B1 + 1)) π qq nn) (upd (upd (upd (upd (upd (upd (upd q 1 (b (6 * B1))) 3 (b ((6 * B1) + 1))) 4 (b ((6 * B1) + 2))) 5 (b ((6 * B1) + 3))) 6 ((q 6) - (1 : Int32))) 7 ((q 7) - (1 : Int32))) 8 ((q 8) - (1 : Int32))) (upd (upd h ((3 * k9) + 2) (b ((6 * B1) + 5))) ((3 * k9) + 1) ((h ((3 * k9) + 1)) + (1 : Int32))) t c w b b2 C pp (R - 1) ((lt + 19) % 20) B1 0    (by omega) (by omega) (by omega) ((by have HB2 := HB (upd (upd (upd (upd (upd (upd (upd q 1 (b (6 * B1))) 3 (b ((6 * B1) + 1))) 4 (b ((6 * B1) + 2))) 5 (b ((6 * B1) + 3))) 6 ((q 6) - (1 : Int32))) 7 ((q 7) - (1 : Int32))) 8 ((q 8) - (1 : Int32))) (by rw [pk_un (by omega), pk_un (by omega), pk_un (by omega), pk_un (by omega), pk_un (by omega), pk_un (by omega), pk_us]; exact (ev 0).symm) (by rw [pk_un (by omega), pk_un (by omega), pk_un (by omega), pk_un (by omega), pk_un (by omega), pk_us]; exact (ev 1).symm) (by rw [pk_un (by omega), pk_un (by omega), pk_un (by omega), pk_un (by omega), pk_us]; exact (ev 2).symm) (by rw [pk_un (by omega), pk_un (by omega), pk_un (by omega), pk_us]; exact (ev 3).symm) (by rw [pk_un (by omega), pk_un (by omega), pk_us]) (by rw [pk_un (by omega), pk_us]) pk_us (fun i hi h1 h3 h4 h5 h6 h7 h8 => by rw [pk_un h8, pk_un h7, pk_un h6, pk_un h5, pk_un h4, pk_un h3, pk_un h1]); rw [ev 5] at HB2; rw [if_pos rfl, up_self]; exact HB2)) (PI_sv hPI hq6 hn6)
          · skip
            exact absurd (hs1.trans (ev 0)) c1717
      · skip
        exact absurd c1683 (nI_pos (by omega))
    · skip
      have hn9 : ¬ B1 < 10 := by
        have := lt_of_nI (a := 9) (by omega) (by omega) c1667
        omega
      refine v_aload X dL_law_1670 rfl ?_
      refine v_goto X dL_law_1672 (tgt := 1677) (by decide) ?_
      refine v_astore X dL_law_1677 (Nat.le_of_ble_eq_true rfl) rfl ?_
      refine v_bipush X dL_law_1679 (v := (6 : Int32)) (by decide) ?_
      refine v_iload X dL_law_1681 rfl ?_
      refine v_if_ge X dL_law_1683 (tgt := 1690) (by decide) (fun c1683 => ?_) (fun c1683 => ?_)
      · skip
        refine v_iload X dL_law_1690 rfl ?_
        refine v_bipush X dL_law_1692 (v := (10 : Int32)) (by decide) ?_
        refine v_irem X dL_law_1694 (by decide) ?_
        rw [show ((nI B1) - (nI B1) / (10 : Int32) * (10 : Int32)) = nI (B1 - 10) from (pk_rem (a := B1) (d := 10) (by omega) (by omega) (by omega)).trans (congrArg nI (by omega))]
        refine v_imul X dL_law_1695 ?_
        refine v_istore X dL_law_1696 (Nat.le_of_ble_eq_true rfl) rfl ?_
        refine v_aload_n X dL_law_1698 (i := 1) rfl rfl ?_
        refine v_cvB X (Nat.zero_add _).symm yv_X7_takeBack m_ml_L_117 0 0 (c_X7_takeBack l g cs o σ ρ S P φ κ τ π qq nn hq hq6 hn hn6 (B1 + 1) k9 lt hB8 (by omega) hk9 (fun _ => hr2) hlt hlt20) hB (Nat.le_of_ble_eq_true rfl) rfl (Nat.le_of_ble_eq_true rfl) rfl (L' := (yaL g o (if tbE (B1 + 1) = 0 then ltS σ ρ lt k9 else σ) (if tbE (B1 + 1) = 0 then upd ρ 140 (nI ((lt + 19) % 20)) else ρ) (svS (tbE (B1 + 1)) S qq σ) (svS (tbE (B1 + 1)) P qq ρ) φ κ τ (svπ (tbE (B1 + 1)) π qq nn) q h t c w b b2)) (rfl) rfl (Nat.le_of_ble_eq_true rfl) rfl rfl (Nat.le_of_ble_eq_true rfl) ⟨Nat.le_of_ble_eq_true rfl, Nat.le_of_ble_eq_true rfl⟩ hcs dL_law_1699 rfl ?_
        have hE : tbE (B1 + 1) = 0 := by rw [tbE, if_neg (by omega)]
        rw [if_pos hE, if_pos hE, if_pos hE]
        have ev : ∀ i, enB b b2 B1 i = b2 ((6 * (B1 - 10)) + i) := fun i => by rw [enB, if_neg hn9]
        refine v_iload X dL_law_1702 rfl ?_
        refine v_if_eq X dL_law_1704 (tgt := 1715) (by decide) (fun c1704 => ?_) (fun c1704 => ?_)
        · skip
          exact absurd c1704 (by decide)
        · skip
          refine v_aload X dL_law_1707 rfl ?_
          refine v_iload X dL_law_1709 rfl ?_
          refine v_ialdB X hB dL_law_1711 185 (Nat.le_of_ble_eq_true rfl) rfl (6 * (B1 - 10)) (ix_mul rfl rfl) (by omega) (Nat.le_of_ble_eq_true rfl) ?_
          refine v_goto X dL_law_1712 (tgt := 1717) (by decide) ?_
          refine v_icmp_eq X dL_law_1717 (tgt := 1722) (by decide) (fun c1717 => ?_) (fun c1717 => ?_)
          · skip
            refine v_iload X dL_law_1722 rfl ?_
            refine v_if_eq X dL_law_1724 (tgt := 1826) (by decide) (fun c1724 => ?_) (fun c1724 => ?_)
            · skip
              exact absurd c1724 (by decide)
            · skip
              refine v_aload_n X dL_law_1727 (i := 2) rfl rfl ?_
              refine v_iconst X dL_law_1728 (v := (1 : Int32)) (by decide) ?_
              refine v_aload X dL_law_1729 rfl ?_
              refine v_iload X dL_law_1731 rfl ?_
              refine v_ialdB X hB dL_law_1733 185 (Nat.le_of_ble_eq_true rfl) rfl (6 * (B1 - 10)) (ix_mul rfl rfl) (by omega) (Nat.le_of_ble_eq_true rfl) ?_
              refine v_iastB X hB dL_law_1734 179 (Nat.le_of_ble_eq_true rfl) rfl 1 rfl (by omega) (Nat.le_of_ble_eq_true rfl) (L' := (yaL g o (ltS σ ρ lt k9) (upd ρ 140 (nI ((lt + 19) % 20))) (svS (tbE (B1 + 1)) S qq σ) (svS (tbE (B1 + 1)) P qq ρ) φ κ τ (svπ (tbE (B1 + 1)) π qq nn) (upd q 1 (b2 (6 * (B1 - 10)))) h t c w b b2)) rfl ?_
              refine v_aload_n X dL_law_1735 (i := 2) rfl rfl ?_
              refine v_iconst X dL_law_1736 (v := (3 : Int32)) (by decide) ?_
              refine v_aload X dL_law_1737 rfl ?_
              refine v_iload X dL_law_1739 rfl ?_
              refine v_iconst X dL_law_1741 (v := (1 : Int32)) (by decide) ?_
              refine v_iadd X dL_law_1742 ?_
              refine v_ialdB X hB dL_law_1743 185 (Nat.le_of_ble_eq_true rfl) rfl ((6 * (B1 - 10)) + 1) (ix_add (ix_mul rfl rfl) rfl) (by omega) (Nat.le_of_ble_eq_true rfl) ?_
              refine v_iastB X hB dL_law_1744 179 (Nat.le_of_ble_eq_true rfl) rfl 3 rfl (by omega) (Nat.le_of_ble_eq_true rfl) (L' := (yaL g o (ltS σ ρ lt k9) (upd ρ 140 (nI ((lt + 19) % 20))) (svS (tbE (B1 + 1)) S qq σ) (svS (tbE (B1 + 1)) P qq ρ) φ κ τ (svπ (tbE (B1 + 1)) π qq nn) (upd (upd q 1 (b2 (6 * (B1 - 10)))) 3 (b2 ((6 * (B1 - 10)) + 1))) h t c w b b2)) rfl ?_
              refine v_aload_n X dL_law_1745 (i := 2) rfl rfl ?_
              refine v_iconst X dL_law_1746 (v := (4 : Int32)) (by decide) ?_
              refine v_aload X dL_law_1747 rfl ?_
              refine v_iload X dL_law_1749 rfl ?_
              refine v_iconst X dL_law_1751 (v := (2 : Int32)) (by decide) ?_
              refine v_iadd X dL_law_1752 ?_
              refine v_ialdB X hB dL_law_1753 185 (Nat.le_of_ble_eq_true rfl) rfl ((6 * (B1 - 10)) + 2) (ix_add (ix_mul rfl rfl) rfl) (by omega) (Nat.le_of_ble_eq_true rfl) ?_
              refine v_iastB X hB dL_law_1754 179 (Nat.le_of_ble_eq_true rfl) rfl 4 rfl (by omega) (Nat.le_of_ble_eq_true rfl) (L' := (yaL g o (ltS σ ρ lt k9) (upd ρ 140 (nI ((lt + 19) % 20))) (svS (tbE (B1 + 1)) S qq σ) (svS (tbE (B1 + 1)) P qq ρ) φ κ τ (svπ (tbE (B1 + 1)) π qq nn) (upd (upd (upd q 1 (b2 (6 * (B1 - 10)))) 3 (b2 ((6 * (B1 - 10)) + 1))) 4 (b2 ((6 * (B1 - 10)) + 2))) h t c w b b2)) rfl ?_
              refine v_aload_n X dL_law_1755 (i := 2) rfl rfl ?_
              refine v_iconst X dL_law_1756 (v := (5 : Int32)) (by decide) ?_
              refine v_aload X dL_law_1757 rfl ?_
              refine v_iload X dL_law_1759 rfl ?_
              refine v_iconst X dL_law_1761 (v := (3 : Int32)) (by decide) ?_
              refine v_iadd X dL_law_1762 ?_
              refine v_ialdB X hB dL_law_1763 185 (Nat.le_of_ble_eq_true rfl) rfl ((6 * (B1 - 10)) + 3) (ix_add (ix_mul rfl rfl) rfl) (by omega) (Nat.le_of_ble_eq_true rfl) ?_
              refine v_iastB X hB dL_law_1764 179 (Nat.le_of_ble_eq_true rfl) rfl 5 rfl (by omega) (Nat.le_of_ble_eq_true rfl) (L' := (yaL g o (ltS σ ρ lt k9) (upd ρ 140 (nI ((lt + 19) % 20))) (svS (tbE (B1 + 1)) S qq σ) (svS (tbE (B1 + 1)) P qq ρ) φ κ τ (svπ (tbE (B1 + 1)) π qq nn) (upd (upd (upd (upd q 1 (b2 (6 * (B1 - 10)))) 3 (b2 ((6 * (B1 - 10)) + 1))) 4 (b2 ((6 * (B1 - 10)) + 2))) 5 (b2 ((6 * (B1 - 10)) + 3))) h t c w b b2)) rfl ?_
              refine v_aload_n X dL_law_1765 (i := 3) rfl rfl ?_
              refine v_iconst X dL_law_1766 (v := (3 : Int32)) (by decide) ?_
              refine v_aload X dL_law_1767 rfl ?_
              refine v_iload X dL_law_1769 rfl ?_
              refine v_iconst X dL_law_1771 (v := (4 : Int32)) (by decide) ?_
              refine v_iadd X dL_law_1772 ?_
              refine v_ialdB X hB dL_law_1773 185 (Nat.le_of_ble_eq_true rfl) rfl ((6 * (B1 - 10)) + 4) (ix_add (ix_mul rfl rfl) rfl) (by omega) (Nat.le_of_ble_eq_true rfl) ?_
              refine v_imul X dL_law_1774 ?_
              refine v_iconst X dL_law_1775 (v := (2 : Int32)) (by decide) ?_
              refine v_iadd X dL_law_1776 ?_
              refine v_aload X dL_law_1777 rfl ?_
              refine v_iload X dL_law_1779 rfl ?_
              refine v_iconst X dL_law_1781 (v := (5 : Int32)) (by decide) ?_
              refine v_iadd X dL_law_1782 ?_
              refine v_ialdB X hB dL_law_1783 185 (Nat.le_of_ble_eq_true rfl) rfl ((6 * (B1 - 10)) + 5) (ix_add (ix_mul rfl rfl) rfl) (by omega) (Nat.le_of_ble_eq_true rfl) ?_
              refine v_iastB X hB dL_law_1784 180 (Nat.le_of_ble_eq_true rfl) rfl ((3 * k9) + 2) (ix_add (ix_mul rfl ((ev 4).symm.trans en4)) rfl) (by omega) (Nat.le_of_ble_eq_true rfl) (L' := (yaL g o (ltS σ ρ lt k9) (upd ρ 140 (nI ((lt + 19) % 20))) (svS (tbE (B1 + 1)) S qq σ) (svS (tbE (B1 + 1)) P qq ρ) φ κ τ (svπ (tbE (B1 + 1)) π qq nn) (upd (upd (upd (upd q 1 (b2 (6 * (B1 - 10)))) 3 (b2 ((6 * (B1 - 10)) + 1))) 4 (b2 ((6 * (B1 - 10)) + 2))) 5 (b2 ((6 * (B1 - 10)) + 3))) (upd h ((3 * k9) + 2) (b2 ((6 * (B1 - 10)) + 5))) t c w b b2)) rfl ?_
              refine v_aload_n X dL_law_1785 (i := 3) rfl rfl ?_
              refine v_iconst X dL_law_1786 (v := (3 : Int32)) (by decide) ?_
              refine v_aload X dL_law_1787 rfl ?_
              refine v_iload X dL_law_1789 rfl ?_
              refine v_iconst X dL_law_1791 (v := (4 : Int32)) (by decide) ?_
              refine v_iadd X dL_law_1792 ?_
              refine v_ialdB X hB dL_law_1793 185 (Nat.le_of_ble_eq_true rfl) rfl ((6 * (B1 - 10)) + 4) (ix_add (ix_mul rfl rfl) rfl) (by omega) (Nat.le_of_ble_eq_true rfl) ?_
              refine v_imul X dL_law_1794 ?_
              refine v_iconst X dL_law_1795 (v := (1 : Int32)) (by decide) ?_
              refine v_iadd X dL_law_1796 ?_
              refine v_dup2 X dL_law_1797 rfl rfl ?_
              refine v_ialdB X hB dL_law_1798 180 (Nat.le_of_ble_eq_true rfl) rfl ((3 * k9) + 1) (ix_add (ix_mul rfl ((ev 4).symm.trans en4)) rfl) (by omega) (Nat.le_of_ble_eq_true rfl) ?_
              refine v_iconst X dL_law_1799 (v := (1 : Int32)) (by decide) ?_
              refine v_iadd X dL_law_1800 ?_
              rw [show (upd h ((3 * k9) + 2) (b2 ((6 * (B1 - 10)) + 5))) ((3 * k9) + 1) = h ((3 * k9) + 1) from pk_un (by omega)]
              refine v_iastB X hB dL_law_1801 180 (Nat.le_of_ble_eq_true rfl) rfl ((3 * k9) + 1) (ix_add (ix_mul rfl ((ev 4).symm.trans en4)) rfl) (by omega) (Nat.le_of_ble_eq_true rfl) (L' := (yaL g o (ltS σ ρ lt k9) (upd ρ 140 (nI ((lt + 19) % 20))) (svS (tbE (B1 + 1)) S qq σ) (svS (tbE (B1 + 1)) P qq ρ) φ κ τ (svπ (tbE (B1 + 1)) π qq nn) (upd (upd (upd (upd q 1 (b2 (6 * (B1 - 10)))) 3 (b2 ((6 * (B1 - 10)) + 1))) 4 (b2 ((6 * (B1 - 10)) + 2))) 5 (b2 ((6 * (B1 - 10)) + 3))) (upd (upd h ((3 * k9) + 2) (b2 ((6 * (B1 - 10)) + 5))) ((3 * k9) + 1) ((h ((3 * k9) + 1)) + (1 : Int32))) t c w b b2)) rfl ?_
              refine v_aload_n X dL_law_1802 (i := 2) rfl rfl ?_
              refine v_bipush X dL_law_1803 (v := (6 : Int32)) (by decide) ?_
              refine v_dup2 X dL_law_1805 rfl rfl ?_
              refine v_ialdB X hB dL_law_1806 179 (Nat.le_of_ble_eq_true rfl) rfl 6 rfl (by omega) (Nat.le_of_ble_eq_true rfl) ?_
              refine v_iconst X dL_law_1807 (v := (1 : Int32)) (by decide) ?_
              refine v_isub X dL_law_1808 ?_
              rw [show (upd (upd (upd (upd q 1 (b2 (6 * (B1 - 10)))) 3 (b2 ((6 * (B1 - 10)) + 1))) 4 (b2 ((6 * (B1 - 10)) + 2))) 5 (b2 ((6 * (B1 - 10)) + 3))) 6 = q 6 from by rw [pk_un (by omega), pk_un (by omega), pk_un (by omega), pk_un (by omega)]]
              refine v_iastB X hB dL_law_1809 179 (Nat.le_of_ble_eq_true rfl) rfl 6 rfl (by omega) (Nat.le_of_ble_eq_true rfl) (L' := (yaL g o (ltS σ ρ lt k9) (upd ρ 140 (nI ((lt + 19) % 20))) (svS (tbE (B1 + 1)) S qq σ) (svS (tbE (B1 + 1)) P qq ρ) φ κ τ (svπ (tbE (B1 + 1)) π qq nn) (upd (upd (upd (upd (upd q 1 (b2 (6 * (B1 - 10)))) 3 (b2 ((6 * (B1 - 10)) + 1))) 4 (b2 ((6 * (B1 - 10)) + 2))) 5 (b2 ((6 * (B1 - 10)) + 3))) 6 ((q 6) - (1 : Int32))) (upd (upd h ((3 * k9) + 2) (b2 ((6 * (B1 - 10)) + 5))) ((3 * k9) + 1) ((h ((3 * k9) + 1)) + (1 : Int32))) t c w b b2)) rfl ?_
              refine v_aload_n X dL_law_1810 (i := 2) rfl rfl ?_
              refine v_bipush X dL_law_1811 (v := (7 : Int32)) (by decide) ?_
              refine v_dup2 X dL_law_1813 rfl rfl ?_
              refine v_ialdB X hB dL_law_1814 179 (Nat.le_of_ble_eq_true rfl) rfl 7 rfl (by omega) (Nat.le_of_ble_eq_true rfl) ?_
              refine v_iconst X dL_law_1815 (v := (1 : Int32)) (by decide) ?_
              refine v_isub X dL_law_1816 ?_
              rw [show (upd (upd (upd (upd (upd q 1 (b2 (6 * (B1 - 10)))) 3 (b2 ((6 * (B1 - 10)) + 1))) 4 (b2 ((6 * (B1 - 10)) + 2))) 5 (b2 ((6 * (B1 - 10)) + 3))) 6 ((q 6) - (1 : Int32))) 7 = q 7 from by rw [pk_un (by omega), pk_un (by omega), pk_un (by omega), pk_un (by omega), pk_un (by omega)]]
              refine v_iastB X hB dL_law_1817 179 (Nat.le_of_ble_eq_true rfl) rfl 7 rfl (by omega) (Nat.le_of_ble_eq_true rfl) (L' := (yaL g o (ltS σ ρ lt k9) (upd ρ 140 (nI ((lt + 19) % 20))) (svS (tbE (B1 + 1)) S qq σ) (svS (tbE (B1 + 1)) P qq ρ) φ κ τ (svπ (tbE (B1 + 1)) π qq nn) (upd (upd (upd (upd (upd (upd q 1 (b2 (6 * (B1 - 10)))) 3 (b2 ((6 * (B1 - 10)) + 1))) 4 (b2 ((6 * (B1 - 10)) + 2))) 5 (b2 ((6 * (B1 - 10)) + 3))) 6 ((q 6) - (1 : Int32))) 7 ((q 7) - (1 : Int32))) (upd (upd h ((3 * k9) + 2) (b2 ((6 * (B1 - 10)) + 5))) ((3 * k9) + 1) ((h ((3 * k9) + 1)) + (1 : Int32))) t c w b b2)) rfl ?_
              refine v_aload_n X dL_law_1818 (i := 2) rfl rfl ?_
              refine v_bipush X dL_law_1819 (v := (8 : Int32)) (by decide) ?_
              refine v_dup2 X dL_law_1821 rfl rfl ?_
              refine v_ialdB X hB dL_law_1822 179 (Nat.le_of_ble_eq_true rfl) rfl 8 rfl (by omega) (Nat.le_of_ble_eq_true rfl) ?_
              refine v_iconst X dL_law_1823 (v := (1 : Int32)) (by decide) ?_
              refine v_isub X dL_law_1824 ?_
              rw [show (upd (upd (upd (upd (upd (upd q 1 (b2 (6 * (B1 - 10)))) 3 (b2 ((6 * (B1 - 10)) + 1))) 4 (b2 ((6 * (B1 - 10)) + 2))) 5 (b2 ((6 * (B1 - 10)) + 3))) 6 ((q 6) - (1 : Int32))) 7 ((q 7) - (1 : Int32))) 8 = q 8 from by rw [pk_un (by omega), pk_un (by omega), pk_un (by omega), pk_un (by omega), pk_un (by omega), pk_un (by omega)]]
              refine v_iastB X hB dL_law_1825 179 (Nat.le_of_ble_eq_true rfl) rfl 8 rfl (by omega) (Nat.le_of_ble_eq_true rfl) (L' := (yaL g o (ltS σ ρ lt k9) (upd ρ 140 (nI ((lt + 19) % 20))) (svS (tbE (B1 + 1)) S qq σ) (svS (tbE (B1 + 1)) P qq ρ) φ κ τ (svπ (tbE (B1 + 1)) π qq nn) (upd (upd (upd (upd (upd (upd (upd q 1 (b2 (6 * (B1 - 10)))) 3 (b2 ((6 * (B1 - 10)) + 1))) 4 (b2 ((6 * (B1 - 10)) + 2))) 5 (b2 ((6 * (B1 - 10)) + 3))) 6 ((q 6) - (1 : Int32))) 7 ((q 7) - (1 : Int32))) 8 ((q 8) - (1 : Int32))) (upd (upd h ((3 * k9) + 2) (b2 ((6 * (B1 - 10)) + 5))) ((3 * k9) + 1) ((h ((3 * k9) + 1)) + (1 : Int32))) t c w b b2)) rfl ?_
              refine v_drop 19 ?_
              refine v_drop 20 ?_
              refine v_drop 21 ?_
              refine v_drop 22 ?_
              exact kk f cs ss (ltS σ ρ lt k9) (upd ρ 140 (nI ((lt + 19) % 20))) (svS (tbE (B1 + 1)) S qq σ) (svS (tbE (B1 + 1)) P qq ρ) φ (svπ (tbE (B1 + 1)) π qq nn) (upd (upd (upd (upd (upd (upd (upd q 1 (b2 (6 * (B1 - 10)))) 3 (b2 ((6 * (B1 - 10)) + 1))) 4 (b2 ((6 * (B1 - 10)) + 2))) 5 (b2 ((6 * (B1 - 10)) + 3))) 6 ((q 6) - (1 : Int32))) 7 ((q 7) - (1 : Int32))) 8 ((q 8) - (1 : Int32))) (upd (upd h ((3 * k9) + 2) (b2 ((6 * (B1 - 10)) + 5))) ((3 * k9) + 1) ((h ((3 * k9) + 1)) + (1 : Int32))) t c w b b2 C pp (R - 1) ((lt + 19) % 20) B1 0    (by omega) (by omega) (by omega) ((by have HB2 := HB (upd (upd (upd (upd (upd (upd (upd q 1 (b2 (6 * (B1 - 10)))) 3 (b2 ((6 * (B1 - 10)) + 1))) 4 (b2 ((6 * (B1 - 10)) + 2))) 5 (b2 ((6 * (B1 - 10)) + 3))) 6 ((q 6) - (1 : Int32))) 7 ((q 7) - (1 : Int32))) 8 ((q 8) - (1 : Int32))) (by rw [pk_un (by omega), pk_un (by omega), pk_un (by omega), pk_un (by omega), pk_un (by omega), pk_un (by omega), pk_us]; exact (ev 0).symm) (by rw [pk_un (by omega), pk_un (by omega), pk_un (by omega), pk_un (by omega), pk_un (by omega), pk_us]; exact (ev 1).symm) (by rw [pk_un (by omega), pk_un (by omega), pk_un (by omega), pk_un (by omega), pk_us]; exact (ev 2).symm) (by rw [pk_un (by omega), pk_un (by omega), pk_un (by omega), pk_us]; exact (ev 3).symm) (by rw [pk_un (by omega), pk_un (by omega), pk_us]) (by rw [pk_un (by omega), pk_us]) pk_us (fun i hi h1 h3 h4 h5 h6 h7 h8 => by rw [pk_un h8, pk_un h7, pk_un h6, pk_un h5, pk_un h4, pk_un h3, pk_un h1]); rw [ev 5] at HB2; rw [if_pos rfl, up_self]; exact HB2)) (PI_sv hPI hq6 hn6)
          · skip
            exact absurd (hs1.trans (ev 0)) c1717
      · skip
        exact absurd c1683 (nI_pos (by omega))
