/-! saving and undoing -/
section V8
variable {p : Program} {l : Launch} {e : Env} {R : Room} {s : State} {m : MethodId} {args : Array Value} {below : List Frame} {meth : Method} {c : Code} {Q : State → Prop}
variable {g : Ge} {cc : ByteArray} {nL : Nat} {own : String} {rt : Option FieldType} {N0 cs ss N : Nat} {f : Pic} {pc : Nat} {lv : List (Option Value)} {st : List Value}
theorem v_ifnull (X : Cx p args s m meth c g cc nL own rt N0) {x : Nat} {off : Int} (d : decode cc pc = .ok (.ifnull off, 3)) (k : V p l e R s m args below meth c Q g nL cs ss N f (pc + 3) lv st) : V p l e R s m args below meth c Q g nL cs ss N f pc lv (.ref x :: st) :=
  fun H locs ls hP hS hl => lv_ifnull X.1 X.2.1 d (k H locs ls hP hS hl)
theorem v_ifnonnull (X : Cx p args s m meth c g cc nL own rt N0) {x : Nat} {off : Int} {tgt : Nat} (d : decode cc pc = .ok (.ifnonnull off, 3)) (ht : (pc : Int) + off = (tgt : Int)) (k : V p l e R s m args below meth c Q g nL cs ss N f tgt lv st) : V p l e R s m args below meth c Q g nL cs ss N f pc lv (.ref x :: st) :=
  fun H locs ls hP hS hl => lv_ifnonnull X.1 X.2.1 d ht (k H locs ls hP hS hl)
end V8
def upS (S : Nat → Nat → Int32) (q : Nat) (σ : Nat → Int32) : Nat → Nat → Int32 := fun j => if j = q then σ else S j
theorem upS_s {S : Nat → Nat → Int32} {q : Nat} {σ : Nat → Int32} : upS S q σ q = σ := if_pos rfl
theorem upS_n {S : Nat → Nat → Int32} {q j : Nat} {σ : Nat → Int32} (h : j ≠ q) : upS S q σ j = S j := if_neg h
theorem lt6 {q : Nat} (h : q < 6) : q = 0 ∨ q = 1 ∨ q = 2 ∨ q = 3 ∨ q = 4 ∨ q = 5 := by omega
set_option maxRecDepth 100000 in
theorem sv_sbl {g : Ge} {o : Nat} {σ ρ : Nat → Int32} {S P : Nat → Nat → Int32} {φ κ τ π : Nat → Int32} {q : Nat} (h : q < 6) : sbl (xL g o σ ρ S P φ κ τ π) (41 + 23 * q) 23 = loL g (o + (41 + 23 * q)) (S q) (P q) := by
  rcases lt6 h with rfl | rfl | rfl | rfl | rfl | rfl <;> rfl
set_option maxRecDepth 100000 in
theorem sv_spl {g : Ge} {o : Nat} {σ ρ : Nat → Int32} {S P : Nat → Nat → Int32} {φ κ τ π : Nat → Int32} {q : Nat} {σ' ρ' : Nat → Int32} (h : q < 6) : spl (xL g o σ ρ S P φ κ τ π) (41 + 23 * q) (loL g (o + (41 + 23 * q)) σ' ρ') = xL g o σ ρ (upS S q σ') (upS P q ρ') φ κ τ π := by
  rcases lt6 h with rfl | rfl | rfl | rfl | rfl | rfl <;> rfl
set_option maxRecDepth 100000 in
theorem sv_at {g : Ge} {o : Nat} {σ ρ : Nat → Int32} {S P : Nat → Nat → Int32} {φ κ τ π : Nat → Int32} {q : Nat} (h : q < 6) : (xL g o σ ρ S P φ κ τ π)[41 + 23 * q]? = some (loE (o + (41 + 23 * q)) (S q)) := by
  rcases lt6 h with rfl | rfl | rfl | rfl | rfl | rfl <;> rfl
theorem sv_ref {o q : Nat} (h : q < 6) : va_rf (svR o q) = .ref (o + (41 + 23 * q)) := by
  unfold svR
  rw [if_pos h, ← Nat.add_assoc]
  rfl
def svN (n : Nat) : Nat := if n < 6 then n + 1 else n
theorem upd_id {f : Nat → Int32} {k : Nat} {v : Int32} (h : f k = v) : upd f k v = f := by
  funext i
  by_cases e : i = k
  · subst e; rw [pk_us, h]
  · rw [pk_un e]
theorem xL_pi {g : Ge} {o : Nat} {σ ρ : Nat → Int32} {S P : Nat → Nat → Int32} {φ κ τ π : Nat → Int32} {π' : Nat → Int32} (h : π' = π) : xL g o σ ρ S P φ κ τ π' = xL g o σ ρ S P φ κ τ π := by rw [h]
set_option maxRecDepth 100000 in
set_option maxHeartbeats 4000000 in
theorem c_X7_save (l : Launch) (g : Ge) (N o : Nat) (σ ρ : Nat → Int32) (S P : Nat → Nat → Int32) (φ κ τ π : Nat → Int32) (q n : Nat) (hq : π 1 = nI q) (hq6 : q < 6) (hn : π 0 = nI n) (hn6 : n ≤ 6) : Cb l g yX7_save (.code yX7_save cX7_save 2 none) 4 [.ref o] N o (xL g o σ ρ S P φ κ τ π) none (xL g o σ ρ (upS S ((q + 1) % 6) σ) (upS P ((q + 1) % 6) ρ) φ κ τ (upd (upd π 1 (nI ((q + 1) % 6))) 0 (nI (svN n)))) := by
  intro f hB0
  have hB : BB g N o 179 := hB0
  refine ct_of (own := RX7) [some (.ref o), none] (by decide +kernel) rfl rfl (Nat.le_of_ble_eq_true rfl) ?_
  intro vp ve vs vm va vb vt vc hnm X
  refine v_aload_n X dX7_save_0 (i := 0) rfl rfl ?_
  refine v_aload_n X dX7_save_1 (i := 0) rfl rfl ?_
  refine v_getB X hB cf7 3 (Nat.le_of_ble_eq_true rfl) m_fl_X7_24 dX7_save_2 0 (Nat.le_of_ble_eq_true rfl) rfl rfl ?_
  refine v_iconst X dX7_save_5 (v := (1 : Int32)) (by decide) ?_
  refine v_iadd X dX7_save_6 ?_
  refine v_bipush X dX7_save_7 (v := (6 : Int32)) (by decide) ?_
  refine v_cs X rfl yv_J9_floorMod_7cf53 m_ml_X7_248 (c_J9_floorMod_7cf53 l g ((π 1) + (1 : Int32)) (6 : Int32) (by decide)) rfl rfl (Nat.le_of_ble_eq_true rfl) ⟨Nat.le_of_ble_eq_true rfl, Nat.le_of_ble_eq_true rfl⟩ ⟨Nat.le_of_ble_eq_true rfl, Nat.le_of_ble_eq_true rfl⟩ dX7_save_9 rfl ?_
  have hj : jfm (π 1 + 1) 6 = nI ((q + 1) % 6) := by rw [hq, nI_1]; exact jfm_6p (q + 1) (by omega)
  refine v_putB X hB cf7 3 (Nat.le_of_ble_eq_true rfl) rfl m_fl_X7_24 dX7_save_12 0 (Nat.le_of_ble_eq_true rfl) rfl rfl rfl (Nat.le_of_ble_eq_true rfl) (L' := (xL g o σ ρ S P φ κ τ (upd π 1 (jfm ((π 1) + (1 : Int32)) (6 : Int32))))) w_x_0_latestSaved ?_
  refine v_aload_n X dX7_save_15 (i := 0) rfl rfl ?_
  refine v_getB X hB cf7 1 (Nat.le_of_ble_eq_true rfl) m_fl_X7_16 dX7_save_16 0 (Nat.le_of_ble_eq_true rfl) rfl rfl ?_
  refine v_aload_n X dX7_save_19 (i := 0) rfl rfl ?_
  refine v_getB X hB cf7 3 (Nat.le_of_ble_eq_true rfl) m_fl_X7_24 dX7_save_20 0 (Nat.le_of_ble_eq_true rfl) rfl rfl ?_
  have hq6 : ((q + 1) % 6) < 6 := Nat.mod_lt _ (by decide)
  refine v_aald (k := ((q + 1) % 6)) X dX7_save_23 ⟨hB.lo, hB.hi (Nat.le_of_ble_eq_true rfl)⟩ (ovr_at (o := o) (j := 24) rfl) (by rw [pk_us]; exact hj) hq6 (Nat.le_of_ble_eq_true rfl) (sv_ref hq6) ?_
  refine v_astore_n X dX7_save_24 (i := 1) rfl (Nat.le_of_ble_eq_true rfl) rfl ?_
  refine v_aload_n X dX7_save_25 (i := 1) rfl rfl ?_
  refine v_ifnull X dX7_save_26 ?_
  refine v_aload_n X dX7_save_29 (i := 1) rfl rfl ?_
  refine v_aload_n X dX7_save_30 (i := 0) rfl rfl ?_
  refine v_getB X hB cf7 0 (Nat.le_of_ble_eq_true rfl) m_fl_X7_12 dX7_save_31 0 (Nat.le_of_ble_eq_true rfl) rfl rfl ?_
  refine v_cvB2 X rfl yv_X4_copyFrom m_ml_X7_253 (41 + 23 * ((q + 1) % 6)) (41 + 23 * ((q + 1) % 6)) (c_X4_copyFrom l g N (o + (41 + 23 * ((q + 1) % 6))) (o + 1) (S ((q + 1) % 6)) (P ((q + 1) % 6)) σ ρ) hB (OB.of (41 + 23 * ((q + 1) % 6)) 1 hB rfl rfl (Nat.le_of_ble_eq_true rfl) (Or.inr (by show 1 + 23 ≤ _; omega)) rfl rfl) (by show _ + 23 ≤ _; omega) (sv_sbl hq6) (by show _ + 23 ≤ 179; omega) rfl (L' := (xL g o σ ρ (upS S ((q + 1) % 6) σ) (upS P ((q + 1) % 6) ρ) φ κ τ (upd π 1 (jfm ((π 1) + (1 : Int32)) (6 : Int32))))) (sv_spl hq6) (sv_at hq6) (by omega) rfl rfl (Nat.le_of_ble_eq_true rfl) ⟨Nat.le_of_ble_eq_true rfl, Nat.le_of_ble_eq_true rfl⟩ ⟨Nat.le_of_ble_eq_true rfl, Nat.le_of_ble_eq_true rfl⟩ dX7_save_34 rfl ?_
  refine v_aload_n X dX7_save_37 (i := 0) rfl rfl ?_
  refine v_getB X hB cf7 2 (Nat.le_of_ble_eq_true rfl) m_fl_X7_20 dX7_save_38 0 (Nat.le_of_ble_eq_true rfl) rfl rfl ?_
  refine v_bipush X dX7_save_41 (v := (6 : Int32)) (by decide) ?_
  refine v_icmp_ge X dX7_save_43 (tgt := 56) (by decide) (fun c43 => ?_) (fun c43 => ?_)
  · skip
    have hn0 : ¬ n < 6 := fun z => absurd (by rw [pk_un (by omega), hn] at c43; exact c43) (nI_ge z (by omega))
    exact v_vret X rfl dX7_save_56 (rfl) (by rw [svN, if_neg hn0, ← hj, ← hn]; rfl)
  · skip
    have hn1 : n < 6 := lt_of_nI (b := 6) (by omega) (by omega) (by rw [pk_un (by omega), hn] at c43; exact c43)
    refine v_aload_n X dX7_save_46 (i := 0) rfl rfl ?_
    refine v_dup X dX7_save_47 rfl ?_
    refine v_getB X hB cf7 2 (Nat.le_of_ble_eq_true rfl) m_fl_X7_20 dX7_save_48 0 (Nat.le_of_ble_eq_true rfl) rfl rfl ?_
    refine v_iconst X dX7_save_51 (v := (1 : Int32)) (by decide) ?_
    refine v_iadd X dX7_save_52 ?_
    refine v_putB X hB cf7 2 (Nat.le_of_ble_eq_true rfl) rfl m_fl_X7_20 dX7_save_53 0 (Nat.le_of_ble_eq_true rfl) rfl rfl rfl (Nat.le_of_ble_eq_true rfl) (L' := (xL g o σ ρ (upS S ((q + 1) % 6) σ) (upS P ((q + 1) % 6) ρ) φ κ τ (upd (upd π 1 (jfm ((π 1) + (1 : Int32)) (6 : Int32))) 0 (((upd π 1 (jfm ((π 1) + (1 : Int32)) (6 : Int32))) 0) + (1 : Int32))))) w_x_0_savedStates ?_
    exact v_vret X rfl dX7_save_56 (rfl) (by rw [svN, if_pos hn1, hj, pk_un (by omega), hn, nI_1])
set_option maxRecDepth 100000 in
set_option maxHeartbeats 4000000 in
theorem c_X7_saveBeforeChange (l : Launch) (g : Ge) (N o : Nat) (σ ρ : Nat → Int32) (S P : Nat → Nat → Int32) (φ κ τ π : Nat → Int32) (q n : Nat) (hq : π 1 = nI q) (hq6 : q < 6) (hn : π 0 = nI n) (hn6 : n ≤ 6) : Cb l g yX7_saveBeforeChange (.code yX7_saveBeforeChange cX7_saveBeforeChange 1 none) 5 [.ref o] N o (xL g o σ ρ S P φ κ τ π) none (xL g o (upd σ 8 0) ρ (upS S ((q + 1) % 6) σ) (upS P ((q + 1) % 6) ρ) φ κ τ (upd (upd π 1 (nI ((q + 1) % 6))) 0 (nI (svN n)))) := by
  intro f hB0
  have hB : BB g N o 179 := hB0
  refine ct_of (own := RX7) [some (.ref o)] (by decide +kernel) rfl rfl (Nat.le_of_ble_eq_true rfl) ?_
  intro vp ve vs vm va vb vt vc hnm X
  refine v_aload_n X dX7_saveBeforeChange_0 (i := 0) rfl rfl ?_
  refine v_cvB X rfl yv_X7_save m_ml_X7_142 0 0 (c_X7_save l g N o σ ρ S P φ κ τ π q n hq hq6 hn hn6) hB (Nat.le_of_ble_eq_true rfl) rfl (Nat.le_of_ble_eq_true rfl) rfl (L' := (xL g o σ ρ (upS S ((q + 1) % 6) σ) (upS P ((q + 1) % 6) ρ) φ κ τ (upd (upd π 1 (nI ((q + 1) % 6))) 0 (nI (svN n))))) (rfl) rfl (Nat.le_of_ble_eq_true rfl) rfl rfl (Nat.le_of_ble_eq_true rfl) ⟨Nat.le_of_ble_eq_true rfl, Nat.le_of_ble_eq_true rfl⟩ ⟨Nat.le_of_ble_eq_true rfl, Nat.le_of_ble_eq_true rfl⟩ dX7_saveBeforeChange_1 rfl ?_
  refine v_aload_n X dX7_saveBeforeChange_4 (i := 0) rfl rfl ?_
  refine v_getB X hB cf7 0 (Nat.le_of_ble_eq_true rfl) m_fl_X7_12 dX7_saveBeforeChange_5 0 (Nat.le_of_ble_eq_true rfl) rfl rfl ?_
  refine v_iconst X dX7_saveBeforeChange_8 (v := (0 : Int32)) (by decide) ?_
  refine v_putB X hB cf4 3 (Nat.le_of_ble_eq_true rfl) rfl m_fl_X7_154 dX7_saveBeforeChange_9 1 (Nat.le_of_ble_eq_true rfl) rfl rfl rfl (Nat.le_of_ble_eq_true rfl) (L' := (xL g o (upd σ 8 (0 : Int32)) ρ (upS S ((q + 1) % 6) σ) (upS P ((q + 1) % 6) ρ) φ κ τ (upd (upd π 1 (nI ((q + 1) % 6))) 0 (nI (svN n))))) w_x_1_takeable ?_
  exact v_vret X rfl dX7_saveBeforeChange_12 (rfl) (rfl)
set_option maxRecDepth 100000 in
set_option maxHeartbeats 4000000 in
theorem c_X7_undo (l : Launch) (g : Ge) (N o : Nat) (σ ρ : Nat → Int32) (S P : Nat → Nat → Int32) (φ κ τ π : Nat → Int32) (q n : Nat) (hq : π 1 = nI q) (hq6 : q < 6) (hn : π 0 = nI n) (hn6 : n ≤ 6) : Cb l g yX7_undo (.code yX7_undo cX7_undo 2 (some .int)) 4 [.ref o] N o (xL g o σ ρ S P φ κ τ π) (some (.int (if n = 0 then (-3 : Int32) else nI (n - 1)))) (xL g o (if n = 0 then σ else S q) (if n = 0 then ρ else P q) S P φ κ τ (if n = 0 then π else upd (upd π 1 (nI ((q + 5) % 6))) 0 (nI (n - 1)))) := by
  intro f hB0
  have hB : BB g N o 179 := hB0
  refine ct_of (own := RX7) [some (.ref o), none] (by decide +kernel) rfl rfl (Nat.le_of_ble_eq_true rfl) ?_
  intro vp ve vs vm va vb vt vc hnm X
  refine v_aload_n X dX7_undo_0 (i := 0) rfl rfl ?_
  refine v_getB X hB cf7 1 (Nat.le_of_ble_eq_true rfl) m_fl_X7_16 dX7_undo_1 0 (Nat.le_of_ble_eq_true rfl) rfl rfl ?_
  refine v_aload_n X dX7_undo_4 (i := 0) rfl rfl ?_
  refine v_getB X hB cf7 3 (Nat.le_of_ble_eq_true rfl) m_fl_X7_24 dX7_undo_5 0 (Nat.le_of_ble_eq_true rfl) rfl rfl ?_
  refine v_bipush X dX7_undo_8 (v := (6 : Int32)) (by decide) ?_
  refine v_cs X rfl yv_J9_floorMod_7cf53 m_ml_X7_248 (c_J9_floorMod_7cf53 l g (π 1) (6 : Int32) (by decide)) rfl rfl (Nat.le_of_ble_eq_true rfl) ⟨Nat.le_of_ble_eq_true rfl, Nat.le_of_ble_eq_true rfl⟩ ⟨Nat.le_of_ble_eq_true rfl, Nat.le_of_ble_eq_true rfl⟩ dX7_undo_10 rfl ?_
  have hj : jfm (π 1) 6 = nI q := by rw [hq]; exact (jfm_6p q (by omega)).trans (by rw [Nat.mod_eq_of_lt hq6])
  refine v_aald (k := q) X dX7_undo_13 ⟨hB.lo, hB.hi (Nat.le_of_ble_eq_true rfl)⟩ (ovr_at (o := o) (j := 24) rfl) hj hq6 (Nat.le_of_ble_eq_true rfl) (sv_ref hq6) ?_
  refine v_astore_n X dX7_undo_14 (i := 1) rfl (Nat.le_of_ble_eq_true rfl) rfl ?_
  refine v_aload_n X dX7_undo_15 (i := 0) rfl rfl ?_
  refine v_getB X hB cf7 2 (Nat.le_of_ble_eq_true rfl) m_fl_X7_20 dX7_undo_16 0 (Nat.le_of_ble_eq_true rfl) rfl rfl ?_
  refine v_if_le X dX7_undo_19 (tgt := 26) (by decide) (fun c19 => ?_) (fun c19 => ?_)
  · skip
    have hn0 : n = 0 := by
      rw [hn] at c19
      rcases Nat.eq_zero_or_pos n with z | z
      · exact z
      · exact absurd c19 (nI_nle z (by omega))
    subst hn0
    refine v_bipush X dX7_undo_26 (v := (-3 : Int32)) (by decide) ?_
    exact v_iret X rfl dX7_undo_28 (rfl) (rfl)
  · skip
    have hn1 : ¬ n = 0 := by
      intro z
      subst z
      rw [hn] at c19
      exact absurd c19 (by decide)
    have e0 : nI n - 1 = nI (n - 1) := pk_sub (b := 1) (by omega)
    refine v_aload_n X dX7_undo_22 (i := 1) rfl rfl ?_
    refine v_ifnonnull X dX7_undo_23 (tgt := 29) (by decide) ?_
    refine v_aload_n X dX7_undo_29 (i := 0) rfl rfl ?_
    refine v_getB X hB cf7 0 (Nat.le_of_ble_eq_true rfl) m_fl_X7_12 dX7_undo_30 0 (Nat.le_of_ble_eq_true rfl) rfl rfl ?_
    refine v_aload_n X dX7_undo_33 (i := 1) rfl rfl ?_
    refine v_cvB2 X rfl yv_X4_copyFrom m_ml_X7_253 1 1 (c_X4_copyFrom l g N (o + 1) (o + (41 + 23 * q)) σ ρ (S q) (P q)) hB (OB.of 1 (41 + 23 * q) hB rfl rfl (by show _ + 23 ≤ _; omega) (Or.inl (by show 1 + 23 ≤ _; omega)) (sv_sbl hq6) rfl) (Nat.le_of_ble_eq_true rfl) rfl (Nat.le_of_ble_eq_true rfl) rfl (L' := (xL g o (S q) (P q) S P φ κ τ π)) xL_now rfl (Nat.le_of_ble_eq_true rfl) rfl rfl (Nat.le_of_ble_eq_true rfl) ⟨Nat.le_of_ble_eq_true rfl, Nat.le_of_ble_eq_true rfl⟩ ⟨Nat.le_of_ble_eq_true rfl, Nat.le_of_ble_eq_true rfl⟩ dX7_undo_34 rfl ?_
    refine v_aload_n X dX7_undo_37 (i := 0) rfl rfl ?_
    refine v_aload_n X dX7_undo_38 (i := 0) rfl rfl ?_
    refine v_getB X hB cf7 3 (Nat.le_of_ble_eq_true rfl) m_fl_X7_24 dX7_undo_39 0 (Nat.le_of_ble_eq_true rfl) rfl rfl ?_
    refine v_iconst X dX7_undo_42 (v := (1 : Int32)) (by decide) ?_
    refine v_isub X dX7_undo_43 ?_
    refine v_bipush X dX7_undo_44 (v := (6 : Int32)) (by decide) ?_
    refine v_cs X rfl yv_J9_floorMod_7cf53 m_ml_X7_248 (c_J9_floorMod_7cf53 l g ((π 1) - (1 : Int32)) (6 : Int32) (by decide)) rfl rfl (Nat.le_of_ble_eq_true rfl) ⟨Nat.le_of_ble_eq_true rfl, Nat.le_of_ble_eq_true rfl⟩ ⟨Nat.le_of_ble_eq_true rfl, Nat.le_of_ble_eq_true rfl⟩ dX7_undo_46 rfl ?_
    refine v_putB X hB cf7 3 (Nat.le_of_ble_eq_true rfl) rfl m_fl_X7_24 dX7_undo_49 0 (Nat.le_of_ble_eq_true rfl) rfl rfl rfl (Nat.le_of_ble_eq_true rfl) (L' := (xL g o (S q) (P q) S P φ κ τ (upd π 1 (jfm ((π 1) - (1 : Int32)) (6 : Int32))))) w_x_0_latestSaved ?_
    refine v_aload_n X dX7_undo_52 (i := 0) rfl rfl ?_
    refine v_dup X dX7_undo_53 rfl ?_
    refine v_getB X hB cf7 2 (Nat.le_of_ble_eq_true rfl) m_fl_X7_20 dX7_undo_54 0 (Nat.le_of_ble_eq_true rfl) rfl rfl ?_
    refine v_iconst X dX7_undo_57 (v := (1 : Int32)) (by decide) ?_
    refine v_isub X dX7_undo_58 ?_
    refine v_putB X hB cf7 2 (Nat.le_of_ble_eq_true rfl) rfl m_fl_X7_20 dX7_undo_59 0 (Nat.le_of_ble_eq_true rfl) rfl rfl rfl (Nat.le_of_ble_eq_true rfl) (L' := (xL g o (S q) (P q) S P φ κ τ (upd (upd π 1 (jfm ((π 1) - (1 : Int32)) (6 : Int32))) 0 (((upd π 1 (jfm ((π 1) - (1 : Int32)) (6 : Int32))) 0) - (1 : Int32))))) w_x_0_savedStates ?_
    refine v_aload_n X dX7_undo_62 (i := 0) rfl rfl ?_
    refine v_getB X hB cf7 2 (Nat.le_of_ble_eq_true rfl) m_fl_X7_20 dX7_undo_63 0 (Nat.le_of_ble_eq_true rfl) rfl rfl ?_
    exact v_iret X rfl dX7_undo_66 (by rw [if_neg hn1, pk_us, pk_un (by omega), hn, e0]) (by rw [if_neg hn1, if_neg hn1, if_neg hn1, hq, jfm_6n q (by omega), pk_un (by omega), hn, e0])
