/-! the constructors -/
theorem ovr_push {f : Pic} {o a : Nat} {L : List va_E} {e : va_E} (h : a = o + L.length) : upP (ovr f o L) a e = ovr f o (L ++ [e]) := by
  subst h
  funext b
  by_cases h1 : b = o + L.length
  · subst h1
    rw [ovr_at (by rw [List.getElem?_append_right (Nat.le_refl _), Nat.sub_self]; rfl)]
    simp [upP]
  · simp only [upP, h1, if_false]
    by_cases h2 : o ≤ b ∧ b < o + L.length
    · obtain ⟨i, rfl⟩ : ∃ i, b = o + i := ⟨b - o, by omega⟩
      obtain ⟨c, hc⟩ : ∃ c, L[i]? = some c := ⟨_, List.getElem?_eq_getElem (by omega)⟩
      rw [ovr_at hc, ovr_at (by rw [List.getElem?_append_left (by omega)]; exact hc)]
    · rw [ovr_out (by omega), ovr_out (by rw [List.length_append, List.length_singleton]; omega)]
theorem ovr_app {f : Pic} {o a : Nat} {L M : List va_E} (h : a = o + L.length) : ovr (ovr f o L) a M = ovr f o (L ++ M) := by
  subst h
  funext b
  by_cases h1 : o + L.length ≤ b ∧ b < o + L.length + M.length
  · obtain ⟨i, rfl⟩ : ∃ i, b = o + L.length + i := ⟨b - (o + L.length), by omega⟩
    obtain ⟨c, hc⟩ : ∃ c, M[i]? = some c := ⟨_, List.getElem?_eq_getElem (by omega)⟩
    rw [ovr_at hc, Nat.add_assoc, ovr_at (by rw [List.getElem?_append_right (by omega)]; rw [show L.length + i - L.length = i by omega]; exact hc)]
  · rw [ovr_out (by omega)]
    by_cases h2 : o ≤ b ∧ b < o + L.length
    · obtain ⟨i, rfl⟩ : ∃ i, b = o + i := ⟨b - o, by omega⟩
      obtain ⟨c, hc⟩ : ∃ c, L[i]? = some c := ⟨_, List.getElem?_eq_getElem (by omega)⟩
      rw [ovr_at hc, ovr_at (by rw [List.getElem?_append_left (by omega)]; exact hc)]
    · rw [ovr_out (by omega), ovr_out (by rw [List.length_append]; omega)]
theorem upP_ovr (f : Pic) (a : Nat) (e : va_E) : upP f a e = ovr f a [e] := by
  have := ovr_push (f := f) (o := a) (a := a) (L := []) (e := e) (by simp)
  rw [ovr_nil] at this
  exact this
/-- a constructor: the blank cell at o = n0 + M, the last one, becomes the list of cells L o -/
def Ck (l : Launch) (g : Ge) (y : MethodName) (w : Cond) (d : Nat) (b : va_E) (n ms : Nat) (L : Nat → List va_E) : Prop :=
  ∀ (f : Pic) (M o : Nat), o = g.2.2 + M → Ct l g y w d [.ref o] (M + 1) (ovr f o [b]) none (M + 1 + n) (ovr f o (L o)) n ms
section V7
variable {p : Program} {l : Launch} {e : Env} {R : Room} {s : State} {m : MethodId} {args : Array Value} {below : List Frame} {meth : Method} {c : Code} {Q : State → Prop}
variable {g : Ge} {cc : ByteArray} {nL : Nat} {own : String} {rt : Option FieldType} {N0 cs ss N : Nat} {f : Pic} {pc : Nat} {lv : List (Option Value)} {st : List Value} {o nB : Nat} {L L' : List va_E}
theorem v_newB (X : Cx p args s m meth c g cc nL own rt N0) {ci idx : Nat} {C : String} {T : u_T} {n : Nat} {ty : Nat → FieldType} {fs : List Value} (j : Nat) (ho : g.2.2 + N = o + j) (hj : L.length = j) (hz : N = N0 + cs) (cf : CF ci C T n ty) (hcl : Cond.classLink own idx C ∈ gT) (hin : Cond.instantiable C n ∈ gT) (hini : Cond.initialized C ∈ gT) (hfs : ∀ k, k < n → defaultValue (ty k) = vp_V fs k) (hR : cs + 1 ≤ R.cells ∧ ss + n ≤ R.slots) (d : decode cc pc = .ok (.new idx, 3)) (hL : L ++ [.inr (ci, fs)] = L') (kk : V p l e R s m args below meth c Q g nL (cs + 1) (ss + n) (N + 1) (ovr f o L') (pc + 3) lv (.ref (o + j) :: st)) : V p l e R s m args below meth c Q g nL cs ss N (ovr f o L) pc lv st := by
  refine v_new X hz cf hcl hin hini hfs hR d ?_
  rw [ho, ovr_push (by rw [hj]), hL]
  exact kk
theorem v_newaB_i (X : Cx p args s m meth c g cc nL own rt N0) {n : Int32} {n' : Nat} (j : Nat) (ho : g.2.2 + N = o + j) (hj : L.length = j) (hz : N = N0 + cs) (hw : Cond.arrayClass .int ∈ gT) (hn : n = nI n') (hn' : n' ≤ 100000) (hR : cs + 1 ≤ R.cells ∧ ss + n' ≤ R.slots) (d : decode cc pc = .ok (.newarray .int, 2)) (hL : L ++ [.inl (g.2.1.1, n', .inl (fun _ => 0))] = L') (kk : V p l e R s m args below meth c Q g nL (cs + 1) (ss + n') (N + 1) (ovr f o L') (pc + 2) lv (.ref (o + j) :: st)) : V p l e R s m args below meth c Q g nL cs ss N (ovr f o L) pc lv (.int n :: st) := by
  refine v_newa_i X hz hw hn hn' hR d ?_
  rw [ho, ovr_push (by rw [hj]), hL]
  exact kk
theorem v_newaB_c (X : Cx p args s m meth c g cc nL own rt N0) {n : Int32} {n' : Nat} (j : Nat) (ho : g.2.2 + N = o + j) (hj : L.length = j) (hz : N = N0 + cs) (hw : Cond.arrayClass .char ∈ gT) (hn : n = nI n') (hn' : n' ≤ 100000) (hR : cs + 1 ≤ R.cells ∧ ss + n' ≤ R.slots) (d : decode cc pc = .ok (.newarray .char, 2)) (hL : L ++ [.inl (g.2.1.2.1, n', .inl (fun _ => 0))] = L') (kk : V p l e R s m args below meth c Q g nL (cs + 1) (ss + n') (N + 1) (ovr f o L') (pc + 2) lv (.ref (o + j) :: st)) : V p l e R s m args below meth c Q g nL cs ss N (ovr f o L) pc lv (.int n :: st) := by
  refine v_newa_c X hz hw hn hn' hR d ?_
  rw [ho, ovr_push (by rw [hj]), hL]
  exact kk
theorem v_newqB (X : Cx p args s m meth c g cc nL own rt N0) {n : Int32} {n' idx : Nat} (j : Nat) (ho : g.2.2 + N = o + j) (hj : L.length = j) (hz : N = N0 + cs) (hcl : Cond.classLink own idx RX4 ∈ gT) (hn : n = nI n') (hn' : n' ≤ 100000) (hR : cs + 1 ≤ R.cells ∧ ss + n' ≤ R.slots) (d : decode cc pc = .ok (.anewarray idx, 3)) (hL : L ++ [.inl (g.2.1.2.2, n', .inr (.inr (.inr (.inr (fun _ => none)))))] = L') (kk : V p l e R s m args below meth c Q g nL (cs + 1) (ss + n') (N + 1) (ovr f o L') (pc + 3) lv (.ref (o + j) :: st)) : V p l e R s m args below meth c Q g nL cs ss N (ovr f o L) pc lv (.int n :: st) := by
  refine v_newq X hz hcl hn hn' hR d ?_
  rw [ho, ovr_push (by rw [hj]), hL]
  exact kk
theorem ck_use {y : MethodName} {w : Cond} {d n ms M j : Nat} {b : va_E} {L1 : Nat → List va_E} (hC : Ck l g y w d b n ms L1) (ho : g.2.2 + M = o + j) (hj : L.length = j) (hL : L ++ L1 (o + j) = L') : Ct l g y w d [.ref (o + j)] (M + 1) (ovr f o (L ++ [b])) none (M + 1 + n) (ovr f o L') n ms := by
  have h := hC (ovr f o L) M (o + j) ho.symm
  rw [ovr_app (by rw [hj]), ovr_app (by rw [hj]), hL] at h
  exact h
end V7
def sI : Nat → Int32 := fun i => if i = 2 then 1 else if i = 10 then -6 else if 12 ≤ i ∧ i < 32 then (if (i - 12) % 4 = 0 then nI ((i - 12) / 4) else if (i - 12) % 4 = 1 then 20 else -6) else if 32 ≤ i ∧ i < 56 then (if i % 2 = 0 then nI ((i - 32) / 2 % 6) else 60) else 0
theorem sI_sh {s : Nat} (h : s < 5) : sI (12 + 4 * s) = nI s ∧ sI (13 + 4 * s) = 20 ∧ sI (14 + 4 * s) = -6 ∧ sI (15 + 4 * s) = -6 := by
  have e : s = 0 ∨ s = 1 ∨ s = 2 ∨ s = 3 ∨ s = 4 := by omega
  rcases e with rfl | rfl | rfl | rfl | rfl <;> decide
theorem sI_th {t : Nat} (h : t < 12) : sI (32 + 2 * t) = nI (t % 6) ∧ sI (33 + 2 * t) = 60 := by
  have e : t = 0 ∨ t = 1 ∨ t = 2 ∨ t = 3 ∨ t = 4 ∨ t = 5 ∨ t = 6 ∨ t = 7 ∨ t = 8 ∨ t = 9 ∨ t = 10 ∨ t = 11 := by omega
  rcases e with rfl | rfl | rfl | rfl | rfl | rfl | rfl | rfl | rfl | rfl | rfl | rfl <;> decide
theorem vw_0 {σ : Nat → Int32} {b s : Nat} : vw σ b s 0 = fun _ => 0 := by
  funext i; simp [vw]
theorem vw_1 {σ : Nat → Int32} {b s k : Nat} {v : Int32} (h : σ (b + s * k) = v) : upd (vw σ b s k) k v = vw σ b s (k + 1) := by
  funext i
  by_cases e : i = k
  · subst e; rw [pk_us, vw_at (Nat.lt_succ_self _), h]
  · rw [pk_un e]
    by_cases h1 : i < k
    · rw [vw_at h1, vw_at (by omega)]
    · rw [vw, vw, if_neg h1, if_neg (by omega)]
theorem vw_z {σ : Nat → Int32} {b s n : Nat} (h : ∀ i, i < n → σ (b + s * i) = 0) : vw σ b s n = fun _ => 0 := by
  funext i
  by_cases h1 : i < n
  · rw [vw_at h1, h i h1]
  · simp [vw, h1]
def zI : Nat → Int32 := fun _ => 0
set_option maxRecDepth 100000 in
set_option maxHeartbeats 4000000 in
theorem c_X0_init (l : Launch) (g : Ge) : Ck l g yX0_init (.code yX0_init cX0_init 1 none) 1 (.inr (0, [.int 0, .int 0, .int 0, .int 0, .int 0])) 0 0 (fun o => rdL zI) := by
  intro f M o ho
  have hB : ∀ N k, M + k ≤ N → k ≤ k → BB g N o k := fun N k h _ => ⟨by omega, by omega⟩
  refine ct_of (own := RX0) [some (.ref o)] (by decide +kernel) rfl rfl (Nat.le_of_ble_eq_true rfl) ?_
  intro vp ve vs vm va vb vt vc hnm X
  refine v_aload_n X dX0_init_0 (i := 0) rfl rfl ?_
  refine v_objInit X m_ml_X0_3 (Nat.le_of_ble_eq_true rfl) ⟨Nat.le_of_ble_eq_true rfl, Nat.le_of_ble_eq_true rfl⟩ dX0_init_1 ?_
  refine v_aload_n X dX0_init_4 (i := 0) rfl rfl ?_
  refine v_iconst X dX0_init_5 (v := (0 : Int32)) (by decide) ?_
  refine v_putB X (hB _ _ (by omega) (Nat.le_refl 1)) cf0 0 (Nat.le_of_ble_eq_true rfl) rfl m_fl_X0_9 dX0_init_6 0 (by omega) rfl rfl rfl (Nat.le_of_ble_eq_true rfl) rfl ?_
  refine v_aload_n X dX0_init_9 (i := 0) rfl rfl ?_
  refine v_iconst X dX0_init_10 (v := (0 : Int32)) (by decide) ?_
  refine v_putB X (hB _ _ (by omega) (Nat.le_refl 1)) cf0 1 (Nat.le_of_ble_eq_true rfl) rfl m_fl_X0_15 dX0_init_11 0 (by omega) rfl rfl rfl (Nat.le_of_ble_eq_true rfl) rfl ?_
  refine v_aload_n X dX0_init_14 (i := 0) rfl rfl ?_
  refine v_iconst X dX0_init_15 (v := (0 : Int32)) (by decide) ?_
  refine v_putB X (hB _ _ (by omega) (Nat.le_refl 1)) cf0 2 (Nat.le_of_ble_eq_true rfl) rfl m_fl_X0_18 dX0_init_16 0 (by omega) rfl rfl rfl (Nat.le_of_ble_eq_true rfl) rfl ?_
  refine v_aload_n X dX0_init_19 (i := 0) rfl rfl ?_
  refine v_iconst X dX0_init_20 (v := (0 : Int32)) (by decide) ?_
  refine v_putB X (hB _ _ (by omega) (Nat.le_refl 1)) cf0 3 (Nat.le_of_ble_eq_true rfl) rfl m_fl_X0_21 dX0_init_21 0 (by omega) rfl rfl rfl (Nat.le_of_ble_eq_true rfl) rfl ?_
  refine v_aload_n X dX0_init_24 (i := 0) rfl rfl ?_
  refine v_iconst X dX0_init_25 (v := (0 : Int32)) (by decide) ?_
  refine v_putB X (hB _ _ (by omega) (Nat.le_refl 1)) cf0 4 (Nat.le_of_ble_eq_true rfl) rfl m_fl_X0_24 dX0_init_26 0 (by omega) rfl rfl rfl (Nat.le_of_ble_eq_true rfl) rfl ?_
  exact v_vret X rfl dX0_init_29 rfl (rfl)
set_option maxRecDepth 100000 in
set_option maxHeartbeats 4000000 in
theorem c_X5_init (l : Launch) (g : Ge) : Ck l g yX5_init (.code yX5_init cX5_init 2 none) 1 (.inr (5, [.null, .null, .null, .null])) 4 20 (fun o => shL g o sI) := by
  intro f M o ho
  have hB : ∀ N k, M + k ≤ N → k ≤ k → BB g N o k := fun N k h _ => ⟨by omega, by omega⟩
  refine ct_of (own := RX5) [some (.ref o), none] (by decide +kernel) rfl rfl (Nat.le_of_ble_eq_true rfl) ?_
  intro vp ve vs vm va vb vt vc hnm X
  refine v_aload_n X dX5_init_0 (i := 0) rfl rfl ?_
  refine v_objInit X m_ml_X5_3 (Nat.le_of_ble_eq_true rfl) ⟨Nat.le_of_ble_eq_true rfl, Nat.le_of_ble_eq_true rfl⟩ dX5_init_1 ?_
  refine v_aload_n X dX5_init_4 (i := 0) rfl rfl ?_
  refine v_iconst X dX5_init_5 (v := (5 : Int32)) (by decide) ?_
  refine v_newaB_i X 1 (by rw [ho]; omega) rfl (by omega) m_ac_int (n' := 5) rfl (by decide) ⟨Nat.le_of_ble_eq_true rfl, Nat.le_of_ble_eq_true rfl⟩ dX5_init_6 rfl ?_
  refine v_putFB X (hB _ _ (by omega) (Nat.le_refl 2)) cf5 0 (Nat.le_of_ble_eq_true rfl) rfl hnm.symm rfl m_fl_X5_9 dX5_init_8 0 (by omega) rfl rfl rfl (Nat.le_of_ble_eq_true rfl) rfl ?_
  refine v_aload_n X dX5_init_11 (i := 0) rfl rfl ?_
  refine v_iconst X dX5_init_12 (v := (5 : Int32)) (by decide) ?_
  refine v_newaB_i X 2 (by rw [ho]; omega) rfl (by omega) m_ac_int (n' := 5) rfl (by decide) ⟨Nat.le_of_ble_eq_true rfl, Nat.le_of_ble_eq_true rfl⟩ dX5_init_13 rfl ?_
  refine v_putFB X (hB _ _ (by omega) (Nat.le_refl 3)) cf5 1 (Nat.le_of_ble_eq_true rfl) rfl hnm.symm rfl m_fl_X5_15 dX5_init_15 0 (by omega) rfl rfl rfl (Nat.le_of_ble_eq_true rfl) rfl ?_
  refine v_aload_n X dX5_init_18 (i := 0) rfl rfl ?_
  refine v_iconst X dX5_init_19 (v := (5 : Int32)) (by decide) ?_
  refine v_newaB_i X 3 (by rw [ho]; omega) rfl (by omega) m_ac_int (n' := 5) rfl (by decide) ⟨Nat.le_of_ble_eq_true rfl, Nat.le_of_ble_eq_true rfl⟩ dX5_init_20 rfl ?_
  refine v_putFB X (hB _ _ (by omega) (Nat.le_refl 4)) cf5 2 (Nat.le_of_ble_eq_true rfl) rfl hnm.symm rfl m_fl_X5_18 dX5_init_22 0 (by omega) rfl rfl rfl (Nat.le_of_ble_eq_true rfl) rfl ?_
  refine v_aload_n X dX5_init_25 (i := 0) rfl rfl ?_
  refine v_iconst X dX5_init_26 (v := (5 : Int32)) (by decide) ?_
  refine v_newaB_i X 4 (by rw [ho]; omega) rfl (by omega) m_ac_int (n' := 5) rfl (by decide) ⟨Nat.le_of_ble_eq_true rfl, Nat.le_of_ble_eq_true rfl⟩ dX5_init_27 rfl ?_
  refine v_putFB X (hB _ _ (by omega) (Nat.le_refl 5)) cf5 3 (Nat.le_of_ble_eq_true rfl) rfl hnm.symm rfl m_fl_X5_21 dX5_init_29 0 (by omega) rfl rfl rfl (Nat.le_of_ble_eq_true rfl) rfl ?_
  refine v_iconst X dX5_init_32 (v := (0 : Int32)) (by decide) ?_
  refine v_istore_n X dX5_init_33 (i := 1) rfl (Nat.le_of_ble_eq_true rfl) rfl ?_
  have LP34 : ∀ (n_ : Nat) (k : Nat), (k ≤ 5) → 5 - k < n_ → V vp l ve (rmD 1 4 20) vs vm va vb vt vc (MQ vb (CtQ g none (M + 1 + 4) (ovr f o (shL g o sI))) va vs 4 20 (gA g)) g 2 4 20 (M + 1 + 4) (ovr f o [.inr (5, [.ref (o + 1), .ref (o + 2), .ref (o + 3), .ref (o + 4)]), .inl (g.2.1.1, 5, .inl (vw sI 12 4 k)), .inl (g.2.1.1, 5, .inl (vw sI 13 4 k)), .inl (g.2.1.1, 5, .inl (vw sI 14 4 k)), .inl (g.2.1.1, 5, .inl (vw sI 15 4 k))]) 34 [some (.ref o), some (.int (nI k))] [] := by
    intro n_
    induction n_ with
    | zero => intro k hk hm_; exact absurd hm_ (Nat.not_lt_zero _)
    | succ n_ ih34 =>
      intro k hk hm34
      refine v_iload_n X dX5_init_34 (i := 1) rfl rfl ?_
      refine v_iconst X dX5_init_35 (v := (5 : Int32)) (by decide) ?_
      refine v_icmp_ge X dX5_init_36 (tgt := 76) (by decide) (fun c36 => ?_) (fun c36 => ?_)
      · skip
        have hk5 : k = 5 := Nat.le_antisymm hk (le_of_nI (a := 5) (by omega) (by omega) c36)
        subst hk5
        exact v_vret X rfl dX5_init_76 rfl (rfl)
      · skip
        have hk5 : k < 5 := lt_of_nI (b := 5) (by omega) (by omega) c36
        refine v_aload_n X dX5_init_39 (i := 0) rfl rfl ?_
        refine v_getB X (hB _ _ (by omega) (Nat.le_refl 5)) cf5 0 (Nat.le_of_ble_eq_true rfl) m_fl_X5_9 dX5_init_40 0 (by omega) rfl rfl ?_
        refine v_iload_n X dX5_init_43 (i := 1) rfl rfl ?_
        refine v_iload_n X dX5_init_44 (i := 1) rfl rfl ?_
        refine v_iastB (n := 5) X (hB _ _ (by omega) (Nat.le_refl 5)) dX5_init_45 1 (by omega) rfl k rfl (by omega) (Nat.le_of_ble_eq_true rfl) rfl ?_
        refine v_aload_n X dX5_init_46 (i := 0) rfl rfl ?_
        refine v_getB X (hB _ _ (by omega) (Nat.le_refl 5)) cf5 1 (Nat.le_of_ble_eq_true rfl) m_fl_X5_15 dX5_init_47 0 (by omega) rfl rfl ?_
        refine v_iload_n X dX5_init_50 (i := 1) rfl rfl ?_
        refine v_bipush X dX5_init_51 (v := (20 : Int32)) (by decide) ?_
        refine v_iastB (n := 5) X (hB _ _ (by omega) (Nat.le_refl 5)) dX5_init_53 2 (by omega) rfl k rfl (by omega) (Nat.le_of_ble_eq_true rfl) rfl ?_
        refine v_aload_n X dX5_init_54 (i := 0) rfl rfl ?_
        refine v_getB X (hB _ _ (by omega) (Nat.le_refl 5)) cf5 2 (Nat.le_of_ble_eq_true rfl) m_fl_X5_18 dX5_init_55 0 (by omega) rfl rfl ?_
        refine v_iload_n X dX5_init_58 (i := 1) rfl rfl ?_
        refine v_bipush X dX5_init_59 (v := (-6 : Int32)) (by decide) ?_
        refine v_iastB (n := 5) X (hB _ _ (by omega) (Nat.le_refl 5)) dX5_init_61 3 (by omega) rfl k rfl (by omega) (Nat.le_of_ble_eq_true rfl) rfl ?_
        refine v_aload_n X dX5_init_62 (i := 0) rfl rfl ?_
        refine v_getB X (hB _ _ (by omega) (Nat.le_refl 5)) cf5 3 (Nat.le_of_ble_eq_true rfl) m_fl_X5_21 dX5_init_63 0 (by omega) rfl rfl ?_
        refine v_iload_n X dX5_init_66 (i := 1) rfl rfl ?_
        refine v_bipush X dX5_init_67 (v := (-6 : Int32)) (by decide) ?_
        refine v_iastB (n := 5) X (hB _ _ (by omega) (Nat.le_refl 5)) dX5_init_69 4 (by omega) rfl k rfl (by omega) (Nat.le_of_ble_eq_true rfl) rfl ?_
        refine v_iinc X dX5_init_70 (v := nI (k + 1)) rfl (ix_inc rfl) (Nat.le_of_ble_eq_true rfl) rfl ?_
        refine v_goto X dX5_init_73 (tgt := 34) (by decide) ?_
        exact V.cast (ih34 (k + 1) (by omega) (by omega)) (rfl) (rfl) (by rw [← vw_1 (sI_sh hk5).1, ← vw_1 (sI_sh hk5).2.1, ← vw_1 (sI_sh hk5).2.2.1, ← vw_1 (sI_sh hk5).2.2.2]; rfl)
  exact V.cast (LP34 _ 0 (Nat.zero_le _) (Nat.lt_succ_self _)) (rfl) (rfl) (by rw [vw_0, vw_0, vw_0, vw_0]; rfl)
set_option maxRecDepth 100000 in
set_option maxHeartbeats 4000000 in
theorem c_X6_init (l : Launch) (g : Ge) : Ck l g yX6_init (.code yX6_init cX6_init 2 none) 1 (.inr (6, [.null, .null])) 2 24 (fun o => thL g o sI) := by
  intro f M o ho
  have hB : ∀ N k, M + k ≤ N → k ≤ k → BB g N o k := fun N k h _ => ⟨by omega, by omega⟩
  refine ct_of (own := RX6) [some (.ref o), none] (by decide +kernel) rfl rfl (Nat.le_of_ble_eq_true rfl) ?_
  intro vp ve vs vm va vb vt vc hnm X
  refine v_aload_n X dX6_init_0 (i := 0) rfl rfl ?_
  refine v_objInit X m_ml_X6_3 (Nat.le_of_ble_eq_true rfl) ⟨Nat.le_of_ble_eq_true rfl, Nat.le_of_ble_eq_true rfl⟩ dX6_init_1 ?_
  refine v_aload_n X dX6_init_4 (i := 0) rfl rfl ?_
  refine v_bipush X dX6_init_5 (v := (12 : Int32)) (by decide) ?_
  refine v_newaB_i X 1 (by rw [ho]; omega) rfl (by omega) m_ac_int (n' := 12) rfl (by decide) ⟨Nat.le_of_ble_eq_true rfl, Nat.le_of_ble_eq_true rfl⟩ dX6_init_7 rfl ?_
  refine v_putFB X (hB _ _ (by omega) (Nat.le_refl 2)) cf6 0 (Nat.le_of_ble_eq_true rfl) rfl hnm.symm rfl m_fl_X6_9 dX6_init_9 0 (by omega) rfl rfl rfl (Nat.le_of_ble_eq_true rfl) rfl ?_
  refine v_aload_n X dX6_init_12 (i := 0) rfl rfl ?_
  refine v_bipush X dX6_init_13 (v := (12 : Int32)) (by decide) ?_
  refine v_newaB_i X 2 (by rw [ho]; omega) rfl (by omega) m_ac_int (n' := 12) rfl (by decide) ⟨Nat.le_of_ble_eq_true rfl, Nat.le_of_ble_eq_true rfl⟩ dX6_init_15 rfl ?_
  refine v_putFB X (hB _ _ (by omega) (Nat.le_refl 3)) cf6 1 (Nat.le_of_ble_eq_true rfl) rfl hnm.symm rfl m_fl_X6_15 dX6_init_17 0 (by omega) rfl rfl rfl (Nat.le_of_ble_eq_true rfl) rfl ?_
  refine v_iconst X dX6_init_20 (v := (0 : Int32)) (by decide) ?_
  refine v_istore_n X dX6_init_21 (i := 1) rfl (Nat.le_of_ble_eq_true rfl) rfl ?_
  have LP22 : ∀ (n_ : Nat) (k : Nat), (k ≤ 12) → 12 - k < n_ → V vp l ve (rmD 1 2 24) vs vm va vb vt vc (MQ vb (CtQ g none (M + 1 + 2) (ovr f o (thL g o sI))) va vs 2 24 (gA g)) g 2 2 24 (M + 1 + 2) (ovr f o [.inr (6, [.ref (o + 1), .ref (o + 2)]), .inl (g.2.1.1, 12, .inl (vw sI 32 2 k)), .inl (g.2.1.1, 12, .inl (vw sI 33 2 k))]) 22 [some (.ref o), some (.int (nI k))] [] := by
    intro n_
    induction n_ with
    | zero => intro k hk hm_; exact absurd hm_ (Nat.not_lt_zero _)
    | succ n_ ih22 =>
      intro k hk hm22
      refine v_iload_n X dX6_init_22 (i := 1) rfl rfl ?_
      refine v_bipush X dX6_init_23 (v := (12 : Int32)) (by decide) ?_
      refine v_icmp_ge X dX6_init_25 (tgt := 52) (by decide) (fun c25 => ?_) (fun c25 => ?_)
      · skip
        have hk5 : k = 12 := Nat.le_antisymm hk (le_of_nI (a := 12) (by omega) (by omega) c25)
        subst hk5
        exact v_vret X rfl dX6_init_52 rfl (rfl)
      · skip
        have hk5 : k < 12 := lt_of_nI (b := 12) (by omega) (by omega) c25
        refine v_aload_n X dX6_init_28 (i := 0) rfl rfl ?_
        refine v_getB X (hB _ _ (by omega) (Nat.le_refl 3)) cf6 0 (Nat.le_of_ble_eq_true rfl) m_fl_X6_9 dX6_init_29 0 (by omega) rfl rfl ?_
        refine v_iload_n X dX6_init_32 (i := 1) rfl rfl ?_
        refine v_iload_n X dX6_init_33 (i := 1) rfl rfl ?_
        refine v_bipush X dX6_init_34 (v := (6 : Int32)) (by decide) ?_
        refine v_irem X dX6_init_36 (by decide) ?_
        refine v_iastB (n := 12) X (hB _ _ (by omega) (Nat.le_refl 3)) dX6_init_37 1 (by omega) rfl k rfl (by omega) (Nat.le_of_ble_eq_true rfl) rfl ?_
        refine v_aload_n X dX6_init_38 (i := 0) rfl rfl ?_
        refine v_getB X (hB _ _ (by omega) (Nat.le_refl 3)) cf6 1 (Nat.le_of_ble_eq_true rfl) m_fl_X6_15 dX6_init_39 0 (by omega) rfl rfl ?_
        refine v_iload_n X dX6_init_42 (i := 1) rfl rfl ?_
        refine v_bipush X dX6_init_43 (v := (60 : Int32)) (by decide) ?_
        refine v_iastB (n := 12) X (hB _ _ (by omega) (Nat.le_refl 3)) dX6_init_45 2 (by omega) rfl k rfl (by omega) (Nat.le_of_ble_eq_true rfl) rfl ?_
        refine v_iinc X dX6_init_46 (v := nI (k + 1)) rfl (ix_inc rfl) (Nat.le_of_ble_eq_true rfl) rfl ?_
        refine v_goto X dX6_init_49 (tgt := 22) (by decide) ?_
        exact V.cast (ih22 (k + 1) (by omega) (by omega)) (rfl) (rfl) (by rw [← vw_1 ((sI_th hk5).1.trans (pk_rem (a := k) (d := 6) (by omega) (by omega) (by omega)).symm), ← vw_1 (sI_th hk5).2]; rfl)
  exact V.cast (LP22 _ 0 (Nat.zero_le _) (Nat.lt_succ_self _)) (rfl) (rfl) (by rw [vw_0, vw_0]; rfl)
set_option maxRecDepth 100000 in
set_option maxHeartbeats 4000000 in
theorem c_X1_init (l : Launch) (g : Ge) : Ck l g yX1_init (.code yX1_init cX1_init 1 none) 1 (.inr (1, [.null, .null, .null, .int 0, .int 0])) 3 48 (fun o => chL g o sI) := by
  intro f M o ho
  have hB : ∀ N k, M + k ≤ N → k ≤ k → BB g N o k := fun N k h _ => ⟨by omega, by omega⟩
  refine ct_of (own := RX1) [some (.ref o)] (by decide +kernel) rfl rfl (Nat.le_of_ble_eq_true rfl) ?_
  intro vp ve vs vm va vb vt vc hnm X
  refine v_aload_n X dX1_init_0 (i := 0) rfl rfl ?_
  refine v_objInit X m_ml_X1_3 (Nat.le_of_ble_eq_true rfl) ⟨Nat.le_of_ble_eq_true rfl, Nat.le_of_ble_eq_true rfl⟩ dX1_init_1 ?_
  refine v_aload_n X dX1_init_4 (i := 0) rfl rfl ?_
  refine v_bipush X dX1_init_5 (v := (16 : Int32)) (by decide) ?_
  refine v_newaB_i X 1 (by rw [ho]; omega) rfl (by omega) m_ac_int (n' := 16) rfl (by decide) ⟨Nat.le_of_ble_eq_true rfl, Nat.le_of_ble_eq_true rfl⟩ dX1_init_7 rfl ?_
  refine v_putFB X (hB _ _ (by omega) (Nat.le_refl 2)) cf1 0 (Nat.le_of_ble_eq_true rfl) rfl hnm.symm rfl m_fl_X1_9 dX1_init_9 0 (by omega) rfl rfl rfl (Nat.le_of_ble_eq_true rfl) rfl ?_
  refine v_aload_n X dX1_init_12 (i := 0) rfl rfl ?_
  refine v_bipush X dX1_init_13 (v := (16 : Int32)) (by decide) ?_
  refine v_newaB_i X 2 (by rw [ho]; omega) rfl (by omega) m_ac_int (n' := 16) rfl (by decide) ⟨Nat.le_of_ble_eq_true rfl, Nat.le_of_ble_eq_true rfl⟩ dX1_init_15 rfl ?_
  refine v_putFB X (hB _ _ (by omega) (Nat.le_refl 3)) cf1 1 (Nat.le_of_ble_eq_true rfl) rfl hnm.symm rfl m_fl_X1_15 dX1_init_17 0 (by omega) rfl rfl rfl (Nat.le_of_ble_eq_true rfl) rfl ?_
  refine v_aload_n X dX1_init_20 (i := 0) rfl rfl ?_
  refine v_bipush X dX1_init_21 (v := (16 : Int32)) (by decide) ?_
  refine v_newaB_i X 3 (by rw [ho]; omega) rfl (by omega) m_ac_int (n' := 16) rfl (by decide) ⟨Nat.le_of_ble_eq_true rfl, Nat.le_of_ble_eq_true rfl⟩ dX1_init_23 rfl ?_
  refine v_putFB X (hB _ _ (by omega) (Nat.le_refl 4)) cf1 2 (Nat.le_of_ble_eq_true rfl) rfl hnm.symm rfl m_fl_X1_18 dX1_init_25 0 (by omega) rfl rfl rfl (Nat.le_of_ble_eq_true rfl) rfl ?_
  refine v_aload_n X dX1_init_28 (i := 0) rfl rfl ?_
  refine v_iconst X dX1_init_29 (v := (0 : Int32)) (by decide) ?_
  refine v_putB X (hB _ _ (by omega) (Nat.le_refl 4)) cf1 3 (Nat.le_of_ble_eq_true rfl) rfl m_fl_X1_21 dX1_init_30 0 (by omega) rfl rfl rfl (Nat.le_of_ble_eq_true rfl) rfl ?_
  refine v_aload_n X dX1_init_33 (i := 0) rfl rfl ?_
  refine v_iconst X dX1_init_34 (v := (0 : Int32)) (by decide) ?_
  refine v_putB X (hB _ _ (by omega) (Nat.le_refl 4)) cf1 4 (Nat.le_of_ble_eq_true rfl) rfl m_fl_X1_25 dX1_init_35 0 (by omega) rfl rfl rfl (Nat.le_of_ble_eq_true rfl) rfl ?_
  exact v_vret X rfl dX1_init_38 rfl (by show ovr f o _ = ovr f o (chL g o sI); unfold chL; rw [vw_z (σ := sI) (b := 56) (s := 3) (n := 16) (by decide), vw_z (σ := sI) (b := 57) (s := 3) (n := 16) (by decide), vw_z (σ := sI) (b := 58) (s := 3) (n := 16) (by decide)]; rfl)
set_option maxRecDepth 100000 in
set_option maxHeartbeats 4000000 in
theorem c_X2_init (l : Launch) (g : Ge) : Ck l g yX2_init (.code yX2_init cX2_init 1 none) 1 (.inr (2, [.null, .null, .null, .null, .null, .null, .null, .int 0, .int 0])) 7 140 (fun o => clL g o sI zI) := by
  intro f M o ho
  have hB : ∀ N k, M + k ≤ N → k ≤ k → BB g N o k := fun N k h _ => ⟨by omega, by omega⟩
  refine ct_of (own := RX2) [some (.ref o)] (by decide +kernel) rfl rfl (Nat.le_of_ble_eq_true rfl) ?_
  intro vp ve vs vm va vb vt vc hnm X
  refine v_aload_n X dX2_init_0 (i := 0) rfl rfl ?_
  refine v_objInit X m_ml_X2_3 (Nat.le_of_ble_eq_true rfl) ⟨Nat.le_of_ble_eq_true rfl, Nat.le_of_ble_eq_true rfl⟩ dX2_init_1 ?_
  refine v_aload_n X dX2_init_4 (i := 0) rfl rfl ?_
  refine v_bipush X dX2_init_5 (v := (20 : Int32)) (by decide) ?_
  refine v_newaB_i X 1 (by rw [ho]; omega) rfl (by omega) m_ac_int (n' := 20) rfl (by decide) ⟨Nat.le_of_ble_eq_true rfl, Nat.le_of_ble_eq_true rfl⟩ dX2_init_7 rfl ?_
  refine v_putFB X (hB _ _ (by omega) (Nat.le_refl 2)) cf2 0 (Nat.le_of_ble_eq_true rfl) rfl hnm.symm rfl m_fl_X2_9 dX2_init_9 0 (by omega) rfl rfl rfl (Nat.le_of_ble_eq_true rfl) rfl ?_
  refine v_aload_n X dX2_init_12 (i := 0) rfl rfl ?_
  refine v_bipush X dX2_init_13 (v := (20 : Int32)) (by decide) ?_
  refine v_newaB_i X 2 (by rw [ho]; omega) rfl (by omega) m_ac_int (n' := 20) rfl (by decide) ⟨Nat.le_of_ble_eq_true rfl, Nat.le_of_ble_eq_true rfl⟩ dX2_init_15 rfl ?_
  refine v_putFB X (hB _ _ (by omega) (Nat.le_refl 3)) cf2 1 (Nat.le_of_ble_eq_true rfl) rfl hnm.symm rfl m_fl_X2_15 dX2_init_17 0 (by omega) rfl rfl rfl (Nat.le_of_ble_eq_true rfl) rfl ?_
  refine v_aload_n X dX2_init_20 (i := 0) rfl rfl ?_
  refine v_bipush X dX2_init_21 (v := (20 : Int32)) (by decide) ?_
  refine v_newaB_i X 3 (by rw [ho]; omega) rfl (by omega) m_ac_int (n' := 20) rfl (by decide) ⟨Nat.le_of_ble_eq_true rfl, Nat.le_of_ble_eq_true rfl⟩ dX2_init_23 rfl ?_
  refine v_putFB X (hB _ _ (by omega) (Nat.le_refl 4)) cf2 2 (Nat.le_of_ble_eq_true rfl) rfl hnm.symm rfl m_fl_X2_18 dX2_init_25 0 (by omega) rfl rfl rfl (Nat.le_of_ble_eq_true rfl) rfl ?_
  refine v_aload_n X dX2_init_28 (i := 0) rfl rfl ?_
  refine v_bipush X dX2_init_29 (v := (20 : Int32)) (by decide) ?_
  refine v_newaB_i X 4 (by rw [ho]; omega) rfl (by omega) m_ac_int (n' := 20) rfl (by decide) ⟨Nat.le_of_ble_eq_true rfl, Nat.le_of_ble_eq_true rfl⟩ dX2_init_31 rfl ?_
  refine v_putFB X (hB _ _ (by omega) (Nat.le_refl 5)) cf2 3 (Nat.le_of_ble_eq_true rfl) rfl hnm.symm rfl m_fl_X2_21 dX2_init_33 0 (by omega) rfl rfl rfl (Nat.le_of_ble_eq_true rfl) rfl ?_
  refine v_aload_n X dX2_init_36 (i := 0) rfl rfl ?_
  refine v_bipush X dX2_init_37 (v := (20 : Int32)) (by decide) ?_
  refine v_newaB_i X 5 (by rw [ho]; omega) rfl (by omega) m_ac_int (n' := 20) rfl (by decide) ⟨Nat.le_of_ble_eq_true rfl, Nat.le_of_ble_eq_true rfl⟩ dX2_init_39 rfl ?_
  refine v_putFB X (hB _ _ (by omega) (Nat.le_refl 6)) cf2 4 (Nat.le_of_ble_eq_true rfl) rfl hnm.symm rfl m_fl_X2_24 dX2_init_41 0 (by omega) rfl rfl rfl (Nat.le_of_ble_eq_true rfl) rfl ?_
  refine v_aload_n X dX2_init_44 (i := 0) rfl rfl ?_
  refine v_bipush X dX2_init_45 (v := (20 : Int32)) (by decide) ?_
  refine v_newaB_i X 6 (by rw [ho]; omega) rfl (by omega) m_ac_int (n' := 20) rfl (by decide) ⟨Nat.le_of_ble_eq_true rfl, Nat.le_of_ble_eq_true rfl⟩ dX2_init_47 rfl ?_
  refine v_putFB X (hB _ _ (by omega) (Nat.le_refl 7)) cf2 5 (Nat.le_of_ble_eq_true rfl) rfl hnm.symm rfl m_fl_X2_27 dX2_init_49 0 (by omega) rfl rfl rfl (Nat.le_of_ble_eq_true rfl) rfl ?_
  refine v_aload_n X dX2_init_52 (i := 0) rfl rfl ?_
  refine v_bipush X dX2_init_53 (v := (20 : Int32)) (by decide) ?_
  refine v_newaB_i X 7 (by rw [ho]; omega) rfl (by omega) m_ac_int (n' := 20) rfl (by decide) ⟨Nat.le_of_ble_eq_true rfl, Nat.le_of_ble_eq_true rfl⟩ dX2_init_55 rfl ?_
  refine v_putFB X (hB _ _ (by omega) (Nat.le_refl 8)) cf2 6 (Nat.le_of_ble_eq_true rfl) rfl hnm.symm rfl m_fl_X2_30 dX2_init_57 0 (by omega) rfl rfl rfl (Nat.le_of_ble_eq_true rfl) rfl ?_
  refine v_aload_n X dX2_init_60 (i := 0) rfl rfl ?_
  refine v_iconst X dX2_init_61 (v := (0 : Int32)) (by decide) ?_
  refine v_putB X (hB _ _ (by omega) (Nat.le_refl 8)) cf2 7 (Nat.le_of_ble_eq_true rfl) rfl m_fl_X2_33 dX2_init_62 0 (by omega) rfl rfl rfl (Nat.le_of_ble_eq_true rfl) rfl ?_
  refine v_aload_n X dX2_init_65 (i := 0) rfl rfl ?_
  refine v_iconst X dX2_init_66 (v := (0 : Int32)) (by decide) ?_
  refine v_putB X (hB _ _ (by omega) (Nat.le_refl 8)) cf2 8 (Nat.le_of_ble_eq_true rfl) rfl m_fl_X2_37 dX2_init_67 0 (by omega) rfl rfl rfl (Nat.le_of_ble_eq_true rfl) rfl ?_
  exact v_vret X rfl dX2_init_70 rfl (by show ovr f o _ = ovr f o (clL g o sI zI); unfold clL; rw [vw_z (σ := zI) (b := 0) (s := 7) (n := 20) (fun _ _ => rfl), vw_z (σ := zI) (b := 1) (s := 7) (n := 20) (fun _ _ => rfl), vw_z (σ := zI) (b := 2) (s := 7) (n := 20) (fun _ _ => rfl), vw_z (σ := zI) (b := 3) (s := 7) (n := 20) (fun _ _ => rfl), vw_z (σ := zI) (b := 4) (s := 7) (n := 20) (fun _ _ => rfl), vw_z (σ := zI) (b := 5) (s := 7) (n := 20) (fun _ _ => rfl), vw_z (σ := zI) (b := 6) (s := 7) (n := 20) (fun _ _ => rfl)]; rfl)
set_option maxRecDepth 100000 in
set_option maxHeartbeats 4000000 in
theorem c_X3_init (l : Launch) (g : Ge) : Ck l g yX3_init (.code yX3_init cX3_init 1 none) 2 (.inr (3, [.null, .null, .null, .null, .int 0, .int 0])) 13 105 (fun o => geL g o sI) := by
  intro f M o ho
  have hB : ∀ N k, M + k ≤ N → k ≤ k → BB g N o k := fun N k h _ => ⟨by omega, by omega⟩
  refine ct_of (own := RX3) [some (.ref o)] (by decide +kernel) rfl rfl (Nat.le_of_ble_eq_true rfl) ?_
  intro vp ve vs vm va vb vt vc hnm X
  refine v_aload_n X dX3_init_0 (i := 0) rfl rfl ?_
  refine v_objInit X m_ml_X3_3 (Nat.le_of_ble_eq_true rfl) ⟨Nat.le_of_ble_eq_true rfl, Nat.le_of_ble_eq_true rfl⟩ dX3_init_1 ?_
  refine v_aload_n X dX3_init_4 (i := 0) rfl rfl ?_
  refine v_newB X 1 (by rw [ho]; omega) rfl (by omega) cf5 m_cl_X3_9 m_is_X5 m_ini_X5 (fs := [.null, .null, .null, .null]) (fun k hk => by rcases (show k = 0 ∨ k = 1 ∨ k = 2 ∨ k = 3 by omega) with rfl | rfl | rfl | rfl <;> rfl) ⟨Nat.le_of_ble_eq_true rfl, Nat.le_of_ble_eq_true rfl⟩ dX3_init_5 rfl ?_
  refine v_dup X dX3_init_8 rfl ?_
  refine v_callI X (by omega) yv_X5_init m_ml_X3_11 (ck_use (L := [.inr (3, [.null, .null, .null, .null, .int 0, .int 0])]) (j := 1) (c_X5_init l g) (by rw [ho]; omega) rfl rfl) rfl rfl (Nat.le_of_ble_eq_true rfl) ⟨Nat.le_of_ble_eq_true rfl, Nat.le_of_ble_eq_true rfl⟩ ⟨Nat.le_of_ble_eq_true rfl, Nat.le_of_ble_eq_true rfl⟩ dX3_init_9 ?_
  refine v_putFB X (hB _ _ (by omega) (Nat.le_refl 6)) cf3 0 (Nat.le_of_ble_eq_true rfl) rfl hnm.symm rfl m_fl_X3_12 dX3_init_12 0 (by omega) rfl rfl rfl (Nat.le_of_ble_eq_true rfl) rfl ?_
  refine v_aload_n X dX3_init_15 (i := 0) rfl rfl ?_
  refine v_newB X 6 (by rw [ho]; omega) rfl (by omega) cf6 m_cl_X3_18 m_is_X6 m_ini_X6 (fs := [.null, .null]) (fun k hk => by rcases (show k = 0 ∨ k = 1 by omega) with rfl | rfl <;> rfl) ⟨Nat.le_of_ble_eq_true rfl, Nat.le_of_ble_eq_true rfl⟩ dX3_init_16 rfl ?_
  refine v_dup X dX3_init_19 rfl ?_
  refine v_callI X (by omega) yv_X6_init m_ml_X3_20 (ck_use (L := ([.inr (3, [.ref (o + 1), .null, .null, .null, .int 0, .int 0])] ++ (shL g (o + 1) sI))) (j := 6) (c_X6_init l g) (by rw [ho]; omega) rfl rfl) rfl rfl (Nat.le_of_ble_eq_true rfl) ⟨Nat.le_of_ble_eq_true rfl, Nat.le_of_ble_eq_true rfl⟩ ⟨Nat.le_of_ble_eq_true rfl, Nat.le_of_ble_eq_true rfl⟩ dX3_init_20 ?_
  refine v_putFB X (hB _ _ (by omega) (Nat.le_refl 9)) cf3 1 (Nat.le_of_ble_eq_true rfl) rfl hnm.symm rfl m_fl_X3_21 dX3_init_23 0 (by omega) rfl rfl rfl (Nat.le_of_ble_eq_true rfl) rfl ?_
  refine v_aload_n X dX3_init_26 (i := 0) rfl rfl ?_
  refine v_newB X 9 (by rw [ho]; omega) rfl (by omega) cf1 m_cl_X3_25 m_is_X1 m_ini_X1 (fs := [.null, .null, .null, .int 0, .int 0]) (fun k hk => by rcases (show k = 0 ∨ k = 1 ∨ k = 2 ∨ k = 3 ∨ k = 4 by omega) with rfl | rfl | rfl | rfl | rfl <;> rfl) ⟨Nat.le_of_ble_eq_true rfl, Nat.le_of_ble_eq_true rfl⟩ dX3_init_27 rfl ?_
  refine v_dup X dX3_init_30 rfl ?_
  refine v_callIN X (by omega) yv_X1_init m_mn_X3_27 (ck_use (L := ([.inr (3, [.ref (o + 1), .ref (o + 6), .null, .null, .int 0, .int 0])] ++ (shL g (o + 1) sI ++ (thL g (o + 6) sI)))) (j := 9) (c_X1_init l g) (by rw [ho]; omega) rfl rfl) rfl rfl (Nat.le_of_ble_eq_true rfl) ⟨Nat.le_of_ble_eq_true rfl, Nat.le_of_ble_eq_true rfl⟩ ⟨Nat.le_of_ble_eq_true rfl, Nat.le_of_ble_eq_true rfl⟩ dX3_init_31 ?_
  refine v_putFB X (hB _ _ (by omega) (Nat.le_refl 13)) cf3 2 (Nat.le_of_ble_eq_true rfl) rfl hnm.symm rfl m_fl_X3_28 dX3_init_34 0 (by omega) rfl rfl rfl (Nat.le_of_ble_eq_true rfl) rfl ?_
  refine v_aload_n X dX3_init_37 (i := 0) rfl rfl ?_
  refine v_iconst X dX3_init_38 (v := (2 : Int32)) (by decide) ?_
  refine v_newaB_i X 13 (by rw [ho]; omega) rfl (by omega) m_ac_int (n' := 2) rfl (by decide) ⟨Nat.le_of_ble_eq_true rfl, Nat.le_of_ble_eq_true rfl⟩ dX3_init_39 rfl ?_
  refine v_putFB X (hB _ _ (by omega) (Nat.le_refl 14)) cf3 3 (Nat.le_of_ble_eq_true rfl) rfl hnm.symm rfl m_fl_X3_32 dX3_init_41 0 (by omega) rfl rfl rfl (Nat.le_of_ble_eq_true rfl) rfl ?_
  refine v_aload_n X dX3_init_44 (i := 0) rfl rfl ?_
  refine v_iconst X dX3_init_45 (v := (1 : Int32)) (by decide) ?_
  refine v_putB X (hB _ _ (by omega) (Nat.le_refl 14)) cf3 4 (Nat.le_of_ble_eq_true rfl) rfl m_fl_X3_36 dX3_init_46 0 (by omega) rfl rfl rfl (Nat.le_of_ble_eq_true rfl) rfl ?_
  refine v_aload_n X dX3_init_49 (i := 0) rfl rfl ?_
  refine v_iconst X dX3_init_50 (v := (0 : Int32)) (by decide) ?_
  refine v_putB X (hB _ _ (by omega) (Nat.le_refl 14)) cf3 5 (Nat.le_of_ble_eq_true rfl) rfl m_fl_X3_40 dX3_init_51 0 (by omega) rfl rfl rfl (Nat.le_of_ble_eq_true rfl) rfl ?_
  exact v_vret X rfl dX3_init_54 rfl (by show ovr f o _ = ovr f o (geL g o sI); unfold geL; rw [vw_z (σ := sI) (b := 3) (s := 1) (n := 2) (by decide)]; rfl)
set_option maxRecDepth 100000 in
set_option maxHeartbeats 4000000 in
theorem c_X4_init (l : Launch) (g : Ge) : Ck l g yX4_init (.code yX4_init cX4_init 1 none) 3 (.inr (4, [.null, .null, .int 0, .int 0, .int 0, .int 0, .int 0])) 22 260 (fun o => loL g o sI zI) := by
  intro f M o ho
  have hB : ∀ N k, M + k ≤ N → k ≤ k → BB g N o k := fun N k h _ => ⟨by omega, by omega⟩
  refine ct_of (own := RX4) [some (.ref o)] (by decide +kernel) rfl rfl (Nat.le_of_ble_eq_true rfl) ?_
  intro vp ve vs vm va vb vt vc hnm X
  refine v_aload_n X dX4_init_0 (i := 0) rfl rfl ?_
  refine v_objInit X m_ml_X4_3 (Nat.le_of_ble_eq_true rfl) ⟨Nat.le_of_ble_eq_true rfl, Nat.le_of_ble_eq_true rfl⟩ dX4_init_1 ?_
  refine v_aload_n X dX4_init_4 (i := 0) rfl rfl ?_
  refine v_newB X 1 (by rw [ho]; omega) rfl (by omega) cf3 m_cl_X4_9 m_is_X3 m_ini_X3 (fs := [.null, .null, .null, .null, .int 0, .int 0]) (fun k hk => by rcases (show k = 0 ∨ k = 1 ∨ k = 2 ∨ k = 3 ∨ k = 4 ∨ k = 5 by omega) with rfl | rfl | rfl | rfl | rfl | rfl <;> rfl) ⟨Nat.le_of_ble_eq_true rfl, Nat.le_of_ble_eq_true rfl⟩ dX4_init_5 rfl ?_
  refine v_dup X dX4_init_8 rfl ?_
  refine v_callIN X (by omega) yv_X3_init m_mn_X4_11 (ck_use (L := [.inr (4, [.null, .null, .int 0, .int 0, .int 0, .int 0, .int 0])]) (j := 1) (c_X3_init l g) (by rw [ho]; omega) rfl rfl) rfl rfl (Nat.le_of_ble_eq_true rfl) ⟨Nat.le_of_ble_eq_true rfl, Nat.le_of_ble_eq_true rfl⟩ ⟨Nat.le_of_ble_eq_true rfl, Nat.le_of_ble_eq_true rfl⟩ dX4_init_9 ?_
  refine v_putFB X (hB _ _ (by omega) (Nat.le_refl 15)) cf4 0 (Nat.le_of_ble_eq_true rfl) rfl hnm.symm rfl m_fl_X4_12 dX4_init_12 0 (by omega) rfl rfl rfl (Nat.le_of_ble_eq_true rfl) rfl ?_
  refine v_aload_n X dX4_init_15 (i := 0) rfl rfl ?_
  refine v_newB X 15 (by rw [ho]; omega) rfl (by omega) cf2 m_cl_X4_18 m_is_X2 m_ini_X2 (fs := [.null, .null, .null, .null, .null, .null, .null, .int 0, .int 0]) (fun k hk => by rcases (show k = 0 ∨ k = 1 ∨ k = 2 ∨ k = 3 ∨ k = 4 ∨ k = 5 ∨ k = 6 ∨ k = 7 ∨ k = 8 by omega) with rfl | rfl | rfl | rfl | rfl | rfl | rfl | rfl | rfl <;> rfl) ⟨Nat.le_of_ble_eq_true rfl, Nat.le_of_ble_eq_true rfl⟩ dX4_init_16 rfl ?_
  refine v_dup X dX4_init_19 rfl ?_
  refine v_callIN X (by omega) yv_X2_init m_mn_X4_20 (ck_use (L := ([.inr (4, [.ref (o + 1), .null, .int 0, .int 0, .int 0, .int 0, .int 0])] ++ (geL g (o + 1) sI))) (j := 15) (c_X2_init l g) (by rw [ho]; omega) rfl rfl) rfl rfl (Nat.le_of_ble_eq_true rfl) ⟨Nat.le_of_ble_eq_true rfl, Nat.le_of_ble_eq_true rfl⟩ ⟨Nat.le_of_ble_eq_true rfl, Nat.le_of_ble_eq_true rfl⟩ dX4_init_20 ?_
  refine v_putFB X (hB _ _ (by omega) (Nat.le_refl 23)) cf4 1 (Nat.le_of_ble_eq_true rfl) rfl hnm.symm rfl m_fl_X4_21 dX4_init_23 0 (by omega) rfl rfl rfl (Nat.le_of_ble_eq_true rfl) rfl ?_
  refine v_aload_n X dX4_init_26 (i := 0) rfl rfl ?_
  refine v_iconst X dX4_init_27 (v := (0 : Int32)) (by decide) ?_
  refine v_putB X (hB _ _ (by omega) (Nat.le_refl 23)) cf4 2 (Nat.le_of_ble_eq_true rfl) rfl m_fl_X4_25 dX4_init_28 0 (by omega) rfl rfl rfl (Nat.le_of_ble_eq_true rfl) rfl ?_
  refine v_aload_n X dX4_init_31 (i := 0) rfl rfl ?_
  refine v_iconst X dX4_init_32 (v := (0 : Int32)) (by decide) ?_
  refine v_putB X (hB _ _ (by omega) (Nat.le_refl 23)) cf4 3 (Nat.le_of_ble_eq_true rfl) rfl m_fl_X4_29 dX4_init_33 0 (by omega) rfl rfl rfl (Nat.le_of_ble_eq_true rfl) rfl ?_
  refine v_aload_n X dX4_init_36 (i := 0) rfl rfl ?_
  refine v_iconst X dX4_init_37 (v := (0 : Int32)) (by decide) ?_
  refine v_putB X (hB _ _ (by omega) (Nat.le_refl 23)) cf4 4 (Nat.le_of_ble_eq_true rfl) rfl m_fl_X4_32 dX4_init_38 0 (by omega) rfl rfl rfl (Nat.le_of_ble_eq_true rfl) rfl ?_
  refine v_aload_n X dX4_init_41 (i := 0) rfl rfl ?_
  refine v_bipush X dX4_init_42 (v := (-6 : Int32)) (by decide) ?_
  refine v_putB X (hB _ _ (by omega) (Nat.le_refl 23)) cf4 5 (Nat.le_of_ble_eq_true rfl) rfl m_fl_X4_35 dX4_init_44 0 (by omega) rfl rfl rfl (Nat.le_of_ble_eq_true rfl) rfl ?_
  refine v_aload_n X dX4_init_47 (i := 0) rfl rfl ?_
  refine v_iconst X dX4_init_48 (v := (0 : Int32)) (by decide) ?_
  refine v_putB X (hB _ _ (by omega) (Nat.le_refl 23)) cf4 6 (Nat.le_of_ble_eq_true rfl) rfl m_fl_X4_38 dX4_init_49 0 (by omega) rfl rfl rfl (Nat.le_of_ble_eq_true rfl) rfl ?_
  exact v_vret X rfl dX4_init_52 rfl (rfl)
