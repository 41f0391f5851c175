/-! floorMod, the cloth and the loom -/
theorem irem_ne {n : Nat} (h0 : 0 < n) (h : n < 2 ^ 31) : ¬ nI n = 0 := nI_ne0 h0 h
def jr (x y : Int32) : Int32 := x - x / y * y
def jfm (x y : Int32) : Int32 := if 0 ≤ x ^^^ y then jr x y else if jr x y = 0 then jr x y else jr x y + y
def sl (lt r : Nat) : Nat := (lt + 20 - r) % 20
theorem jfm_20 : ∀ a, a < 21 → ∀ b, b < 21 → jfm (nI a - nI b) 20 = nI (sl a b) := by decide +kernel
theorem jfm_20n : ∀ a, a < 21 → jfm (nI a - (-1)) 20 = nI ((a + 1) % 20) := by decide +kernel
theorem jfm_6p : ∀ a, a < 8 → jfm (nI a) 6 = nI (a % 6) := by decide +kernel
theorem jfm_6n : ∀ a, a < 8 → jfm (nI a - 1) 6 = nI ((a + 5) % 6) := by decide +kernel
theorem sl_lt (lt r : Nat) : sl lt r < 20 := Nat.mod_lt _ (by decide)
def lfb (ρ : Nat → Int32) (lt : Nat) (t : Int32) (r : Nat) : Int32 := bI ((ρ (1 + 7 * sl lt r) >>> (t &&& 31)) &&& 1 = 1)
def lfN (ρ : Nat → Int32) (lt : Nat) (t : Int32) : Nat → Int32
  | 0 => 0
  | k + 1 => if 0 < k ∧ lfb ρ lt t k = lfb ρ lt t (k - 1) then lfN ρ lt t k + 1 else 1
def lfM (ρ : Nat → Int32) (lt : Nat) (t : Int32) : Nat → Int32
  | 0 => 0
  | k + 1 => if lfM ρ lt t k < lfN ρ lt t (k + 1) then lfN ρ lt t (k + 1) else lfM ρ lt t k
def arR (σ ρ : Nat → Int32) (n P k : Nat) : Nat → Int32 := upd (upd (upd (upd (upd (upd (upd (upd ρ 140 (nI n)) (2 + 7 * n) (nI k)) (0 + 7 * n) (σ (12 + 4 * k))) (1 + 7 * n) (thS σ (σ (56 + 3 * P)) 12)) (3 + 7 * n) (σ 1)) (4 + 7 * n) (σ 5)) (5 + 7 * n) (σ 3)) (6 + 7 * n) (σ 4)
def arR2 (σ : Nat → Int32) (R : Nat) : Nat → Int32 := if R < 20 then upd σ 7 (nI (R + 1)) else σ
theorem arR2_o {σ : Nat → Int32} {R i : Nat} (h : i ≠ 7) : arR2 σ R i = σ i := by
  unfold arR2
  split
  · exact pk_un h
  · rfl
def trS (σ ρ : Nat → Int32) (lt k : Nat) : Nat → Int32 := upd (upd (upd (upd (upd (flS σ k 1) 3 (ρ (5 + 7 * lt))) 4 (ρ (6 + 7 * lt))) 5 (ρ (4 + 7 * lt))) 1 (ρ (3 + 7 * lt))) 7 (flS σ k 1 7 - 1)
def lmS (σ : Nat → Int32) (C P k R : Nat) : Nat → Int32 := upd (upd (mvS (arR2 σ R) C P k) 6 (mvS (arR2 σ R) C P k 6 + 1)) 8 (if 20 < mvS (arR2 σ R) C P k 8 + 1 then 20 else mvS (arR2 σ R) C P k 8 + 1)
def ltS (σ ρ : Nat → Int32) (lt k : Nat) : Nat → Int32 := upd (upd (trS σ ρ lt k) 6 (trS σ ρ lt k 6 - 1)) 8 (trS σ ρ lt k 8 - 1)
def nsS (σ : Nat → Int32) (P : Nat) (r : Int32) : Nat → Int32 := upd (upd (upd σ 9 r) 10 (nTold (upd σ 9 r) P r)) 11 (σ 11 + 1)
theorem Met.ofWF {l : Launch} {y : MethodName} {ws ws' : List Cond} {rm : Room} {Pc : Array Value → State → Prop} {Qc : Array Value → State → Outcome → State → Prop} {mc ms : Nat} {free : Addr → Prop} {cc : ByteArray} {maxL : Nat} {ret : Option FieldType}
    (hy : plainFor y = true) (hw : ws = Cond.code y cc maxL ret :: ws')
    (body : ∀ p e s m args below meth c s₁, BodyLoose p l y (headSpec ws rm) cc maxL ret e s m args below meth c s₁ → c.maxLocals = maxL → Pc args s →
      W p l e (headSpec ws rm).room s m args below meth c s.heap [] 0 0 (MQ below Qc args s mc ms free) (entryFrame m args maxL)) : Met l y ws rm Pc Qc mc ms free := by
  refine MetFree.of_bodySF (code := cc) (maxLocals := maxL) (ret := ret) hy ?_ ?_
  · intro args s m h hn
    obtain ⟨meth, c, h1, h2, h3, h4, h5, h6, -, -⟩ := Cond.code_spec hn (atoms_spec (ws := ws) h _ (by rw [hw]; exact List.mem_cons_self))
    exact ⟨meth, c, h1, h2, h3, h4, h5, h6⟩
  · intro p e s m args below meth c s₁ B hml hP _
    have hh0 : s₁.heap = s.heap := by rw [B.state]; rfl
    obtain ⟨t, a1, o, b1, b2, b3⟩ := body p e s m args below meth c s₁ B hml hP s₁ hh0 (Stand.of_body B)
    exact ⟨t, o, a1, b1, b2, ⟨b3.1, b3.2⟩⟩
theorem ct_ofF {l : Launch} {g : Ge} {y : MethodName} {own : String} {bytes : ByteArray} {maxL d N N' mc ms : Nat} {ret : Option FieldType} {As : List Value} {f f' : Pic} {r : Option Value} (lv0 : List (Option Value)) (hy : plainFor y = true) (hown : y.cls = own) (hlv : lvp 0 lv0 = lv_args 0 As) (hlen : (lg_sl As).length ≤ maxL)
    (body : ∀ (p : Program) (e : Env) (s : State) (m : MethodId) (args : Array Value) (below : List Frame) (meth : Method) (c : Code), (y.name = meth.name) → Cx p args s m meth c g bytes maxL own ret N → V p l e (rmD d mc ms) s m args below meth c (MQ below (CtQ g r N' f') args s mc ms (gA g)) g maxL 0 0 N f 0 lv0 []) :
    Ct l g y (.code y bytes maxL ret) d As N f r N' f' mc ms := by
  refine Met.ofWF (cc := bytes) (maxL := maxL) (ret := ret) hy rfl ?_
  intro p e s m args below meth c s₁ B hml hv
  obtain ⟨rfl, hsz, hP, hK⟩ := hv
  have hts := atoms_spec (ws := Cond.code y bytes maxL ret :: gT) B.pre
  have hf : s.vm.findClass own = some m.cls := by rw [← hown]; exact findClass_of_methodNamed B.named
  have hX : Cx p As.toArray s m meth c g bytes maxL own ret N := ⟨B.exec, B.bytes, hml, hf, fun w hw => hts w (List.mem_cons_of_mem _ hw), B.notSynchronized, B.returns, hK, hsz⟩
  have hl := lv_entry As (n := maxL) hlen
  rw [lg_entry_eq]
  exact body p e s m As.toArray below meth c ((name_of_methodNamed B.named B.method).1).symm hX s.heap [] _ hP va_S.rf (by rw [hlv]; exact hl)
set_option maxRecDepth 100000 in
set_option maxHeartbeats 4000000 in
theorem c_J9_floorMod_7cf53 (l : Launch) (g : Ge) (x y : Int32) (hy : ¬ y = 0) : Cs l g yJ9_floorMod_7cf53 (.code yJ9_floorMod_7cf53 cJ9_floorMod_7cf53 3 (some .int)) 0 [.int x, .int y] (some (.int (jfm x y))) := by
  intro N f
  refine ct_ofF (own := RJ9) [some (.int x), some (.int y), none] (by decide +kernel) rfl rfl (Nat.le_of_ble_eq_true rfl) ?_
  intro vp ve vs vm va vb vt vc hnm X
  refine v_iload_n X dJ9_floorMod_7cf53_0 (i := 0) rfl rfl ?_
  refine v_iload_n X dJ9_floorMod_7cf53_1 (i := 1) rfl rfl ?_
  refine v_irem X dJ9_floorMod_7cf53_2 hy ?_
  refine v_istore_n X dJ9_floorMod_7cf53_3 (i := 2) rfl (Nat.le_of_ble_eq_true rfl) rfl ?_
  refine v_iload_n X dJ9_floorMod_7cf53_4 (i := 0) rfl rfl ?_
  refine v_iload_n X dJ9_floorMod_7cf53_5 (i := 1) rfl rfl ?_
  refine v_ixor X dJ9_floorMod_7cf53_6 ?_
  refine v_if_ge X dJ9_floorMod_7cf53_7 (tgt := 18) (by decide) (fun c7 => ?_) (fun c7 => ?_)
  · skip
    refine v_iload_n X dJ9_floorMod_7cf53_18 (i := 2) rfl rfl ?_
    exact v_iret X rfl dJ9_floorMod_7cf53_19 (by rw [jfm, if_pos c7]; rfl) (rfl)
  · skip
    refine v_iload_n X dJ9_floorMod_7cf53_10 (i := 2) rfl rfl ?_
    refine v_if_eq X dJ9_floorMod_7cf53_11 (tgt := 18) (by decide) (fun c11 => ?_) (fun c11 => ?_)
    · skip
      refine v_iload_n X dJ9_floorMod_7cf53_18 (i := 2) rfl rfl ?_
      exact v_iret X rfl dJ9_floorMod_7cf53_19 (by rw [jfm, if_neg (Int32.not_le.mpr c7), if_pos (show jr x y = 0 from c11)]; rfl) (rfl)
    · skip
      refine v_iload_n X dJ9_floorMod_7cf53_14 (i := 2) rfl rfl ?_
      refine v_iload_n X dJ9_floorMod_7cf53_15 (i := 1) rfl rfl ?_
      refine v_iadd X dJ9_floorMod_7cf53_16 ?_
      exact v_iret X rfl dJ9_floorMod_7cf53_17 (by rw [jfm, if_neg (Int32.not_le.mpr c7), if_neg (show ¬ jr x y = 0 from c11)]; rfl) (rfl)
set_option maxRecDepth 100000 in
set_option maxHeartbeats 4000000 in
theorem c_X2_slotOf (l : Launch) (g : Ge) (N o : Nat) (σ ρ : Nat → Int32) (r : Int32) : Cb l g yX2_slotOf (.code yX2_slotOf cX2_slotOf 2 (some .int)) 1 [.ref o, .int r] N o (clL g o σ ρ) (some (.int (jfm (ρ 140 - r) 20))) (clL g o σ ρ) := by
  intro f hB0
  have hB : BB g N o 8 := hB0
  refine ct_of (own := RX2) [some (.ref o), some (.int r)] (by decide +kernel) rfl rfl (Nat.le_of_ble_eq_true rfl) ?_
  intro vp ve vs vm va vb vt vc hnm X
  refine v_aload_n X dX2_slotOf_0 (i := 0) rfl rfl ?_
  refine v_getB X hB cf2 8 (Nat.le_of_ble_eq_true rfl) m_fl_X2_37 dX2_slotOf_1 0 (Nat.le_of_ble_eq_true rfl) rfl rfl ?_
  refine v_iload_n X dX2_slotOf_4 (i := 1) rfl rfl ?_
  refine v_isub X dX2_slotOf_5 ?_
  refine v_bipush X dX2_slotOf_6 (v := (20 : Int32)) (by decide) ?_
  refine v_cs X rfl yv_J9_floorMod_7cf53 m_ml_X2_109 (c_J9_floorMod_7cf53 l g ((ρ 140) - r) (20 : Int32) (by decide)) rfl rfl (Nat.le_of_ble_eq_true rfl) ⟨Nat.le_of_ble_eq_true rfl, Nat.le_of_ble_eq_true rfl⟩ ⟨Nat.le_of_ble_eq_true rfl, Nat.le_of_ble_eq_true rfl⟩ dX2_slotOf_8 rfl ?_
  exact v_iret X rfl dX2_slotOf_11 (rfl) (rfl)
set_option maxRecDepth 100000 in
set_option maxHeartbeats 4000000 in
theorem c_X2_has (l : Launch) (g : Ge) (N o : Nat) (σ ρ : Nat → Int32) (v : Int32) : Cb l g yX2_has (.code yX2_has cX2_has 2 (some .boolean)) 0 [.ref o, .int v] N o (clL g o σ ρ) (some (.int (bI ((0 : Int32) ≤ v ∧ v < σ 7)))) (clL g o σ ρ) := by
  intro f hB0
  have hB : BB g N o 8 := hB0
  refine ct_of (own := RX2) [some (.ref o), some (.int v)] (by decide +kernel) rfl rfl (Nat.le_of_ble_eq_true rfl) ?_
  intro vp ve vs vm va vb vt vc hnm X
  refine v_iload_n X dX2_has_0 (i := 1) rfl rfl ?_
  refine v_if_lt X dX2_has_1 (tgt := 16) (by decide) (fun c1 => ?_) (fun c1 => ?_)
  · skip
    refine v_iconst X dX2_has_16 (v := (0 : Int32)) (by decide) ?_
    exact v_zret X rfl dX2_has_17 (rfl) (by simp [bI, c1, Int32.not_le.mpr c1]) (rfl)
  · skip
    refine v_iload_n X dX2_has_4 (i := 1) rfl rfl ?_
    refine v_aload_n X dX2_has_5 (i := 0) rfl rfl ?_
    refine v_getB X hB cf2 7 (Nat.le_of_ble_eq_true rfl) m_fl_X2_33 dX2_has_6 0 (Nat.le_of_ble_eq_true rfl) rfl rfl ?_
    refine v_icmp_ge X dX2_has_9 (tgt := 16) (by decide) (fun c9 => ?_) (fun c9 => ?_)
    · skip
      refine v_iconst X dX2_has_16 (v := (0 : Int32)) (by decide) ?_
      exact v_zret X rfl dX2_has_17 (rfl) (by simp [bI, c1, Int32.not_lt.mpr c1, c9, Int32.not_lt.mpr c9]) (rfl)
    · skip
      refine v_iconst X dX2_has_12 (v := (1 : Int32)) (by decide) ?_
      refine v_goto X dX2_has_13 (tgt := 17) (by decide) ?_
      exact v_zret X rfl dX2_has_17 (rfl) (by simp [bI, c1, Int32.not_lt.mpr c1, c9, Int32.not_le.mpr c9]) (rfl)
set_option maxRecDepth 100000 in
set_option maxHeartbeats 4000000 in
theorem c_X2_colourOf (l : Launch) (g : Ge) (N o : Nat) (x_r : Int32) (r : Nat) (hx_r : x_r = nI r) (σ ρ : Nat → Int32) (lt : Nat) (hlt : ρ 140 = nI lt) (hlt20 : lt < 20) (hr : r ≤ 20) : Cb l g yX2_colourOf (.code yX2_colourOf cX2_colourOf 2 (some .int)) 2 [.ref o, .int x_r] N o (clL g o σ ρ) (some (.int (ρ (0 + 7 * sl lt r)))) (clL g o σ ρ) := by
  intro f hB0
  have hB : BB g N o 8 := hB0
  subst hx_r
  refine ct_of (own := RX2) [some (.ref o), some (.int (nI r))] (by decide +kernel) rfl rfl (Nat.le_of_ble_eq_true rfl) ?_
  intro vp ve vs vm va vb vt vc hnm X
  refine v_aload_n X dX2_colourOf_0 (i := 0) rfl rfl ?_
  refine v_getB X hB cf2 0 (Nat.le_of_ble_eq_true rfl) m_fl_X2_9 dX2_colourOf_1 0 (Nat.le_of_ble_eq_true rfl) rfl rfl ?_
  refine v_aload_n X dX2_colourOf_4 (i := 0) rfl rfl ?_
  refine v_iload_n X dX2_colourOf_5 (i := 1) rfl rfl ?_
  refine v_cvB X rfl yv_X2_slotOf m_ml_X2_46 0 0 (c_X2_slotOf l g N o σ ρ (nI r) ) hB (Nat.le_of_ble_eq_true rfl) rfl (Nat.le_of_ble_eq_true rfl) rfl (L' := (clL g o σ ρ)) (rfl) rfl (Nat.le_of_ble_eq_true rfl) rfl rfl (Nat.le_of_ble_eq_true rfl) ⟨Nat.le_of_ble_eq_true rfl, Nat.le_of_ble_eq_true rfl⟩ ⟨Nat.le_of_ble_eq_true rfl, Nat.le_of_ble_eq_true rfl⟩ dX2_colourOf_6 rfl ?_
  refine v_iald_vw (b := 0) (s' := 7) X hB dX2_colourOf_9 1 (Nat.le_of_ble_eq_true rfl) rfl (sl lt r) (by rw [hlt]; exact jfm_20 lt (by omega) r (by omega)) (sl_lt lt r) (Nat.le_of_ble_eq_true rfl) ?_
  exact v_iret X rfl dX2_colourOf_10 (rfl) (rfl)
set_option maxRecDepth 100000 in
set_option maxHeartbeats 4000000 in
theorem c_X2_isLifted (l : Launch) (g : Ge) (N o : Nat) (x_r : Int32) (r : Nat) (hx_r : x_r = nI r) (σ ρ : Nat → Int32) (lt : Nat) (hlt : ρ 140 = nI lt) (hlt20 : lt < 20) (hr : r ≤ 20) (t : Int32) : Cb l g yX2_isLifted (.code yX2_isLifted cX2_isLifted 3 (some .boolean)) 2 [.ref o, .int x_r, .int t] N o (clL g o σ ρ) (some (.int (bI ((ρ (1 + 7 * sl lt r) >>> (t &&& 31)) &&& 1 = 1)))) (clL g o σ ρ) := by
  intro f hB0
  have hB : BB g N o 8 := hB0
  subst hx_r
  refine ct_of (own := RX2) [some (.ref o), some (.int (nI r)), some (.int t)] (by decide +kernel) rfl rfl (Nat.le_of_ble_eq_true rfl) ?_
  intro vp ve vs vm va vb vt vc hnm X
  refine v_aload_n X dX2_isLifted_0 (i := 0) rfl rfl ?_
  refine v_getB X hB cf2 1 (Nat.le_of_ble_eq_true rfl) m_fl_X2_15 dX2_isLifted_1 0 (Nat.le_of_ble_eq_true rfl) rfl rfl ?_
  refine v_aload_n X dX2_isLifted_4 (i := 0) rfl rfl ?_
  refine v_iload_n X dX2_isLifted_5 (i := 1) rfl rfl ?_
  refine v_cvB X rfl yv_X2_slotOf m_ml_X2_46 0 0 (c_X2_slotOf l g N o σ ρ (nI r) ) hB (Nat.le_of_ble_eq_true rfl) rfl (Nat.le_of_ble_eq_true rfl) rfl (L' := (clL g o σ ρ)) (rfl) rfl (Nat.le_of_ble_eq_true rfl) rfl rfl (Nat.le_of_ble_eq_true rfl) ⟨Nat.le_of_ble_eq_true rfl, Nat.le_of_ble_eq_true rfl⟩ ⟨Nat.le_of_ble_eq_true rfl, Nat.le_of_ble_eq_true rfl⟩ dX2_isLifted_6 rfl ?_
  refine v_iald_vw (b := 1) (s' := 7) X hB dX2_isLifted_9 2 (Nat.le_of_ble_eq_true rfl) rfl (sl lt r) (by rw [hlt]; exact jfm_20 lt (by omega) r (by omega)) (sl_lt lt r) (Nat.le_of_ble_eq_true rfl) ?_
  refine v_iload_n X dX2_isLifted_10 (i := 2) rfl rfl ?_
  refine v_csN X rfl yv_X7_contains m_mn_X2_50 (c_X7_contains l g (ρ (1 + 7 * (sl lt r))) t ) rfl rfl (Nat.le_of_ble_eq_true rfl) ⟨Nat.le_of_ble_eq_true rfl, Nat.le_of_ble_eq_true rfl⟩ ⟨Nat.le_of_ble_eq_true rfl, Nat.le_of_ble_eq_true rfl⟩ dX2_isLifted_11 rfl ?_
  exact v_zret X rfl dX2_isLifted_14 (nar_b) (rfl) (rfl)
set_option maxRecDepth 100000 in
set_option maxHeartbeats 4000000 in
theorem c_X2_longestFloatOf (l : Launch) (g : Ge) (N o : Nat) (σ ρ : Nat → Int32) (R lt : Nat) (hR : σ 7 = nI R) (hR20 : R ≤ 20) (hlt : ρ 140 = nI lt) (hlt20 : lt < 20) (t : Int32) : Cb l g yX2_longestFloatOf (.code yX2_longestFloatOf cX2_longestFloatOf 6 (some .int)) 3 [.ref o, .int t] N o (clL g o σ ρ) (some (.int (lfM ρ lt t R))) (clL g o σ ρ) := by
  intro f hB0
  have hB : BB g N o 8 := hB0
  refine ct_of (own := RX2) [some (.ref o), some (.int t), none, none, none, none] (by decide +kernel) rfl rfl (Nat.le_of_ble_eq_true rfl) ?_
  intro vp ve vs vm va vb vt vc hnm X
  refine v_iconst X dX2_longestFloatOf_0 (v := (0 : Int32)) (by decide) ?_
  refine v_istore_n X dX2_longestFloatOf_1 (i := 2) rfl (Nat.le_of_ble_eq_true rfl) rfl ?_
  refine v_iconst X dX2_longestFloatOf_2 (v := (0 : Int32)) (by decide) ?_
  refine v_istore_n X dX2_longestFloatOf_3 (i := 3) rfl (Nat.le_of_ble_eq_true rfl) rfl ?_
  refine v_iconst X dX2_longestFloatOf_4 (v := (0 : Int32)) (by decide) ?_
  refine v_istore X dX2_longestFloatOf_5 (Nat.le_of_ble_eq_true rfl) rfl ?_
  have LP7 : ∀ (n_ : Nat) (k : Nat), (k ≤ R) → R - k < n_ → Vm vp l ve vs vm va vb vt vc g 3 6 N (some (.int (lfM ρ lt t R))) (ovr f o (clL g o σ ρ)) (ovr f o (clL g o σ ρ)) 7 [some (.ref o), some (.int t), some (.int (lfM ρ lt t k)), some (.int (lfN ρ lt t k)), some (.int (nI k)), none] [] := by
    intro n_
    induction n_ with
    | zero => intro k hk hm_; exact absurd hm_ (Nat.not_lt_zero _)
    | succ n_ ih7 =>
      intro k hk hm7
      refine v_iload X dX2_longestFloatOf_7 rfl ?_
      refine v_aload_n X dX2_longestFloatOf_9 (i := 0) rfl rfl ?_
      refine v_getB X hB cf2 7 (Nat.le_of_ble_eq_true rfl) m_fl_X2_33 dX2_longestFloatOf_10 0 (Nat.le_of_ble_eq_true rfl) rfl rfl ?_
      refine v_icmp_ge X dX2_longestFloatOf_13 (tgt := 72) (by decide) (fun c13 => ?_) (fun c13 => ?_)
      · skip
        have hkR : k = R := Nat.le_antisymm hk (le_of_nI (by omega) (by omega) (by rw [← hR]; exact c13))
        refine v_iload_n X dX2_longestFloatOf_72 (i := 2) rfl rfl ?_
        exact v_iret X rfl dX2_longestFloatOf_73 (by rw [hkR]) (rfl)
      · skip
        have hkR : k < R := lt_of_nI (by omega) (by omega) (by rw [← hR]; exact c13)
        refine v_iload X dX2_longestFloatOf_16 rfl ?_
        refine v_if_le X dX2_longestFloatOf_18 (tgt := 44) (by decide) (fun c18 => ?_) (fun c18 => ?_)
        · skip
          have hk0 : ¬ 0 < k := fun q => absurd c18 (nI_nle q (by omega))
          refine v_iconst X dX2_longestFloatOf_44 (v := (0 : Int32)) (by decide) ?_
          refine v_istore X dX2_longestFloatOf_45 (Nat.le_of_ble_eq_true rfl) rfl ?_
          refine v_iload X dX2_longestFloatOf_47 rfl ?_
          refine v_if_eq X dX2_longestFloatOf_49 (tgt := 58) (by decide) (fun c49 => ?_) (fun c49 => ?_)
          · skip
            refine v_iconst X dX2_longestFloatOf_58 (v := (1 : Int32)) (by decide) ?_
            refine v_istore_n X dX2_longestFloatOf_59 (i := 3) rfl (Nat.le_of_ble_eq_true rfl) rfl ?_
            refine v_iload_n X dX2_longestFloatOf_60 (i := 2) rfl rfl ?_
            refine v_iload_n X dX2_longestFloatOf_61 (i := 3) rfl rfl ?_
            refine v_mmax (v := (if (lfM ρ lt t k) < (1 : Int32) then (1 : Int32) else (lfM ρ lt t k))) X m_ml_X2_57 (Nat.le_of_ble_eq_true rfl) ⟨Nat.le_of_ble_eq_true rfl, Nat.le_of_ble_eq_true rfl⟩ ⟨Nat.le_of_ble_eq_true rfl, Nat.le_of_ble_eq_true rfl⟩ dX2_longestFloatOf_62 (rfl) ?_
            refine v_istore_n X dX2_longestFloatOf_65 (i := 2) rfl (Nat.le_of_ble_eq_true rfl) rfl ?_
            refine v_iinc X dX2_longestFloatOf_66 (v := nI (k + 1)) rfl (ix_inc rfl) (Nat.le_of_ble_eq_true rfl) rfl ?_
            refine v_goto X dX2_longestFloatOf_69 (tgt := 7) (by decide) ?_
            refine v_drop 5 ?_
            exact V.cast (ih7 (k + 1) (by omega) (by omega)) (by rw [lfM, lfN, if_neg (show ¬ (0 < k ∧ lfb ρ lt t k = lfb ρ lt t (k - 1)) from fun q => hk0 q.1)]; rfl) (rfl) (rfl)
          · skip
            exact absurd c49 (by decide)
        · skip
          have hk1 : 0 < k := by
            rcases Nat.eq_zero_or_pos k with q | q
            · subst q; exact absurd c18 (by decide)
            · exact q
          refine v_aload_n X dX2_longestFloatOf_21 (i := 0) rfl rfl ?_
          refine v_iload X dX2_longestFloatOf_22 rfl ?_
          refine v_iload_n X dX2_longestFloatOf_24 (i := 1) rfl rfl ?_
          refine v_cvB X rfl yv_X2_isLifted m_ml_X2_54 0 0 (c_X2_isLifted l g N o (nI k) k rfl σ ρ _ hlt hlt20 (by omega) _) hB (Nat.le_of_ble_eq_true rfl) rfl (Nat.le_of_ble_eq_true rfl) rfl (L' := (clL g o σ ρ)) (rfl) rfl (Nat.le_of_ble_eq_true rfl) rfl rfl (Nat.le_of_ble_eq_true rfl) ⟨Nat.le_of_ble_eq_true rfl, Nat.le_of_ble_eq_true rfl⟩ ⟨Nat.le_of_ble_eq_true rfl, Nat.le_of_ble_eq_true rfl⟩ dX2_longestFloatOf_25 rfl ?_
          refine v_aload_n X dX2_longestFloatOf_28 (i := 0) rfl rfl ?_
          refine v_iload X dX2_longestFloatOf_29 rfl ?_
          refine v_iconst X dX2_longestFloatOf_31 (v := (1 : Int32)) (by decide) ?_
          refine v_isub X dX2_longestFloatOf_32 ?_
          refine v_iload_n X dX2_longestFloatOf_33 (i := 1) rfl rfl ?_
          refine v_cvB X rfl yv_X2_isLifted m_ml_X2_54 0 0 (c_X2_isLifted l g N o ((nI k) - (1 : Int32)) (k - 1) (pk_sub (b := 1) hk1) σ ρ _ hlt hlt20 (by omega) _) hB (Nat.le_of_ble_eq_true rfl) rfl (Nat.le_of_ble_eq_true rfl) rfl (L' := (clL g o σ ρ)) (rfl) rfl (Nat.le_of_ble_eq_true rfl) rfl rfl (Nat.le_of_ble_eq_true rfl) ⟨Nat.le_of_ble_eq_true rfl, Nat.le_of_ble_eq_true rfl⟩ ⟨Nat.le_of_ble_eq_true rfl, Nat.le_of_ble_eq_true rfl⟩ dX2_longestFloatOf_34 rfl ?_
          refine v_icmp_ne X dX2_longestFloatOf_37 (tgt := 44) (by decide) (fun c37 => ?_) (fun c37 => ?_)
          · skip
            refine v_iconst X dX2_longestFloatOf_44 (v := (0 : Int32)) (by decide) ?_
            refine v_istore X dX2_longestFloatOf_45 (Nat.le_of_ble_eq_true rfl) rfl ?_
            refine v_iload X dX2_longestFloatOf_47 rfl ?_
            refine v_if_eq X dX2_longestFloatOf_49 (tgt := 58) (by decide) (fun c49 => ?_) (fun c49 => ?_)
            · skip
              refine v_iconst X dX2_longestFloatOf_58 (v := (1 : Int32)) (by decide) ?_
              refine v_istore_n X dX2_longestFloatOf_59 (i := 3) rfl (Nat.le_of_ble_eq_true rfl) rfl ?_
              refine v_iload_n X dX2_longestFloatOf_60 (i := 2) rfl rfl ?_
              refine v_iload_n X dX2_longestFloatOf_61 (i := 3) rfl rfl ?_
              refine v_mmax (v := (if (lfM ρ lt t k) < (1 : Int32) then (1 : Int32) else (lfM ρ lt t k))) X m_ml_X2_57 (Nat.le_of_ble_eq_true rfl) ⟨Nat.le_of_ble_eq_true rfl, Nat.le_of_ble_eq_true rfl⟩ ⟨Nat.le_of_ble_eq_true rfl, Nat.le_of_ble_eq_true rfl⟩ dX2_longestFloatOf_62 (rfl) ?_
              refine v_istore_n X dX2_longestFloatOf_65 (i := 2) rfl (Nat.le_of_ble_eq_true rfl) rfl ?_
              refine v_iinc X dX2_longestFloatOf_66 (v := nI (k + 1)) rfl (ix_inc rfl) (Nat.le_of_ble_eq_true rfl) rfl ?_
              refine v_goto X dX2_longestFloatOf_69 (tgt := 7) (by decide) ?_
              refine v_drop 5 ?_
              exact V.cast (ih7 (k + 1) (by omega) (by omega)) (by rw [lfM, lfN, if_neg (show ¬ (0 < k ∧ lfb ρ lt t k = lfb ρ lt t (k - 1)) from fun q => c37 q.2)]; rfl) (rfl) (rfl)
            · skip
              exact absurd c49 (by decide)
          · skip
            refine v_iconst X dX2_longestFloatOf_40 (v := (1 : Int32)) (by decide) ?_
            refine v_goto X dX2_longestFloatOf_41 (tgt := 45) (by decide) ?_
            refine v_istore X dX2_longestFloatOf_45 (Nat.le_of_ble_eq_true rfl) rfl ?_
            refine v_iload X dX2_longestFloatOf_47 rfl ?_
            refine v_if_eq X dX2_longestFloatOf_49 (tgt := 58) (by decide) (fun c49 => ?_) (fun c49 => ?_)
            · skip
              exact absurd c49 (by decide)
            · skip
              refine v_iload_n X dX2_longestFloatOf_52 (i := 3) rfl rfl ?_
              refine v_iconst X dX2_longestFloatOf_53 (v := (1 : Int32)) (by decide) ?_
              refine v_iadd X dX2_longestFloatOf_54 ?_
              refine v_goto X dX2_longestFloatOf_55 (tgt := 59) (by decide) ?_
              refine v_istore_n X dX2_longestFloatOf_59 (i := 3) rfl (Nat.le_of_ble_eq_true rfl) rfl ?_
              refine v_iload_n X dX2_longestFloatOf_60 (i := 2) rfl rfl ?_
              refine v_iload_n X dX2_longestFloatOf_61 (i := 3) rfl rfl ?_
              refine v_mmax (v := (if (lfM ρ lt t k) < ((lfN ρ lt t k) + (1 : Int32)) then ((lfN ρ lt t k) + (1 : Int32)) else (lfM ρ lt t k))) X m_ml_X2_57 (Nat.le_of_ble_eq_true rfl) ⟨Nat.le_of_ble_eq_true rfl, Nat.le_of_ble_eq_true rfl⟩ ⟨Nat.le_of_ble_eq_true rfl, Nat.le_of_ble_eq_true rfl⟩ dX2_longestFloatOf_62 (rfl) ?_
              refine v_istore_n X dX2_longestFloatOf_65 (i := 2) rfl (Nat.le_of_ble_eq_true rfl) rfl ?_
              refine v_iinc X dX2_longestFloatOf_66 (v := nI (k + 1)) rfl (ix_inc rfl) (Nat.le_of_ble_eq_true rfl) rfl ?_
              refine v_goto X dX2_longestFloatOf_69 (tgt := 7) (by decide) ?_
              refine v_drop 5 ?_
              exact V.cast (ih7 (k + 1) (by omega) (by omega)) (by rw [lfM, lfN, if_pos (show (0 < k ∧ lfb ρ lt t k = lfb ρ lt t (k - 1)) from ⟨hk1, c37⟩)]; rfl) (rfl) (rfl)
  exact LP7 _ 0 (Nat.zero_le _) (Nat.lt_succ_self _)
set_option maxRecDepth 100000 in
set_option maxHeartbeats 4000000 in
theorem c_X2_addRowOf (l : Launch) (g : Ge) (N o : Nat) (σ ρ : Nat → Int32) (C P k R lt : Nat) (hC : σ 0 = nI C) (hP : σ 1 = nI P) (hPC : P < C) (hC16 : C ≤ 16) (hk : k < 5) (hfl : flyN σ P = nI k) (hR : σ 7 = nI R) (hR20 : R ≤ 20) (hlt : ρ 140 = nI lt) (hlt20 : lt < 20) : Cb l g yX2_addRowOf (.code yX2_addRowOf cX2_addRowOf 3 none) 4 [.ref (o + 15), .ref (o + 1)] N o (loL g o σ ρ) none (loL g o (arR2 σ R) (arR σ ρ ((lt + 1) % 20) P k)) := by
  intro f hB0
  have hB : BB g N o 23 := hB0
  refine ct_of (own := RX2) [some (.ref (o + 15)), some (.ref (o + 1)), none] (by decide +kernel) rfl rfl (Nat.le_of_ble_eq_true rfl) ?_
  intro vp ve vs vm va vb vt vc hnm X
  refine v_aload_n X dX2_addRowOf_0 (i := 0) rfl rfl ?_
  refine v_aload_n X dX2_addRowOf_1 (i := 0) rfl rfl ?_
  refine v_iconst X dX2_addRowOf_2 (v := (-1 : Int32)) (by decide) ?_
  refine v_cvB X rfl yv_X2_slotOf m_ml_X2_46 15 15 (c_X2_slotOf l g N (o + 15) σ ρ (-1 : Int32) ) hB (Nat.le_of_ble_eq_true rfl) rfl (Nat.le_of_ble_eq_true rfl) rfl (L' := (loL g o σ ρ)) (rfl) rfl (Nat.le_of_ble_eq_true rfl) rfl rfl (Nat.le_of_ble_eq_true rfl) ⟨Nat.le_of_ble_eq_true rfl, Nat.le_of_ble_eq_true rfl⟩ ⟨Nat.le_of_ble_eq_true rfl, Nat.le_of_ble_eq_true rfl⟩ dX2_addRowOf_3 rfl ?_
  refine v_putB X hB cf2 8 (Nat.le_of_ble_eq_true rfl) rfl m_fl_X2_37 dX2_addRowOf_6 15 (Nat.le_of_ble_eq_true rfl) rfl rfl rfl (Nat.le_of_ble_eq_true rfl) (L' := (loL g o σ (upd ρ 140 (jfm (ρ 140 - (-1 : Int32)) 20)))) w_lo_15_latest ?_
  refine v_aload_n X dX2_addRowOf_9 (i := 0) rfl rfl ?_
  refine v_iconst X dX2_addRowOf_10 (v := (0 : Int32)) (by decide) ?_
  refine v_cvB X rfl yv_X2_slotOf m_ml_X2_46 15 15 (c_X2_slotOf l g N (o + 15) σ (upd ρ 140 (jfm (ρ 140 - (-1 : Int32)) 20)) (0 : Int32) ) hB (Nat.le_of_ble_eq_true rfl) rfl (Nat.le_of_ble_eq_true rfl) rfl (L' := (loL g o σ (upd ρ 140 (jfm (ρ 140 - (-1 : Int32)) 20)))) (rfl) rfl (Nat.le_of_ble_eq_true rfl) rfl rfl (Nat.le_of_ble_eq_true rfl) ⟨Nat.le_of_ble_eq_true rfl, Nat.le_of_ble_eq_true rfl⟩ ⟨Nat.le_of_ble_eq_true rfl, Nat.le_of_ble_eq_true rfl⟩ dX2_addRowOf_11 rfl ?_
  refine v_istore_n X dX2_addRowOf_14 (i := 2) rfl (Nat.le_of_ble_eq_true rfl) rfl ?_
  have hs0 : jfm ((upd ρ 140 (jfm (ρ 140 - (-1 : Int32)) 20)) 140 - (0 : Int32)) 20 = nI ((lt + 1) % 20) := by
    rw [pk_us, hlt, jfm_20n lt (by omega)]
    exact (jfm_20 _ (by have := Nat.mod_lt (lt + 1) (show 0 < 20 by decide); omega) 0 (by omega)).trans (by rw [sl]; congr 1; have := Nat.mod_lt (lt + 1) (show 0 < 20 by decide); omega)
  have hn : ((lt + 1) % 20) < 20 := Nat.mod_lt _ (by decide)
  refine v_aload_n X dX2_addRowOf_15 (i := 0) rfl rfl ?_
  refine v_getB X hB cf2 2 (Nat.le_of_ble_eq_true rfl) m_fl_X2_18 dX2_addRowOf_16 15 (Nat.le_of_ble_eq_true rfl) rfl rfl ?_
  refine v_iload_n X dX2_addRowOf_19 (i := 2) rfl rfl ?_
  refine v_aload_n X dX2_addRowOf_20 (i := 1) rfl rfl ?_
  refine v_cvB X rfl yv_X3_flyingShuttle m_ml_X2_63 1 1 (c_X3_flyingShuttle l g N (o + 1) σ _ _ hC hP hPC hC16) hB (Nat.le_of_ble_eq_true rfl) rfl (Nat.le_of_ble_eq_true rfl) rfl (L' := (loL g o σ (upd ρ 140 (jfm (ρ 140 - (-1 : Int32)) 20)))) (rfl) rfl (Nat.le_of_ble_eq_true rfl) rfl rfl (Nat.le_of_ble_eq_true rfl) ⟨Nat.le_of_ble_eq_true rfl, Nat.le_of_ble_eq_true rfl⟩ ⟨Nat.le_of_ble_eq_true rfl, Nat.le_of_ble_eq_true rfl⟩ dX2_addRowOf_21 rfl ?_
  refine v_iastB (n := 20) X hB dX2_addRowOf_24 18 (Nat.le_of_ble_eq_true rfl) rfl ((lt + 1) % 20) hs0 hn (Nat.le_of_ble_eq_true rfl) (L' := (loL g o σ (upd (upd ρ 140 (jfm (ρ 140 - (-1 : Int32)) 20)) (2 + 7 * ((lt + 1) % 20)) (flyN σ P)))) (w_lo_18 hn) ?_
  refine v_aload_n X dX2_addRowOf_25 (i := 0) rfl rfl ?_
  refine v_getB X hB cf2 0 (Nat.le_of_ble_eq_true rfl) m_fl_X2_9 dX2_addRowOf_26 15 (Nat.le_of_ble_eq_true rfl) rfl rfl ?_
  refine v_iload_n X dX2_addRowOf_29 (i := 2) rfl rfl ?_
  refine v_aload_n X dX2_addRowOf_30 (i := 1) rfl rfl ?_
  refine v_getB X hB cf3 0 (Nat.le_of_ble_eq_true rfl) m_fl_X2_69 dX2_addRowOf_31 1 (Nat.le_of_ble_eq_true rfl) rfl rfl ?_
  refine v_aload_n X dX2_addRowOf_34 (i := 0) rfl rfl ?_
  refine v_getB X hB cf2 2 (Nat.le_of_ble_eq_true rfl) m_fl_X2_18 dX2_addRowOf_35 15 (Nat.le_of_ble_eq_true rfl) rfl rfl ?_
  refine v_iload_n X dX2_addRowOf_38 (i := 2) rfl rfl ?_
  refine v_iald_vw (b := 2) (s' := 7) X hB dX2_addRowOf_39 18 (Nat.le_of_ble_eq_true rfl) rfl ((lt + 1) % 20) hs0 hn (Nat.le_of_ble_eq_true rfl) ?_
  refine v_cvB X rfl yv_X5_colourOf m_ml_X2_73 2 2 (c_X5_colourOf l g N (o + 2) ((upd (upd ρ 140 (jfm (ρ 140 - (-1 : Int32)) 20)) (2 + 7 * ((lt + 1) % 20)) (flyN σ P)) (2 + 7 * ((lt + 1) % 20))) k (by rw [pk_us]; exact hfl) σ hk) hB (Nat.le_of_ble_eq_true rfl) rfl (Nat.le_of_ble_eq_true rfl) rfl (L' := (loL g o σ (upd (upd ρ 140 (jfm (ρ 140 - (-1 : Int32)) 20)) (2 + 7 * ((lt + 1) % 20)) (flyN σ P)))) (rfl) rfl (Nat.le_of_ble_eq_true rfl) rfl rfl (Nat.le_of_ble_eq_true rfl) ⟨Nat.le_of_ble_eq_true rfl, Nat.le_of_ble_eq_true rfl⟩ ⟨Nat.le_of_ble_eq_true rfl, Nat.le_of_ble_eq_true rfl⟩ dX2_addRowOf_40 rfl ?_
  refine v_iastB (n := 20) X hB dX2_addRowOf_43 16 (Nat.le_of_ble_eq_true rfl) rfl ((lt + 1) % 20) hs0 hn (Nat.le_of_ble_eq_true rfl) (L' := (loL g o σ (upd (upd (upd ρ 140 (jfm (ρ 140 - (-1 : Int32)) 20)) (2 + 7 * ((lt + 1) % 20)) (flyN σ P)) (0 + 7 * ((lt + 1) % 20)) (σ (12 + 4 * k))))) (w_lo_16 hn) ?_
  refine v_aload_n X dX2_addRowOf_44 (i := 0) rfl rfl ?_
  refine v_getB X hB cf2 1 (Nat.le_of_ble_eq_true rfl) m_fl_X2_15 dX2_addRowOf_45 15 (Nat.le_of_ble_eq_true rfl) rfl rfl ?_
  refine v_iload_n X dX2_addRowOf_48 (i := 2) rfl rfl ?_
  refine v_aload_n X dX2_addRowOf_49 (i := 1) rfl rfl ?_
  refine v_getB X hB cf3 1 (Nat.le_of_ble_eq_true rfl) m_fl_X2_78 dX2_addRowOf_50 1 (Nat.le_of_ble_eq_true rfl) rfl rfl ?_
  refine v_aload_n X dX2_addRowOf_53 (i := 1) rfl rfl ?_
  refine v_cvB X rfl yv_X3_frames m_ml_X2_81 1 1 (c_X3_frames l g N (o + 1) σ _ _ hC hP hPC hC16) hB (Nat.le_of_ble_eq_true rfl) rfl (Nat.le_of_ble_eq_true rfl) rfl (L' := (loL g o σ (upd (upd (upd ρ 140 (jfm (ρ 140 - (-1 : Int32)) 20)) (2 + 7 * ((lt + 1) % 20)) (flyN σ P)) (0 + 7 * ((lt + 1) % 20)) (σ (12 + 4 * k))))) (rfl) rfl (Nat.le_of_ble_eq_true rfl) rfl rfl (Nat.le_of_ble_eq_true rfl) ⟨Nat.le_of_ble_eq_true rfl, Nat.le_of_ble_eq_true rfl⟩ ⟨Nat.le_of_ble_eq_true rfl, Nat.le_of_ble_eq_true rfl⟩ dX2_addRowOf_54 rfl ?_
  refine v_cvB X rfl yv_X6_inFrames m_ml_X2_84 7 7 (c_X6_inFrames l g N (o + 7) σ (σ (56 + 3 * P)) ) hB (Nat.le_of_ble_eq_true rfl) rfl (Nat.le_of_ble_eq_true rfl) rfl (L' := (loL g o σ (upd (upd (upd ρ 140 (jfm (ρ 140 - (-1 : Int32)) 20)) (2 + 7 * ((lt + 1) % 20)) (flyN σ P)) (0 + 7 * ((lt + 1) % 20)) (σ (12 + 4 * k))))) (rfl) rfl (Nat.le_of_ble_eq_true rfl) rfl rfl (Nat.le_of_ble_eq_true rfl) ⟨Nat.le_of_ble_eq_true rfl, Nat.le_of_ble_eq_true rfl⟩ ⟨Nat.le_of_ble_eq_true rfl, Nat.le_of_ble_eq_true rfl⟩ dX2_addRowOf_57 rfl ?_
  refine v_iastB (n := 20) X hB dX2_addRowOf_60 17 (Nat.le_of_ble_eq_true rfl) rfl ((lt + 1) % 20) hs0 hn (Nat.le_of_ble_eq_true rfl) (L' := (loL g o σ (upd (upd (upd (upd ρ 140 (jfm (ρ 140 - (-1 : Int32)) 20)) (2 + 7 * ((lt + 1) % 20)) (flyN σ P)) (0 + 7 * ((lt + 1) % 20)) (σ (12 + 4 * k))) (1 + 7 * ((lt + 1) % 20)) (thS σ (σ (56 + 3 * P)) 12)))) (w_lo_17 hn) ?_
  refine v_aload_n X dX2_addRowOf_61 (i := 0) rfl rfl ?_
  refine v_getB X hB cf2 3 (Nat.le_of_ble_eq_true rfl) m_fl_X2_21 dX2_addRowOf_62 15 (Nat.le_of_ble_eq_true rfl) rfl rfl ?_
  refine v_iload_n X dX2_addRowOf_65 (i := 2) rfl rfl ?_
  refine v_aload_n X dX2_addRowOf_66 (i := 1) rfl rfl ?_
  refine v_getB X hB cf3 2 (Nat.le_of_ble_eq_true rfl) m_fl_X2_89 dX2_addRowOf_67 1 (Nat.le_of_ble_eq_true rfl) rfl rfl ?_
  refine v_getB X hB cf1 4 (Nat.le_of_ble_eq_true rfl) m_fl_X2_93 dX2_addRowOf_70 10 (Nat.le_of_ble_eq_true rfl) rfl rfl ?_
  refine v_iastB (n := 20) X hB dX2_addRowOf_73 19 (Nat.le_of_ble_eq_true rfl) rfl ((lt + 1) % 20) hs0 hn (Nat.le_of_ble_eq_true rfl) (L' := (loL g o σ (upd (upd (upd (upd (upd ρ 140 (jfm (ρ 140 - (-1 : Int32)) 20)) (2 + 7 * ((lt + 1) % 20)) (flyN σ P)) (0 + 7 * ((lt + 1) % 20)) (σ (12 + 4 * k))) (1 + 7 * ((lt + 1) % 20)) (thS σ (σ (56 + 3 * P)) 12)) (3 + 7 * ((lt + 1) % 20)) (σ 1)))) (w_lo_19 hn) ?_
  refine v_aload_n X dX2_addRowOf_74 (i := 0) rfl rfl ?_
  refine v_getB X hB cf2 4 (Nat.le_of_ble_eq_true rfl) m_fl_X2_24 dX2_addRowOf_75 15 (Nat.le_of_ble_eq_true rfl) rfl rfl ?_
  refine v_iload_n X dX2_addRowOf_78 (i := 2) rfl rfl ?_
  refine v_aload_n X dX2_addRowOf_79 (i := 1) rfl rfl ?_
  refine v_getB X hB cf3 5 (Nat.le_of_ble_eq_true rfl) m_fl_X2_97 dX2_addRowOf_80 1 (Nat.le_of_ble_eq_true rfl) rfl rfl ?_
  refine v_iastB (n := 20) X hB dX2_addRowOf_83 20 (Nat.le_of_ble_eq_true rfl) rfl ((lt + 1) % 20) hs0 hn (Nat.le_of_ble_eq_true rfl) (L' := (loL g o σ (upd (upd (upd (upd (upd (upd ρ 140 (jfm (ρ 140 - (-1 : Int32)) 20)) (2 + 7 * ((lt + 1) % 20)) (flyN σ P)) (0 + 7 * ((lt + 1) % 20)) (σ (12 + 4 * k))) (1 + 7 * ((lt + 1) % 20)) (thS σ (σ (56 + 3 * P)) 12)) (3 + 7 * ((lt + 1) % 20)) (σ 1)) (4 + 7 * ((lt + 1) % 20)) (σ 5)))) (w_lo_20 hn) ?_
  refine v_aload_n X dX2_addRowOf_84 (i := 0) rfl rfl ?_
  refine v_getB X hB cf2 5 (Nat.le_of_ble_eq_true rfl) m_fl_X2_27 dX2_addRowOf_85 15 (Nat.le_of_ble_eq_true rfl) rfl rfl ?_
  refine v_iload_n X dX2_addRowOf_88 (i := 2) rfl rfl ?_
  refine v_aload_n X dX2_addRowOf_89 (i := 1) rfl rfl ?_
  refine v_getB X hB cf3 3 (Nat.le_of_ble_eq_true rfl) m_fl_X2_99 dX2_addRowOf_90 1 (Nat.le_of_ble_eq_true rfl) rfl rfl ?_
  refine v_iconst X dX2_addRowOf_93 (v := (0 : Int32)) (by decide) ?_
  refine v_iald_vw (b := 3) (s' := 1) X hB dX2_addRowOf_94 14 (Nat.le_of_ble_eq_true rfl) rfl 0 rfl (by omega) (Nat.le_of_ble_eq_true rfl) ?_
  refine v_iastB (n := 20) X hB dX2_addRowOf_95 21 (Nat.le_of_ble_eq_true rfl) rfl ((lt + 1) % 20) hs0 hn (Nat.le_of_ble_eq_true rfl) (L' := (loL g o σ (upd (upd (upd (upd (upd (upd (upd ρ 140 (jfm (ρ 140 - (-1 : Int32)) 20)) (2 + 7 * ((lt + 1) % 20)) (flyN σ P)) (0 + 7 * ((lt + 1) % 20)) (σ (12 + 4 * k))) (1 + 7 * ((lt + 1) % 20)) (thS σ (σ (56 + 3 * P)) 12)) (3 + 7 * ((lt + 1) % 20)) (σ 1)) (4 + 7 * ((lt + 1) % 20)) (σ 5)) (5 + 7 * ((lt + 1) % 20)) (σ (3 + 1 * 0))))) (w_lo_21 hn) ?_
  refine v_aload_n X dX2_addRowOf_96 (i := 0) rfl rfl ?_
  refine v_getB X hB cf2 6 (Nat.le_of_ble_eq_true rfl) m_fl_X2_30 dX2_addRowOf_97 15 (Nat.le_of_ble_eq_true rfl) rfl rfl ?_
  refine v_iload_n X dX2_addRowOf_100 (i := 2) rfl rfl ?_
  refine v_aload_n X dX2_addRowOf_101 (i := 1) rfl rfl ?_
  refine v_getB X hB cf3 3 (Nat.le_of_ble_eq_true rfl) m_fl_X2_99 dX2_addRowOf_102 1 (Nat.le_of_ble_eq_true rfl) rfl rfl ?_
  refine v_iconst X dX2_addRowOf_105 (v := (1 : Int32)) (by decide) ?_
  refine v_iald_vw (b := 3) (s' := 1) X hB dX2_addRowOf_106 14 (Nat.le_of_ble_eq_true rfl) rfl 1 rfl (by omega) (Nat.le_of_ble_eq_true rfl) ?_
  refine v_iastB (n := 20) X hB dX2_addRowOf_107 22 (Nat.le_of_ble_eq_true rfl) rfl ((lt + 1) % 20) hs0 hn (Nat.le_of_ble_eq_true rfl) (L' := (loL g o σ (upd (upd (upd (upd (upd (upd (upd (upd ρ 140 (jfm (ρ 140 - (-1 : Int32)) 20)) (2 + 7 * ((lt + 1) % 20)) (flyN σ P)) (0 + 7 * ((lt + 1) % 20)) (σ (12 + 4 * k))) (1 + 7 * ((lt + 1) % 20)) (thS σ (σ (56 + 3 * P)) 12)) (3 + 7 * ((lt + 1) % 20)) (σ 1)) (4 + 7 * ((lt + 1) % 20)) (σ 5)) (5 + 7 * ((lt + 1) % 20)) (σ (3 + 1 * 0))) (6 + 7 * ((lt + 1) % 20)) (σ (3 + 1 * 1))))) (w_lo_22 hn) ?_
  refine v_aload_n X dX2_addRowOf_108 (i := 0) rfl rfl ?_
  refine v_getB X hB cf2 7 (Nat.le_of_ble_eq_true rfl) m_fl_X2_33 dX2_addRowOf_109 15 (Nat.le_of_ble_eq_true rfl) rfl rfl ?_
  refine v_bipush X dX2_addRowOf_112 (v := (20 : Int32)) (by decide) ?_
  refine v_icmp_ge X dX2_addRowOf_114 (tgt := 127) (by decide) (fun c114 => ?_) (fun c114 => ?_)
  · skip
    have hR0 : ¬ R < 20 := fun q => absurd (by rw [← hR]; exact c114) (nI_ge q (by omega))
    exact v_vret X rfl dX2_addRowOf_127 (rfl) (by rw [arR2, arR, if_neg hR0, ← hfl, ← jfm_20n lt (by omega), ← hlt])
  · skip
    have hR1 : R < 20 := lt_of_nI (b := 20) (by omega) (by omega) (by rw [← hR]; exact c114)
    refine v_aload_n X dX2_addRowOf_117 (i := 0) rfl rfl ?_
    refine v_dup X dX2_addRowOf_118 rfl ?_
    refine v_getB X hB cf2 7 (Nat.le_of_ble_eq_true rfl) m_fl_X2_33 dX2_addRowOf_119 15 (Nat.le_of_ble_eq_true rfl) rfl rfl ?_
    refine v_iconst X dX2_addRowOf_122 (v := (1 : Int32)) (by decide) ?_
    refine v_iadd X dX2_addRowOf_123 ?_
    refine v_putB X hB cf2 7 (Nat.le_of_ble_eq_true rfl) rfl m_fl_X2_33 dX2_addRowOf_124 15 (Nat.le_of_ble_eq_true rfl) rfl rfl rfl (Nat.le_of_ble_eq_true rfl) (L' := (loL g o (upd σ 7 ((σ 7) + (1 : Int32))) (upd (upd (upd (upd (upd (upd (upd (upd ρ 140 (jfm (ρ 140 - (-1 : Int32)) 20)) (2 + 7 * ((lt + 1) % 20)) (flyN σ P)) (0 + 7 * ((lt + 1) % 20)) (σ (12 + 4 * k))) (1 + 7 * ((lt + 1) % 20)) (thS σ (σ (56 + 3 * P)) 12)) (3 + 7 * ((lt + 1) % 20)) (σ 1)) (4 + 7 * ((lt + 1) % 20)) (σ 5)) (5 + 7 * ((lt + 1) % 20)) (σ (3 + 1 * 0))) (6 + 7 * ((lt + 1) % 20)) (σ (3 + 1 * 1))))) w_lo_15_rows ?_
    exact v_vret X rfl dX2_addRowOf_127 (rfl) (by rw [arR2, arR, if_pos hR1, ← hfl, ← jfm_20n lt (by omega), ← hlt]; rw [hR, nI_1])
set_option maxRecDepth 100000 in
set_option maxHeartbeats 4000000 in
theorem c_X2_takeRowBack (l : Launch) (g : Ge) (N o : Nat) (σ ρ : Nat → Int32) (k lt : Nat) (hk : k < 5) (hfl : ρ (2 + 7 * lt) = nI k) (hlt : ρ 140 = nI lt) (hlt20 : lt < 20) : Cb l g yX2_takeRowBack (.code yX2_takeRowBack cX2_takeRowBack 3 none) 4 [.ref (o + 15), .ref (o + 1)] N o (loL g o σ ρ) none (loL g o (trS σ ρ lt k) (upd ρ 140 (nI ((lt + 19) % 20)))) := by
  intro f hB0
  have hB : BB g N o 23 := hB0
  refine ct_of (own := RX2) [some (.ref (o + 15)), some (.ref (o + 1)), none] (by decide +kernel) rfl rfl (Nat.le_of_ble_eq_true rfl) ?_
  intro vp ve vs vm va vb vt vc hnm X
  refine v_aload_n X dX2_takeRowBack_0 (i := 0) rfl rfl ?_
  refine v_iconst X dX2_takeRowBack_1 (v := (0 : Int32)) (by decide) ?_
  refine v_cvB X rfl yv_X2_slotOf m_ml_X2_46 15 15 (c_X2_slotOf l g N (o + 15) σ ρ (0 : Int32) ) hB (Nat.le_of_ble_eq_true rfl) rfl (Nat.le_of_ble_eq_true rfl) rfl (L' := (loL g o σ ρ)) (rfl) rfl (Nat.le_of_ble_eq_true rfl) rfl rfl (Nat.le_of_ble_eq_true rfl) ⟨Nat.le_of_ble_eq_true rfl, Nat.le_of_ble_eq_true rfl⟩ ⟨Nat.le_of_ble_eq_true rfl, Nat.le_of_ble_eq_true rfl⟩ dX2_takeRowBack_2 rfl ?_
  refine v_istore_n X dX2_takeRowBack_5 (i := 2) rfl (Nat.le_of_ble_eq_true rfl) rfl ?_
  have hs0 : jfm (ρ 140 - (0 : Int32)) 20 = nI lt := by
    rw [hlt]
    exact (jfm_20 lt (by omega) 0 (by omega)).trans (by rw [sl]; congr 1; omega)
  refine v_aload_n X dX2_takeRowBack_6 (i := 1) rfl rfl ?_
  refine v_aload_n X dX2_takeRowBack_7 (i := 0) rfl rfl ?_
  refine v_getB X hB cf2 2 (Nat.le_of_ble_eq_true rfl) m_fl_X2_18 dX2_takeRowBack_8 15 (Nat.le_of_ble_eq_true rfl) rfl rfl ?_
  refine v_iload_n X dX2_takeRowBack_11 (i := 2) rfl rfl ?_
  refine v_iald_vw (b := 2) (s' := 7) X hB dX2_takeRowBack_12 18 (Nat.le_of_ble_eq_true rfl) rfl lt hs0 hlt20 (Nat.le_of_ble_eq_true rfl) ?_
  refine v_iconst X dX2_takeRowBack_13 (v := (1 : Int32)) (by decide) ?_
  refine v_cvB X rfl yv_X3_fly m_ml_X2_102 1 1 (c_X3_fly l g N (o + 1) (ρ (2 + 7 * lt)) k hfl σ (1 : Int32) hk) hB (Nat.le_of_ble_eq_true rfl) rfl (Nat.le_of_ble_eq_true rfl) rfl (L' := (loL g o (flS σ k (1 : Int32)) ρ)) (loL_ge (fun i hi => flS_out hk (by omega))) rfl (Nat.le_of_ble_eq_true rfl) rfl rfl (Nat.le_of_ble_eq_true rfl) ⟨Nat.le_of_ble_eq_true rfl, Nat.le_of_ble_eq_true rfl⟩ ⟨Nat.le_of_ble_eq_true rfl, Nat.le_of_ble_eq_true rfl⟩ dX2_takeRowBack_14 rfl ?_
  refine v_aload_n X dX2_takeRowBack_17 (i := 1) rfl rfl ?_
  refine v_aload_n X dX2_takeRowBack_18 (i := 0) rfl rfl ?_
  refine v_getB X hB cf2 5 (Nat.le_of_ble_eq_true rfl) m_fl_X2_27 dX2_takeRowBack_19 15 (Nat.le_of_ble_eq_true rfl) rfl rfl ?_
  refine v_iload_n X dX2_takeRowBack_22 (i := 2) rfl rfl ?_
  refine v_iald_vw (b := 5) (s' := 7) X hB dX2_takeRowBack_23 21 (Nat.le_of_ble_eq_true rfl) rfl lt hs0 hlt20 (Nat.le_of_ble_eq_true rfl) ?_
  refine v_aload_n X dX2_takeRowBack_24 (i := 0) rfl rfl ?_
  refine v_getB X hB cf2 6 (Nat.le_of_ble_eq_true rfl) m_fl_X2_30 dX2_takeRowBack_25 15 (Nat.le_of_ble_eq_true rfl) rfl rfl ?_
  refine v_iload_n X dX2_takeRowBack_28 (i := 2) rfl rfl ?_
  refine v_iald_vw (b := 6) (s' := 7) X hB dX2_takeRowBack_29 22 (Nat.le_of_ble_eq_true rfl) rfl lt hs0 hlt20 (Nat.le_of_ble_eq_true rfl) ?_
  refine v_cvB X rfl yv_X3_moveRaces m_ml_X2_106 1 1 (c_X3_moveRaces l g N (o + 1) (flS σ k (1 : Int32)) (ρ (5 + 7 * lt)) (ρ (6 + 7 * lt)) ) hB (Nat.le_of_ble_eq_true rfl) rfl (Nat.le_of_ble_eq_true rfl) rfl (L' := (loL g o (upd (upd (flS σ k (1 : Int32)) 3 (ρ (5 + 7 * lt))) 4 (ρ (6 + 7 * lt))) ρ)) (loL_ge (fun i hi => by rw [pk_un (by omega), pk_un (by omega)])) rfl (Nat.le_of_ble_eq_true rfl) rfl rfl (Nat.le_of_ble_eq_true rfl) ⟨Nat.le_of_ble_eq_true rfl, Nat.le_of_ble_eq_true rfl⟩ ⟨Nat.le_of_ble_eq_true rfl, Nat.le_of_ble_eq_true rfl⟩ dX2_takeRowBack_30 rfl ?_
  refine v_aload_n X dX2_takeRowBack_33 (i := 1) rfl rfl ?_
  refine v_aload_n X dX2_takeRowBack_34 (i := 0) rfl rfl ?_
  refine v_getB X hB cf2 4 (Nat.le_of_ble_eq_true rfl) m_fl_X2_24 dX2_takeRowBack_35 15 (Nat.le_of_ble_eq_true rfl) rfl rfl ?_
  refine v_iload_n X dX2_takeRowBack_38 (i := 2) rfl rfl ?_
  refine v_iald_vw (b := 4) (s' := 7) X hB dX2_takeRowBack_39 20 (Nat.le_of_ble_eq_true rfl) rfl lt hs0 hlt20 (Nat.le_of_ble_eq_true rfl) ?_
  refine v_putB X hB cf3 5 (Nat.le_of_ble_eq_true rfl) rfl m_fl_X2_97 dX2_takeRowBack_40 1 (Nat.le_of_ble_eq_true rfl) rfl rfl rfl (Nat.le_of_ble_eq_true rfl) (L' := (loL g o (upd (upd (upd (flS σ k (1 : Int32)) 3 (ρ (5 + 7 * lt))) 4 (ρ (6 + 7 * lt))) 5 (ρ (4 + 7 * lt))) ρ)) w_lo_1_lifted ?_
  refine v_aload_n X dX2_takeRowBack_43 (i := 1) rfl rfl ?_
  refine v_getB X hB cf3 2 (Nat.le_of_ble_eq_true rfl) m_fl_X2_89 dX2_takeRowBack_44 1 (Nat.le_of_ble_eq_true rfl) rfl rfl ?_
  refine v_aload_n X dX2_takeRowBack_47 (i := 0) rfl rfl ?_
  refine v_getB X hB cf2 3 (Nat.le_of_ble_eq_true rfl) m_fl_X2_21 dX2_takeRowBack_48 15 (Nat.le_of_ble_eq_true rfl) rfl rfl ?_
  refine v_iload_n X dX2_takeRowBack_51 (i := 2) rfl rfl ?_
  refine v_iald_vw (b := 3) (s' := 7) X hB dX2_takeRowBack_52 19 (Nat.le_of_ble_eq_true rfl) rfl lt hs0 hlt20 (Nat.le_of_ble_eq_true rfl) ?_
  refine v_putB X hB cf1 4 (Nat.le_of_ble_eq_true rfl) rfl m_fl_X2_93 dX2_takeRowBack_53 10 (Nat.le_of_ble_eq_true rfl) rfl rfl rfl (Nat.le_of_ble_eq_true rfl) (L' := (loL g o (upd (upd (upd (upd (flS σ k (1 : Int32)) 3 (ρ (5 + 7 * lt))) 4 (ρ (6 + 7 * lt))) 5 (ρ (4 + 7 * lt))) 1 (ρ (3 + 7 * lt))) ρ)) w_lo_10_place ?_
  refine v_aload_n X dX2_takeRowBack_56 (i := 0) rfl rfl ?_
  refine v_aload_n X dX2_takeRowBack_57 (i := 0) rfl rfl ?_
  refine v_iconst X dX2_takeRowBack_58 (v := (1 : Int32)) (by decide) ?_
  refine v_cvB X rfl yv_X2_slotOf m_ml_X2_46 15 15 (c_X2_slotOf l g N (o + 15) (upd (upd (upd (upd (flS σ k (1 : Int32)) 3 (ρ (5 + 7 * lt))) 4 (ρ (6 + 7 * lt))) 5 (ρ (4 + 7 * lt))) 1 (ρ (3 + 7 * lt))) ρ (1 : Int32) ) hB (Nat.le_of_ble_eq_true rfl) rfl (Nat.le_of_ble_eq_true rfl) rfl (L' := (loL g o (upd (upd (upd (upd (flS σ k (1 : Int32)) 3 (ρ (5 + 7 * lt))) 4 (ρ (6 + 7 * lt))) 5 (ρ (4 + 7 * lt))) 1 (ρ (3 + 7 * lt))) ρ)) (rfl) rfl (Nat.le_of_ble_eq_true rfl) rfl rfl (Nat.le_of_ble_eq_true rfl) ⟨Nat.le_of_ble_eq_true rfl, Nat.le_of_ble_eq_true rfl⟩ ⟨Nat.le_of_ble_eq_true rfl, Nat.le_of_ble_eq_true rfl⟩ dX2_takeRowBack_59 rfl ?_
  refine v_putB X hB cf2 8 (Nat.le_of_ble_eq_true rfl) rfl m_fl_X2_37 dX2_takeRowBack_62 15 (Nat.le_of_ble_eq_true rfl) rfl rfl rfl (Nat.le_of_ble_eq_true rfl) (L' := (loL g o (upd (upd (upd (upd (flS σ k (1 : Int32)) 3 (ρ (5 + 7 * lt))) 4 (ρ (6 + 7 * lt))) 5 (ρ (4 + 7 * lt))) 1 (ρ (3 + 7 * lt))) (upd ρ 140 (jfm (ρ 140 - (1 : Int32)) 20)))) w_lo_15_latest ?_
  refine v_aload_n X dX2_takeRowBack_65 (i := 0) rfl rfl ?_
  refine v_dup X dX2_takeRowBack_66 rfl ?_
  refine v_getB X hB cf2 7 (Nat.le_of_ble_eq_true rfl) m_fl_X2_33 dX2_takeRowBack_67 15 (Nat.le_of_ble_eq_true rfl) rfl rfl ?_
  refine v_iconst X dX2_takeRowBack_70 (v := (1 : Int32)) (by decide) ?_
  refine v_isub X dX2_takeRowBack_71 ?_
  refine v_putB X hB cf2 7 (Nat.le_of_ble_eq_true rfl) rfl m_fl_X2_33 dX2_takeRowBack_72 15 (Nat.le_of_ble_eq_true rfl) rfl rfl rfl (Nat.le_of_ble_eq_true rfl) (L' := (loL g o (upd (upd (upd (upd (upd (flS σ k (1 : Int32)) 3 (ρ (5 + 7 * lt))) 4 (ρ (6 + 7 * lt))) 5 (ρ (4 + 7 * lt))) 1 (ρ (3 + 7 * lt))) 7 (((upd (upd (upd (upd (flS σ k (1 : Int32)) 3 (ρ (5 + 7 * lt))) 4 (ρ (6 + 7 * lt))) 5 (ρ (4 + 7 * lt))) 1 (ρ (3 + 7 * lt))) 7) - (1 : Int32))) (upd ρ 140 (jfm (ρ 140 - (1 : Int32)) 20)))) w_lo_15_rows ?_
  exact v_vret X rfl dX2_takeRowBack_75 (rfl) (by rw [trS, hlt, show jfm (nI lt - (1 : Int32)) 20 = nI ((lt + 19) % 20) from (jfm_20 lt (by omega) 1 (by omega)).trans (by rw [sl]; congr 1)]; rw [pk_un (by omega), pk_un (by omega), pk_un (by omega), pk_un (by omega)])
set_option maxRecDepth 100000 in
set_option maxHeartbeats 4000000 in
theorem c_X2_copyFrom (l : Launch) (g : Ge) (N o o2 : Nat) (σ ρ σ2 ρ2 : Nat → Int32) : Cb2 l g yX2_copyFrom (.code yX2_copyFrom cX2_copyFrom 2 none) 1 [.ref o, .ref o2] N o (clL g o σ ρ) o2 (clL g o2 σ2 ρ2) none (clL g o σ2 ρ2) := by
  intro f hB0 hO0
  have hB : BB g N o 8 := hB0
  have hO : OB g N f o 8 o2 8 (clL g o2 σ2 ρ2) := hO0
  refine ct_of (own := RX2) [some (.ref o), some (.ref o2)] (by decide +kernel) rfl rfl (Nat.le_of_ble_eq_true rfl) ?_
  intro vp ve vs vm va vb vt vc hnm X
  refine v_aload_n X dX2_copyFrom_0 (i := 1) rfl rfl ?_
  refine v_getO X hO rfl cf2 0 (Nat.le_of_ble_eq_true rfl) m_fl_X2_9 dX2_copyFrom_1 0 rfl rfl ?_
  refine v_iconst X dX2_copyFrom_4 (v := (0 : Int32)) (by decide) ?_
  refine v_aload_n X dX2_copyFrom_5 (i := 0) rfl rfl ?_
  refine v_getB X hB cf2 0 (Nat.le_of_ble_eq_true rfl) m_fl_X2_9 dX2_copyFrom_6 0 (Nat.le_of_ble_eq_true rfl) rfl rfl ?_
  refine v_iconst X dX2_copyFrom_9 (v := (0 : Int32)) (by decide) ?_
  refine v_bipush X dX2_copyFrom_10 (v := (20 : Int32)) (by decide) ?_
  refine v_copyW (n := 20) (b := 0) (s' := 7) X hO rfl hB m_ml_X2_40 rfl rfl rfl (Nat.le_of_ble_eq_true rfl) 1 rfl 1 (Nat.le_of_ble_eq_true rfl) rfl (L' := _) (rfl) (Nat.le_of_ble_eq_true rfl) ⟨Nat.le_of_ble_eq_true rfl, Nat.le_of_ble_eq_true rfl⟩ dX2_copyFrom_12 ?_
  refine v_aload_n X dX2_copyFrom_15 (i := 1) rfl rfl ?_
  refine v_getO X hO rfl cf2 1 (Nat.le_of_ble_eq_true rfl) m_fl_X2_15 dX2_copyFrom_16 0 rfl rfl ?_
  refine v_iconst X dX2_copyFrom_19 (v := (0 : Int32)) (by decide) ?_
  refine v_aload_n X dX2_copyFrom_20 (i := 0) rfl rfl ?_
  refine v_getB X hB cf2 1 (Nat.le_of_ble_eq_true rfl) m_fl_X2_15 dX2_copyFrom_21 0 (Nat.le_of_ble_eq_true rfl) rfl rfl ?_
  refine v_iconst X dX2_copyFrom_24 (v := (0 : Int32)) (by decide) ?_
  refine v_bipush X dX2_copyFrom_25 (v := (20 : Int32)) (by decide) ?_
  refine v_copyW (n := 20) (b := 1) (s' := 7) X hO rfl hB m_ml_X2_40 rfl rfl rfl (Nat.le_of_ble_eq_true rfl) 2 rfl 2 (Nat.le_of_ble_eq_true rfl) rfl (L' := _) (rfl) (Nat.le_of_ble_eq_true rfl) ⟨Nat.le_of_ble_eq_true rfl, Nat.le_of_ble_eq_true rfl⟩ dX2_copyFrom_27 ?_
  refine v_aload_n X dX2_copyFrom_30 (i := 1) rfl rfl ?_
  refine v_getO X hO rfl cf2 2 (Nat.le_of_ble_eq_true rfl) m_fl_X2_18 dX2_copyFrom_31 0 rfl rfl ?_
  refine v_iconst X dX2_copyFrom_34 (v := (0 : Int32)) (by decide) ?_
  refine v_aload_n X dX2_copyFrom_35 (i := 0) rfl rfl ?_
  refine v_getB X hB cf2 2 (Nat.le_of_ble_eq_true rfl) m_fl_X2_18 dX2_copyFrom_36 0 (Nat.le_of_ble_eq_true rfl) rfl rfl ?_
  refine v_iconst X dX2_copyFrom_39 (v := (0 : Int32)) (by decide) ?_
  refine v_bipush X dX2_copyFrom_40 (v := (20 : Int32)) (by decide) ?_
  refine v_copyW (n := 20) (b := 2) (s' := 7) X hO rfl hB m_ml_X2_40 rfl rfl rfl (Nat.le_of_ble_eq_true rfl) 3 rfl 3 (Nat.le_of_ble_eq_true rfl) rfl (L' := _) (rfl) (Nat.le_of_ble_eq_true rfl) ⟨Nat.le_of_ble_eq_true rfl, Nat.le_of_ble_eq_true rfl⟩ dX2_copyFrom_42 ?_
  refine v_aload_n X dX2_copyFrom_45 (i := 1) rfl rfl ?_
  refine v_getO X hO rfl cf2 3 (Nat.le_of_ble_eq_true rfl) m_fl_X2_21 dX2_copyFrom_46 0 rfl rfl ?_
  refine v_iconst X dX2_copyFrom_49 (v := (0 : Int32)) (by decide) ?_
  refine v_aload_n X dX2_copyFrom_50 (i := 0) rfl rfl ?_
  refine v_getB X hB cf2 3 (Nat.le_of_ble_eq_true rfl) m_fl_X2_21 dX2_copyFrom_51 0 (Nat.le_of_ble_eq_true rfl) rfl rfl ?_
  refine v_iconst X dX2_copyFrom_54 (v := (0 : Int32)) (by decide) ?_
  refine v_bipush X dX2_copyFrom_55 (v := (20 : Int32)) (by decide) ?_
  refine v_copyW (n := 20) (b := 3) (s' := 7) X hO rfl hB m_ml_X2_40 rfl rfl rfl (Nat.le_of_ble_eq_true rfl) 4 rfl 4 (Nat.le_of_ble_eq_true rfl) rfl (L' := _) (rfl) (Nat.le_of_ble_eq_true rfl) ⟨Nat.le_of_ble_eq_true rfl, Nat.le_of_ble_eq_true rfl⟩ dX2_copyFrom_57 ?_
  refine v_aload_n X dX2_copyFrom_60 (i := 1) rfl rfl ?_
  refine v_getO X hO rfl cf2 4 (Nat.le_of_ble_eq_true rfl) m_fl_X2_24 dX2_copyFrom_61 0 rfl rfl ?_
  refine v_iconst X dX2_copyFrom_64 (v := (0 : Int32)) (by decide) ?_
  refine v_aload_n X dX2_copyFrom_65 (i := 0) rfl rfl ?_
  refine v_getB X hB cf2 4 (Nat.le_of_ble_eq_true rfl) m_fl_X2_24 dX2_copyFrom_66 0 (Nat.le_of_ble_eq_true rfl) rfl rfl ?_
  refine v_iconst X dX2_copyFrom_69 (v := (0 : Int32)) (by decide) ?_
  refine v_bipush X dX2_copyFrom_70 (v := (20 : Int32)) (by decide) ?_
  refine v_copyW (n := 20) (b := 4) (s' := 7) X hO rfl hB m_ml_X2_40 rfl rfl rfl (Nat.le_of_ble_eq_true rfl) 5 rfl 5 (Nat.le_of_ble_eq_true rfl) rfl (L' := _) (rfl) (Nat.le_of_ble_eq_true rfl) ⟨Nat.le_of_ble_eq_true rfl, Nat.le_of_ble_eq_true rfl⟩ dX2_copyFrom_72 ?_
  refine v_aload_n X dX2_copyFrom_75 (i := 1) rfl rfl ?_
  refine v_getO X hO rfl cf2 5 (Nat.le_of_ble_eq_true rfl) m_fl_X2_27 dX2_copyFrom_76 0 rfl rfl ?_
  refine v_iconst X dX2_copyFrom_79 (v := (0 : Int32)) (by decide) ?_
  refine v_aload_n X dX2_copyFrom_80 (i := 0) rfl rfl ?_
  refine v_getB X hB cf2 5 (Nat.le_of_ble_eq_true rfl) m_fl_X2_27 dX2_copyFrom_81 0 (Nat.le_of_ble_eq_true rfl) rfl rfl ?_
  refine v_iconst X dX2_copyFrom_84 (v := (0 : Int32)) (by decide) ?_
  refine v_bipush X dX2_copyFrom_85 (v := (20 : Int32)) (by decide) ?_
  refine v_copyW (n := 20) (b := 5) (s' := 7) X hO rfl hB m_ml_X2_40 rfl rfl rfl (Nat.le_of_ble_eq_true rfl) 6 rfl 6 (Nat.le_of_ble_eq_true rfl) rfl (L' := _) (rfl) (Nat.le_of_ble_eq_true rfl) ⟨Nat.le_of_ble_eq_true rfl, Nat.le_of_ble_eq_true rfl⟩ dX2_copyFrom_87 ?_
  refine v_aload_n X dX2_copyFrom_90 (i := 1) rfl rfl ?_
  refine v_getO X hO rfl cf2 6 (Nat.le_of_ble_eq_true rfl) m_fl_X2_30 dX2_copyFrom_91 0 rfl rfl ?_
  refine v_iconst X dX2_copyFrom_94 (v := (0 : Int32)) (by decide) ?_
  refine v_aload_n X dX2_copyFrom_95 (i := 0) rfl rfl ?_
  refine v_getB X hB cf2 6 (Nat.le_of_ble_eq_true rfl) m_fl_X2_30 dX2_copyFrom_96 0 (Nat.le_of_ble_eq_true rfl) rfl rfl ?_
  refine v_iconst X dX2_copyFrom_99 (v := (0 : Int32)) (by decide) ?_
  refine v_bipush X dX2_copyFrom_100 (v := (20 : Int32)) (by decide) ?_
  refine v_copyW (n := 20) (b := 6) (s' := 7) X hO rfl hB m_ml_X2_40 rfl rfl rfl (Nat.le_of_ble_eq_true rfl) 7 rfl 7 (Nat.le_of_ble_eq_true rfl) rfl (L' := _) (rfl) (Nat.le_of_ble_eq_true rfl) ⟨Nat.le_of_ble_eq_true rfl, Nat.le_of_ble_eq_true rfl⟩ dX2_copyFrom_102 ?_
  refine v_aload_n X dX2_copyFrom_105 (i := 0) rfl rfl ?_
  refine v_aload_n X dX2_copyFrom_106 (i := 1) rfl rfl ?_
  refine v_getO X hO rfl cf2 7 (Nat.le_of_ble_eq_true rfl) m_fl_X2_33 dX2_copyFrom_107 0 rfl rfl ?_
  refine v_putB X hB cf2 7 (Nat.le_of_ble_eq_true rfl) rfl m_fl_X2_33 dX2_copyFrom_110 0 (Nat.le_of_ble_eq_true rfl) rfl rfl rfl (Nat.le_of_ble_eq_true rfl) rfl ?_
  refine v_aload_n X dX2_copyFrom_113 (i := 0) rfl rfl ?_
  refine v_aload_n X dX2_copyFrom_114 (i := 1) rfl rfl ?_
  refine v_getO X hO rfl cf2 8 (Nat.le_of_ble_eq_true rfl) m_fl_X2_37 dX2_copyFrom_115 0 rfl rfl ?_
  refine v_putB X hB cf2 8 (Nat.le_of_ble_eq_true rfl) rfl m_fl_X2_37 dX2_copyFrom_118 0 (Nat.le_of_ble_eq_true rfl) rfl rfl rfl (Nat.le_of_ble_eq_true rfl) rfl ?_
  exact v_vret X rfl dX2_copyFrom_121 (rfl) (rfl)
set_option maxRecDepth 100000 in
set_option maxHeartbeats 4000000 in
theorem c_X4_copyFrom (l : Launch) (g : Ge) (N o o2 : Nat) (σ ρ σ2 ρ2 : Nat → Int32) : Cb2 l g yX4_copyFrom (.code yX4_copyFrom cX4_copyFrom 2 none) 3 [.ref o, .ref o2] N o (loL g o σ ρ) o2 (loL g o2 σ2 ρ2) none (loL g o σ2 ρ2) := by
  intro f hB0 hO0
  have hB : BB g N o 23 := hB0
  have hO : OB g N f o 23 o2 23 (loL g o2 σ2 ρ2) := hO0
  refine ct_of (own := RX4) [some (.ref o), some (.ref o2)] (by decide +kernel) rfl rfl (Nat.le_of_ble_eq_true rfl) ?_
  intro vp ve vs vm va vb vt vc hnm X
  refine v_aload_n X dX4_copyFrom_0 (i := 0) rfl rfl ?_
  refine v_getB X hB cf4 0 (Nat.le_of_ble_eq_true rfl) m_fl_X4_12 dX4_copyFrom_1 0 (Nat.le_of_ble_eq_true rfl) rfl rfl ?_
  refine v_aload_n X dX4_copyFrom_4 (i := 1) rfl rfl ?_
  refine v_getO X hO rfl cf4 0 (Nat.le_of_ble_eq_true rfl) m_fl_X4_12 dX4_copyFrom_5 0 rfl rfl ?_
  refine v_cvB2 X rfl yv_X3_copyFrom m_ml_X4_41 1 1 (c_X3_copyFrom l g N (o + 1) (o2 + 1) σ σ2 ) hB (hO.sub rfl (Nat.le_of_ble_eq_true rfl) (j2 := 1) (Nat.le_of_ble_eq_true rfl) rfl) (Nat.le_of_ble_eq_true rfl) rfl (Nat.le_of_ble_eq_true rfl) rfl (L' := _) (rfl) rfl (Nat.le_of_ble_eq_true rfl) rfl rfl (Nat.le_of_ble_eq_true rfl) ⟨Nat.le_of_ble_eq_true rfl, Nat.le_of_ble_eq_true rfl⟩ ⟨Nat.le_of_ble_eq_true rfl, Nat.le_of_ble_eq_true rfl⟩ dX4_copyFrom_8 rfl ?_
  refine v_aload_n X dX4_copyFrom_11 (i := 0) rfl rfl ?_
  refine v_getB X hB cf4 1 (Nat.le_of_ble_eq_true rfl) m_fl_X4_21 dX4_copyFrom_12 0 (Nat.le_of_ble_eq_true rfl) rfl rfl ?_
  refine v_aload_n X dX4_copyFrom_15 (i := 1) rfl rfl ?_
  refine v_getO X hO rfl cf4 1 (Nat.le_of_ble_eq_true rfl) m_fl_X4_21 dX4_copyFrom_16 0 rfl rfl ?_
  refine v_cvB2 X rfl yv_X2_copyFrom m_ml_X4_45 15 15 (c_X2_copyFrom l g N (o + 15) (o2 + 15) σ ρ σ2 ρ2 ) hB (hO.sub rfl (Nat.le_of_ble_eq_true rfl) (j2 := 15) (Nat.le_of_ble_eq_true rfl) rfl) (Nat.le_of_ble_eq_true rfl) rfl (Nat.le_of_ble_eq_true rfl) rfl (L' := _) (rfl) rfl (Nat.le_of_ble_eq_true rfl) rfl rfl (Nat.le_of_ble_eq_true rfl) ⟨Nat.le_of_ble_eq_true rfl, Nat.le_of_ble_eq_true rfl⟩ ⟨Nat.le_of_ble_eq_true rfl, Nat.le_of_ble_eq_true rfl⟩ dX4_copyFrom_19 rfl ?_
  refine v_aload_n X dX4_copyFrom_22 (i := 0) rfl rfl ?_
  refine v_aload_n X dX4_copyFrom_23 (i := 1) rfl rfl ?_
  refine v_getO X hO rfl cf4 2 (Nat.le_of_ble_eq_true rfl) m_fl_X4_25 dX4_copyFrom_24 0 rfl rfl ?_
  refine v_putB X hB cf4 2 (Nat.le_of_ble_eq_true rfl) rfl m_fl_X4_25 dX4_copyFrom_27 0 (Nat.le_of_ble_eq_true rfl) rfl rfl rfl (Nat.le_of_ble_eq_true rfl) rfl ?_
  refine v_aload_n X dX4_copyFrom_30 (i := 0) rfl rfl ?_
  refine v_aload_n X dX4_copyFrom_31 (i := 1) rfl rfl ?_
  refine v_getO X hO rfl cf4 3 (Nat.le_of_ble_eq_true rfl) m_fl_X4_29 dX4_copyFrom_32 0 rfl rfl ?_
  refine v_putB X hB cf4 3 (Nat.le_of_ble_eq_true rfl) rfl m_fl_X4_29 dX4_copyFrom_35 0 (Nat.le_of_ble_eq_true rfl) rfl rfl rfl (Nat.le_of_ble_eq_true rfl) rfl ?_
  refine v_aload_n X dX4_copyFrom_38 (i := 0) rfl rfl ?_
  refine v_aload_n X dX4_copyFrom_39 (i := 1) rfl rfl ?_
  refine v_getO X hO rfl cf4 4 (Nat.le_of_ble_eq_true rfl) m_fl_X4_32 dX4_copyFrom_40 0 rfl rfl ?_
  refine v_putB X hB cf4 4 (Nat.le_of_ble_eq_true rfl) rfl m_fl_X4_32 dX4_copyFrom_43 0 (Nat.le_of_ble_eq_true rfl) rfl rfl rfl (Nat.le_of_ble_eq_true rfl) rfl ?_
  refine v_aload_n X dX4_copyFrom_46 (i := 0) rfl rfl ?_
  refine v_aload_n X dX4_copyFrom_47 (i := 1) rfl rfl ?_
  refine v_getO X hO rfl cf4 5 (Nat.le_of_ble_eq_true rfl) m_fl_X4_35 dX4_copyFrom_48 0 rfl rfl ?_
  refine v_putB X hB cf4 5 (Nat.le_of_ble_eq_true rfl) rfl m_fl_X4_35 dX4_copyFrom_51 0 (Nat.le_of_ble_eq_true rfl) rfl rfl rfl (Nat.le_of_ble_eq_true rfl) rfl ?_
  refine v_aload_n X dX4_copyFrom_54 (i := 0) rfl rfl ?_
  refine v_aload_n X dX4_copyFrom_55 (i := 1) rfl rfl ?_
  refine v_getO X hO rfl cf4 6 (Nat.le_of_ble_eq_true rfl) m_fl_X4_38 dX4_copyFrom_56 0 rfl rfl ?_
  refine v_putB X hB cf4 6 (Nat.le_of_ble_eq_true rfl) rfl m_fl_X4_38 dX4_copyFrom_59 0 (Nat.le_of_ble_eq_true rfl) rfl rfl rfl (Nat.le_of_ble_eq_true rfl) rfl ?_
  exact v_vret X rfl dX4_copyFrom_62 (rfl) (rfl)
theorem fndF_congr {σ σ' : Nat → Int32} {a b : Int32} (h : ∀ i, 12 ≤ i → i < 32 → σ' i = σ i) : ∀ n k, n + k = 5 → fndF σ' a b n k = fndF σ a b n k
  | 0, _, _ => rfl
  | n + 1, k, hk => by rw [fndF, fndF, h (14 + 4 * k) (by omega) (by omega), h (15 + 4 * k) (by omega) (by omega), fndF_congr h n (k + 1) (by omega)]
theorem onS_congr {σ σ' : Nat → Int32} {P : Nat} {sd : Int32} (h : ∀ i, 12 ≤ i → i < 32 → σ' i = σ i) (h1 : σ' (57 + 3 * P) = σ (57 + 3 * P)) (h2 : σ' (58 + 3 * P) = σ (58 + 3 * P)) : onS σ' P sd = onS σ P sd := by
  unfold onS bxS fnd
  rw [h1, h2]
  exact fndF_congr h 5 0 rfl
theorem flyN_congr {σ σ' : Nat → Int32} {P : Nat} (h : ∀ i, 12 ≤ i → i < 32 → σ' i = σ i) (h1 : σ' (57 + 3 * P) = σ (57 + 3 * P)) (h2 : σ' (58 + 3 * P) = σ (58 + 3 * P)) : flyN σ' P = flyN σ P := by
  unfold flyN
  rw [onS_congr h h1 h2, onS_congr h h1 h2]
theorem flyN_arR2 {σ : Nat → Int32} {P R : Nat} : flyN (arR2 σ R) P = flyN σ P := flyN_congr (fun i h1 h2 => arR2_o (by omega)) (arR2_o (by omega)) (arR2_o (by omega))
set_option maxRecDepth 100000 in
set_option maxHeartbeats 4000000 in
theorem c_X4_makePick (l : Launch) (g : Ge) (N o : Nat) (σ ρ : Nat → Int32) (C P k R lt : Nat) (hC : σ 0 = nI C) (hP : σ 1 = nI P) (hPC : P < C) (hC16 : C ≤ 16) (hk : k < 5) (hfl : flyN σ P = nI k) (hR : σ 7 = nI R) (hR20 : R ≤ 20) (hlt : ρ 140 = nI lt) (hlt20 : lt < 20) : Cb l g yX4_makePick (.code yX4_makePick cX4_makePick 1 none) 5 [.ref o] N o (loL g o σ ρ) none (loL g o (lmS σ C P k R) (arR σ ρ ((lt + 1) % 20) P k)) := by
  intro f hB0
  have hB : BB g N o 23 := hB0
  refine ct_of (own := RX4) [some (.ref o)] (by decide +kernel) rfl rfl (Nat.le_of_ble_eq_true rfl) ?_
  intro vp ve vs vm va vb vt vc hnm X
  refine v_aload_n X dX4_makePick_0 (i := 0) rfl rfl ?_
  refine v_getB X hB cf4 1 (Nat.le_of_ble_eq_true rfl) m_fl_X4_21 dX4_makePick_1 0 (Nat.le_of_ble_eq_true rfl) rfl rfl ?_
  refine v_aload_n X dX4_makePick_4 (i := 0) rfl rfl ?_
  refine v_getB X hB cf4 0 (Nat.le_of_ble_eq_true rfl) m_fl_X4_12 dX4_makePick_5 0 (Nat.le_of_ble_eq_true rfl) rfl rfl ?_
  refine v_cvB X rfl yv_X2_addRowOf m_ml_X4_48 0 15 (c_X2_addRowOf l g N o σ ρ C P k R lt hC hP hPC hC16 hk hfl hR hR20 hlt hlt20) hB (Nat.le_of_ble_eq_true rfl) rfl (Nat.le_of_ble_eq_true rfl) rfl (L' := (loL g o (arR2 σ R) (arR σ ρ ((lt + 1) % 20) P k))) (rfl) rfl (Nat.le_of_ble_eq_true rfl) rfl rfl (Nat.le_of_ble_eq_true rfl) ⟨Nat.le_of_ble_eq_true rfl, Nat.le_of_ble_eq_true rfl⟩ ⟨Nat.le_of_ble_eq_true rfl, Nat.le_of_ble_eq_true rfl⟩ dX4_makePick_8 rfl ?_
  refine v_aload_n X dX4_makePick_11 (i := 0) rfl rfl ?_
  refine v_getB X hB cf4 0 (Nat.le_of_ble_eq_true rfl) m_fl_X4_12 dX4_makePick_12 0 (Nat.le_of_ble_eq_true rfl) rfl rfl ?_
  refine v_cvB X rfl yv_X3_makePick m_ml_X4_51 1 1 (c_X3_makePick l g N (o + 1) (arR2 σ R) C P ((arR2_o (by omega)).trans hC) ((arR2_o (by omega)).trans hP) hPC hC16 k hk ((flyN_arR2 (P := P)).trans hfl)) hB (Nat.le_of_ble_eq_true rfl) rfl (Nat.le_of_ble_eq_true rfl) rfl (L' := (loL g o (mvS (arR2 σ R) C P k) (arR σ ρ ((lt + 1) % 20) P k))) (loL_ge (fun i hi => mvS_o hk (by omega) (by omega))) rfl (Nat.le_of_ble_eq_true rfl) rfl rfl (Nat.le_of_ble_eq_true rfl) ⟨Nat.le_of_ble_eq_true rfl, Nat.le_of_ble_eq_true rfl⟩ ⟨Nat.le_of_ble_eq_true rfl, Nat.le_of_ble_eq_true rfl⟩ dX4_makePick_15 rfl ?_
  refine v_aload_n X dX4_makePick_18 (i := 0) rfl rfl ?_
  refine v_dup X dX4_makePick_19 rfl ?_
  refine v_getB X hB cf4 2 (Nat.le_of_ble_eq_true rfl) m_fl_X4_25 dX4_makePick_20 0 (Nat.le_of_ble_eq_true rfl) rfl rfl ?_
  refine v_iconst X dX4_makePick_23 (v := (1 : Int32)) (by decide) ?_
  refine v_iadd X dX4_makePick_24 ?_
  refine v_putB X hB cf4 2 (Nat.le_of_ble_eq_true rfl) rfl m_fl_X4_25 dX4_makePick_25 0 (Nat.le_of_ble_eq_true rfl) rfl rfl rfl (Nat.le_of_ble_eq_true rfl) (L' := (loL g o (upd (mvS (arR2 σ R) C P k) 6 (((mvS (arR2 σ R) C P k) 6) + (1 : Int32))) (arR σ ρ ((lt + 1) % 20) P k))) w_lo_0_picks ?_
  refine v_aload_n X dX4_makePick_28 (i := 0) rfl rfl ?_
  refine v_aload_n X dX4_makePick_29 (i := 0) rfl rfl ?_
  refine v_getB X hB cf4 3 (Nat.le_of_ble_eq_true rfl) m_fl_X4_29 dX4_makePick_30 0 (Nat.le_of_ble_eq_true rfl) rfl rfl ?_
  refine v_iconst X dX4_makePick_33 (v := (1 : Int32)) (by decide) ?_
  refine v_iadd X dX4_makePick_34 ?_
  refine v_bipush X dX4_makePick_35 (v := (20 : Int32)) (by decide) ?_
  refine v_mmin (v := (if (20 : Int32) < (((upd (mvS (arR2 σ R) C P k) 6 (((mvS (arR2 σ R) C P k) 6) + (1 : Int32))) 8) + (1 : Int32)) then (20 : Int32) else (((upd (mvS (arR2 σ R) C P k) 6 (((mvS (arR2 σ R) C P k) 6) + (1 : Int32))) 8) + (1 : Int32)))) X m_ml_X4_54 (Nat.le_of_ble_eq_true rfl) ⟨Nat.le_of_ble_eq_true rfl, Nat.le_of_ble_eq_true rfl⟩ ⟨Nat.le_of_ble_eq_true rfl, Nat.le_of_ble_eq_true rfl⟩ dX4_makePick_37 (rfl) ?_
  refine v_putB X hB cf4 3 (Nat.le_of_ble_eq_true rfl) rfl m_fl_X4_29 dX4_makePick_40 0 (Nat.le_of_ble_eq_true rfl) rfl rfl rfl (Nat.le_of_ble_eq_true rfl) (L' := (loL g o (upd (upd (mvS (arR2 σ R) C P k) 6 (((mvS (arR2 σ R) C P k) 6) + (1 : Int32))) 8 (if (20 : Int32) < (((upd (mvS (arR2 σ R) C P k) 6 (((mvS (arR2 σ R) C P k) 6) + (1 : Int32))) 8) + (1 : Int32)) then (20 : Int32) else (((upd (mvS (arR2 σ R) C P k) 6 (((mvS (arR2 σ R) C P k) 6) + (1 : Int32))) 8) + (1 : Int32)))) (arR σ ρ ((lt + 1) % 20) P k))) w_lo_0_takeable ?_
  exact v_vret X rfl dX4_makePick_43 (rfl) (by rw [lmS, pk_un (by omega)])
set_option maxRecDepth 100000 in
set_option maxHeartbeats 4000000 in
theorem c_X4_takePickBack (l : Launch) (g : Ge) (N o : Nat) (σ ρ : Nat → Int32) (k lt : Nat) (hk : k < 5) (hfl : ρ (2 + 7 * lt) = nI k) (hlt : ρ 140 = nI lt) (hlt20 : lt < 20) : Cb l g yX4_takePickBack (.code yX4_takePickBack cX4_takePickBack 1 none) 5 [.ref o] N o (loL g o σ ρ) none (loL g o (ltS σ ρ lt k) (upd ρ 140 (nI ((lt + 19) % 20)))) := by
  intro f hB0
  have hB : BB g N o 23 := hB0
  refine ct_of (own := RX4) [some (.ref o)] (by decide +kernel) rfl rfl (Nat.le_of_ble_eq_true rfl) ?_
  intro vp ve vs vm va vb vt vc hnm X
  refine v_aload_n X dX4_takePickBack_0 (i := 0) rfl rfl ?_
  refine v_getB X hB cf4 1 (Nat.le_of_ble_eq_true rfl) m_fl_X4_21 dX4_takePickBack_1 0 (Nat.le_of_ble_eq_true rfl) rfl rfl ?_
  refine v_aload_n X dX4_takePickBack_4 (i := 0) rfl rfl ?_
  refine v_getB X hB cf4 0 (Nat.le_of_ble_eq_true rfl) m_fl_X4_12 dX4_takePickBack_5 0 (Nat.le_of_ble_eq_true rfl) rfl rfl ?_
  refine v_cvB X rfl yv_X2_takeRowBack m_ml_X4_60 0 15 (c_X2_takeRowBack l g N o σ ρ k lt hk hfl hlt hlt20) hB (Nat.le_of_ble_eq_true rfl) rfl (Nat.le_of_ble_eq_true rfl) rfl (L' := (loL g o (trS σ ρ lt k) (upd ρ 140 (nI ((lt + 19) % 20))))) (rfl) rfl (Nat.le_of_ble_eq_true rfl) rfl rfl (Nat.le_of_ble_eq_true rfl) ⟨Nat.le_of_ble_eq_true rfl, Nat.le_of_ble_eq_true rfl⟩ ⟨Nat.le_of_ble_eq_true rfl, Nat.le_of_ble_eq_true rfl⟩ dX4_takePickBack_8 rfl ?_
  refine v_aload_n X dX4_takePickBack_11 (i := 0) rfl rfl ?_
  refine v_dup X dX4_takePickBack_12 rfl ?_
  refine v_getB X hB cf4 2 (Nat.le_of_ble_eq_true rfl) m_fl_X4_25 dX4_takePickBack_13 0 (Nat.le_of_ble_eq_true rfl) rfl rfl ?_
  refine v_iconst X dX4_takePickBack_16 (v := (1 : Int32)) (by decide) ?_
  refine v_isub X dX4_takePickBack_17 ?_
  refine v_putB X hB cf4 2 (Nat.le_of_ble_eq_true rfl) rfl m_fl_X4_25 dX4_takePickBack_18 0 (Nat.le_of_ble_eq_true rfl) rfl rfl rfl (Nat.le_of_ble_eq_true rfl) (L' := (loL g o (upd (trS σ ρ lt k) 6 (((trS σ ρ lt k) 6) - (1 : Int32))) (upd ρ 140 (nI ((lt + 19) % 20))))) w_lo_0_picks ?_
  refine v_aload_n X dX4_takePickBack_21 (i := 0) rfl rfl ?_
  refine v_dup X dX4_takePickBack_22 rfl ?_
  refine v_getB X hB cf4 3 (Nat.le_of_ble_eq_true rfl) m_fl_X4_29 dX4_takePickBack_23 0 (Nat.le_of_ble_eq_true rfl) rfl rfl ?_
  refine v_iconst X dX4_takePickBack_26 (v := (1 : Int32)) (by decide) ?_
  refine v_isub X dX4_takePickBack_27 ?_
  refine v_putB X hB cf4 3 (Nat.le_of_ble_eq_true rfl) rfl m_fl_X4_29 dX4_takePickBack_28 0 (Nat.le_of_ble_eq_true rfl) rfl rfl rfl (Nat.le_of_ble_eq_true rfl) (L' := (loL g o (upd (upd (trS σ ρ lt k) 6 (((trS σ ρ lt k) 6) - (1 : Int32))) 8 (((upd (trS σ ρ lt k) 6 (((trS σ ρ lt k) 6) - (1 : Int32))) 8) - (1 : Int32))) (upd ρ 140 (nI ((lt + 19) % 20))))) w_lo_0_takeable ?_
  exact v_vret X rfl dX4_takePickBack_31 (rfl) (by rw [ltS, pk_un (by omega)])
set_option maxRecDepth 100000 in
set_option maxHeartbeats 4000000 in
theorem c_X4_noteStop (l : Launch) (g : Ge) (N o : Nat) (σ ρ : Nat → Int32) (C P : Nat) (r : Int32) (hC : σ 0 = nI C) (hP : σ 1 = nI P) (hPC0 : r = 3 ∨ r = 4 ∨ r = 6 → P < C) (hC16 : C ≤ 16) : Cb l g yX4_noteStop (.code yX4_noteStop cX4_noteStop 2 none) 5 [.ref o, .int r] N o (loL g o σ ρ) none (loL g o (nsS σ P r) ρ) := by
  intro f hB0
  have hB : BB g N o 23 := hB0
  refine ct_of (own := RX4) [some (.ref o), some (.int r)] (by decide +kernel) rfl rfl (Nat.le_of_ble_eq_true rfl) ?_
  intro vp ve vs vm va vb vt vc hnm X
  refine v_aload_n X dX4_noteStop_0 (i := 0) rfl rfl ?_
  refine v_iload_n X dX4_noteStop_1 (i := 1) rfl rfl ?_
  refine v_putB X hB cf4 4 (Nat.le_of_ble_eq_true rfl) rfl m_fl_X4_32 dX4_noteStop_2 0 (Nat.le_of_ble_eq_true rfl) rfl rfl rfl (Nat.le_of_ble_eq_true rfl) (L' := (loL g o (upd σ 9 r) ρ)) w_lo_0_stopReason ?_
  refine v_aload_n X dX4_noteStop_5 (i := 0) rfl rfl ?_
  refine v_aload_n X dX4_noteStop_6 (i := 0) rfl rfl ?_
  refine v_getB X hB cf4 0 (Nat.le_of_ble_eq_true rfl) m_fl_X4_12 dX4_noteStop_7 0 (Nat.le_of_ble_eq_true rfl) rfl rfl ?_
  refine v_iload_n X dX4_noteStop_10 (i := 1) rfl rfl ?_
  refine v_cvB X rfl yv_X3_numberTold m_ml_X4_63 1 1 (c_X3_numberTold l g N (o + 1) (upd σ 9 r) C P r ((pk_un (by omega)).trans hC) ((pk_un (by omega)).trans hP) hPC0 hC16) hB (Nat.le_of_ble_eq_true rfl) rfl (Nat.le_of_ble_eq_true rfl) rfl (L' := (loL g o (upd σ 9 r) ρ)) (rfl) rfl (Nat.le_of_ble_eq_true rfl) rfl rfl (Nat.le_of_ble_eq_true rfl) ⟨Nat.le_of_ble_eq_true rfl, Nat.le_of_ble_eq_true rfl⟩ ⟨Nat.le_of_ble_eq_true rfl, Nat.le_of_ble_eq_true rfl⟩ dX4_noteStop_11 rfl ?_
  refine v_putB X hB cf4 5 (Nat.le_of_ble_eq_true rfl) rfl m_fl_X4_35 dX4_noteStop_14 0 (Nat.le_of_ble_eq_true rfl) rfl rfl rfl (Nat.le_of_ble_eq_true rfl) (L' := (loL g o (upd (upd σ 9 r) 10 (nTold (upd σ 9 r) P r)) ρ)) w_lo_0_stopNumber ?_
  refine v_aload_n X dX4_noteStop_17 (i := 0) rfl rfl ?_
  refine v_dup X dX4_noteStop_18 rfl ?_
  refine v_getB X hB cf4 6 (Nat.le_of_ble_eq_true rfl) m_fl_X4_38 dX4_noteStop_19 0 (Nat.le_of_ble_eq_true rfl) rfl rfl ?_
  refine v_iconst X dX4_noteStop_22 (v := (1 : Int32)) (by decide) ?_
  refine v_iadd X dX4_noteStop_23 ?_
  refine v_putB X hB cf4 6 (Nat.le_of_ble_eq_true rfl) rfl m_fl_X4_38 dX4_noteStop_24 0 (Nat.le_of_ble_eq_true rfl) rfl rfl rfl (Nat.le_of_ble_eq_true rfl) (L' := (loL g o (upd (upd (upd σ 9 r) 10 (nTold (upd σ 9 r) P r)) 11 (((upd (upd σ 9 r) 10 (nTold (upd σ 9 r) P r)) 11) + (1 : Int32))) ρ)) w_lo_0_stops ?_
  exact v_vret X rfl dX4_noteStop_27 (rfl) (by rw [nsS, pk_un (f := upd σ 9 r) (by omega), pk_un (f := σ) (j := 11) (by omega)])
