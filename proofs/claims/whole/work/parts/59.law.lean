/-! THE CLAIM OUT OF ONE WALK OF THE LAW'S BODY. Your part is whole_start (and what it stands on); all else here is the same for every law, but numbers. -/
def R_law : String := "DropBoxLoomLaw"
def lw_P (b : Addr) (xs : List Int32) (args : Array Value) (s : State) : Prop := args = #[.ref b] ∧ s.IntsAt b xs ∧ xs.length ≤ 2048 ∧ (Jvm.Cond.and given_1 narrow_1).before args s = true
def lw_Q (_ : Array Value) (s : State) (o : Outcome) (t : State) : Prop := o = .returned (some (.int 1)) ∧ Framed s o t [] room_1.cells room_1.slots
def lw_Z (below : List Frame) (a : Array Value) (s : State) : State → Prop := fun t => ∃ o, t.status = .running ∧ Ended t below o ∧ lw_Q a s o t
/-- the law's own end, with 1 on the stack, nothing written that was there before, its room as the claim has it -/
theorem lw_ret {p : Program} {l : Launch} {e : Env} {s : State} {m : MethodId} {below : List Frame} {meth : Method} {c : Code} {b : Nat} (hx : p.tables.exec = Jvm.exec) (hb : c.code = code) (hr : meth.sig.returnType = ret) (hlocks : meth.locks = false) {pc : Nat} {H : Heap} {ls : Array Slot} (hdg : decode code pc = .ok (.ireturn, 1)) : W p l e room_1 s m #[Value.ref b] below meth c H [] room_1.cells room_1.slots (lw_Z below #[Value.ref b] s) (F0 m pc ls [.int 1]) := by
  intro T hT X
  obtain ⟨fs, hret, hrun, hended, hW, hframe⟩ := X.leave (v := some (.int 1)) (hlocks := hlocks) (fun h => by rw [hr] at h; cases h)
  have hmeth' : T.vm.method? m = some meth := X.method'
  refine ⟨T.setFrames fs, ?_, .returned (some (.int 1)), hrun, hended, rfl, ⟨_, rfl⟩, hW, hframe⟩
  jvm_step X.here [X.here.top, hx, hb, hdg, hmeth', hr, ret, narrow_b1]
  (try refine ⟨rfl, ?_⟩); (try refine ⟨rfl, ?_⟩)
  first | (intro acts; rw [hret _ acts rfl rfl rfl]) | rw [hret _ _ rfl rfl rfl]
  exact Steps.refl _
/-- what holds at the law's entry: the machine, the code, the tables' words (any of lw_tbl by 'hts w (by decide +kernel)'), the script of L ints xs at the cell b, what the Statement gives of the start (any of its parts by flat_of_before) -/
def lw_At (p : Program) (s : State) (m : MethodId) (meth : Method) (c : Code) (b L : Nat) (xs : Nat → Int32) : Prop :=
  p.tables.exec = Jvm.exec ∧ c.code = code ∧ meth.sig.returnType = ret ∧ c.maxLocals = 4 ∧ s.vm.findClass R_law = some m.cls ∧ (∀ w ∈ lw_tbl, w.before #[Value.ref b] s = true) ∧ va_X b L xs s s.heap ∧ b < s.heap.size ∧ meth.locks = false ∧ (Jvm.Cond.and given_1 narrow_1).before #[Value.ref b] s = true
/-! the law from its entry on -/
theorem sw028 (x : Int32) : (∃ k : Nat, k < 29 ∧ x = nI k) ∨ (x.toInt < 0 ∨ 28 < x.toInt) := by
  by_cases h1 : x.toInt < 0
  · exact Or.inr (Or.inl h1)
  by_cases h2 : 28 < x.toInt
  · exact Or.inr (Or.inr h2)
  refine Or.inl ⟨x.toInt.toNat, by omega, Int32.toInt_inj.mp ?_⟩
  rw [nI_toInt (by omega)]
  omega
theorem v_lend {p : Program} {l : Launch} {e : Env} {s : State} {m : MethodId} {below : List Frame} {meth : Method} {c : Code} {g : Ge} {b : Nat} {f : Pic} (X : Cx p #[Value.ref b] s m meth c g cL_law 4 RL ret 0) {lv : List (Option Value)} : V p l e room_1 s m #[Value.ref b] below meth c (lw_Z below #[Value.ref b] s) g 4 184 4443 184 f 879 lv [.int 1] :=
  fun H locs ls hP hS hl => va_forget (fun q hq => Nat.le_trans (Nat.le_of_eq X.2.2.2.2.2.2.2.2) (hS.2.2 q hq)) (W.widen (k := room_1.cells) (n := room_1.slots) (Nat.le_of_ble_eq_true rfl) (Nat.le_of_ble_eq_true rfl) (lw_ret X.1 X.2.1 X.2.2.2.2.2.2.1 X.2.2.2.2.2.1 dL_law_879))
set_option maxHeartbeats 2000000 in
theorem law_loop {p : Program} {l : Launch} {e : Env} {s : State} {m : MethodId} {below : List Frame} {meth : Method} {c : Code} {g : Ge} {b Ls o : Nat} {xs : Nat → Int32} {f : Pic} (X : Cx p #[Value.ref b] s m meth c g cL_law 4 RL ret 0) (hXs : va_X b Ls xs s s.heap) (hbl : b < s.heap.size) (hbA : ¬ gA g b) (hBB : BB g 184 o 184) (hLs : Ls ≤ 2048) : ∀ (n_ i : Nat) (σ ρ : Nat → Int32) (S P : Nat → Nat → Int32) (φ κ τ π μ kp hs tx ι : Nat → Int32), i ≤ Ls + 4 → Ls + 4 < i + n_ → Fr σ ρ S P τ π μ hs tx ι → V p l e room_1 s m #[Value.ref b] below meth c (lw_Z below #[Value.ref b] s) g 4 184 4443 184 (PW f o (xL g o σ ρ S P φ κ τ π) (mdL g (o + 179) μ kp hs tx ι)) 18 [some (.ref b), some (.ref o), some (.ref (o + 179)), some (.int (nI i))] [] := by
  intro n_
  induction n_ with
  | zero => intro i σ ρ S P φ κ τ π μ kp hs tx ι h1 h2; exact absurd h1 (by omega)
  | succ n_ ih =>
    intro i σ ρ S P φ κ τ π μ kp hs tx ι h1 h2 F
    refine v_iload_n X dL_law_18 (i := 3) rfl rfl ?_
    refine v_aload_n X dL_law_19 (i := 0) rfl rfl ?_
    refine v_slen X hXs hbl hbA dL_law_20 ?_
    refine v_iconst X dL_law_21 (v := (4 : Int32)) (by decide) ?_
    refine v_isub X dL_law_22 ?_
    refine v_icmp_gt X dL_law_23 (tgt := 878) (by decide) (fun _ => ?_) (fun c23 => ?_)
    · refine v_iconst X dL_law_878 (v := (1 : Int32)) (by decide) ?_
      exact v_lend X
    · have hi4 : i + 4 ≤ Ls := by
        have c9 : nI i ≤ nI Ls - nI 4 := c23
        rw [Int32.le_iff_toInt_le, nI_toInt (by omega), pk_sub_toInt (by omega) (by omega)] at c9
        omega
      have kk : ∀ (σ ρ : Nat → Int32) (S P : Nat → Nat → Int32) (φ κ τ π μ kp hs tx ι : Nat → Int32), Fr σ ρ S P τ π μ hs tx ι → V p l e room_1 s m #[Value.ref b] below meth c (lw_Z below #[Value.ref b] s) g 4 184 4443 184 (PW f o (xL g o σ ρ S P φ κ τ π) (mdL g (o + 179) μ kp hs tx ι)) 872 [some (.ref b), some (.ref o), some (.ref (o + 179)), some (.int (nI i))] [] := by
        intro σ ρ S P φ κ τ π μ kp hs tx ι F2
        refine v_iinc X dL_law_872 (v := nI (i + 4)) rfl (ix_add rfl rfl) (Nat.le_of_ble_eq_true rfl) rfl ?_
        refine v_goto X dL_law_875 (tgt := 18) (by decide) ?_
        exact ih (i + 4) σ ρ S P φ κ τ π μ kp hs tx ι (by omega) (by omega) F2
      refine v_aload_n X dL_law_26 (i := 0) rfl rfl ?_
      refine v_iload_n X dL_law_27 (i := 3) rfl rfl ?_
      refine v_sld X hXs hbl hbA (vp_in_nI (by omega) (by omega)) dL_law_28 ?_
      refine v_bipush X dL_law_29 (v := (31 : Int32)) (by decide) ?_
      refine v_iand X dL_law_31 ?_
      obtain ⟨x, hx⟩ : ∃ x, (xs (nI i).toNatClampNeg &&& 31) = x := ⟨_, rfl⟩
      refine V.cast (st' := [.int x]) ?_ rfl (by rw [hx]) rfl
      clear hx
      rcases sw028 x with ⟨k, hk, rfl⟩ | hwd
      case inr => exact v_tabOut X dL_law_32 (tgt := 872) hwd (by decide) (kk σ ρ S P φ κ τ π μ kp hs tx ι F)
      rcases (show k = 0 ∨ k = 1 ∨ k = 2 ∨ k = 3 ∨ k = 4 ∨ k = 5 ∨ k = 6 ∨ k = 7 ∨ k = 8 ∨ k = 9 ∨ k = 10 ∨ k = 11 ∨ k = 12 ∨ k = 13 ∨ k = 14 ∨ k = 15 ∨ k = 16 ∨ k = 17 ∨ k = 18 ∨ k = 19 ∨ k = 20 ∨ k = 21 ∨ k = 22 ∨ k = 23 ∨ k = 24 ∨ k = 25 ∨ k = 26 ∨ k = 27 ∨ k = 28 by omega) with rfl | rfl | rfl | rfl | rfl | rfl | rfl | rfl | rfl | rfl | rfl | rfl | rfl | rfl | rfl | rfl | rfl | rfl | rfl | rfl | rfl | rfl | rfl | rfl | rfl | rfl | rfl | rfl | rfl
      · exact v_tabIn X dL_law_32 (tgt := 164) (by decide) (by decide) rfl (by decide) (lc_0 X hXs hbl hbA hBB hi4 hLs F kk)
      · exact v_tabIn X dL_law_32 (tgt := 207) (by decide) (by decide) rfl (by decide) (lc_1 X hXs hbl hbA hBB hi4 hLs F kk)
      · exact v_tabIn X dL_law_32 (tgt := 230) (by decide) (by decide) rfl (by decide) (lc_2 X hXs hbl hbA hBB hi4 hLs F kk)
      · exact v_tabIn X dL_law_32 (tgt := 273) (by decide) (by decide) rfl (by decide) (lc_3 X hXs hbl hbA hBB hi4 hLs F kk)
      · exact v_tabIn X dL_law_32 (tgt := 306) (by decide) (by decide) rfl (by decide) (lc_4 X hXs hbl hbA hBB hi4 hLs F kk)
      · exact v_tabIn X dL_law_32 (tgt := 339) (by decide) (by decide) rfl (by decide) (lc_5 X hXs hbl hbA hBB hi4 hLs F kk)
      · exact v_tabIn X dL_law_32 (tgt := 372) (by decide) (by decide) rfl (by decide) (lc_6 X hXs hbl hbA hBB hi4 hLs F kk)
      · exact v_tabIn X dL_law_32 (tgt := 395) (by decide) (by decide) rfl (by decide) (lc_7 X hXs hbl hbA hBB hi4 hLs F kk)
      · exact v_tabIn X dL_law_32 (tgt := 438) (by decide) (by decide) rfl (by decide) (lc_8 X hXs hbl hbA hBB hi4 hLs F kk)
      · exact v_tabIn X dL_law_32 (tgt := 461) (by decide) (by decide) rfl (by decide) (lc_9 X hXs hbl hbA hBB hi4 hLs F kk)
      · exact v_tabIn X dL_law_32 (tgt := 484) (by decide) (by decide) rfl (by decide) (lc_10 X hXs hbl hbA hBB hi4 hLs F kk)
      · exact v_tabIn X dL_law_32 (tgt := 507) (by decide) (by decide) rfl (by decide) (lc_11 X hXs hbl hbA hBB hi4 hLs F kk)
      · exact v_tabIn X dL_law_32 (tgt := 520) (by decide) (by decide) rfl (by decide) (lc_12 X hXs hbl hbA hBB hi4 hLs F kk)
      · exact v_tabIn X dL_law_32 (tgt := 543) (by decide) (by decide) rfl (by decide) (lc_13 X hXs hbl hbA hBB hi4 hLs F kk)
      · exact v_tabIn X dL_law_32 (tgt := 576) (by decide) (by decide) rfl (by decide) (lc_14 X hXs hbl hbA hBB hi4 hLs F kk)
      · exact v_tabIn X dL_law_32 (tgt := 609) (by decide) (by decide) rfl (by decide) (lc_15 X hXs hbl hbA hBB hi4 hLs F kk)
      · exact v_tabIn X dL_law_32 (tgt := 642) (by decide) (by decide) rfl (by decide) (lc_16 X hXs hbl hbA hBB hi4 hLs F kk)
      · exact v_tabIn X dL_law_32 (tgt := 675) (by decide) (by decide) rfl (by decide) (lc_17 X hXs hbl hbA hBB hi4 hLs F kk)
      · exact v_tabIn X dL_law_32 (tgt := 708) (by decide) (by decide) rfl (by decide) (lc_18 X hXs hbl hbA hBB hi4 hLs F kk)
      · exact v_tabIn X dL_law_32 (tgt := 731) (by decide) (by decide) rfl (by decide) (lc_19 X hXs hbl hbA hBB hi4 hLs F kk)
      · exact v_tabIn X dL_law_32 (tgt := 744) (by decide) (by decide) rfl (by decide) (lc_20 X hXs hbl hbA hBB hi4 hLs F kk)
      · exact v_tabIn X dL_law_32 (tgt := 757) (by decide) (by decide) rfl (by decide) (lc_21 X hXs hbl hbA hBB hi4 hLs F kk)
      · exact v_tabIn X dL_law_32 (tgt := 770) (by decide) (by decide) rfl (by decide) (lc_22 X hXs hbl hbA hBB hi4 hLs F kk)
      · exact v_tabIn X dL_law_32 (tgt := 783) (by decide) (by decide) rfl (by decide) (lc_23 X hXs hbl hbA hBB hi4 hLs F kk)
      · exact v_tabIn X dL_law_32 (tgt := 806) (by decide) (by decide) rfl (by decide) (lc_24 X hXs hbl hbA hBB hi4 hLs F kk)
      · exact v_tabIn X dL_law_32 (tgt := 819) (by decide) (by decide) rfl (by decide) (lc_25 X hXs hbl hbA hBB hi4 hLs F kk)
      · exact v_tabIn X dL_law_32 (tgt := 832) (by decide) (by decide) rfl (by decide) (lc_26 X hXs hbl hbA hBB hi4 hLs F kk)
      · exact v_tabIn X dL_law_32 (tgt := 845) (by decide) (by decide) rfl (by decide) (lc_27 X hXs hbl hbA hBB hi4 hLs F kk)
      · exact v_tabIn X dL_law_32 (tgt := 858) (by decide) (by decide) rfl (by decide) (lc_28 X hXs hbl hbA hBB hi4 hLs F kk)
theorem start_K {b : Nat} {s : State} (hts : ∀ w ∈ lw_tbl, w.before #[Value.ref b] s = true) : ∃ g : Ge, g.2.2 = s.heap.size ∧ KK g s := by
  have htG : ∀ w ∈ gT, w.before #[Value.ref b] s = true := fun w hw => hts w (gT_tbl hw)
  have kn : ∀ {ci : Nat} {C : String} {T : u_T} {n : Nat} {ty : Nat → FieldType}, CF ci C T n ty → Cond.instantiable C n ∈ gT → ∃ (cC : ClassId) (iS : Nat → Nat), u_Kn s C T n cC iS := fun cf hi => u_known htG cf.2.1 (htG _ hi)
  obtain ⟨c0, i0, k0⟩ := kn cf0 m_is_X0
  obtain ⟨c1, i1, k1⟩ := kn cf1 m_is_X1
  obtain ⟨c2, i2, k2⟩ := kn cf2 m_is_X2
  obtain ⟨c3, i3, k3⟩ := kn cf3 m_is_X3
  obtain ⟨c4, i4, k4⟩ := kn cf4 m_is_X4
  obtain ⟨c5, i5, k5⟩ := kn cf5 m_is_X5
  obtain ⟨c6, i6, k6⟩ := kn cf6 m_is_X6
  obtain ⟨c7, i7, k7⟩ := kn cf7 m_is_X7
  obtain ⟨c8, i8, k8⟩ := kn cf8 m_is_X8
  obtain ⟨dC, dI, hKc⟩ : ∃ (dC : Nat → ClassId) (dI : Nat → Nat → Nat), ∀ (k : Nat) (q : vw_C), vwCl[k]? = some q → u_Kn s q.1 q.2.1 q.2.2 (dC k) (dI k) := by
    refine ⟨fun k => if k = 0 then c0 else if k = 1 then c1 else if k = 2 then c2 else if k = 3 then c3 else if k = 4 then c4 else if k = 5 then c5 else if k = 6 then c6 else if k = 7 then c7 else c8, fun k => if k = 0 then i0 else if k = 1 then i1 else if k = 2 then i2 else if k = 3 then i3 else if k = 4 then i4 else if k = 5 then i5 else if k = 6 then i6 else if k = 7 then i7 else i8, ?_⟩
    intro k q hq
    match k, hq with
    | 0, hq => cases hq; exact k0
    | 1, hq => cases hq; exact k1
    | 2, hq => cases hq; exact k2
    | 3, hq => cases hq; exact k3
    | 4, hq => cases hq; exact k4
    | 5, hq => cases hq; exact k5
    | 6, hq => cases hq; exact k6
    | 7, hq => cases hq; exact k7
    | 8, hq => cases hq; exact k8
    | k + 9, hq => simp [vwCl] at hq
  obtain ⟨cI, kI, compI, a1, a2, a3⟩ := Cond.arrayClass_spec (htG _ m_ac_int)
  obtain ⟨cH, kH, compH, b1, b2, b3⟩ := Cond.arrayClass_spec (htG _ m_ac_char)
  obtain ⟨compO, cO, kO, d1, -, d2, d3, d4⟩ := Cond.arrayOver_spec (hts _ gO_tbl)
  refine ⟨((dC, dI), (cI, cH, cO), s.heap.size), rfl, ⟨hKc, fun k q hq => ?_⟩, fun q hq => va_Nw.of rfl (hts _ (gN_tbl q hq)), va_AO.of (hts _ gO_tbl)⟩
  match k, hq with
  | 0, hq => cases hq; exact ⟨fun n z => ⟨fun k h => (by cases h), kI, a2, compI, a3⟩, a1⟩
  | 1, hq => cases hq; exact ⟨fun n z => ⟨fun k h => (by cases h), kH, b2, compH, b3⟩, b1⟩
  | 2, hq => cases hq; exact ⟨fun n z => ⟨fun k h => (by cases h), kO, d2, compO, d3⟩, ⟨kO, compO, d2, d3, d1, d4⟩⟩
  | k + 3, hq => simp [tyG] at hq
set_option maxRecDepth 100000 in
set_option maxHeartbeats 2000000 in
theorem law_entry {p : Program} {l : Launch} {e : Env} {s : State} {m : MethodId} {below : List Frame} {meth : Method} {c : Code} {g : Ge} {b Ls o : Nat} {xs : Nat → Int32} {f : Pic} (X : Cx p #[Value.ref b] s m meth c g cL_law 4 RL ret 0) (ho : g.2.2 = o) (hXs : va_X b Ls xs s s.heap) (hbl : b < s.heap.size) (hbA : ¬ gA g b) (hLs : Ls ≤ 2048) : V p l e room_1 s m #[Value.ref b] below meth c (lw_Z below #[Value.ref b] s) g 4 0 0 0 (ovr f o []) 0 [some (.ref b), none, none, none] [] := by
  have hBB : BB g 184 o 184 := ⟨by rw [ho]; exact Nat.le_refl _, by rw [ho]; exact Nat.le_refl _⟩
  have hF : Fr sI zI (fun _ => sI) (fun _ => zI) zI zI sI zI zI zI := ⟨Rl_new, ⟨0, 0, ⟨rfl, by omega⟩, ⟨rfl, by omega⟩, rfl, fun m hm => absurd hm (by omega)⟩, 0, rfl, by omega, rfl, fun i hi => absurd hi (by omega)⟩
  refine v_newB (o := o) X 0 (by rw [ho]) rfl rfl cf7 m_cl_L_7 m_is_X7 m_ini_X7 (fs := [.null, .null, .int 0, .int 0, .null, .null, .null, .int 0]) (fun k hk => by rcases (show k = 0 ∨ k = 1 ∨ k = 2 ∨ k = 3 ∨ k = 4 ∨ k = 5 ∨ k = 6 ∨ k = 7 by omega) with rfl | rfl | rfl | rfl | rfl | rfl | rfl | rfl <;> rfl) ⟨Nat.le_of_ble_eq_true rfl, Nat.le_of_ble_eq_true rfl⟩ dL_law_0 rfl ?_
  refine v_dup X dL_law_3 rfl ?_
  have hq7 := ck_use (L := []) (j := 0) (M := 0) (L' := xL g o sI zI (fun _ => sI) (fun _ => zI) sI zI zI zI) (f := f) (o := o) (c_X7_init l g) (by rw [ho]) rfl rfl
  refine v_callI X rfl yv_X7_init m_ml_L_9 hq7 rfl rfl (Nat.le_of_ble_eq_true rfl) ⟨Nat.le_of_ble_eq_true rfl, Nat.le_of_ble_eq_true rfl⟩ ⟨Nat.le_of_ble_eq_true rfl, Nat.le_of_ble_eq_true rfl⟩ dL_law_4 ?_
  refine v_astore_n X dL_law_7 (i := 1) rfl (Nat.le_of_ble_eq_true rfl) rfl ?_
  refine v_newB (o := o) X 179 (by rw [ho]) xL_len rfl cf8 m_cl_L_10 m_is_X8 m_ini_X8 (fs := [.null, .null, .null, .int 0, .null, .int 0, .int 0, .int 0, .int 0, .int 0, .int 0, .int 0]) (fun k hk => by rcases (show k = 0 ∨ k = 1 ∨ k = 2 ∨ k = 3 ∨ k = 4 ∨ k = 5 ∨ k = 6 ∨ k = 7 ∨ k = 8 ∨ k = 9 ∨ k = 10 ∨ k = 11 by omega) with rfl | rfl | rfl | rfl | rfl | rfl | rfl | rfl | rfl | rfl | rfl | rfl <;> rfl) ⟨Nat.le_of_ble_eq_true rfl, Nat.le_of_ble_eq_true rfl⟩ dL_law_8 rfl ?_
  refine v_dup X dL_law_11 rfl ?_
  have hq8 := ck_use (L := xL g o sI zI (fun _ => sI) (fun _ => zI) sI zI zI zI) (j := 179) (M := 179) (L' := xL g o sI zI (fun _ => sI) (fun _ => zI) sI zI zI zI ++ mdL g (o + 179) sI zI zI zI zI) (f := f) (o := o) (c_X8_init l g) (by rw [ho]) xL_len rfl
  refine v_callI X rfl yv_X8_init m_ml_L_12 hq8 rfl rfl (Nat.le_of_ble_eq_true rfl) ⟨Nat.le_of_ble_eq_true rfl, Nat.le_of_ble_eq_true rfl⟩ ⟨Nat.le_of_ble_eq_true rfl, Nat.le_of_ble_eq_true rfl⟩ dL_law_12 ?_
  refine v_astore_n X dL_law_15 (i := 2) rfl (Nat.le_of_ble_eq_true rfl) rfl ?_
  refine v_iconst X dL_law_16 (v := (0 : Int32)) (by decide) ?_
  refine v_istore_n X dL_law_17 (i := 3) rfl (Nat.le_of_ble_eq_true rfl) rfl ?_
  exact V.cast (law_loop (f := f) X hXs hbl hbA hBB hLs (Ls + 5) 0 sI zI (fun _ => sI) (fun _ => zI) sI zI zI zI sI zI zI zI zI (Nat.zero_le _) (by omega) hF) (by rfl) rfl (ovr_app (by rw [xL_len])).symm
theorem whole_start {p : Program} {e : Env} {s : State} {m : MethodId} {below : List Frame} {meth : Method} {c : Code} (l : Launch) (hflags : l.flags = flags0) {b L : Nat} {xs : Nat → Int32} (hL : L ≤ 2048) (C0 : lw_At p s m meth c b L xs) : W p l e room_1 s m #[Value.ref b] below meth c s.heap [] 0 0 (lw_Z below #[Value.ref b] s) (entryFrame m ([Value.ref b] : List Value).toArray 4) := by
  obtain ⟨hx, hb, hr, hml, hown, hts, hX, hbl, hlocks, hgv⟩ := C0
  obtain ⟨g, hg, hKK⟩ := start_K hts
  have X : Cx p #[Value.ref b] s m meth c g cL_law 4 RL ret 0 := ⟨hx, hb, hml, hown, fun w hw => hts w (gT_tbl hw), hlocks, hr, hKK, hg.symm⟩
  have hbA : ¬ gA g b := by
    intro q
    have q2 : g.2.2 ≤ b := q
    rw [hg] at q2
    omega
  have hl := lv_entry ([.ref b]) (n := 4) (Nat.le_of_ble_eq_true rfl)
  rw [lg_entry_eq]
  exact law_entry (f := fun _ => .inl (g.2.1.1, 0, .inl (fun _ => 0))) X rfl hX hbl hbA hL s.heap [] _ (fun k q h => by simp [wl] at h) va_S.rf hl
