/-! THE CLAIM OUT OF ONE WALK OF THE LAW'S BODY. Your part is whole_start (and what it stands on); all else here is the same for every law, but numbers. -/
def R_law : String := "DropBoxLoomLaw"
def lw_P (b : Addr) (xs : List Int32) (args : Array Value) (s : State) : Prop := args = #[.ref b] ∧ s.IntsAt b xs ∧ xs.length ≤ 260 ∧ (Jvm.Cond.and given_1 narrow_1).before args s = true
def lw_Q (_ : Array Value) (s : State) (o : Outcome) (t : State) : Prop := o = .returned (some (.int 1)) ∧ Framed s o t [] room_1.cells room_1.slots
def lw_Z (below : List Frame) (a : Array Value) (s : State) : State → Prop := fun t => ∃ o, t.status = .running ∧ Ended t below o ∧ lw_Q a s o t
/-- the law's own end, with 1 on the stack, nothing written that was there before, its room as the claim has it -/
theorem lw_ret {p : Program} {l : Launch} {e : Env} {s : State} {m : MethodId} {below : List Frame} {meth : Method} {c : Code} {b : Nat} (hx : p.tables.exec = Jvm.exec) (hb : c.code = code) (hr : meth.sig.returnType = ret) (hlocks : meth.locks = false) {pc : Nat} {H : Heap} {ls : Array Slot} (hdg : decode code pc = .ok (.ireturn, 1)) : W p l e room_1 s m #[Value.ref b] below meth c H [] room_1.cells room_1.slots (lw_Z below #[Value.ref b] s) (F0 m pc ls [.int 1]) := by
  intro T hT X
  obtain ⟨fs, hret, hrun, hended, hW, hframe⟩ := X.leave (v := some (.int 1)) (hlocks := hlocks) (fun h => by rw [hr] at h; cases h)
  have hmeth' : T.vm.method? m = some meth := X.method'
  refine ⟨T.setFrames fs, ?_, .returned (some (.int 1)), hrun, hended, rfl, ⟨_, rfl⟩, hW, hframe⟩
  jvm_step X.here [X.here.top, hx, hb, hdg, hmeth', hr, ret, narrow_b1]
  (try refine ⟨rfl, ?_⟩); (try refine ⟨rfl, ?_⟩)
  first | (intro acts; rw [hret _ acts rfl rfl rfl]) | rw [hret _ _ rfl rfl rfl]
  exact Steps.refl _
/-- what holds at the law's entry: the machine, the code, the tables' words (any of lw_tbl by 'hts w (by decide +kernel)'), the script of L ints xs at the cell b, what the Statement gives of the start (any of its parts by flat_of_before) -/
def lw_At (p : Program) (s : State) (m : MethodId) (meth : Method) (c : Code) (b L : Nat) (xs : Nat → Int32) : Prop :=
  p.tables.exec = Jvm.exec ∧ c.code = code ∧ meth.sig.returnType = ret ∧ c.maxLocals = 28 ∧ s.vm.findClass R_law = some m.cls ∧ (∀ w ∈ lw_tbl, w.before #[Value.ref b] s = true) ∧ va_X b L xs s s.heap ∧ b < s.heap.size ∧ meth.locks = false ∧ (Jvm.Cond.and given_1 narrow_1).before #[Value.ref b] s = true
/-! the law's turns -/
theorem v_lend {p : Program} {l : Launch} {e : Env} {s : State} {m : MethodId} {below : List Frame} {meth : Method} {c0 : Code} {g : Ge} {a0 o : Nat} (X : Cx p #[Value.ref a0] s m meth c0 g cL_law 28 RL ret 0) {cs ss N : Nat} {f : Pic} {lv : List (Option Value)} (h1 : cs ≤ 599000) (h2 : ss ≤ 7300000) : V p l e room_1 s m #[Value.ref a0] below meth c0 (lw_Z below #[Value.ref a0] s) g 28 cs ss N f 1871 lv [.int 1] :=
  fun H locs ls hP hS hl => va_forget (fun q hq => Nat.le_trans (Nat.le_of_eq X.2.2.2.2.2.2.2.2) (hS.2.2 q hq)) (W.widen (k := room_1.cells) (n := room_1.slots) (Nat.le_trans h1 (Nat.le_of_ble_eq_true rfl)) (Nat.le_trans h2 (Nat.le_of_ble_eq_true rfl)) (lw_ret X.1 X.2.1 X.2.2.2.2.2.2.1 X.2.2.2.2.2.1 dL_law_1871))
set_option maxRecDepth 100000 in
theorem law_loop {p : Program} {l : Launch} {e : Env} {s : State} {m : MethodId} {below : List Frame} {meth : Method} {c0 : Code} {g : Ge} {a0 o : Nat} (X : Cx p #[Value.ref a0] s m meth c0 g cL_law 28 RL ret 0) (ho : g.2.2 = o) {Ls : Nat} {xs : Nat → Int32} (hXs : va_X a0 Ls xs s s.heap) (hbl : a0 < s.heap.size) (hbA : ¬ gA g a0) (hLs : Ls ≤ 260) (hb0 : a0 < g.2.2) {κ τ : Nat → Int32} : ∀ (n_ tn : Nat) (f : Pic) (cs ss : Nat) (σ ρ : Nat → Int32) (S P : Nat → Nat → Int32) (φ π q h t c w b b2 : Nat → Int32) (C P0 R lt B : Nat), tn ≤ 44 → 186 ≤ cs → cs ≤ 186 + 69 * tn → ss ≤ 2340 + 483 * tn → RQ C P0 R lt B σ ρ q h t c w b b2 → PI π → 44 < tn + n_ → V p l e room_1 s m #[Value.ref a0] below meth c0 (lw_Z below #[Value.ref a0] s) g 28 cs ss cs (ovr f o (yaL g o σ ρ S P φ κ τ π q h t c w b b2)) 142 [some (.ref a0), some (.ref o), some (.ref (o + 179)), some (.ref (o + 180)), some (.ref (o + 181)), some (.ref (o + 182)), some (.ref (o + 183)), some (.ref (o + 184)), some (.ref (o + 185)), some (.int (nI tn)), none, none, none, none, none, none, none, none, none, none, none, none, none, none, none, none, none, none] [] := by
  intro n_
  induction n_ with
  | zero => intro tn f cs ss σ ρ S P φ π q h t c w b b2 C P0 R lt B h1 h2 h3 h4 H hPI hn; exact absurd hn (by omega)
  | succ n_ ih =>
    intro tn f cs ss σ ρ S P φ π q h t c w b b2 C P0 R lt B h1 h2 h3 h4 H hPI hn
    refine v_iload X dL_law_142 rfl ?_
    refine v_bipush X dL_law_144 (v := (44 : Int32)) (by decide) ?_
    refine v_icmp_ge X dL_law_146 (tgt := 1870) (by decide) (fun c1 => ?_) (fun c1 => ?_)
    · refine v_iconst X dL_law_1870 (v := (1 : Int32)) (by decide) ?_
      exact v_lend (o := o) X (by omega) (by omega)
    · have ht : tn < 44 := lt_of_nI (b := 44) (by omega) (by omega) c1
      refine law_turn X ho h2 (by omega) (by omega) hXs hbl hbA hLs H hPI hb0 ht (fun f2 cs2 ss2 σ2 ρ2 S2 P2 φ2 π2 q2 h2' t2 c2 w2 b3 b4 C2 P02 R2 lt2 B2 a1 a2 a3 H2 hPI2 => ?_)
      exact ih (tn + 1) f2 cs2 ss2 σ2 ρ2 S2 P2 φ2 π2 q2 h2' t2 c2 w2 b3 b4 C2 P02 R2 lt2 B2 (by omega) a1 (by omega) (by omega) H2 hPI2 (by omega)
theorem start_K {b : Nat} {s : State} (hts : ∀ w ∈ lw_tbl, w.before #[Value.ref b] s = true) : ∃ g : Ge, g.2.2 = s.heap.size ∧ KK g s := by
  have htG : ∀ w ∈ gT, w.before #[Value.ref b] s = true := fun w hw => hts w (gT_tbl hw)
  have kn : ∀ {ci : Nat} {C : String} {T : u_T} {n : Nat} {ty : Nat → FieldType}, CF ci C T n ty → Cond.instantiable C n ∈ gT → ∃ (cC : ClassId) (iS : Nat → Nat), u_Kn s C T n cC iS := fun cf hi => u_known htG cf.2.1 (htG _ hi)
  obtain ⟨c0, i0, k0⟩ := kn cf0 m_is_X0
  obtain ⟨c1, i1, k1⟩ := kn cf1 m_is_X1
  obtain ⟨c2, i2, k2⟩ := kn cf2 m_is_X2
  obtain ⟨c3, i3, k3⟩ := kn cf3 m_is_X3
  obtain ⟨c4, i4, k4⟩ := kn cf4 m_is_X4
  obtain ⟨c5, i5, k5⟩ := kn cf5 m_is_X5
  obtain ⟨c6, i6, k6⟩ := kn cf6 m_is_X6
  obtain ⟨c7, i7, k7⟩ := kn cf7 m_is_X7
  obtain ⟨dC, dI, hKc⟩ : ∃ (dC : Nat → ClassId) (dI : Nat → Nat → Nat), ∀ (k : Nat) (q : vw_C), vwCl[k]? = some q → u_Kn s q.1 q.2.1 q.2.2 (dC k) (dI k) := by
    refine ⟨fun k => if k = 0 then c0 else if k = 1 then c1 else if k = 2 then c2 else if k = 3 then c3 else if k = 4 then c4 else if k = 5 then c5 else if k = 6 then c6 else c7, fun k => if k = 0 then i0 else if k = 1 then i1 else if k = 2 then i2 else if k = 3 then i3 else if k = 4 then i4 else if k = 5 then i5 else if k = 6 then i6 else i7, ?_⟩
    intro k q hq
    match k, hq with
    | 0, hq => cases hq; exact k0
    | 1, hq => cases hq; exact k1
    | 2, hq => cases hq; exact k2
    | 3, hq => cases hq; exact k3
    | 4, hq => cases hq; exact k4
    | 5, hq => cases hq; exact k5
    | 6, hq => cases hq; exact k6
    | 7, hq => cases hq; exact k7
    | k + 8, hq => simp [vwCl] at hq
  obtain ⟨cI, kI, compI, a1, a2, a3⟩ := Cond.arrayClass_spec (htG _ m_ac_int)
  obtain ⟨cH, kH, compH, b1, b2, b3⟩ := Cond.arrayClass_spec (htG _ m_ac_char)
  obtain ⟨compO, cO, kO, d1, -, d2, d3, d4⟩ := Cond.arrayOver_spec (hts _ gO_tbl)
  refine ⟨((dC, dI), (cI, cH, cO), s.heap.size), rfl, ⟨hKc, fun k q hq => ?_⟩, fun q hq => va_Nw.of rfl (hts _ (gN_tbl q hq)), va_AO.of (hts _ gO_tbl)⟩
  match k, hq with
  | 0, hq => cases hq; exact ⟨fun n z => ⟨fun k h => (by cases h), kI, a2, compI, a3⟩, a1⟩
  | 1, hq => cases hq; exact ⟨fun n z => ⟨fun k h => (by cases h), kH, b2, compH, b3⟩, b1⟩
  | 2, hq => cases hq; exact ⟨fun n z => ⟨fun k h => (by cases h), kO, d2, compO, d3⟩, ⟨kO, compO, d2, d3, d1, d4⟩⟩
  | k + 3, hq => simp [tyG] at hq
set_option maxRecDepth 100000 in
theorem whole_start {p : Program} {e : Env} {s : State} {m : MethodId} {below : List Frame} {meth : Method} {c : Code} (l : Launch) (hflags : l.flags = flags0) {b L : Nat} {xs : Nat → Int32} (hL : L ≤ 260) (C0 : lw_At p s m meth c b L xs) : W p l e room_1 s m #[Value.ref b] below meth c s.heap [] 0 0 (lw_Z below #[Value.ref b] s) (entryFrame m ([Value.ref b] : List Value).toArray 28) := by
  obtain ⟨hx, hb, hr, hml, hown, hts, hX, hbl, hlocks, hgv⟩ := C0
  obtain ⟨g, hg, hKK⟩ := start_K hts
  have X : Cx p #[Value.ref b] s m meth c g cL_law 28 RL ret 0 := ⟨hx, hb, hml, hown, fun w hw => hts w (gT_tbl hw), hlocks, hr, hKK, hg.symm⟩
  have hb0 : b < g.2.2 := by rw [hg]; exact hbl
  have hbA : ¬ gA g b := by
    intro q
    have q2 : g.2.2 ≤ b := q
    omega
  have hl := lv_entry ([.ref b]) (n := 28) (Nat.le_of_ble_eq_true rfl)
  rw [lg_entry_eq]
  exact law_entry (f := fun _ => .inl (g.2.1.1, 0, .inl (fun _ => 0))) X rfl (law_loop X rfl hX hbl hbA hL hb0 45 0 _ 186 2340 sI zI (fun _ => sI) (fun _ => zI) sI zI qI (hI 5) (tI 12) (fun _ => 0) (fun _ => 0) (fun _ => 0) (fun _ => 0) 0 0 0 0 0 (Nat.zero_le _) (Nat.le_refl _) (by omega) (by omega) RQ_new ⟨0, 0, rfl, by omega, rfl, by omega⟩ (by omega)) s.heap [] _ (fun k q h => by simp [wl] at h) va_S.rf hl
