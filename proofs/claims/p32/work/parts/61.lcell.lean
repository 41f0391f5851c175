/-! the script, as the law reads it -/
section L2
variable {p : Program} {l : Launch} {e : Env} {R : Room} {s : State} {m : MethodId} {args : Array Value} {below : List Frame} {meth : Method} {c : Code} {Q : State → Prop}
variable {g : Ge} {cc : ByteArray} {nL : Nat} {own : String} {rt : Option FieldType} {N0 cs ss N : Nat} {f : Pic} {pc : Nat} {lv : List (Option Value)} {st : List Value}
theorem v_sld (X : Cx p args s m meth c g cc nL own rt N0) {b Ls : Nat} {xs : Nat → Int32} (hXs : va_X b Ls xs s s.heap) (hbl : b < s.heap.size) (hbA : ¬ gA g b) {i : Int32} (hin : vp_in i Ls) (d : decode cc pc = .ok (.iaload, 1)) (kk : V p l e R s m args below meth c Q g nL cs ss N f (pc + 1) lv (.int (xs i.toNatClampNeg) :: st)) : V p l e R s m args below meth c Q g nL cs ss N f pc lv (.int i :: .ref b :: st) :=
  fun H locs ls hP hS hl => va_sld X.1 X.2.1 hXs hbl hbA hS hin d (kk H locs ls hP hS hl)
theorem v_slen (X : Cx p args s m meth c g cc nL own rt N0) {b Ls : Nat} {xs : Nat → Int32} (hXs : va_X b Ls xs s s.heap) (hbl : b < s.heap.size) (hbA : ¬ gA g b) (d : decode cc pc = .ok (.arraylength, 1)) (kk : V p l e R s m args below meth c Q g nL cs ss N f (pc + 1) lv (.int (Int32.ofNat Ls) :: st)) : V p l e R s m args below meth c Q g nL cs ss N f pc lv (.ref b :: st) :=
  fun H locs ls hP hS hl => va_slen X.1 X.2.1 hXs hbl hbA hS d (kk H locs ls hP hS hl)
end L2
/-- a contract that also reads the script's array -/
def CtX (l : Launch) (g : Ge) (y : MethodName) (w : Cond) (d : Nat) (As : List Value) (N : Nat) (f : Pic) (r : Option Value) (N' : Nat) (f' : Pic) (mc ms : Nat) (b Ls : Nat) (xs : Nat → Int32) : Prop :=
  Met l y (w :: gT) (rmD d mc ms) (va_Pc As (fun U => (U.heap.size = g.2.2 + N ∧ HP g N f U.heap ∧ KK g U) ∧ va_X b Ls xs U U.heap)) (CtQ g r N' f') mc ms (gA g)
theorem ctX_of {l : Launch} {g : Ge} {y : MethodName} {own : String} {bytes : ByteArray} {maxL d N N' mc ms b Ls : Nat} {xs : Nat → Int32} {ret : Option FieldType} {As : List Value} {f f' : Pic} {r : Option Value} (lv0 : List (Option Value)) (hy : plainName y.cls = true) (hown : y.cls = own) (hlv : lvp 0 lv0 = lv_args 0 As) (hlen : (lg_sl As).length ≤ maxL)
    (body : ∀ (p : Program) (e : Env) (s : State) (m : MethodId) (args : Array Value) (below : List Frame) (meth : Method) (c : Code), va_X b Ls xs s s.heap → Cx p args s m meth c g bytes maxL own ret N → V p l e (rmD d mc ms) s m args below meth c (MQ below (CtQ g r N' f') args s mc ms (gA g)) g maxL 0 0 N f 0 lv0 []) :
    CtX l g y (.code y bytes maxL ret) d As N f r N' f' mc ms b Ls xs := by
  refine Met.ofW (cc := bytes) (maxL := maxL) (ret := ret) hy rfl ?_
  intro p e s m args below meth c s₁ B hml hv
  obtain ⟨rfl, ⟨hsz, hP, hK⟩, hXs⟩ := hv
  have hts := atoms_spec (ws := Cond.code y bytes maxL ret :: gT) B.pre
  have hf : s.vm.findClass own = some m.cls := by rw [← hown]; exact findClass_of_methodNamed B.named
  have hX : Cx p As.toArray s m meth c g bytes maxL own ret N := ⟨B.exec, B.bytes, hml, hf, fun w hw => hts w (List.mem_cons_of_mem _ hw), B.notSynchronized, B.returns, hK, hsz⟩
  have hl := lv_entry As (n := maxL) hlen
  rw [lg_entry_eq]
  exact body p e s m As.toArray below meth c hXs hX s.heap [] _ hP va_S.rf (by rw [hlv]; exact hl)
theorem ctX_blind {g : Ge} {N b Ls : Nat} {f : Pic} {xs : Nat → Int32} {As : List Value} : FrameBlind (va_Pc As (fun U => (U.heap.size = g.2.2 + N ∧ HP g N f U.heap ∧ KK g U) ∧ va_X b Ls xs U U.heap)) := fun a U g' mk q => ⟨q.1, ⟨q.2.1.1, q.2.1.2.1, q.2.1.2.2.calling⟩, va_X.moved (u := U) (U := U.calling g' mk a) (Vm.Alike.refl U.vm) q.2.2⟩
section L3
variable {p : Program} {l : Launch} {e : Env} {R : Room} {s : State} {m : MethodId} {args : Array Value} {below : List Frame} {meth : Method} {c : Code} {Q : State → Prop}
variable {g : Ge} {cc : ByteArray} {nL : Nat} {own : String} {rt : Option FieldType} {N0 cs ss N : Nat} {f : Pic} {pc : Nat} {lv : List (Option Value)} {st : List Value}
theorem v_callX (X : Cx p args s m meth c g cc nL own rt N0) {y : MethodName} {bytes : ByteArray} {maxL idx d mc ms N' b Ls : Nat} {xs : Nat → Int32} {ret : Option FieldType} {As : List Value} {f' : Pic} {r : Option Value} {st0 st' : List Value} (hXs : va_X b Ls xs s s.heap) (hbl : b < s.heap.size) (hbA : ¬ gA g b) (hz : N = N0 + cs) {n : Nat} (hy : YS y bytes maxL ret n) (hml : Cond.methodLink own idx y ∈ gT) (hC : CtX l g y (.code y bytes maxL ret) d As N f r N' f' mc ms b Ls xs) (hst0 : st0 = As.reverse ++ st) (hlen : As.length = n) (hcat : (st.map fun v => v.category).sum ≤ 8) (hR : d + 1 ≤ R.frames ∧ 8 + (maxL + 11) + 35 * d ≤ R.locals) (hf : cs + mc ≤ R.cells ∧ ss + ms ≤ R.slots) (dd : decode cc pc = .ok (.invokestatic idx, 3)) (hst : r.toList ++ st = st') (kk : V p l e R s m args below meth c Q g nL (cs + mc) (ss + ms) N' f' (pc + 3) lv st') : V p l e R s m args below meth c Q g nL cs ss N f pc lv st0 := by
  intro H locs ls hP hS hl T hT St
  have hsz := X.size hz hT hP St
  refine v_back X hP hS hl hT St (va_runS (g := F0 m pc ls st0) X.fix hC ⟨hy.1.callB X hml hR, X.wd hy.2⟩ ⟨ctX_blind, fun U hU hW => ⟨rfl, ⟨by rw [hU]; exact hsz, by rw [hU]; exact hP, KK.warm hW X.2.2.2.2.2.2.2.1⟩, by rw [hU]; exact va_X.moved hW.alike (hXs.kept (hS.2.1 b hbl hbA))⟩⟩ rfl hlen hl.1 hst0 (lv_room (rest := st0) hcat) dd hf) hst kk
end L3
/-- the k-th int of the script, or what stands for it behind its end -/
def scX (Ls : Nat) (xs : Nat → Int32) (k : Nat) : Int32 := if nI k < nI Ls then xs k else 1000308053 * (nI k + 1) + 784918179
set_option maxRecDepth 100000 in
theorem c_L_cell (l : Launch) (g : Ge) (N : Nat) (f : Pic) (b Ls : Nat) (xs : Nat → Int32) (k : Nat) (hb : b < g.2.2) (hk : k < 1000) (hLs : Ls ≤ 260) : CtX l g yL_cell (.code yL_cell cL_cell 2 (some .int)) 0 [.ref b, .int (nI k)] N f (some (.int (scX Ls xs k))) N f 0 0 b Ls xs := by
  refine ctX_of (own := RL) [some (.ref b), some (.int (nI k))] (by decide +kernel) rfl rfl (Nat.le_of_ble_eq_true rfl) ?_
  intro vp ve vs vm va vb vt vc hXs X
  have hsz := X.2.2.2.2.2.2.2.2
  have hbl : b < vs.heap.size := by omega
  have hbA : ¬ gA g b := fun q => by have q2 : g.2.2 ≤ b := q; omega
  refine v_iload_n X dL_cell_0 (i := 1) rfl rfl ?_
  refine v_aload_n X dL_cell_1 (i := 0) rfl rfl ?_
  refine v_slen X hXs hbl hbA dL_cell_2 ?_
  refine v_icmp_ge X dL_cell_3 (tgt := 12) (by decide) (fun c3 => ?_) (fun c3 => ?_)
  · refine v_ldc X dL_cell_12 m_ki_L_7 ?_
    refine v_iload_n X dL_cell_14 (i := 1) rfl rfl ?_
    refine v_iconst X dL_cell_15 (v := (1 : Int32)) (by decide) ?_
    refine v_iadd X dL_cell_16 ?_
    refine v_imul X dL_cell_17 ?_
    refine v_ldc X dL_cell_18 m_ki_L_8 ?_
    refine v_iadd X dL_cell_20 ?_
    exact v_iret X rfl dL_cell_21 (by rw [scX, if_neg (show ¬ nI k < nI Ls from Int32.not_lt.mpr c3)]) rfl
  · refine v_aload_n X dL_cell_6 (i := 0) rfl rfl ?_
    refine v_iload_n X dL_cell_7 (i := 1) rfl rfl ?_
    refine v_sld X hXs hbl hbA (vp_in_nI (lt_of_nI (by omega) (by omega) c3) (by omega)) dL_cell_8 ?_
    refine v_goto X dL_cell_9 (tgt := 21) (by decide) ?_
    exact v_iret X rfl dL_cell_21 (by rw [scX, if_pos (show nI k < nI Ls from c3), show (nI k).toNatClampNeg = k from nI_clamp (by omega)]) rfl
