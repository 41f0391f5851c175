/-! the calls that ask -/
theorem sw011 (x : Int32) : x = 0 ∨ x = 1 ∨ x = 2 ∨ x = 3 ∨ x = 4 ∨ x = 5 ∨ x = 6 ∨ x = 7 ∨ x = 8 ∨ x = 9 ∨ x = 10 ∨ x = 11 ∨ (x.toInt < 0 ∨ 11 < x.toInt) := by
  by_cases h1 : x.toInt < 0
  · simp [h1]
  by_cases h2 : 11 < x.toInt
  · simp [h2]
  have h : x.toInt = 0 ∨ x.toInt = 1 ∨ x.toInt = 2 ∨ x.toInt = 3 ∨ x.toInt = 4 ∨ x.toInt = 5 ∨ x.toInt = 6 ∨ x.toInt = 7 ∨ x.toInt = 8 ∨ x.toInt = 9 ∨ x.toInt = 10 ∨ x.toInt = 11 := by omega
  have e : ∀ (k : Int) (z : Int32), z.toInt = k → x.toInt = k → x = z := fun k z hz hx => Int32.toInt_inj.mp (hx.trans hz.symm)
  rcases h with h | h | h | h | h | h | h | h | h | h | h | h
  · exact Or.inl (e 0 0 (by decide) h)
  · exact Or.inr (Or.inl (e 1 1 (by decide) h))
  · exact Or.inr (Or.inr (Or.inl (e 2 2 (by decide) h)))
  · exact Or.inr (Or.inr (Or.inr (Or.inl (e 3 3 (by decide) h))))
  · exact Or.inr (Or.inr (Or.inr (Or.inr (Or.inl (e 4 4 (by decide) h)))))
  · exact Or.inr (Or.inr (Or.inr (Or.inr (Or.inr (Or.inl (e 5 5 (by decide) h))))))
  · exact Or.inr (Or.inr (Or.inr (Or.inr (Or.inr (Or.inr (Or.inl (e 6 6 (by decide) h)))))))
  · exact Or.inr (Or.inr (Or.inr (Or.inr (Or.inr (Or.inr (Or.inr (Or.inl (e 7 7 (by decide) h))))))))
  · exact Or.inr (Or.inr (Or.inr (Or.inr (Or.inr (Or.inr (Or.inr (Or.inr (Or.inl (e 8 8 (by decide) h)))))))))
  · exact Or.inr (Or.inr (Or.inr (Or.inr (Or.inr (Or.inr (Or.inr (Or.inr (Or.inr (Or.inl (e 9 9 (by decide) h))))))))))
  · exact Or.inr (Or.inr (Or.inr (Or.inr (Or.inr (Or.inr (Or.inr (Or.inr (Or.inr (Or.inr (Or.inl (e 10 10 (by decide) h)))))))))))
  · exact Or.inr (Or.inr (Or.inr (Or.inr (Or.inr (Or.inr (Or.inr (Or.inr (Or.inr (Or.inr (Or.inr (Or.inl (e 11 11 (by decide) h))))))))))))
theorem sw02 (x : Int32) : x = 0 ∨ x = 1 ∨ x = 2 ∨ (x.toInt < 0 ∨ 2 < x.toInt) := by
  rcases sw03 x with h | h | h | h | h | h
  · exact Or.inl h
  · exact Or.inr (Or.inl h)
  · exact Or.inr (Or.inr (Or.inl h))
  · exact Or.inr (Or.inr (Or.inr (Or.inr (by rw [h]; decide))))
  · exact Or.inr (Or.inr (Or.inr (Or.inl h)))
  · exact Or.inr (Or.inr (Or.inr (Or.inr (by omega))))
theorem nin {x : Int32} {n : Int} {b : Int32} (hb : b.toInt = n) (h : x.toInt < 0 ∨ n < x.toInt) : ¬ ((0 : Int32) ≤ x ∧ x ≤ b) := by
  intro q
  have h1 := Int32.le_iff_toInt_le.mp q.1
  have h2 := Int32.le_iff_toInt_le.mp q.2
  have h0 : (0 : Int32).toInt = 0 := by decide
  omega
def cnF (σ : Nat → Int32) (v : Int32) : Int32 := if (0 : Int32) ≤ v ∧ v ≤ (11 : Int32) then σ (nt v) else -2
def shF (σ : Nat → Int32) (v w : Int32) : Int32 := if (0 : Int32) ≤ v ∧ v ≤ (4 : Int32) then (if (0 : Int32) ≤ w ∧ w ≤ (3 : Int32) then σ (12 + 4 * nt v + nt w) else -2) else -1
def ibF (σ : Nat → Int32) (a b : Int32) : Int32 := if (a = 0 ∧ 0 ≤ b ∧ b ≤ 3) ∨ (a = 1 ∧ 0 ≤ b ∧ b ≤ 1) then fnd σ a b else -1
def lfB (σ : Nat → Int32) (x : Int32) : Int32 := if (σ 5 >>> (x &&& 31)) &&& 1 = 1 then 1 else 0
def thF (σ : Nat → Int32) (v w : Int32) : Int32 := if (0 : Int32) ≤ v ∧ v ≤ (11 : Int32) then (if w = 0 then σ (32 + 2 * nt v) else if w = 1 then σ (33 + 2 * nt v) else if w = 2 then lfB σ (σ (32 + 2 * nt v)) else -2) else -1
def cdF (σ : Nat → Int32) (v w : Int32) : Int32 := if (0 : Int32) ≤ v ∧ v < σ 0 ∧ v < 16 then (if w = 0 then σ (56 + 3 * nt v) else if w = 1 then bxS σ (nt v) 0 else if w = 2 then bxS σ (nt v) 1 else if w = 3 then thS σ (σ (56 + 3 * nt v)) 12 else -2) else -1
def clF (σ ρ : Nat → Int32) (lt : Nat) (v t : Int32) : Int32 := if (0 : Int32) ≤ v ∧ v < σ 7 then (if (0 : Int32) ≤ t ∧ t ≤ (11 : Int32) then (if (ρ (1 + 7 * sl lt (nt v)) >>> (t &&& 31)) &&& 1 = 1 then 100 + t else ρ (0 + 7 * sl lt (nt v))) else -1) else -1
def lgF (ρ : Nat → Int32) (lt R : Nat) (t : Int32) : Int32 := if (0 : Int32) ≤ t ∧ t ≤ (11 : Int32) then lfM ρ lt t R else -1
set_option maxRecDepth 100000 in
set_option maxHeartbeats 4000000 in
theorem c_X7_count (l : Launch) (g : Ge) (N o : Nat) (σ ρ : Nat → Int32) (S P : Nat → Nat → Int32) (φ κ τ π : Nat → Int32) (v : Int32) : Cb l g yX7_count (.code yX7_count cX7_count 3 (some .int)) 1 [.ref o, .int v] N o (xL g o σ ρ S P φ κ τ π) (some (.int (cnF σ v))) (xL g o σ ρ S P φ κ τ π) := by
  intro f hB0
  have hB : BB g N o 179 := hB0
  refine ct_of (own := RX7) [some (.ref o), some (.int v), none] (by decide +kernel) rfl rfl (Nat.le_of_ble_eq_true rfl) ?_
  intro vp ve vs vm va vb vt vc hnm X
  refine v_aload_n X dX7_count_0 (i := 0) rfl rfl ?_
  refine v_getB X hB cf7 0 (Nat.le_of_ble_eq_true rfl) m_fl_X7_12 dX7_count_1 0 (Nat.le_of_ble_eq_true rfl) rfl rfl ?_
  refine v_getB X hB cf4 0 (Nat.le_of_ble_eq_true rfl) m_fl_X7_56 dX7_count_4 1 (Nat.le_of_ble_eq_true rfl) rfl rfl ?_
  refine v_astore_n X dX7_count_7 (i := 2) rfl (Nat.le_of_ble_eq_true rfl) rfl ?_
  refine v_iload_n X dX7_count_8 (i := 1) rfl rfl ?_
  rcases sw011 v with rfl | rfl | rfl | rfl | rfl | rfl | rfl | rfl | rfl | rfl | rfl | rfl | hwd
  · skip
    refine v_tabIn X dX7_count_9 (tgt := 72) (by decide) (by decide) rfl (by decide) ?_
    refine v_aload_n X dX7_count_72 (i := 2) rfl rfl ?_
    refine v_getB X hB cf3 2 (Nat.le_of_ble_eq_true rfl) m_fl_X7_121 dX7_count_73 2 (Nat.le_of_ble_eq_true rfl) rfl rfl ?_
    refine v_getB X hB cf1 3 (Nat.le_of_ble_eq_true rfl) m_fl_X7_125 dX7_count_76 11 (Nat.le_of_ble_eq_true rfl) rfl rfl ?_
    exact v_iret X rfl dX7_count_79 (by rw [cnF, if_pos (by decide)]; rfl) (rfl)
  · skip
    refine v_tabIn X dX7_count_9 (tgt := 80) (by decide) (by decide) rfl (by decide) ?_
    refine v_aload_n X dX7_count_80 (i := 2) rfl rfl ?_
    refine v_getB X hB cf3 2 (Nat.le_of_ble_eq_true rfl) m_fl_X7_121 dX7_count_81 2 (Nat.le_of_ble_eq_true rfl) rfl rfl ?_
    refine v_getB X hB cf1 4 (Nat.le_of_ble_eq_true rfl) m_fl_X7_140 dX7_count_84 11 (Nat.le_of_ble_eq_true rfl) rfl rfl ?_
    exact v_iret X rfl dX7_count_87 (by rw [cnF, if_pos (by decide)]; rfl) (rfl)
  · skip
    refine v_tabIn X dX7_count_9 (tgt := 88) (by decide) (by decide) rfl (by decide) ?_
    refine v_aload_n X dX7_count_88 (i := 2) rfl rfl ?_
    refine v_getB X hB cf3 4 (Nat.le_of_ble_eq_true rfl) m_fl_X7_118 dX7_count_89 2 (Nat.le_of_ble_eq_true rfl) rfl rfl ?_
    exact v_iret X rfl dX7_count_92 (by rw [cnF, if_pos (by decide)]; rfl) (rfl)
  · skip
    refine v_tabIn X dX7_count_9 (tgt := 93) (by decide) (by decide) rfl (by decide) ?_
    refine v_aload_n X dX7_count_93 (i := 2) rfl rfl ?_
    refine v_getB X hB cf3 3 (Nat.le_of_ble_eq_true rfl) m_fl_X7_100 dX7_count_94 2 (Nat.le_of_ble_eq_true rfl) rfl rfl ?_
    refine v_iconst X dX7_count_97 (v := (0 : Int32)) (by decide) ?_
    refine v_iald_vw (b := 3) (s' := 1) X hB dX7_count_98 15 (Nat.le_of_ble_eq_true rfl) rfl 0 rfl (by omega) (Nat.le_of_ble_eq_true rfl) ?_
    exact v_iret X rfl dX7_count_99 (by rw [cnF, if_pos (by decide)]; rfl) (rfl)
  · skip
    refine v_tabIn X dX7_count_9 (tgt := 100) (by decide) (by decide) rfl (by decide) ?_
    refine v_aload_n X dX7_count_100 (i := 2) rfl rfl ?_
    refine v_getB X hB cf3 3 (Nat.le_of_ble_eq_true rfl) m_fl_X7_100 dX7_count_101 2 (Nat.le_of_ble_eq_true rfl) rfl rfl ?_
    refine v_iconst X dX7_count_104 (v := (1 : Int32)) (by decide) ?_
    refine v_iald_vw (b := 3) (s' := 1) X hB dX7_count_105 15 (Nat.le_of_ble_eq_true rfl) rfl 1 rfl (by omega) (Nat.le_of_ble_eq_true rfl) ?_
    exact v_iret X rfl dX7_count_106 (by rw [cnF, if_pos (by decide)]; rfl) (rfl)
  · skip
    refine v_tabIn X dX7_count_9 (tgt := 107) (by decide) (by decide) rfl (by decide) ?_
    refine v_aload_n X dX7_count_107 (i := 2) rfl rfl ?_
    refine v_getB X hB cf3 5 (Nat.le_of_ble_eq_true rfl) m_fl_X7_160 dX7_count_108 2 (Nat.le_of_ble_eq_true rfl) rfl rfl ?_
    exact v_iret X rfl dX7_count_111 (by rw [cnF, if_pos (by decide)]; rfl) (rfl)
  · skip
    refine v_tabIn X dX7_count_9 (tgt := 112) (by decide) (by decide) rfl (by decide) ?_
    refine v_aload_n X dX7_count_112 (i := 0) rfl rfl ?_
    refine v_getB X hB cf7 0 (Nat.le_of_ble_eq_true rfl) m_fl_X7_12 dX7_count_113 0 (Nat.le_of_ble_eq_true rfl) rfl rfl ?_
    refine v_getB X hB cf4 2 (Nat.le_of_ble_eq_true rfl) m_fl_X7_163 dX7_count_116 1 (Nat.le_of_ble_eq_true rfl) rfl rfl ?_
    exact v_iret X rfl dX7_count_119 (by rw [cnF, if_pos (by decide)]; rfl) (rfl)
  · skip
    refine v_tabIn X dX7_count_9 (tgt := 120) (by decide) (by decide) rfl (by decide) ?_
    refine v_aload_n X dX7_count_120 (i := 0) rfl rfl ?_
    refine v_getB X hB cf7 0 (Nat.le_of_ble_eq_true rfl) m_fl_X7_12 dX7_count_121 0 (Nat.le_of_ble_eq_true rfl) rfl rfl ?_
    refine v_getB X hB cf4 1 (Nat.le_of_ble_eq_true rfl) m_fl_X7_166 dX7_count_124 1 (Nat.le_of_ble_eq_true rfl) rfl rfl ?_
    refine v_getB X hB cf2 7 (Nat.le_of_ble_eq_true rfl) m_fl_X7_170 dX7_count_127 16 (Nat.le_of_ble_eq_true rfl) rfl rfl ?_
    exact v_iret X rfl dX7_count_130 (by rw [cnF, if_pos (by decide)]; rfl) (rfl)
  · skip
    refine v_tabIn X dX7_count_9 (tgt := 131) (by decide) (by decide) rfl (by decide) ?_
    refine v_aload_n X dX7_count_131 (i := 0) rfl rfl ?_
    refine v_getB X hB cf7 0 (Nat.le_of_ble_eq_true rfl) m_fl_X7_12 dX7_count_132 0 (Nat.le_of_ble_eq_true rfl) rfl rfl ?_
    refine v_getB X hB cf4 3 (Nat.le_of_ble_eq_true rfl) m_fl_X7_154 dX7_count_135 1 (Nat.le_of_ble_eq_true rfl) rfl rfl ?_
    exact v_iret X rfl dX7_count_138 (by rw [cnF, if_pos (by decide)]; rfl) (rfl)
  · skip
    refine v_tabIn X dX7_count_9 (tgt := 139) (by decide) (by decide) rfl (by decide) ?_
    refine v_aload_n X dX7_count_139 (i := 0) rfl rfl ?_
    refine v_getB X hB cf7 0 (Nat.le_of_ble_eq_true rfl) m_fl_X7_12 dX7_count_140 0 (Nat.le_of_ble_eq_true rfl) rfl rfl ?_
    refine v_getB X hB cf4 4 (Nat.le_of_ble_eq_true rfl) m_fl_X7_175 dX7_count_143 1 (Nat.le_of_ble_eq_true rfl) rfl rfl ?_
    exact v_iret X rfl dX7_count_146 (by rw [cnF, if_pos (by decide)]; rfl) (rfl)
  · skip
    refine v_tabIn X dX7_count_9 (tgt := 147) (by decide) (by decide) rfl (by decide) ?_
    refine v_aload_n X dX7_count_147 (i := 0) rfl rfl ?_
    refine v_getB X hB cf7 0 (Nat.le_of_ble_eq_true rfl) m_fl_X7_12 dX7_count_148 0 (Nat.le_of_ble_eq_true rfl) rfl rfl ?_
    refine v_getB X hB cf4 5 (Nat.le_of_ble_eq_true rfl) m_fl_X7_178 dX7_count_151 1 (Nat.le_of_ble_eq_true rfl) rfl rfl ?_
    exact v_iret X rfl dX7_count_154 (by rw [cnF, if_pos (by decide)]; rfl) (rfl)
  · skip
    refine v_tabIn X dX7_count_9 (tgt := 155) (by decide) (by decide) rfl (by decide) ?_
    refine v_aload_n X dX7_count_155 (i := 0) rfl rfl ?_
    refine v_getB X hB cf7 0 (Nat.le_of_ble_eq_true rfl) m_fl_X7_12 dX7_count_156 0 (Nat.le_of_ble_eq_true rfl) rfl rfl ?_
    refine v_getB X hB cf4 6 (Nat.le_of_ble_eq_true rfl) m_fl_X7_181 dX7_count_159 1 (Nat.le_of_ble_eq_true rfl) rfl rfl ?_
    exact v_iret X rfl dX7_count_162 (by rw [cnF, if_pos (by decide)]; rfl) (rfl)
  · skip
    refine v_tabOut X dX7_count_9 (tgt := 163) hwd (by decide) ?_
    refine v_bipush X dX7_count_163 (v := (-2 : Int32)) (by decide) ?_
    exact v_iret X rfl dX7_count_165 (by rw [cnF, if_neg (nin (by decide) hwd)]) (rfl)
set_option maxRecDepth 100000 in
set_option maxHeartbeats 4000000 in
theorem c_X7_shuttle (l : Launch) (g : Ge) (N o : Nat) (σ ρ : Nat → Int32) (S P : Nat → Nat → Int32) (φ κ τ π : Nat → Int32) (v w : Int32) : Cb l g yX7_shuttle (.code yX7_shuttle cX7_shuttle 4 (some .int)) 2 [.ref o, .int v, .int w] N o (xL g o σ ρ S P φ κ τ π) (some (.int (shF σ v w))) (xL g o σ ρ S P φ κ τ π) := by
  intro f hB0
  have hB : BB g N o 179 := hB0
  refine ct_of (own := RX7) [some (.ref o), some (.int v), some (.int w), none] (by decide +kernel) rfl rfl (Nat.le_of_ble_eq_true rfl) ?_
  intro vp ve vs vm va vb vt vc hnm X
  refine v_iload_n X dX7_shuttle_0 (i := 1) rfl rfl ?_
  refine v_cs X rfl yv_X7_isShuttle m_ml_X7_48 (c_X7_isShuttle l g v ) rfl rfl (Nat.le_of_ble_eq_true rfl) ⟨Nat.le_of_ble_eq_true rfl, Nat.le_of_ble_eq_true rfl⟩ ⟨Nat.le_of_ble_eq_true rfl, Nat.le_of_ble_eq_true rfl⟩ dX7_shuttle_1 rfl ?_
  refine v_if_neB X dX7_shuttle_4 (tgt := 9) (by decide) (fun c4 => ?_) (fun c4 => ?_)
  · skip
    obtain ⟨k, hk, rfl⟩ := nI_cases (n := 4) (by omega) c4.1 c4.2
    have hkk : nt (nI k) = k := nt_nI (by omega)
    refine v_aload_n X dX7_shuttle_9 (i := 0) rfl rfl ?_
    refine v_getB X hB cf7 0 (Nat.le_of_ble_eq_true rfl) m_fl_X7_12 dX7_shuttle_10 0 (Nat.le_of_ble_eq_true rfl) rfl rfl ?_
    refine v_getB X hB cf4 0 (Nat.le_of_ble_eq_true rfl) m_fl_X7_56 dX7_shuttle_13 1 (Nat.le_of_ble_eq_true rfl) rfl rfl ?_
    refine v_getB X hB cf3 0 (Nat.le_of_ble_eq_true rfl) m_fl_X7_59 dX7_shuttle_16 2 (Nat.le_of_ble_eq_true rfl) rfl rfl ?_
    refine v_astore_n X dX7_shuttle_19 (i := 3) rfl (Nat.le_of_ble_eq_true rfl) rfl ?_
    refine v_iload_n X dX7_shuttle_20 (i := 2) rfl rfl ?_
    rcases sw03 w with rfl | rfl | rfl | rfl | hwd
    · skip
      refine v_tabIn X dX7_shuttle_21 (tgt := 52) (by decide) (by decide) rfl (by decide) ?_
      refine v_aload_n X dX7_shuttle_52 (i := 3) rfl rfl ?_
      refine v_getB X hB cf5 0 (Nat.le_of_ble_eq_true rfl) m_fl_X7_97 dX7_shuttle_53 3 (Nat.le_of_ble_eq_true rfl) rfl rfl ?_
      refine v_iload_n X dX7_shuttle_56 (i := 1) rfl rfl ?_
      refine v_iald_vw (b := 12) (s' := 4) X hB dX7_shuttle_57 4 (Nat.le_of_ble_eq_true rfl) rfl k rfl (by omega) (Nat.le_of_ble_eq_true rfl) ?_
      exact v_iret X rfl dX7_shuttle_58 (by rw [shF, if_pos c4, if_pos (by decide), hkk]; exact congrArg (fun z => some (Value.int (σ z))) (by show _ = _ + 0; omega)) (rfl)
    · skip
      refine v_tabIn X dX7_shuttle_21 (tgt := 59) (by decide) (by decide) rfl (by decide) ?_
      refine v_aload_n X dX7_shuttle_59 (i := 3) rfl rfl ?_
      refine v_getB X hB cf5 1 (Nat.le_of_ble_eq_true rfl) m_fl_X7_94 dX7_shuttle_60 3 (Nat.le_of_ble_eq_true rfl) rfl rfl ?_
      refine v_iload_n X dX7_shuttle_63 (i := 1) rfl rfl ?_
      refine v_iald_vw (b := 13) (s' := 4) X hB dX7_shuttle_64 5 (Nat.le_of_ble_eq_true rfl) rfl k rfl (by omega) (Nat.le_of_ble_eq_true rfl) ?_
      exact v_iret X rfl dX7_shuttle_65 (by rw [shF, if_pos c4, if_pos (by decide), hkk]; exact congrArg (fun z => some (Value.int (σ z))) (by show _ = _ + 1; omega)) (rfl)
    · skip
      refine v_tabIn X dX7_shuttle_21 (tgt := 66) (by decide) (by decide) rfl (by decide) ?_
      refine v_aload_n X dX7_shuttle_66 (i := 3) rfl rfl ?_
      refine v_getB X hB cf5 2 (Nat.le_of_ble_eq_true rfl) m_fl_X7_83 dX7_shuttle_67 3 (Nat.le_of_ble_eq_true rfl) rfl rfl ?_
      refine v_iload_n X dX7_shuttle_70 (i := 1) rfl rfl ?_
      refine v_iald_vw (b := 14) (s' := 4) X hB dX7_shuttle_71 6 (Nat.le_of_ble_eq_true rfl) rfl k rfl (by omega) (Nat.le_of_ble_eq_true rfl) ?_
      exact v_iret X rfl dX7_shuttle_72 (by rw [shF, if_pos c4, if_pos (by decide), hkk]; exact congrArg (fun z => some (Value.int (σ z))) (by show _ = _ + 2; omega)) (rfl)
    · skip
      refine v_tabIn X dX7_shuttle_21 (tgt := 73) (by decide) (by decide) rfl (by decide) ?_
      refine v_aload_n X dX7_shuttle_73 (i := 3) rfl rfl ?_
      refine v_getB X hB cf5 3 (Nat.le_of_ble_eq_true rfl) m_fl_X7_87 dX7_shuttle_74 3 (Nat.le_of_ble_eq_true rfl) rfl rfl ?_
      refine v_iload_n X dX7_shuttle_77 (i := 1) rfl rfl ?_
      refine v_iald_vw (b := 15) (s' := 4) X hB dX7_shuttle_78 7 (Nat.le_of_ble_eq_true rfl) rfl k rfl (by omega) (Nat.le_of_ble_eq_true rfl) ?_
      exact v_iret X rfl dX7_shuttle_79 (by rw [shF, if_pos c4, if_pos (by decide), hkk]; exact congrArg (fun z => some (Value.int (σ z))) (by show _ = _ + 3; omega)) (rfl)
    · skip
      refine v_tabOut X dX7_shuttle_21 (tgt := 80) hwd (by decide) ?_
      refine v_bipush X dX7_shuttle_80 (v := (-2 : Int32)) (by decide) ?_
      exact v_iret X rfl dX7_shuttle_82 (by rw [shF, if_pos c4, if_neg (nin (by decide) hwd)]) (rfl)
  · skip
    refine v_iconst X dX7_shuttle_7 (v := (-1 : Int32)) (by decide) ?_
    exact v_iret X rfl dX7_shuttle_8 (by rw [shF, if_neg c4]) (rfl)
set_option maxRecDepth 100000 in
set_option maxHeartbeats 4000000 in
theorem c_X7_inBox (l : Launch) (g : Ge) (N o : Nat) (σ ρ : Nat → Int32) (S P : Nat → Nat → Int32) (φ κ τ π : Nat → Int32) (a b : Int32) : Cb l g yX7_inBox (.code yX7_inBox cX7_inBox 3 (some .int)) 2 [.ref o, .int a, .int b] N o (xL g o σ ρ S P φ κ τ π) (some (.int (ibF σ a b))) (xL g o σ ρ S P φ κ τ π) := by
  intro f hB0
  have hB : BB g N o 179 := hB0
  refine ct_of (own := RX7) [some (.ref o), some (.int a), some (.int b)] (by decide +kernel) rfl rfl (Nat.le_of_ble_eq_true rfl) ?_
  intro vp ve vs vm va vb vt vc hnm X
  refine v_iload_n X dX7_inBox_0 (i := 1) rfl rfl ?_
  refine v_iload_n X dX7_inBox_1 (i := 2) rfl rfl ?_
  refine v_cs X rfl yv_X7_isBox m_ml_X7_52 (c_X7_isBox l g a b ) rfl rfl (Nat.le_of_ble_eq_true rfl) ⟨Nat.le_of_ble_eq_true rfl, Nat.le_of_ble_eq_true rfl⟩ ⟨Nat.le_of_ble_eq_true rfl, Nat.le_of_ble_eq_true rfl⟩ dX7_inBox_2 rfl ?_
  refine v_if_eqB X dX7_inBox_5 (tgt := 26) (by decide) (fun c5 => ?_) (fun c5 => ?_)
  · skip
    refine v_iconst X dX7_inBox_26 (v := (-1 : Int32)) (by decide) ?_
    exact v_iret X rfl dX7_inBox_27 (by rw [ibF, if_neg c5]) (rfl)
  · skip
    refine v_aload_n X dX7_inBox_8 (i := 0) rfl rfl ?_
    refine v_getB X hB cf7 0 (Nat.le_of_ble_eq_true rfl) m_fl_X7_12 dX7_inBox_9 0 (Nat.le_of_ble_eq_true rfl) rfl rfl ?_
    refine v_getB X hB cf4 0 (Nat.le_of_ble_eq_true rfl) m_fl_X7_56 dX7_inBox_12 1 (Nat.le_of_ble_eq_true rfl) rfl rfl ?_
    refine v_getB X hB cf3 0 (Nat.le_of_ble_eq_true rfl) m_fl_X7_59 dX7_inBox_15 2 (Nat.le_of_ble_eq_true rfl) rfl rfl ?_
    refine v_iload_n X dX7_inBox_18 (i := 1) rfl rfl ?_
    refine v_iload_n X dX7_inBox_19 (i := 2) rfl rfl ?_
    refine v_cvB X rfl yv_X5_findIn m_ml_X7_68 3 3 (c_X5_findIn l g N (o + 3) σ a b ) hB (Nat.le_of_ble_eq_true rfl) rfl (Nat.le_of_ble_eq_true rfl) rfl (L' := (xL g o σ ρ S P φ κ τ π)) (rfl) rfl (Nat.le_of_ble_eq_true rfl) rfl rfl (Nat.le_of_ble_eq_true rfl) ⟨Nat.le_of_ble_eq_true rfl, Nat.le_of_ble_eq_true rfl⟩ ⟨Nat.le_of_ble_eq_true rfl, Nat.le_of_ble_eq_true rfl⟩ dX7_inBox_20 rfl ?_
    refine v_goto X dX7_inBox_23 (tgt := 27) (by decide) ?_
    exact v_iret X rfl dX7_inBox_27 (by rw [ibF, if_pos c5]) (rfl)
set_option maxRecDepth 100000 in
set_option maxHeartbeats 4000000 in
theorem c_X7_thread (l : Launch) (g : Ge) (N o : Nat) (σ ρ : Nat → Int32) (S P : Nat → Nat → Int32) (φ κ τ π : Nat → Int32) (v w : Int32) : Cb l g yX7_thread (.code yX7_thread cX7_thread 4 (some .int)) 2 [.ref o, .int v, .int w] N o (xL g o σ ρ S P φ κ τ π) (some (.int (thF σ v w))) (xL g o σ ρ S P φ κ τ π) := by
  intro f hB0
  have hB : BB g N o 179 := hB0
  refine ct_of (own := RX7) [some (.ref o), some (.int v), some (.int w), none] (by decide +kernel) rfl rfl (Nat.le_of_ble_eq_true rfl) ?_
  intro vp ve vs vm va vb vt vc hnm X
  refine v_iload_n X dX7_thread_0 (i := 1) rfl rfl ?_
  refine v_cs X rfl yv_X7_isThread m_ml_X7_103 (c_X7_isThread l g v ) rfl rfl (Nat.le_of_ble_eq_true rfl) ⟨Nat.le_of_ble_eq_true rfl, Nat.le_of_ble_eq_true rfl⟩ ⟨Nat.le_of_ble_eq_true rfl, Nat.le_of_ble_eq_true rfl⟩ dX7_thread_1 rfl ?_
  refine v_if_neB X dX7_thread_4 (tgt := 9) (by decide) (fun c4 => ?_) (fun c4 => ?_)
  · skip
    obtain ⟨k, hk, rfl⟩ := nI_cases (n := 11) (by omega) c4.1 c4.2
    have hkk : nt (nI k) = k := nt_nI (by omega)
    refine v_aload_n X dX7_thread_9 (i := 0) rfl rfl ?_
    refine v_getB X hB cf7 0 (Nat.le_of_ble_eq_true rfl) m_fl_X7_12 dX7_thread_10 0 (Nat.le_of_ble_eq_true rfl) rfl rfl ?_
    refine v_getB X hB cf4 0 (Nat.le_of_ble_eq_true rfl) m_fl_X7_56 dX7_thread_13 1 (Nat.le_of_ble_eq_true rfl) rfl rfl ?_
    refine v_getB X hB cf3 1 (Nat.le_of_ble_eq_true rfl) m_fl_X7_106 dX7_thread_16 2 (Nat.le_of_ble_eq_true rfl) rfl rfl ?_
    refine v_astore_n X dX7_thread_19 (i := 3) rfl (Nat.le_of_ble_eq_true rfl) rfl ?_
    refine v_iload_n X dX7_thread_20 (i := 2) rfl rfl ?_
    rcases sw02 w with rfl | rfl | rfl | hwd
    · skip
      refine v_tabIn X dX7_thread_21 (tgt := 48) (by decide) (by decide) rfl (by decide) ?_
      refine v_aload_n X dX7_thread_48 (i := 3) rfl rfl ?_
      refine v_getB X hB cf6 0 (Nat.le_of_ble_eq_true rfl) m_fl_X7_110 dX7_thread_49 8 (Nat.le_of_ble_eq_true rfl) rfl rfl ?_
      refine v_iload_n X dX7_thread_52 (i := 1) rfl rfl ?_
      refine v_iald_vw (b := 32) (s' := 2) X hB dX7_thread_53 9 (Nat.le_of_ble_eq_true rfl) rfl k rfl (by omega) (Nat.le_of_ble_eq_true rfl) ?_
      exact v_iret X rfl dX7_thread_54 (by rw [thF, if_pos c4, if_pos rfl, hkk]) (rfl)
    · skip
      refine v_tabIn X dX7_thread_21 (tgt := 55) (by decide) (by decide) rfl (by decide) ?_
      refine v_aload_n X dX7_thread_55 (i := 3) rfl rfl ?_
      refine v_getB X hB cf6 1 (Nat.le_of_ble_eq_true rfl) m_fl_X7_115 dX7_thread_56 8 (Nat.le_of_ble_eq_true rfl) rfl rfl ?_
      refine v_iload_n X dX7_thread_59 (i := 1) rfl rfl ?_
      refine v_iald_vw (b := 33) (s' := 2) X hB dX7_thread_60 10 (Nat.le_of_ble_eq_true rfl) rfl k rfl (by omega) (Nat.le_of_ble_eq_true rfl) ?_
      exact v_iret X rfl dX7_thread_61 (by rw [thF, if_pos c4, if_neg (by decide), if_pos rfl, hkk]) (rfl)
    · skip
      refine v_tabIn X dX7_thread_21 (tgt := 62) (by decide) (by decide) rfl (by decide) ?_
      refine v_aload_n X dX7_thread_62 (i := 0) rfl rfl ?_
      refine v_getB X hB cf7 0 (Nat.le_of_ble_eq_true rfl) m_fl_X7_12 dX7_thread_63 0 (Nat.le_of_ble_eq_true rfl) rfl rfl ?_
      refine v_getB X hB cf4 0 (Nat.le_of_ble_eq_true rfl) m_fl_X7_56 dX7_thread_66 1 (Nat.le_of_ble_eq_true rfl) rfl rfl ?_
      refine v_getB X hB cf3 5 (Nat.le_of_ble_eq_true rfl) m_fl_X7_160 dX7_thread_69 2 (Nat.le_of_ble_eq_true rfl) rfl rfl ?_
      refine v_aload_n X dX7_thread_72 (i := 3) rfl rfl ?_
      refine v_getB X hB cf6 0 (Nat.le_of_ble_eq_true rfl) m_fl_X7_110 dX7_thread_73 8 (Nat.le_of_ble_eq_true rfl) rfl rfl ?_
      refine v_iload_n X dX7_thread_76 (i := 1) rfl rfl ?_
      refine v_iald_vw (b := 32) (s' := 2) X hB dX7_thread_77 9 (Nat.le_of_ble_eq_true rfl) rfl k rfl (by omega) (Nat.le_of_ble_eq_true rfl) ?_
      refine v_cs X rfl yv_X7_contains m_ml_X7_184 (c_X7_contains l g (σ 5) (σ (32 + 2 * k)) ) rfl rfl (Nat.le_of_ble_eq_true rfl) ⟨Nat.le_of_ble_eq_true rfl, Nat.le_of_ble_eq_true rfl⟩ ⟨Nat.le_of_ble_eq_true rfl, Nat.le_of_ble_eq_true rfl⟩ dX7_thread_78 rfl ?_
      refine v_if_eqB X dX7_thread_81 (tgt := 88) (by decide) (fun c81 => ?_) (fun c81 => ?_)
      · skip
        refine v_iconst X dX7_thread_88 (v := (0 : Int32)) (by decide) ?_
        exact v_iret X rfl dX7_thread_89 (by rw [thF, if_pos c4, if_neg (by decide), if_neg (by decide), if_pos rfl, hkk, lfB, if_neg c81]) (rfl)
      · skip
        refine v_iconst X dX7_thread_84 (v := (1 : Int32)) (by decide) ?_
        refine v_goto X dX7_thread_85 (tgt := 89) (by decide) ?_
        exact v_iret X rfl dX7_thread_89 (by rw [thF, if_pos c4, if_neg (by decide), if_neg (by decide), if_pos rfl, hkk, lfB, if_pos c81]) (rfl)
    · skip
      refine v_tabOut X dX7_thread_21 (tgt := 90) hwd (by decide) ?_
      refine v_bipush X dX7_thread_90 (v := (-2 : Int32)) (by decide) ?_
      exact v_iret X rfl dX7_thread_92 (by rw [thF, if_pos c4, if_neg (show ¬ w = 0 from fun q => by rw [q] at hwd; exact absurd hwd (by decide)), if_neg (show ¬ w = 1 from fun q => by rw [q] at hwd; exact absurd hwd (by decide)), if_neg (show ¬ w = 2 from fun q => by rw [q] at hwd; exact absurd hwd (by decide))]) (rfl)
  · skip
    refine v_iconst X dX7_thread_7 (v := (-1 : Int32)) (by decide) ?_
    exact v_iret X rfl dX7_thread_8 (by rw [thF, if_neg c4]) (rfl)
set_option maxRecDepth 100000 in
set_option maxHeartbeats 4000000 in
theorem c_X7_card (l : Launch) (g : Ge) (N o : Nat) (σ ρ : Nat → Int32) (S P : Nat → Nat → Int32) (φ κ τ π : Nat → Int32) (v w : Int32) (C : Nat) (hC : σ 0 = nI C) (hC16 : C ≤ 16) : Cb l g yX7_card (.code yX7_card cX7_card 4 (some .int)) 2 [.ref o, .int v, .int w] N o (xL g o σ ρ S P φ κ τ π) (some (.int (cdF σ v w))) (xL g o σ ρ S P φ κ τ π) := by
  intro f hB0
  have hB : BB g N o 179 := hB0
  refine ct_of (own := RX7) [some (.ref o), some (.int v), some (.int w), none] (by decide +kernel) rfl rfl (Nat.le_of_ble_eq_true rfl) ?_
  intro vp ve vs vm va vb vt vc hnm X
  refine v_aload_n X dX7_card_0 (i := 0) rfl rfl ?_
  refine v_getB X hB cf7 0 (Nat.le_of_ble_eq_true rfl) m_fl_X7_12 dX7_card_1 0 (Nat.le_of_ble_eq_true rfl) rfl rfl ?_
  refine v_getB X hB cf4 0 (Nat.le_of_ble_eq_true rfl) m_fl_X7_56 dX7_card_4 1 (Nat.le_of_ble_eq_true rfl) rfl rfl ?_
  refine v_getB X hB cf3 2 (Nat.le_of_ble_eq_true rfl) m_fl_X7_121 dX7_card_7 2 (Nat.le_of_ble_eq_true rfl) rfl rfl ?_
  refine v_astore_n X dX7_card_10 (i := 3) rfl (Nat.le_of_ble_eq_true rfl) rfl ?_
  refine v_aload_n X dX7_card_11 (i := 3) rfl rfl ?_
  refine v_iload_n X dX7_card_12 (i := 1) rfl rfl ?_
  refine v_cvB X rfl yv_X1_has m_ml_X7_133 11 11 (c_X1_has l g N (o + 11) σ v ) hB (Nat.le_of_ble_eq_true rfl) rfl (Nat.le_of_ble_eq_true rfl) rfl (L' := (xL g o σ ρ S P φ κ τ π)) (rfl) rfl (Nat.le_of_ble_eq_true rfl) rfl rfl (Nat.le_of_ble_eq_true rfl) ⟨Nat.le_of_ble_eq_true rfl, Nat.le_of_ble_eq_true rfl⟩ ⟨Nat.le_of_ble_eq_true rfl, Nat.le_of_ble_eq_true rfl⟩ dX7_card_13 rfl ?_
  refine v_if_neB X dX7_card_16 (tgt := 21) (by decide) (fun c16 => ?_) (fun c16 => ?_)
  · skip
    obtain ⟨k, hk, rfl⟩ := of_has hC hC16 c16
    have hkk : nt (nI k) = k := nt_nI (by omega)
    refine v_iload_n X dX7_card_21 (i := 2) rfl rfl ?_
    rcases sw03 w with rfl | rfl | rfl | rfl | hwd
    · skip
      refine v_tabIn X dX7_card_22 (tgt := 52) (by decide) (by decide) rfl (by decide) ?_
      refine v_aload_n X dX7_card_52 (i := 3) rfl rfl ?_
      refine v_iload_n X dX7_card_53 (i := 1) rfl rfl ?_
      refine v_cvB X rfl yv_X1_framesOf m_ml_X7_187 11 11 (c_X1_framesOf l g N (o + 11) (nI k) k rfl σ _ hC hk hC16) hB (Nat.le_of_ble_eq_true rfl) rfl (Nat.le_of_ble_eq_true rfl) rfl (L' := (xL g o σ ρ S P φ κ τ π)) (rfl) rfl (Nat.le_of_ble_eq_true rfl) rfl rfl (Nat.le_of_ble_eq_true rfl) ⟨Nat.le_of_ble_eq_true rfl, Nat.le_of_ble_eq_true rfl⟩ ⟨Nat.le_of_ble_eq_true rfl, Nat.le_of_ble_eq_true rfl⟩ dX7_card_54 rfl ?_
      exact v_iret X rfl dX7_card_57 (by rw [cdF, if_pos c16, if_pos rfl, hkk]) (rfl)
    · skip
      refine v_tabIn X dX7_card_22 (tgt := 58) (by decide) (by decide) rfl (by decide) ?_
      refine v_aload_n X dX7_card_58 (i := 3) rfl rfl ?_
      refine v_iload_n X dX7_card_59 (i := 1) rfl rfl ?_
      refine v_iconst X dX7_card_60 (v := (0 : Int32)) (by decide) ?_
      refine v_cvB X rfl yv_X1_boxOf m_ml_X7_191 11 11 (c_X1_boxOf l g N (o + 11) (nI k) k rfl σ _ hC hk hC16 _) hB (Nat.le_of_ble_eq_true rfl) rfl (Nat.le_of_ble_eq_true rfl) rfl (L' := (xL g o σ ρ S P φ κ τ π)) (rfl) rfl (Nat.le_of_ble_eq_true rfl) rfl rfl (Nat.le_of_ble_eq_true rfl) ⟨Nat.le_of_ble_eq_true rfl, Nat.le_of_ble_eq_true rfl⟩ ⟨Nat.le_of_ble_eq_true rfl, Nat.le_of_ble_eq_true rfl⟩ dX7_card_61 rfl ?_
      exact v_iret X rfl dX7_card_64 (by rw [cdF, if_pos c16, if_neg (by decide), if_pos rfl, hkk]) (rfl)
    · skip
      refine v_tabIn X dX7_card_22 (tgt := 65) (by decide) (by decide) rfl (by decide) ?_
      refine v_aload_n X dX7_card_65 (i := 3) rfl rfl ?_
      refine v_iload_n X dX7_card_66 (i := 1) rfl rfl ?_
      refine v_iconst X dX7_card_67 (v := (1 : Int32)) (by decide) ?_
      refine v_cvB X rfl yv_X1_boxOf m_ml_X7_191 11 11 (c_X1_boxOf l g N (o + 11) (nI k) k rfl σ _ hC hk hC16 _) hB (Nat.le_of_ble_eq_true rfl) rfl (Nat.le_of_ble_eq_true rfl) rfl (L' := (xL g o σ ρ S P φ κ τ π)) (rfl) rfl (Nat.le_of_ble_eq_true rfl) rfl rfl (Nat.le_of_ble_eq_true rfl) ⟨Nat.le_of_ble_eq_true rfl, Nat.le_of_ble_eq_true rfl⟩ ⟨Nat.le_of_ble_eq_true rfl, Nat.le_of_ble_eq_true rfl⟩ dX7_card_68 rfl ?_
      exact v_iret X rfl dX7_card_71 (by rw [cdF, if_pos c16, if_neg (by decide), if_neg (by decide), if_pos rfl, hkk]) (rfl)
    · skip
      refine v_tabIn X dX7_card_22 (tgt := 72) (by decide) (by decide) rfl (by decide) ?_
      refine v_aload_n X dX7_card_72 (i := 0) rfl rfl ?_
      refine v_getB X hB cf7 0 (Nat.le_of_ble_eq_true rfl) m_fl_X7_12 dX7_card_73 0 (Nat.le_of_ble_eq_true rfl) rfl rfl ?_
      refine v_getB X hB cf4 0 (Nat.le_of_ble_eq_true rfl) m_fl_X7_56 dX7_card_76 1 (Nat.le_of_ble_eq_true rfl) rfl rfl ?_
      refine v_getB X hB cf3 1 (Nat.le_of_ble_eq_true rfl) m_fl_X7_106 dX7_card_79 2 (Nat.le_of_ble_eq_true rfl) rfl rfl ?_
      refine v_aload_n X dX7_card_82 (i := 3) rfl rfl ?_
      refine v_iload_n X dX7_card_83 (i := 1) rfl rfl ?_
      refine v_cvB X rfl yv_X1_framesOf m_ml_X7_187 11 11 (c_X1_framesOf l g N (o + 11) (nI k) k rfl σ _ hC hk hC16) hB (Nat.le_of_ble_eq_true rfl) rfl (Nat.le_of_ble_eq_true rfl) rfl (L' := (xL g o σ ρ S P φ κ τ π)) (rfl) rfl (Nat.le_of_ble_eq_true rfl) rfl rfl (Nat.le_of_ble_eq_true rfl) ⟨Nat.le_of_ble_eq_true rfl, Nat.le_of_ble_eq_true rfl⟩ ⟨Nat.le_of_ble_eq_true rfl, Nat.le_of_ble_eq_true rfl⟩ dX7_card_84 rfl ?_
      refine v_cvB X rfl yv_X6_inFrames m_ml_X7_194 8 8 (c_X6_inFrames l g N (o + 8) σ (σ (56 + 3 * k)) ) hB (Nat.le_of_ble_eq_true rfl) rfl (Nat.le_of_ble_eq_true rfl) rfl (L' := (xL g o σ ρ S P φ κ τ π)) (rfl) rfl (Nat.le_of_ble_eq_true rfl) rfl rfl (Nat.le_of_ble_eq_true rfl) ⟨Nat.le_of_ble_eq_true rfl, Nat.le_of_ble_eq_true rfl⟩ ⟨Nat.le_of_ble_eq_true rfl, Nat.le_of_ble_eq_true rfl⟩ dX7_card_87 rfl ?_
      exact v_iret X rfl dX7_card_90 (by rw [cdF, if_pos c16, if_neg (by decide), if_neg (by decide), if_neg (by decide), if_pos rfl, hkk]) (rfl)
    · skip
      refine v_tabOut X dX7_card_22 (tgt := 91) hwd (by decide) ?_
      refine v_bipush X dX7_card_91 (v := (-2 : Int32)) (by decide) ?_
      exact v_iret X rfl dX7_card_93 (by rw [cdF, if_pos c16, if_neg (show ¬ w = 0 from fun q => by rw [q] at hwd; exact absurd hwd (by decide)), if_neg (show ¬ w = 1 from fun q => by rw [q] at hwd; exact absurd hwd (by decide)), if_neg (show ¬ w = 2 from fun q => by rw [q] at hwd; exact absurd hwd (by decide)), if_neg (show ¬ w = 3 from fun q => by rw [q] at hwd; exact absurd hwd (by decide))]) (rfl)
  · skip
    refine v_iconst X dX7_card_19 (v := (-1 : Int32)) (by decide) ?_
    exact v_iret X rfl dX7_card_20 (by rw [cdF, if_neg c16]) (rfl)
set_option maxRecDepth 100000 in
set_option maxHeartbeats 4000000 in
theorem c_X7_cloth (l : Launch) (g : Ge) (N o : Nat) (σ ρ : Nat → Int32) (S P : Nat → Nat → Int32) (φ κ τ π : Nat → Int32) (v t : Int32) (R lt : Nat) (hR : σ 7 = nI R) (hR20 : R ≤ 20) (hlt : ρ 140 = nI lt) (hlt20 : lt < 20) : Cb l g yX7_cloth (.code yX7_cloth cX7_cloth 3 (some .int)) 3 [.ref o, .int v, .int t] N o (xL g o σ ρ S P φ κ τ π) (some (.int (clF σ ρ lt v t))) (xL g o σ ρ S P φ κ τ π) := by
  intro f hB0
  have hB : BB g N o 179 := hB0
  refine ct_of (own := RX7) [some (.ref o), some (.int v), some (.int t)] (by decide +kernel) rfl rfl (Nat.le_of_ble_eq_true rfl) ?_
  intro vp ve vs vm va vb vt vc hnm X
  refine v_aload_n X dX7_cloth_0 (i := 0) rfl rfl ?_
  refine v_getB X hB cf7 0 (Nat.le_of_ble_eq_true rfl) m_fl_X7_12 dX7_cloth_1 0 (Nat.le_of_ble_eq_true rfl) rfl rfl ?_
  refine v_getB X hB cf4 1 (Nat.le_of_ble_eq_true rfl) m_fl_X7_166 dX7_cloth_4 1 (Nat.le_of_ble_eq_true rfl) rfl rfl ?_
  refine v_iload_n X dX7_cloth_7 (i := 1) rfl rfl ?_
  refine v_cvB X rfl yv_X2_has m_ml_X7_197 16 16 (c_X2_has l g N (o + 16) σ ρ v ) hB (Nat.le_of_ble_eq_true rfl) rfl (Nat.le_of_ble_eq_true rfl) rfl (L' := (xL g o σ ρ S P φ κ τ π)) (rfl) rfl (Nat.le_of_ble_eq_true rfl) rfl rfl (Nat.le_of_ble_eq_true rfl) ⟨Nat.le_of_ble_eq_true rfl, Nat.le_of_ble_eq_true rfl⟩ ⟨Nat.le_of_ble_eq_true rfl, Nat.le_of_ble_eq_true rfl⟩ dX7_cloth_8 rfl ?_
  refine v_if_eqB X dX7_cloth_11 (tgt := 21) (by decide) (fun c11 => ?_) (fun c11 => ?_)
  · skip
    refine v_iconst X dX7_cloth_21 (v := (-1 : Int32)) (by decide) ?_
    exact v_iret X rfl dX7_cloth_22 (by rw [clF, if_neg c11]) (rfl)
  · skip
    obtain ⟨r, hr, rfl⟩ : ∃ r, r < R ∧ v = nI r := by
      rw [hR] at c11
      obtain ⟨r, hr, rfl⟩ := nI_cases (n := R) (by omega) c11.1 (Int32.le_of_lt c11.2)
      exact ⟨r, lt_of_nI (by omega) (by omega) c11.2, rfl⟩
    have hkk : nt (nI r) = r := nt_nI (by omega)
    refine v_iload_n X dX7_cloth_14 (i := 2) rfl rfl ?_
    refine v_cs X rfl yv_X7_isThread m_ml_X7_103 (c_X7_isThread l g t ) rfl rfl (Nat.le_of_ble_eq_true rfl) ⟨Nat.le_of_ble_eq_true rfl, Nat.le_of_ble_eq_true rfl⟩ ⟨Nat.le_of_ble_eq_true rfl, Nat.le_of_ble_eq_true rfl⟩ dX7_cloth_15 rfl ?_
    refine v_if_neB X dX7_cloth_18 (tgt := 23) (by decide) (fun c18 => ?_) (fun c18 => ?_)
    · skip
      refine v_aload_n X dX7_cloth_23 (i := 0) rfl rfl ?_
      refine v_getB X hB cf7 0 (Nat.le_of_ble_eq_true rfl) m_fl_X7_12 dX7_cloth_24 0 (Nat.le_of_ble_eq_true rfl) rfl rfl ?_
      refine v_getB X hB cf4 1 (Nat.le_of_ble_eq_true rfl) m_fl_X7_166 dX7_cloth_27 1 (Nat.le_of_ble_eq_true rfl) rfl rfl ?_
      refine v_iload_n X dX7_cloth_30 (i := 1) rfl rfl ?_
      refine v_iload_n X dX7_cloth_31 (i := 2) rfl rfl ?_
      refine v_cvB X rfl yv_X2_isLifted m_ml_X7_198 16 16 (c_X2_isLifted l g N (o + 16) (nI r) r rfl σ ρ lt hlt hlt20 (by omega) _) hB (Nat.le_of_ble_eq_true rfl) rfl (Nat.le_of_ble_eq_true rfl) rfl (L' := (xL g o σ ρ S P φ κ τ π)) (rfl) rfl (Nat.le_of_ble_eq_true rfl) rfl rfl (Nat.le_of_ble_eq_true rfl) ⟨Nat.le_of_ble_eq_true rfl, Nat.le_of_ble_eq_true rfl⟩ ⟨Nat.le_of_ble_eq_true rfl, Nat.le_of_ble_eq_true rfl⟩ dX7_cloth_32 rfl ?_
      refine v_if_eqB X dX7_cloth_35 (tgt := 45) (by decide) (fun c35 => ?_) (fun c35 => ?_)
      · skip
        refine v_aload_n X dX7_cloth_45 (i := 0) rfl rfl ?_
        refine v_getB X hB cf7 0 (Nat.le_of_ble_eq_true rfl) m_fl_X7_12 dX7_cloth_46 0 (Nat.le_of_ble_eq_true rfl) rfl rfl ?_
        refine v_getB X hB cf4 1 (Nat.le_of_ble_eq_true rfl) m_fl_X7_166 dX7_cloth_49 1 (Nat.le_of_ble_eq_true rfl) rfl rfl ?_
        refine v_iload_n X dX7_cloth_52 (i := 1) rfl rfl ?_
        refine v_cvB X rfl yv_X2_colourOf m_ml_X7_201 16 16 (c_X2_colourOf l g N (o + 16) (nI r) r rfl σ ρ lt hlt hlt20 (by omega)) hB (Nat.le_of_ble_eq_true rfl) rfl (Nat.le_of_ble_eq_true rfl) rfl (L' := (xL g o σ ρ S P φ κ τ π)) (rfl) rfl (Nat.le_of_ble_eq_true rfl) rfl rfl (Nat.le_of_ble_eq_true rfl) ⟨Nat.le_of_ble_eq_true rfl, Nat.le_of_ble_eq_true rfl⟩ ⟨Nat.le_of_ble_eq_true rfl, Nat.le_of_ble_eq_true rfl⟩ dX7_cloth_53 rfl ?_
        exact v_iret X rfl dX7_cloth_56 (by rw [clF, if_pos c11, if_pos c18, hkk, if_neg c35]) (rfl)
      · skip
        refine v_bipush X dX7_cloth_38 (v := (100 : Int32)) (by decide) ?_
        refine v_iload_n X dX7_cloth_40 (i := 2) rfl rfl ?_
        refine v_iadd X dX7_cloth_41 ?_
        refine v_goto X dX7_cloth_42 (tgt := 56) (by decide) ?_
        exact v_iret X rfl dX7_cloth_56 (by rw [clF, if_pos c11, if_pos c18, hkk, if_pos c35]) (rfl)
    · skip
      refine v_iconst X dX7_cloth_21 (v := (-1 : Int32)) (by decide) ?_
      exact v_iret X rfl dX7_cloth_22 (by rw [clF, if_pos c11, if_neg c18]) (rfl)
set_option maxRecDepth 100000 in
set_option maxHeartbeats 4000000 in
theorem c_X7_longestFloat (l : Launch) (g : Ge) (N o : Nat) (σ ρ : Nat → Int32) (S P : Nat → Nat → Int32) (φ κ τ π : Nat → Int32) (t : Int32) (R lt : Nat) (hR : σ 7 = nI R) (hR20 : R ≤ 20) (hlt : ρ 140 = nI lt) (hlt20 : lt < 20) : Cb l g yX7_longestFloat (.code yX7_longestFloat cX7_longestFloat 2 (some .int)) 4 [.ref o, .int t] N o (xL g o σ ρ S P φ κ τ π) (some (.int (lgF ρ lt R t))) (xL g o σ ρ S P φ κ τ π) := by
  intro f hB0
  have hB : BB g N o 179 := hB0
  refine ct_of (own := RX7) [some (.ref o), some (.int t)] (by decide +kernel) rfl rfl (Nat.le_of_ble_eq_true rfl) ?_
  intro vp ve vs vm va vb vt vc hnm X
  refine v_iload_n X dX7_longestFloat_0 (i := 1) rfl rfl ?_
  refine v_cs X rfl yv_X7_isThread m_ml_X7_103 (c_X7_isThread l g t ) rfl rfl (Nat.le_of_ble_eq_true rfl) ⟨Nat.le_of_ble_eq_true rfl, Nat.le_of_ble_eq_true rfl⟩ ⟨Nat.le_of_ble_eq_true rfl, Nat.le_of_ble_eq_true rfl⟩ dX7_longestFloat_1 rfl ?_
  refine v_if_eqB X dX7_longestFloat_4 (tgt := 21) (by decide) (fun c4 => ?_) (fun c4 => ?_)
  · skip
    refine v_iconst X dX7_longestFloat_21 (v := (-1 : Int32)) (by decide) ?_
    exact v_iret X rfl dX7_longestFloat_22 (by rw [lgF, if_neg c4]) (rfl)
  · skip
    refine v_aload_n X dX7_longestFloat_7 (i := 0) rfl rfl ?_
    refine v_getB X hB cf7 0 (Nat.le_of_ble_eq_true rfl) m_fl_X7_12 dX7_longestFloat_8 0 (Nat.le_of_ble_eq_true rfl) rfl rfl ?_
    refine v_getB X hB cf4 1 (Nat.le_of_ble_eq_true rfl) m_fl_X7_166 dX7_longestFloat_11 1 (Nat.le_of_ble_eq_true rfl) rfl rfl ?_
    refine v_iload_n X dX7_longestFloat_14 (i := 1) rfl rfl ?_
    refine v_cvB X rfl yv_X2_longestFloatOf m_ml_X7_204 16 16 (c_X2_longestFloatOf l g N (o + 16) σ ρ R lt hR hR20 hlt hlt20 _) hB (Nat.le_of_ble_eq_true rfl) rfl (Nat.le_of_ble_eq_true rfl) rfl (L' := (xL g o σ ρ S P φ κ τ π)) (rfl) rfl (Nat.le_of_ble_eq_true rfl) rfl rfl (Nat.le_of_ble_eq_true rfl) ⟨Nat.le_of_ble_eq_true rfl, Nat.le_of_ble_eq_true rfl⟩ ⟨Nat.le_of_ble_eq_true rfl, Nat.le_of_ble_eq_true rfl⟩ dX7_longestFloat_15 rfl ?_
    refine v_goto X dX7_longestFloat_18 (tgt := 22) (by decide) ?_
    exact v_iret X rfl dX7_longestFloat_22 (by rw [lgF, if_pos c4]) (rfl)
set_option maxRecDepth 100000 in
set_option maxHeartbeats 4000000 in
theorem c_X7_whyNot (l : Launch) (g : Ge) (N o : Nat) (σ ρ : Nat → Int32) (S P : Nat → Nat → Int32) (φ κ τ π : Nat → Int32) (C P0 : Nat) (hC : σ 0 = nI C) (hP : σ 1 = nI P0) (hPC : P0 < C ∨ (C = 0 ∧ P0 = 0)) (hC16 : C ≤ 16) : Cb l g yX7_whyNot (.code yX7_whyNot cX7_whyNot 1 (some .int)) 5 [.ref o] N o (xL g o σ ρ S P φ κ τ π) (some (.int (rsG σ C P0))) (xL g o σ ρ S P φ κ τ π) := by
  intro f hB0
  have hB : BB g N o 179 := hB0
  refine ct_of (own := RX7) [some (.ref o)] (by decide +kernel) rfl rfl (Nat.le_of_ble_eq_true rfl) ?_
  intro vp ve vs vm va vb vt vc hnm X
  refine v_aload_n X dX7_whyNot_0 (i := 0) rfl rfl ?_
  refine v_getB X hB cf7 0 (Nat.le_of_ble_eq_true rfl) m_fl_X7_12 dX7_whyNot_1 0 (Nat.le_of_ble_eq_true rfl) rfl rfl ?_
  refine v_getB X hB cf4 0 (Nat.le_of_ble_eq_true rfl) m_fl_X7_56 dX7_whyNot_4 1 (Nat.le_of_ble_eq_true rfl) rfl rfl ?_
  refine v_cvB X rfl yv_X3_reasonToStop m_ml_X7_145 2 2 (c_X3_reasonToStop l g N (o + 2) σ C P0 hC hP hPC hC16) hB (Nat.le_of_ble_eq_true rfl) rfl (Nat.le_of_ble_eq_true rfl) rfl (L' := (xL g o σ ρ S P φ κ τ π)) (rfl) rfl (Nat.le_of_ble_eq_true rfl) rfl rfl (Nat.le_of_ble_eq_true rfl) ⟨Nat.le_of_ble_eq_true rfl, Nat.le_of_ble_eq_true rfl⟩ ⟨Nat.le_of_ble_eq_true rfl, Nat.le_of_ble_eq_true rfl⟩ dX7_whyNot_7 rfl ?_
  exact v_iret X rfl dX7_whyNot_10 (rfl) (rfl)
