/-! class and model, call by call -/
def Fr (σ ρ : Nat → Int32) (S P : Nat → Nat → Int32) (τ π μ hs tx ι : Nat → Int32) : Prop := Rl σ ρ μ ∧ Sv S P π hs ι ∧ Tx τ π tx ι
theorem Fr_ch2 {σ ρ A Aρ A' : Nat → Int32} {S P : Nat → Nat → Int32} {τ π μ hs tx ι ι'' : Nat → Int32} {q n : Nat} (hR : Rl σ ρ μ) (hq : π 1 = nI q) (hq6 : q < 6) (hn : π 0 = nI n) (hn6 : n ≤ 6) (hi : ι 0 = nI n) (hsv : ∀ m, m < n → Rl (S (slt q n m)) (P (slt q n m)) (hb hs m)) (hT : Tx τ π tx ι) {E E' : Int32} (hE : E = E') (hok : E = 0 → Rl A Aρ A') (h0 : ι'' 0 = rcI ι n 0) (h1 : ι'' 1 = ι 1) : Fr (if E = 0 then A else σ) (if E = 0 then Aρ else ρ) (svS E S q σ) (svS E P q ρ) τ (svπ E π q n) (if E' = 0 then A' else μ) (if E' = 0 then rcH hs n μ else hs) tx (if E' = 0 then ι'' else ι) := by
  subst hE
  by_cases z : E = 0
  · rw [svS, svS, svπ, if_pos z, if_pos z, if_pos z, if_pos z, if_pos z, if_pos z, if_pos z, if_pos z]
    refine ⟨hok z, Sv_pi (Sv_rec hq hq6 hn6 hsv hR) rfl rfl h0, Tx_pi hT ?_ h1⟩
    rw [pk_un (by omega), pk_un (by omega)]
  · rw [svS, svS, svπ, if_neg z, if_neg z, if_neg z, if_neg z, if_neg z, if_neg z, if_neg z, if_neg z]
    exact ⟨hR, ⟨q, n, ⟨hq, hq6⟩, ⟨hn, hn6⟩, hi, hsv⟩, hT⟩
theorem rcI_1 {ι : Nat → Int32} {n : Nat} : rcI ι n 1 = ι 1 := by rw [rcI, pk_un (by omega)]
theorem Fr_ch {σ ρ A A' : Nat → Int32} {S P : Nat → Nat → Int32} {τ π μ hs tx ι : Nat → Int32} {q n : Nat} (hR : Rl σ ρ μ) (hq : π 1 = nI q) (hq6 : q < 6) (hn : π 0 = nI n) (hn6 : n ≤ 6) (hi : ι 0 = nI n) (hsv : ∀ m, m < n → Rl (S (slt q n m)) (P (slt q n m)) (hb hs m)) (hT : Tx τ π tx ι) {E E' : Int32} (hE : E = E') (hok : E = 0 → Rl A ρ A') : Fr (if E = 0 then A else σ) ρ (svS E S q σ) (svS E P q ρ) τ (svπ E π q n) (if E' = 0 then A' else μ) (if E' = 0 then rcH hs n μ else hs) tx (if E' = 0 then rcI ι n else ι) := by
  have h := Fr_ch2 (Aρ := ρ) (ι'' := rcI ι n) hR hq hq6 hn hn6 hi hsv hT hE hok rfl rcI_1
  rw [show (if E = 0 then ρ else ρ) = ρ by split <;> rfl] at h
  exact h
theorem Fr_j {σ ρ : Nat → Int32} {S P : Nat → Nat → Int32} {τ π μ hs tx ι ι' : Nat → Int32} (F : Fr σ ρ S P τ π μ hs tx ι) (h0 : ι' 0 = ι 0) (h1 : ι' 1 = ι 1) : Fr σ ρ S P τ π μ hs tx ι' := ⟨F.1, Sv_pi F.2.1 rfl rfl h0, Tx_pi F.2.2 rfl h1⟩
theorem ιR_o {ι : Nat → Int32} {a b : Int32} {i : Nat} (h : i < 2) : ιR ι a b i = ι i := by rw [ιR, pk_un (by omega), pk_un (by omega)]
theorem ιG_o {ι σ : Nat → Int32} {i : Nat} (h : i < 2) : ιG ι σ i = ι i := by rw [ιG, ιR_o h]
theorem ιC_o {ι σ : Nat → Int32} {i : Nat} (h : i < 2) : ιC ι σ i = ι i := by rw [ιC, ιR_o h]
theorem rpI_o {i : Nat} (h : i < 2) : ∀ n (φ ι : Nat → Int32), rpI n φ ι i = ι i
  | 0, φ, ι => rfl
  | n + 1, φ, ι => by
    rw [rpI]
    by_cases z : rsG' φ = 0
    · rw [if_pos z, rpI_o h n, ιG_o h]
    · rw [if_neg z, ιG_o h]
theorem rpX_o {μ ι : Nat → Int32} {C i : Nat} (h : i < 2) : rpX μ C ι i = ι i := by
  rw [rpX]
  by_cases z : C = 0
  · rw [if_pos z]
  · rw [if_neg z, rpI_o h]
theorem dgI_o {μ ι : Nat → Int32} {C P i : Nat} (h : i < 2) : dgI μ ι C P i = ι i := by rw [dgI, rpX_o h, ιC_o h, ιG_o h, ιR_o h]
/-- the class's method and the model's: one answer, and the relation holds behind it -/
def Pr (l : Launch) (g : Ge) (N o : Nat) (y7 : MethodName) (w7 : Cond) (d7 : Nat) (y8 : MethodName) (w8 : Cond) (d8 : Nat) (As : List Value) (σ ρ : Nat → Int32) (S P : Nat → Nat → Int32) (φ κ τ π μ kp hs tx ι : Nat → Int32) (T : Value → Prop) : Prop :=
  ∃ (r : Value) (σ' ρ' : Nat → Int32) (S' P' : Nat → Nat → Int32) (φ' κ' τ' π' μ' kp' hs' tx' ι' : Nat → Int32), T r ∧ Fr σ' ρ' S' P' τ' π' μ' hs' tx' ι' ∧ Cb l g y7 w7 d7 (.ref o :: As) N o (xL g o σ ρ S P φ κ τ π) (some r) (xL g o σ' ρ' S' P' φ' κ' τ' π') ∧ Cb l g y8 w8 d8 (.ref (o + 179) :: As) N (o + 179) (mdL g (o + 179) μ kp hs tx ι) (some r) (mdL g (o + 179) μ' kp' hs' tx' ι')
def isI (v : Value) : Prop := ∃ x : Int32, v = .int x
def isL (v : Value) : Prop := ∃ x : Int64, v = .long x
theorem Pr_mk {l : Launch} {g : Ge} {N o : Nat} {y7 : MethodName} {w7 : Cond} {d7 : Nat} {y8 : MethodName} {w8 : Cond} {d8 : Nat} {As : List Value} {σ ρ : Nat → Int32} {S P : Nat → Nat → Int32} {φ κ τ π μ kp hs tx ι : Nat → Int32} {T : Value → Prop} {r r' : Value} {σ' ρ' : Nat → Int32} {S' P' : Nat → Nat → Int32} {φ' κ' τ' π' μ' kp' hs' tx' ι' : Nat → Int32} (c7 : Cb l g y7 w7 d7 (.ref o :: As) N o (xL g o σ ρ S P φ κ τ π) (some r) (xL g o σ' ρ' S' P' φ' κ' τ' π')) (c8 : Cb l g y8 w8 d8 (.ref (o + 179) :: As) N (o + 179) (mdL g (o + 179) μ kp hs tx ι) (some r') (mdL g (o + 179) μ' kp' hs' tx' ι')) (e : r = r') (hT : T r) (F : Fr σ' ρ' S' P' τ' π' μ' hs' tx' ι') : Pr l g N o y7 w7 d7 y8 w8 d8 As σ ρ S P φ κ τ π μ kp hs tx ι T := by
  subst e
  exact ⟨r, σ', ρ', S', P', φ', κ', τ', π', μ', kp', hs', tx', ι', hT, F, c7, c8⟩
theorem ite_e {E E' a b : Int32} (h : E = E') (h2 : E = 0 → a = b) : Value.int (if E = 0 then a else E) = Value.int (if E' = 0 then b else E') := by
  subst h
  by_cases z : E = 0
  · rw [if_pos z, if_pos z, h2 z]
  · rw [if_neg z, if_neg z]
theorem pr_putIn (l : Launch) (g : Ge) (N o : Nat) (σ ρ : Nat → Int32) (S P : Nat → Nat → Int32) (φ κ τ π μ kp hs tx ι : Nat → Int32) (F : Fr σ ρ S P τ π μ hs tx ι) (v a b : Int32) : Pr l g N o yX7_putIn (.code yX7_putIn cX7_putIn 5 (some .int)) 6 yX8_putIn (.code yX8_putIn cX8_putIn 4 (some .int)) 4 [.int v, .int a, .int b] σ ρ S P φ κ τ π μ kp hs tx ι isI := by
  obtain ⟨hR, ⟨q, n, ⟨hq, hq6⟩, ⟨hn, hn6⟩, hi, hsv⟩, hT⟩ := id F
  obtain ⟨len, hlen, hlen80, hl1, htx⟩ := id hT
  obtain ⟨C, P0, R, lt, B, g9, hA, ⟨h7, hR20⟩, ⟨hlt, hlt20⟩, hW, ⟨h8, hBR⟩, hCh, hU, hY⟩ := id hR
  have hC16 := g9.2.2.2
  have hg : EqG C σ μ := eA_g hA
  have g8 : GC C P0 μ := GC_g hg g9
  have hA56 : ∀ i, i < 56 → σ i = μ i := fun i hi => hA i (by omega)
  have hYN := YB_n hY
  have h7μ : μ 7 = nI R := (hA 7 (by omega)).symm.trans h7
  have h8μ : μ 8 = nI B := (hA 8 (by omega)).symm.trans h8
  exact Pr_mk (c_X7_putIn l g N o σ ρ S P φ κ τ π q n hq hq6 hn hn6 v a b) (c_X8_putIn l g N (o + 179) μ kp hs tx ι n v a b hU hi hn6) (ite_e (op_putIn hR).1 (fun z => ((op_putIn hR).2 z).1)) ⟨_, rfl⟩ (Fr_ch hR hq hq6 hn hn6 hi hsv hT (op_putIn hR).1 (fun z => ((op_putIn hR).2 z).2))
theorem pr_takeOut (l : Launch) (g : Ge) (N o : Nat) (σ ρ : Nat → Int32) (S P : Nat → Nat → Int32) (φ κ τ π μ kp hs tx ι : Nat → Int32) (F : Fr σ ρ S P τ π μ hs tx ι) (v : Int32) : Pr l g N o yX7_takeOut (.code yX7_takeOut cX7_takeOut 4 (some .int)) 6 yX8_takeOut (.code yX8_takeOut cX8_takeOut 3 (some .int)) 4 [.int v] σ ρ S P φ κ τ π μ kp hs tx ι isI := by
  obtain ⟨hR, ⟨q, n, ⟨hq, hq6⟩, ⟨hn, hn6⟩, hi, hsv⟩, hT⟩ := id F
  obtain ⟨len, hlen, hlen80, hl1, htx⟩ := id hT
  obtain ⟨C, P0, R, lt, B, g9, hA, ⟨h7, hR20⟩, ⟨hlt, hlt20⟩, hW, ⟨h8, hBR⟩, hCh, hU, hY⟩ := id hR
  have hC16 := g9.2.2.2
  have hg : EqG C σ μ := eA_g hA
  have g8 : GC C P0 μ := GC_g hg g9
  have hA56 : ∀ i, i < 56 → σ i = μ i := fun i hi => hA i (by omega)
  have hYN := YB_n hY
  have h7μ : μ 7 = nI R := (hA 7 (by omega)).symm.trans h7
  have h8μ : μ 8 = nI B := (hA 8 (by omega)).symm.trans h8
  exact Pr_mk (c_X7_takeOut l g N o σ ρ S P φ κ τ π q n hq hq6 hn hn6 v) (c_X8_takeOut l g N (o + 179) μ kp hs tx ι n v hi hn6) (ite_e (op_takeOut hR).1 (fun z => ((op_takeOut hR).2 z).1)) ⟨_, rfl⟩ (Fr_ch hR hq hq6 hn hn6 hi hsv hT (op_takeOut hR).1 (fun z => ((op_takeOut hR).2 z).2))
theorem pr_wind (l : Launch) (g : Ge) (N o : Nat) (σ ρ : Nat → Int32) (S P : Nat → Nat → Int32) (φ κ τ π μ kp hs tx ι : Nat → Int32) (F : Fr σ ρ S P τ π μ hs tx ι) (v a b : Int32) : Pr l g N o yX7_wind (.code yX7_wind cX7_wind 6 (some .int)) 6 yX8_wind (.code yX8_wind cX8_wind 5 (some .int)) 4 [.int v, .int a, .int b] σ ρ S P φ κ τ π μ kp hs tx ι isI := by
  obtain ⟨hR, ⟨q, n, ⟨hq, hq6⟩, ⟨hn, hn6⟩, hi, hsv⟩, hT⟩ := id F
  obtain ⟨len, hlen, hlen80, hl1, htx⟩ := id hT
  obtain ⟨C, P0, R, lt, B, g9, hA, ⟨h7, hR20⟩, ⟨hlt, hlt20⟩, hW, ⟨h8, hBR⟩, hCh, hU, hY⟩ := id hR
  have hC16 := g9.2.2.2
  have hg : EqG C σ μ := eA_g hA
  have g8 : GC C P0 μ := GC_g hg g9
  have hA56 : ∀ i, i < 56 → σ i = μ i := fun i hi => hA i (by omega)
  have hYN := YB_n hY
  have h7μ : μ 7 = nI R := (hA 7 (by omega)).symm.trans h7
  have h8μ : μ 8 = nI B := (hA 8 (by omega)).symm.trans h8
  exact Pr_mk (c_X7_wind l g N o σ ρ S P φ κ τ π q n hq hq6 hn hn6 v a b) (c_X8_wind l g N (o + 179) μ kp hs tx ι n v a b hi hn6) (ite_e (op_wind hR).1 (fun z => ((op_wind hR).2 z).1)) ⟨_, rfl⟩ (Fr_ch hR hq hq6 hn hn6 hi hsv hT (op_wind hR).1 (fun z => ((op_wind hR).2 z).2))
theorem pr_moveBoxes (l : Launch) (g : Ge) (N o : Nat) (σ ρ : Nat → Int32) (S P : Nat → Nat → Int32) (φ κ τ π μ kp hs tx ι : Nat → Int32) (F : Fr σ ρ S P τ π μ hs tx ι) (a b : Int32) : Pr l g N o yX7_moveBoxes (.code yX7_moveBoxes cX7_moveBoxes 4 (some .int)) 6 yX8_moveBoxes (.code yX8_moveBoxes cX8_moveBoxes 3 (some .int)) 4 [.int a, .int b] σ ρ S P φ κ τ π μ kp hs tx ι isI := by
  obtain ⟨hR, ⟨q, n, ⟨hq, hq6⟩, ⟨hn, hn6⟩, hi, hsv⟩, hT⟩ := id F
  obtain ⟨len, hlen, hlen80, hl1, htx⟩ := id hT
  obtain ⟨C, P0, R, lt, B, g9, hA, ⟨h7, hR20⟩, ⟨hlt, hlt20⟩, hW, ⟨h8, hBR⟩, hCh, hU, hY⟩ := id hR
  have hC16 := g9.2.2.2
  have hg : EqG C σ μ := eA_g hA
  have g8 : GC C P0 μ := GC_g hg g9
  have hA56 : ∀ i, i < 56 → σ i = μ i := fun i hi => hA i (by omega)
  have hYN := YB_n hY
  have h7μ : μ 7 = nI R := (hA 7 (by omega)).symm.trans h7
  have h8μ : μ 8 = nI B := (hA 8 (by omega)).symm.trans h8
  exact Pr_mk (c_X7_moveBoxes l g N o σ ρ S P φ κ τ π q n hq hq6 hn hn6 a b) (c_X8_moveBoxes l g N (o + 179) μ kp hs tx ι n a b hi hn6) (ite_e rfl (fun z => (op_moveBoxes (b := b) hR z).1)) ⟨_, rfl⟩ (Fr_ch hR hq hq6 hn hn6 hi hsv hT rfl (fun z => (op_moveBoxes hR z).2))
theorem pr_draw (l : Launch) (g : Ge) (N o : Nat) (σ ρ : Nat → Int32) (S P : Nat → Nat → Int32) (φ κ τ π μ kp hs tx ι : Nat → Int32) (F : Fr σ ρ S P τ π μ hs tx ι) (v a : Int32) : Pr l g N o yX7_draw (.code yX7_draw cX7_draw 4 (some .int)) 6 yX8_draw (.code yX8_draw cX8_draw 3 (some .int)) 4 [.int v, .int a] σ ρ S P φ κ τ π μ kp hs tx ι isI := by
  obtain ⟨hR, ⟨q, n, ⟨hq, hq6⟩, ⟨hn, hn6⟩, hi, hsv⟩, hT⟩ := id F
  obtain ⟨len, hlen, hlen80, hl1, htx⟩ := id hT
  obtain ⟨C, P0, R, lt, B, g9, hA, ⟨h7, hR20⟩, ⟨hlt, hlt20⟩, hW, ⟨h8, hBR⟩, hCh, hU, hY⟩ := id hR
  have hC16 := g9.2.2.2
  have hg : EqG C σ μ := eA_g hA
  have g8 : GC C P0 μ := GC_g hg g9
  have hA56 : ∀ i, i < 56 → σ i = μ i := fun i hi => hA i (by omega)
  have hYN := YB_n hY
  have h7μ : μ 7 = nI R := (hA 7 (by omega)).symm.trans h7
  have h8μ : μ 8 = nI B := (hA 8 (by omega)).symm.trans h8
  exact Pr_mk (c_X7_draw l g N o σ ρ S P φ κ τ π q n hq hq6 hn hn6 v a) (c_X8_draw l g N (o + 179) μ kp hs tx ι n v a hi hn6) (ite_e rfl (fun z => (op_draw hR z).1)) ⟨_, rfl⟩ (Fr_ch hR hq hq6 hn hn6 hi hsv hT rfl (fun z => (op_draw hR z).2))
theorem pr_mend (l : Launch) (g : Ge) (N o : Nat) (σ ρ : Nat → Int32) (S P : Nat → Nat → Int32) (φ κ τ π μ kp hs tx ι : Nat → Int32) (F : Fr σ ρ S P τ π μ hs tx ι) (v a : Int32) : Pr l g N o yX7_mend (.code yX7_mend cX7_mend 4 (some .int)) 6 yX8_mend (.code yX8_mend cX8_mend 3 (some .int)) 4 [.int v, .int a] σ ρ S P φ κ τ π μ kp hs tx ι isI := by
  obtain ⟨hR, ⟨q, n, ⟨hq, hq6⟩, ⟨hn, hn6⟩, hi, hsv⟩, hT⟩ := id F
  obtain ⟨len, hlen, hlen80, hl1, htx⟩ := id hT
  obtain ⟨C, P0, R, lt, B, g9, hA, ⟨h7, hR20⟩, ⟨hlt, hlt20⟩, hW, ⟨h8, hBR⟩, hCh, hU, hY⟩ := id hR
  have hC16 := g9.2.2.2
  have hg : EqG C σ μ := eA_g hA
  have g8 : GC C P0 μ := GC_g hg g9
  have hA56 : ∀ i, i < 56 → σ i = μ i := fun i hi => hA i (by omega)
  have hYN := YB_n hY
  have h7μ : μ 7 = nI R := (hA 7 (by omega)).symm.trans h7
  have h8μ : μ 8 = nI B := (hA 8 (by omega)).symm.trans h8
  exact Pr_mk (c_X7_mend l g N o σ ρ S P φ κ τ π q n hq hq6 hn hn6 v a) (c_X8_mend l g N (o + 179) μ kp hs tx ι n v a hi hn6) (ite_e rfl (fun z => (op_mend hR z).1)) ⟨_, rfl⟩ (Fr_ch hR hq hq6 hn hn6 hi hsv hT rfl (fun z => (op_mend hR z).2))
theorem pr_setSpeed (l : Launch) (g : Ge) (N o : Nat) (σ ρ : Nat → Int32) (S P : Nat → Nat → Int32) (φ κ τ π μ kp hs tx ι : Nat → Int32) (F : Fr σ ρ S P τ π μ hs tx ι) (v : Int32) : Pr l g N o yX7_setSpeed (.code yX7_setSpeed cX7_setSpeed 3 (some .int)) 6 yX8_setSpeed (.code yX8_setSpeed cX8_setSpeed 2 (some .int)) 4 [.int v] σ ρ S P φ κ τ π μ kp hs tx ι isI := by
  obtain ⟨hR, ⟨q, n, ⟨hq, hq6⟩, ⟨hn, hn6⟩, hi, hsv⟩, hT⟩ := id F
  obtain ⟨len, hlen, hlen80, hl1, htx⟩ := id hT
  obtain ⟨C, P0, R, lt, B, g9, hA, ⟨h7, hR20⟩, ⟨hlt, hlt20⟩, hW, ⟨h8, hBR⟩, hCh, hU, hY⟩ := id hR
  have hC16 := g9.2.2.2
  have hg : EqG C σ μ := eA_g hA
  have g8 : GC C P0 μ := GC_g hg g9
  have hA56 : ∀ i, i < 56 → σ i = μ i := fun i hi => hA i (by omega)
  have hYN := YB_n hY
  have h7μ : μ 7 = nI R := (hA 7 (by omega)).symm.trans h7
  have h8μ : μ 8 = nI B := (hA 8 (by omega)).symm.trans h8
  exact Pr_mk (c_X7_setSpeed l g N o σ ρ S P φ κ τ π q n hq hq6 hn hn6 v) (c_X8_setSpeed l g N (o + 179) μ kp hs tx ι n v hi hn6) (ite_e rfl (fun z => (op_setSpeed (v := v) hR).1)) ⟨_, rfl⟩ (Fr_ch hR hq hq6 hn hn6 hi hsv hT rfl (fun z => (op_setSpeed hR).2))
theorem pr_addCard (l : Launch) (g : Ge) (N o : Nat) (σ ρ : Nat → Int32) (S P : Nat → Nat → Int32) (φ κ τ π μ kp hs tx ι : Nat → Int32) (F : Fr σ ρ S P τ π μ hs tx ι) (v a b : Int32) : Pr l g N o yX7_addCard (.code yX7_addCard cX7_addCard 5 (some .int)) 6 yX8_addCard (.code yX8_addCard cX8_addCard 4 (some .int)) 4 [.int v, .int a, .int b] σ ρ S P φ κ τ π μ kp hs tx ι isI := by
  obtain ⟨hR, ⟨q, n, ⟨hq, hq6⟩, ⟨hn, hn6⟩, hi, hsv⟩, hT⟩ := id F
  obtain ⟨len, hlen, hlen80, hl1, htx⟩ := id hT
  obtain ⟨C, P0, R, lt, B, g9, hA, ⟨h7, hR20⟩, ⟨hlt, hlt20⟩, hW, ⟨h8, hBR⟩, hCh, hU, hY⟩ := id hR
  have hC16 := g9.2.2.2
  have hg : EqG C σ μ := eA_g hA
  have g8 : GC C P0 μ := GC_g hg g9
  have hA56 : ∀ i, i < 56 → σ i = μ i := fun i hi => hA i (by omega)
  have hYN := YB_n hY
  have h7μ : μ 7 = nI R := (hA 7 (by omega)).symm.trans h7
  have h8μ : μ 8 = nI B := (hA 8 (by omega)).symm.trans h8
  exact Pr_mk (c_X7_addCard l g N o σ ρ S P φ κ τ π q n hq hq6 hn hn6 v a b C g9.1 hC16) (c_X8_addCard l g N (o + 179) μ kp hs tx ι n v a b C g8.1 hC16 hi hn6) (ite_e rfl (fun z => (op_addCard hR g9.1 hC16 z).1)) ⟨_, rfl⟩ (Fr_ch hR hq hq6 hn hn6 hi hsv hT rfl (fun z => (op_addCard hR g9.1 hC16 z).2))
theorem pr_removeCard (l : Launch) (g : Ge) (N o : Nat) (σ ρ : Nat → Int32) (S P : Nat → Nat → Int32) (φ κ τ π μ kp hs tx ι : Nat → Int32) (F : Fr σ ρ S P τ π μ hs tx ι) (v : Int32) : Pr l g N o yX7_removeCard (.code yX7_removeCard cX7_removeCard 3 (some .int)) 6 yX8_removeCard (.code yX8_removeCard cX8_removeCard 3 (some .int)) 3 [.int v] σ ρ S P φ κ τ π μ kp hs tx ι isI := by
  obtain ⟨hR, ⟨q, n, ⟨hq, hq6⟩, ⟨hn, hn6⟩, hi, hsv⟩, hT⟩ := id F
  obtain ⟨len, hlen, hlen80, hl1, htx⟩ := id hT
  obtain ⟨C, P0, R, lt, B, g9, hA, ⟨h7, hR20⟩, ⟨hlt, hlt20⟩, hW, ⟨h8, hBR⟩, hCh, hU, hY⟩ := id hR
  have hC16 := g9.2.2.2
  have hg : EqG C σ μ := eA_g hA
  have g8 : GC C P0 μ := GC_g hg g9
  have hA56 : ∀ i, i < 56 → σ i = μ i := fun i hi => hA i (by omega)
  have hYN := YB_n hY
  have h7μ : μ 7 = nI R := (hA 7 (by omega)).symm.trans h7
  have h8μ : μ 8 = nI B := (hA 8 (by omega)).symm.trans h8
  exact Pr_mk (c_X7_removeCard l g N o σ ρ S P φ κ τ π q n hq hq6 hn hn6 v C P0 g9.1 g9.2.1 g9.2.2.1 hC16) (c_X8_removeCard l g N (o + 179) μ kp hs tx ι n v C P0 g8.1 g8.2.1 g8.2.2.1 hC16 hi hn6) (ite_e (rcE_m (hA 0 (by omega))) (fun z => (op_removeCard hR g9 z).1)) ⟨_, rfl⟩ (Fr_ch hR hq hq6 hn hn6 hi hsv hT (rcE_m (hA 0 (by omega))) (fun z => (op_removeCard hR g9 z).2))
theorem pr_turnTo (l : Launch) (g : Ge) (N o : Nat) (σ ρ : Nat → Int32) (S P : Nat → Nat → Int32) (φ κ τ π μ kp hs tx ι : Nat → Int32) (F : Fr σ ρ S P τ π μ hs tx ι) (v : Int32) : Pr l g N o yX7_turnTo (.code yX7_turnTo cX7_turnTo 4 (some .int)) 6 yX8_turnTo (.code yX8_turnTo cX8_turnTo 2 (some .int)) 4 [.int v] σ ρ S P φ κ τ π μ kp hs tx ι isI := by
  obtain ⟨hR, ⟨q, n, ⟨hq, hq6⟩, ⟨hn, hn6⟩, hi, hsv⟩, hT⟩ := id F
  obtain ⟨len, hlen, hlen80, hl1, htx⟩ := id hT
  obtain ⟨C, P0, R, lt, B, g9, hA, ⟨h7, hR20⟩, ⟨hlt, hlt20⟩, hW, ⟨h8, hBR⟩, hCh, hU, hY⟩ := id hR
  have hC16 := g9.2.2.2
  have hg : EqG C σ μ := eA_g hA
  have g8 : GC C P0 μ := GC_g hg g9
  have hA56 : ∀ i, i < 56 → σ i = μ i := fun i hi => hA i (by omega)
  have hYN := YB_n hY
  have h7μ : μ 7 = nI R := (hA 7 (by omega)).symm.trans h7
  have h8μ : μ 8 = nI B := (hA 8 (by omega)).symm.trans h8
  exact Pr_mk (c_X7_turnTo l g N o σ ρ S P φ κ τ π q n hq hq6 hn hn6 v) (c_X8_turnTo l g N (o + 179) μ kp hs tx ι n v C g8.1 hC16 hi hn6) (ite_e (rcE_m (hA 0 (by omega))) (fun z => (op_turnTo hR z).1)) ⟨_, rfl⟩ (Fr_ch hR hq hq6 hn hn6 hi hsv hT (rcE_m (hA 0 (by omega))) (fun z => (op_turnTo hR z).2))
theorem pr_weave (l : Launch) (g : Ge) (N o : Nat) (σ ρ : Nat → Int32) (S P : Nat → Nat → Int32) (φ κ τ π μ kp hs tx ι : Nat → Int32) (F : Fr σ ρ S P τ π μ hs tx ι) (v : Int32) : Pr l g N o yX7_weave (.code yX7_weave cX7_weave 4 (some .int)) 6 yX8_weave (.code yX8_weave cX8_weave 3 (some .int)) 3 [.int v] σ ρ S P φ κ τ π μ kp hs tx ι isI := by
  obtain ⟨hR, ⟨q, n, ⟨hq, hq6⟩, ⟨hn, hn6⟩, hi, hsv⟩, hT⟩ := id F
  obtain ⟨len, hlen, hlen80, hl1, htx⟩ := id hT
  obtain ⟨C, P0, R, lt, B, g9, hA, ⟨h7, hR20⟩, ⟨hlt, hlt20⟩, hW, ⟨h8, hBR⟩, hCh, hU, hY⟩ := id hR
  have hC16 := g9.2.2.2
  have hg : EqG C σ μ := eA_g hA
  have g8 : GC C P0 μ := GC_g hg g9
  have hA56 : ∀ i, i < 56 → σ i = μ i := fun i hi => hA i (by omega)
  have hYN := YB_n hY
  have h7μ : μ 7 = nI R := (hA 7 (by omega)).symm.trans h7
  have h8μ : μ 8 = nI B := (hA 8 (by omega)).symm.trans h8
  exact Pr_mk (c_X7_weave l g N o σ ρ S P φ κ τ π q n hq hq6 hn hn6 v ⟨GC_gv g9, ⟨R, h7, hR20⟩, lt, hlt, hlt20⟩) (c_X8_weave l g N (o + 179) μ kp hs tx ι n v hi hn6 (GC_gv g8) hU hYN) (ite_e rfl (fun z => (Rl_weave (nt v) 0 σ ρ μ hR).1)) ⟨_, rfl⟩ (Fr_ch2 hR hq hq6 hn hn6 hi hsv hT rfl (fun z => (Rl_weave (nt v) 0 σ ρ μ hR).2) (ιG_o (by omega)) ((ιG_o (by omega)).trans rcI_1))
theorem pr_takeBack (l : Launch) (g : Ge) (N o : Nat) (σ ρ : Nat → Int32) (S P : Nat → Nat → Int32) (φ κ τ π μ kp hs tx ι : Nat → Int32) (F : Fr σ ρ S P τ π μ hs tx ι) : Pr l g N o yX7_takeBack (.code yX7_takeBack cX7_takeBack 1 (some .int)) 6 yX8_takeBack (.code yX8_takeBack cX8_takeBack 3 (some .int)) 3 [] σ ρ S P φ κ τ π μ kp hs tx ι isI := by
  obtain ⟨hR, ⟨q, n, ⟨hq, hq6⟩, ⟨hn, hn6⟩, hi, hsv⟩, hT⟩ := id F
  obtain ⟨len, hlen, hlen80, hl1, htx⟩ := id hT
  obtain ⟨C, P0, R, lt, B, g9, hA, ⟨h7, hR20⟩, ⟨hlt, hlt20⟩, hW, ⟨h8, hBR⟩, hCh, hU, hY⟩ := id hR
  have hC16 := g9.2.2.2
  have hg : EqG C σ μ := eA_g hA
  have g8 : GC C P0 μ := GC_g hg g9
  have hA56 : ∀ i, i < 56 → σ i = μ i := fun i hi => hA i (by omega)
  have hYN := YB_n hY
  have h7μ : μ 7 = nI R := (hA 7 (by omega)).symm.trans h7
  have h8μ : μ 8 = nI B := (hA 8 (by omega)).symm.trans h8
  obtain ⟨k, hk, hfl, hfm⟩ := bk_k hlt20 hW hBR hCh
  have hbk : tbE B = 0 → ltS σ ρ lt k 1 = tb11 μ k 1 ∧ Rl (ltS σ ρ lt k) (upd ρ 140 (nI ((lt + 19) % 20))) (tb11 μ k) := by
    intro z
    rw [tbE] at z
    obtain ⟨c1, -⟩ := ch2 z (by decide)
    exact op_back g9 hA h7 hR20 hlt hlt20 hW h8 hBR hCh (by omega) hk (hfm (by omega))
  exact Pr_mk (c_X7_takeBack l g N o σ ρ S P φ κ τ π q n hq hq6 hn hn6 B k lt h8 (by omega) hk hfl hlt hlt20) (c_X8_takeBack l g N (o + 179) μ kp hs tx ι n B k hi hn6 h8μ (by omega) hk hfm) (ite_e rfl (fun z => (hbk z).1)) ⟨_, rfl⟩ (Fr_ch2 hR hq hq6 hn hn6 hi hsv hT rfl (fun z => (hbk z).2) rfl rcI_1)
theorem pr_count (l : Launch) (g : Ge) (N o : Nat) (σ ρ : Nat → Int32) (S P : Nat → Nat → Int32) (φ κ τ π μ kp hs tx ι : Nat → Int32) (F : Fr σ ρ S P τ π μ hs tx ι) (v : Int32) : Pr l g N o yX7_count (.code yX7_count cX7_count 3 (some .int)) 1 yX8_count (.code yX8_count cX8_count 2 (some .int)) 1 [.int v] σ ρ S P φ κ τ π μ kp hs tx ι isI := by
  obtain ⟨hR, ⟨q, n, ⟨hq, hq6⟩, ⟨hn, hn6⟩, hi, hsv⟩, hT⟩ := id F
  obtain ⟨len, hlen, hlen80, hl1, htx⟩ := id hT
  obtain ⟨C, P0, R, lt, B, g9, hA, ⟨h7, hR20⟩, ⟨hlt, hlt20⟩, hW, ⟨h8, hBR⟩, hCh, hU, hY⟩ := id hR
  have hC16 := g9.2.2.2
  have hg : EqG C σ μ := eA_g hA
  have g8 : GC C P0 μ := GC_g hg g9
  have hA56 : ∀ i, i < 56 → σ i = μ i := fun i hi => hA i (by omega)
  have hYN := YB_n hY
  have h7μ : μ 7 = nI R := (hA 7 (by omega)).symm.trans h7
  have h8μ : μ 8 = nI B := (hA 8 (by omega)).symm.trans h8
  exact Pr_mk (c_X7_count l g N o σ ρ S P φ κ τ π v) (c_X8_count l g N (o + 179) μ kp hs tx ι v) (congrArg Value.int (cnF_m hA56)) ⟨_, rfl⟩ F
theorem pr_shuttle (l : Launch) (g : Ge) (N o : Nat) (σ ρ : Nat → Int32) (S P : Nat → Nat → Int32) (φ κ τ π μ kp hs tx ι : Nat → Int32) (F : Fr σ ρ S P τ π μ hs tx ι) (v w : Int32) : Pr l g N o yX7_shuttle (.code yX7_shuttle cX7_shuttle 4 (some .int)) 2 yX8_shuttle (.code yX8_shuttle cX8_shuttle 3 (some .int)) 2 [.int v, .int w] σ ρ S P φ κ τ π μ kp hs tx ι isI := by
  obtain ⟨hR, ⟨q, n, ⟨hq, hq6⟩, ⟨hn, hn6⟩, hi, hsv⟩, hT⟩ := id F
  obtain ⟨len, hlen, hlen80, hl1, htx⟩ := id hT
  obtain ⟨C, P0, R, lt, B, g9, hA, ⟨h7, hR20⟩, ⟨hlt, hlt20⟩, hW, ⟨h8, hBR⟩, hCh, hU, hY⟩ := id hR
  have hC16 := g9.2.2.2
  have hg : EqG C σ μ := eA_g hA
  have g8 : GC C P0 μ := GC_g hg g9
  have hA56 : ∀ i, i < 56 → σ i = μ i := fun i hi => hA i (by omega)
  have hYN := YB_n hY
  have h7μ : μ 7 = nI R := (hA 7 (by omega)).symm.trans h7
  have h8μ : μ 8 = nI B := (hA 8 (by omega)).symm.trans h8
  exact Pr_mk (c_X7_shuttle l g N o σ ρ S P φ κ τ π v w) (c_X8_shuttle l g N (o + 179) μ kp hs tx ι v w) (congrArg Value.int (shF_m hA56)) ⟨_, rfl⟩ F
theorem pr_inBox (l : Launch) (g : Ge) (N o : Nat) (σ ρ : Nat → Int32) (S P : Nat → Nat → Int32) (φ κ τ π μ kp hs tx ι : Nat → Int32) (F : Fr σ ρ S P τ π μ hs tx ι) (a b : Int32) : Pr l g N o yX7_inBox (.code yX7_inBox cX7_inBox 3 (some .int)) 2 yX8_inBox (.code yX8_inBox cX8_inBox 3 (some .int)) 2 [.int a, .int b] σ ρ S P φ κ τ π μ kp hs tx ι isI := by
  obtain ⟨hR, ⟨q, n, ⟨hq, hq6⟩, ⟨hn, hn6⟩, hi, hsv⟩, hT⟩ := id F
  obtain ⟨len, hlen, hlen80, hl1, htx⟩ := id hT
  obtain ⟨C, P0, R, lt, B, g9, hA, ⟨h7, hR20⟩, ⟨hlt, hlt20⟩, hW, ⟨h8, hBR⟩, hCh, hU, hY⟩ := id hR
  have hC16 := g9.2.2.2
  have hg : EqG C σ μ := eA_g hA
  have g8 : GC C P0 μ := GC_g hg g9
  have hA56 : ∀ i, i < 56 → σ i = μ i := fun i hi => hA i (by omega)
  have hYN := YB_n hY
  have h7μ : μ 7 = nI R := (hA 7 (by omega)).symm.trans h7
  have h8μ : μ 8 = nI B := (hA 8 (by omega)).symm.trans h8
  exact Pr_mk (c_X7_inBox l g N o σ ρ S P φ κ τ π a b) (c_X8_inBox l g N (o + 179) μ kp hs tx ι a b hU) (congrArg Value.int (ibF_m hg)) ⟨_, rfl⟩ F
theorem pr_thread (l : Launch) (g : Ge) (N o : Nat) (σ ρ : Nat → Int32) (S P : Nat → Nat → Int32) (φ κ τ π μ kp hs tx ι : Nat → Int32) (F : Fr σ ρ S P τ π μ hs tx ι) (v w : Int32) : Pr l g N o yX7_thread (.code yX7_thread cX7_thread 4 (some .int)) 2 yX8_thread (.code yX8_thread cX8_thread 3 (some .int)) 2 [.int v, .int w] σ ρ S P φ κ τ π μ kp hs tx ι isI := by
  obtain ⟨hR, ⟨q, n, ⟨hq, hq6⟩, ⟨hn, hn6⟩, hi, hsv⟩, hT⟩ := id F
  obtain ⟨len, hlen, hlen80, hl1, htx⟩ := id hT
  obtain ⟨C, P0, R, lt, B, g9, hA, ⟨h7, hR20⟩, ⟨hlt, hlt20⟩, hW, ⟨h8, hBR⟩, hCh, hU, hY⟩ := id hR
  have hC16 := g9.2.2.2
  have hg : EqG C σ μ := eA_g hA
  have g8 : GC C P0 μ := GC_g hg g9
  have hA56 : ∀ i, i < 56 → σ i = μ i := fun i hi => hA i (by omega)
  have hYN := YB_n hY
  have h7μ : μ 7 = nI R := (hA 7 (by omega)).symm.trans h7
  have h8μ : μ 8 = nI B := (hA 8 (by omega)).symm.trans h8
  exact Pr_mk (c_X7_thread l g N o σ ρ S P φ κ τ π v w) (c_X8_thread l g N (o + 179) μ kp hs tx ι v w) (congrArg Value.int (thF_m hA56)) ⟨_, rfl⟩ F
theorem pr_card (l : Launch) (g : Ge) (N o : Nat) (σ ρ : Nat → Int32) (S P : Nat → Nat → Int32) (φ κ τ π μ kp hs tx ι : Nat → Int32) (F : Fr σ ρ S P τ π μ hs tx ι) (v w : Int32) : Pr l g N o yX7_card (.code yX7_card cX7_card 4 (some .int)) 2 yX8_card (.code yX8_card cX8_card 3 (some .int)) 3 [.int v, .int w] σ ρ S P φ κ τ π μ kp hs tx ι isI := by
  obtain ⟨hR, ⟨q, n, ⟨hq, hq6⟩, ⟨hn, hn6⟩, hi, hsv⟩, hT⟩ := id F
  obtain ⟨len, hlen, hlen80, hl1, htx⟩ := id hT
  obtain ⟨C, P0, R, lt, B, g9, hA, ⟨h7, hR20⟩, ⟨hlt, hlt20⟩, hW, ⟨h8, hBR⟩, hCh, hU, hY⟩ := id hR
  have hC16 := g9.2.2.2
  have hg : EqG C σ μ := eA_g hA
  have g8 : GC C P0 μ := GC_g hg g9
  have hA56 : ∀ i, i < 56 → σ i = μ i := fun i hi => hA i (by omega)
  have hYN := YB_n hY
  have h7μ : μ 7 = nI R := (hA 7 (by omega)).symm.trans h7
  have h8μ : μ 8 = nI B := (hA 8 (by omega)).symm.trans h8
  exact Pr_mk (c_X7_card l g N o σ ρ S P φ κ τ π v w C g9.1 hC16) (c_X8_card l g N (o + 179) μ kp hs tx ι v w C g8.1 hC16) (congrArg Value.int (cdF_m hA g9.1 hC16)) ⟨_, rfl⟩ F
theorem pr_cloth (l : Launch) (g : Ge) (N o : Nat) (σ ρ : Nat → Int32) (S P : Nat → Nat → Int32) (φ κ τ π μ kp hs tx ι : Nat → Int32) (F : Fr σ ρ S P τ π μ hs tx ι) (v t : Int32) : Pr l g N o yX7_cloth (.code yX7_cloth cX7_cloth 3 (some .int)) 3 yX8_cloth (.code yX8_cloth cX8_cloth 3 (some .int)) 2 [.int v, .int t] σ ρ S P φ κ τ π μ kp hs tx ι isI := by
  obtain ⟨hR, ⟨q, n, ⟨hq, hq6⟩, ⟨hn, hn6⟩, hi, hsv⟩, hT⟩ := id F
  obtain ⟨len, hlen, hlen80, hl1, htx⟩ := id hT
  obtain ⟨C, P0, R, lt, B, g9, hA, ⟨h7, hR20⟩, ⟨hlt, hlt20⟩, hW, ⟨h8, hBR⟩, hCh, hU, hY⟩ := id hR
  have hC16 := g9.2.2.2
  have hg : EqG C σ μ := eA_g hA
  have g8 : GC C P0 μ := GC_g hg g9
  have hA56 : ∀ i, i < 56 → σ i = μ i := fun i hi => hA i (by omega)
  have hYN := YB_n hY
  have h7μ : μ 7 = nI R := (hA 7 (by omega)).symm.trans h7
  have h8μ : μ 8 = nI B := (hA 8 (by omega)).symm.trans h8
  exact Pr_mk (c_X7_cloth l g N o σ ρ S P φ κ τ π v t R lt h7 hR20 hlt hlt20) (c_X8_cloth l g N (o + 179) μ kp hs tx ι v t R h7μ hR20) (congrArg Value.int (clF_m h7 h7μ hR20 hW)) ⟨_, rfl⟩ F
theorem pr_longestFloat (l : Launch) (g : Ge) (N o : Nat) (σ ρ : Nat → Int32) (S P : Nat → Nat → Int32) (φ κ τ π μ kp hs tx ι : Nat → Int32) (F : Fr σ ρ S P τ π μ hs tx ι) (t : Int32) : Pr l g N o yX7_longestFloat (.code yX7_longestFloat cX7_longestFloat 2 (some .int)) 4 yX8_longestFloat (.code yX8_longestFloat cX8_longestFloat 2 (some .int)) 2 [.int t] σ ρ S P φ κ τ π μ kp hs tx ι isI := by
  obtain ⟨hR, ⟨q, n, ⟨hq, hq6⟩, ⟨hn, hn6⟩, hi, hsv⟩, hT⟩ := id F
  obtain ⟨len, hlen, hlen80, hl1, htx⟩ := id hT
  obtain ⟨C, P0, R, lt, B, g9, hA, ⟨h7, hR20⟩, ⟨hlt, hlt20⟩, hW, ⟨h8, hBR⟩, hCh, hU, hY⟩ := id hR
  have hC16 := g9.2.2.2
  have hg : EqG C σ μ := eA_g hA
  have g8 : GC C P0 μ := GC_g hg g9
  have hA56 : ∀ i, i < 56 → σ i = μ i := fun i hi => hA i (by omega)
  have hYN := YB_n hY
  have h7μ : μ 7 = nI R := (hA 7 (by omega)).symm.trans h7
  have h8μ : μ 8 = nI B := (hA 8 (by omega)).symm.trans h8
  exact Pr_mk (c_X7_longestFloat l g N o σ ρ S P φ κ τ π t R lt h7 hR20 hlt hlt20) (c_X8_longestFloat l g N (o + 179) μ kp hs tx ι t R h7μ hR20) (congrArg Value.int (lgF_m hW)) ⟨_, rfl⟩ F
theorem pr_whyNot (l : Launch) (g : Ge) (N o : Nat) (σ ρ : Nat → Int32) (S P : Nat → Nat → Int32) (φ κ τ π μ kp hs tx ι : Nat → Int32) (F : Fr σ ρ S P τ π μ hs tx ι) : Pr l g N o yX7_whyNot (.code yX7_whyNot cX7_whyNot 1 (some .int)) 5 yX8_whyNot (.code yX8_whyNot cX8_whyNot 1 (some .int)) 4 [] σ ρ S P φ κ τ π μ kp hs tx ι isI := by
  obtain ⟨hR, ⟨q, n, ⟨hq, hq6⟩, ⟨hn, hn6⟩, hi, hsv⟩, hT⟩ := id F
  obtain ⟨len, hlen, hlen80, hl1, htx⟩ := id hT
  obtain ⟨C, P0, R, lt, B, g9, hA, ⟨h7, hR20⟩, ⟨hlt, hlt20⟩, hW, ⟨h8, hBR⟩, hCh, hU, hY⟩ := id hR
  have hC16 := g9.2.2.2
  have hg : EqG C σ μ := eA_g hA
  have g8 : GC C P0 μ := GC_g hg g9
  have hA56 : ∀ i, i < 56 → σ i = μ i := fun i hi => hA i (by omega)
  have hYN := YB_n hY
  have h7μ : μ 7 = nI R := (hA 7 (by omega)).symm.trans h7
  have h8μ : μ 8 = nI B := (hA 8 (by omega)).symm.trans h8
  exact Pr_mk (c_X7_whyNot l g N o σ ρ S P φ κ τ π C P0 g9.1 g9.2.1 g9.2.2.1 hC16) (c_X8_whyNot l g N (o + 179) μ kp hs tx ι C P0 g8.1 g8.2.1 g8.2.2.1 hC16 hU hYN) (congrArg Value.int (rsG_g hg g9.2.2.1)) ⟨_, rfl⟩ (Fr_j F (ιR_o (by omega)) (ιR_o (by omega)))
theorem pr_picksLeft (l : Launch) (g : Ge) (N o : Nat) (σ ρ : Nat → Int32) (S P : Nat → Nat → Int32) (φ κ τ π μ kp hs tx ι : Nat → Int32) (F : Fr σ ρ S P τ π μ hs tx ι) : Pr l g N o yX7_picksLeft (.code yX7_picksLeft cX7_picksLeft 2 (some .int)) 5 yX8_picksLeft (.code yX8_picksLeft cX8_picksLeft 1 (some .int)) 4 [] σ ρ S P φ κ τ π μ kp hs tx ι isI := by
  obtain ⟨hR, ⟨q, n, ⟨hq, hq6⟩, ⟨hn, hn6⟩, hi, hsv⟩, hT⟩ := id F
  obtain ⟨len, hlen, hlen80, hl1, htx⟩ := id hT
  obtain ⟨C, P0, R, lt, B, g9, hA, ⟨h7, hR20⟩, ⟨hlt, hlt20⟩, hW, ⟨h8, hBR⟩, hCh, hU, hY⟩ := id hR
  have hC16 := g9.2.2.2
  have hg : EqG C σ μ := eA_g hA
  have g8 : GC C P0 μ := GC_g hg g9
  have hA56 : ∀ i, i < 56 → σ i = μ i := fun i hi => hA i (by omega)
  have hYN := YB_n hY
  have h7μ : μ 7 = nI R := (hA 7 (by omega)).symm.trans h7
  have h8μ : μ 8 = nI B := (hA 8 (by omega)).symm.trans h8
  exact Pr_mk (c_X7_picksLeft l g N o σ ρ S P φ κ τ π (GC_gv g9)) (c_X8_picksLeft l g N (o + 179) μ kp hs tx ι (GC_gv g8) hU hYN) (congrArg Value.int (plC_g 200 0 P0 σ μ g9 hg)) ⟨_, rfl⟩ (Fr_j F (ιG_o (by omega)) (ιG_o (by omega)))
theorem pr_firstEmpty (l : Launch) (g : Ge) (N o : Nat) (σ ρ : Nat → Int32) (S P : Nat → Nat → Int32) (φ κ τ π μ kp hs tx ι : Nat → Int32) (F : Fr σ ρ S P τ π μ hs tx ι) : Pr l g N o yX7_firstEmpty (.code yX7_firstEmpty cX7_firstEmpty 3 (some .int)) 5 yX8_firstEmpty (.code yX8_firstEmpty cX8_firstEmpty 1 (some .int)) 4 [] σ ρ S P φ κ τ π μ kp hs tx ι isI := by
  obtain ⟨hR, ⟨q, n, ⟨hq, hq6⟩, ⟨hn, hn6⟩, hi, hsv⟩, hT⟩ := id F
  obtain ⟨len, hlen, hlen80, hl1, htx⟩ := id hT
  obtain ⟨C, P0, R, lt, B, g9, hA, ⟨h7, hR20⟩, ⟨hlt, hlt20⟩, hW, ⟨h8, hBR⟩, hCh, hU, hY⟩ := id hR
  have hC16 := g9.2.2.2
  have hg : EqG C σ μ := eA_g hA
  have g8 : GC C P0 μ := GC_g hg g9
  have hA56 : ∀ i, i < 56 → σ i = μ i := fun i hi => hA i (by omega)
  have hYN := YB_n hY
  have h7μ : μ 7 = nI R := (hA 7 (by omega)).symm.trans h7
  have h8μ : μ 8 = nI B := (hA 8 (by omega)).symm.trans h8
  exact Pr_mk (c_X7_firstEmpty l g N o σ ρ S P φ κ τ π (GC_gv g9)) (c_X8_firstEmpty l g N (o + 179) μ kp hs tx ι (GC_gv g8) hU hYN) (congrArg Value.int (feC_g 999 P0 σ μ g9 hg)) ⟨_, rfl⟩ (Fr_j F (ιC_o (by omega)) (ιC_o (by omega)))
theorem pr_repeats (l : Launch) (g : Ge) (N o : Nat) (σ ρ : Nat → Int32) (S P : Nat → Nat → Int32) (φ κ τ π μ kp hs tx ι : Nat → Int32) (F : Fr σ ρ S P τ π μ hs tx ι) : Pr l g N o yX7_repeats (.code yX7_repeats cX7_repeats 3 (some .int)) 5 yX8_repeats (.code yX8_repeats cX8_repeats 1 (some .int)) 4 [] σ ρ S P φ κ τ π μ kp hs tx ι isI := by
  obtain ⟨hR, ⟨q, n, ⟨hq, hq6⟩, ⟨hn, hn6⟩, hi, hsv⟩, hT⟩ := id F
  obtain ⟨len, hlen, hlen80, hl1, htx⟩ := id hT
  obtain ⟨C, P0, R, lt, B, g9, hA, ⟨h7, hR20⟩, ⟨hlt, hlt20⟩, hW, ⟨h8, hBR⟩, hCh, hU, hY⟩ := id hR
  have hC16 := g9.2.2.2
  have hg : EqG C σ μ := eA_g hA
  have g8 : GC C P0 μ := GC_g hg g9
  have hA56 : ∀ i, i < 56 → σ i = μ i := fun i hi => hA i (by omega)
  have hYN := YB_n hY
  have h7μ : μ 7 = nI R := (hA 7 (by omega)).symm.trans h7
  have h8μ : μ 8 = nI B := (hA 8 (by omega)).symm.trans h8
  exact Pr_mk (c_X7_repeats l g N o σ ρ S P φ κ τ π C g9.1 hC16) (c_X8_repeats l g N (o + 179) μ kp hs tx ι C ⟨P0, g8⟩ hU hYN) (congrArg Value.int (rp_m hg g9)) ⟨_, rfl⟩ (Fr_j F (rpX_o (by omega)) (rpX_o (by omega)))
theorem Fr_ty {σ ρ : Nat → Int32} {S P : Nat → Nat → Int32} {τ π μ hs tx ι : Nat → Int32} {v : Int32} {len : Nat} (F : Fr σ ρ S P τ π μ hs tx ι) (hlen : π 2 = nI len) (hlen80 : len ≤ 80) (hl1 : ι 1 = nI len) (htx : ∀ i, i < len → τ i = tx i ∧ (33 : Int32) ≤ tx i ∧ tx i ≤ (126 : Int32)) : Fr σ ρ S P (if tyE v len = 0 then upd τ len v else τ) (if tyE v len = 0 then upd π 2 (nI (len + 1)) else π) μ hs (if tyE v len = 0 then upd tx len v else tx) (if tyE v len = 0 then upd ι 1 (nI (len + 1)) else ι) := by
  by_cases z : tyE v len = 0
  · rw [if_pos z, if_pos z, if_pos z, if_pos z]
    rw [tyE] at z
    obtain ⟨c1, z⟩ := ch1 z (by decide)
    obtain ⟨c2, -⟩ := ch2 z (by decide)
    refine ⟨F.1, Sv_pi F.2.1 (pk_un (by omega)) (pk_un (by omega)) (pk_un (by omega)), len + 1, pk_us, by omega, pk_us, fun i hi => ?_⟩
    by_cases e : i = len
    · subst e; rw [pk_us, pk_us]; exact ⟨rfl, c1⟩
    · rw [pk_un e, pk_un e]; exact htx i (by omega)
  · rw [if_neg z, if_neg z, if_neg z, if_neg z]; exact F
theorem Fr_cl {σ ρ : Nat → Int32} {S P : Nat → Nat → Int32} {τ π μ hs tx ι : Nat → Int32} (F : Fr σ ρ S P τ π μ hs tx ι) : Fr σ ρ S P τ (upd π 2 0) μ hs tx (upd ι 1 0) := ⟨F.1, Sv_pi F.2.1 (pk_un (by omega)) (pk_un (by omega)) (pk_un (by omega)), 0, pk_us, by omega, pk_us, fun i hi => absurd hi (by omega)⟩
theorem pr_type (l : Launch) (g : Ge) (N o : Nat) (σ ρ : Nat → Int32) (S P : Nat → Nat → Int32) (φ κ τ π μ kp hs tx ι : Nat → Int32) (F : Fr σ ρ S P τ π μ hs tx ι) (v : Int32) : Pr l g N o yX7_type (.code yX7_type cX7_type 2 (some .int)) 2 yX8_type (.code yX8_type cX8_type 2 (some .int)) 1 [.int v] σ ρ S P φ κ τ π μ kp hs tx ι isI := by
  obtain ⟨hR, ⟨q, n, ⟨hq, hq6⟩, ⟨hn, hn6⟩, hi, hsv⟩, hT⟩ := id F
  obtain ⟨len, hlen, hlen80, hl1, htx⟩ := id hT
  obtain ⟨C, P0, R, lt, B, g9, hA, ⟨h7, hR20⟩, ⟨hlt, hlt20⟩, hW, ⟨h8, hBR⟩, hCh, hU, hY⟩ := id hR
  have hC16 := g9.2.2.2
  have hg : EqG C σ μ := eA_g hA
  have g8 : GC C P0 μ := GC_g hg g9
  have hA56 : ∀ i, i < 56 → σ i = μ i := fun i hi => hA i (by omega)
  have hYN := YB_n hY
  have h7μ : μ 7 = nI R := (hA 7 (by omega)).symm.trans h7
  have h8μ : μ 8 = nI B := (hA 8 (by omega)).symm.trans h8
  exact Pr_mk (c_X7_type l g N o σ ρ S P φ κ τ π v len hlen hlen80) (c_X8_type l g N (o + 179) μ kp hs tx ι v len hl1 hlen80) rfl ⟨_, rfl⟩ (Fr_ty F hlen hlen80 hl1 htx)
theorem pr_clearText (l : Launch) (g : Ge) (N o : Nat) (σ ρ : Nat → Int32) (S P : Nat → Nat → Int32) (φ κ τ π μ kp hs tx ι : Nat → Int32) (F : Fr σ ρ S P τ π μ hs tx ι) : Pr l g N o yX7_clearText (.code yX7_clearText cX7_clearText 2 (some .int)) 0 yX8_clearText (.code yX8_clearText cX8_clearText 2 (some .int)) 0 [] σ ρ S P φ κ τ π μ kp hs tx ι isI := by
  obtain ⟨hR, ⟨q, n, ⟨hq, hq6⟩, ⟨hn, hn6⟩, hi, hsv⟩, hT⟩ := id F
  obtain ⟨len, hlen, hlen80, hl1, htx⟩ := id hT
  obtain ⟨C, P0, R, lt, B, g9, hA, ⟨h7, hR20⟩, ⟨hlt, hlt20⟩, hW, ⟨h8, hBR⟩, hCh, hU, hY⟩ := id hR
  have hC16 := g9.2.2.2
  have hg : EqG C σ μ := eA_g hA
  have g8 : GC C P0 μ := GC_g hg g9
  have hA56 : ∀ i, i < 56 → σ i = μ i := fun i hi => hA i (by omega)
  have hYN := YB_n hY
  have h7μ : μ 7 = nI R := (hA 7 (by omega)).symm.trans h7
  have h8μ : μ 8 = nI B := (hA 8 (by omega)).symm.trans h8
  exact Pr_mk (c_X7_clearText l g N o σ ρ S P φ κ τ π ) (c_X8_clearText l g N (o + 179) μ kp hs tx ι ) (congrArg Value.int (hlen.trans hl1.symm)) ⟨_, rfl⟩ (Fr_cl F)
theorem pr_syntaxError (l : Launch) (g : Ge) (N o : Nat) (σ ρ : Nat → Int32) (S P : Nat → Nat → Int32) (φ κ τ π μ kp hs tx ι : Nat → Int32) (F : Fr σ ρ S P τ π μ hs tx ι) : Pr l g N o yX7_syntaxError (.code yX7_syntaxError cX7_syntaxError 2 (some .int)) 4 yX8_syntaxError (.code yX8_syntaxError cX8_syntaxError 1 (some .int)) 4 [] σ ρ S P φ κ τ π μ kp hs tx ι isI := by
  obtain ⟨hR, ⟨q, n, ⟨hq, hq6⟩, ⟨hn, hn6⟩, hi, hsv⟩, hT⟩ := id F
  obtain ⟨len, hlen, hlen80, hl1, htx⟩ := id hT
  obtain ⟨C, P0, R, lt, B, g9, hA, ⟨h7, hR20⟩, ⟨hlt, hlt20⟩, hW, ⟨h8, hBR⟩, hCh, hU, hY⟩ := id hR
  have hC16 := g9.2.2.2
  have hg : EqG C σ μ := eA_g hA
  have g8 : GC C P0 μ := GC_g hg g9
  have hA56 : ∀ i, i < 56 → σ i = μ i := fun i hi => hA i (by omega)
  have hYN := YB_n hY
  have h7μ : μ 7 = nI R := (hA 7 (by omega)).symm.trans h7
  have h8μ : μ 8 = nI B := (hA 8 (by omega)).symm.trans h8
  exact Pr_mk (c_X7_syntaxError l g N o σ ρ S P φ κ τ π len hlen hlen80) (c_X8_syntaxError l g N (o + 179) μ kp hs tx ι len hl1 hlen80) (congrArg Value.int (se_m ⟨hlen80, htx⟩)) ⟨_, rfl⟩ (Fr_j F ((fdI_o (by omega) _ _).trans (pk_un (by omega))) ((fdI_o (by omega) _ _).trans (pk_un (by omega))))
theorem Fr_rc {σ ρ A A' : Nat → Int32} {S P : Nat → Nat → Int32} {τ π μ hs tx ι : Nat → Int32} {q n len : Nat} (F : Fr σ ρ S P τ π μ hs tx ι) (hq : π 1 = nI q) (hq6 : q < 6) (hn6 : n ≤ 6) (hsv : ∀ m, m < n → Rl (S (slt q n m)) (P (slt q n m)) (hb hs m)) {E E' : Int32} (hE : E = E') (hok : E = 0 → Rl A ρ A') : Fr (if E = 0 then A else σ) ρ (svS E S q σ) (svS E P q ρ) τ (if E = 0 then upd (upd (upd π 1 (nI ((q + 1) % 6))) 0 (nI (svN n))) 2 0 else π) (if E' = 0 then A' else μ) (if E' = 0 then rcH hs n μ else hs) tx (if E' = 0 then upd (rkI tx len (len + 1) (i2 tx ι len n)) 1 0 else (i1 tx ι len)) := by
  subst hE
  have hi1 : ∀ i, i < 4 → i1 tx ι len i = ι i := fun i hi => (fdI_o hi _ _).trans (pk_un (by omega))
  by_cases z : E = 0
  · rw [svS, svS, if_pos z, if_pos z, if_pos z, if_pos z, if_pos z, if_pos z, if_pos z]
    refine ⟨hok z, Sv_pi (Sv_rec (ι := ι) hq hq6 hn6 hsv F.1) (pk_un (by omega)) (pk_un (by omega)) ?_, 0, pk_us, by omega, pk_us, fun i hi => absurd hi (by omega)⟩
    rw [pk_un (by omega), rkI_o (by omega), i2, pk_un (by omega), rcI, rcI, pk_us, pk_us]
  · rw [svS, svS, if_neg z, if_neg z, if_neg z, if_neg z, if_neg z, if_neg z, if_neg z]
    exact Fr_j F (hi1 0 (by omega)) (hi1 1 (by omega))
theorem pr_readCards (l : Launch) (g : Ge) (N o : Nat) (σ ρ : Nat → Int32) (S P : Nat → Nat → Int32) (φ κ τ π μ kp hs tx ι : Nat → Int32) (F : Fr σ ρ S P τ π μ hs tx ι) : Pr l g N o yX7_readCards (.code yX7_readCards cX7_readCards 3 (some .int)) 6 yX8_readCards (.code yX8_readCards cX8_readCards 3 (some .int)) 4 [] σ ρ S P φ κ τ π μ kp hs tx ι isI := by
  obtain ⟨hR, ⟨q, n, ⟨hq, hq6⟩, ⟨hn, hn6⟩, hi, hsv⟩, hT⟩ := id F
  obtain ⟨len, hlen, hlen80, hl1, htx⟩ := id hT
  obtain ⟨C, P0, R, lt, B, g9, hA, ⟨h7, hR20⟩, ⟨hlt, hlt20⟩, hW, ⟨h8, hBR⟩, hCh, hU, hY⟩ := id hR
  have hC16 := g9.2.2.2
  have hg : EqG C σ μ := eA_g hA
  have g8 : GC C P0 μ := GC_g hg g9
  have hA56 : ∀ i, i < 56 → σ i = μ i := fun i hi => hA i (by omega)
  have hYN := YB_n hY
  have h7μ : μ 7 = nI R := (hA 7 (by omega)).symm.trans h7
  have h8μ : μ 8 = nI B := (hA 8 (by omega)).symm.trans h8
  have hrc := op_rc (κ := κ) (κ' := seK κ τ len 0) (ι2 := i2 tx ι len n) hR ⟨hlen80, htx⟩ g9.1 hC16 (by rw [i2, pk_us])
  exact Pr_mk (c_X7_readCards l g N o σ ρ S P φ κ τ π q n hq hq6 hn hn6 len hlen hlen80 C g9.1 hC16) (c_X8_readCards l g N (o + 179) μ kp hs tx ι len hl1 hlen80 n hi hn6 C g8.1 hC16) (ite_e hrc.1 (fun z => (hrc.2 z).1)) ⟨_, rfl⟩ (Fr_rc F hq hq6 hn6 hsv hrc.1 (fun z => (hrc.2 z).2))
theorem Fr_un {σ ρ : Nat → Int32} {S P : Nat → Nat → Int32} {τ π μ hs tx ι : Nat → Int32} {q n : Nat} (F : Fr σ ρ S P τ π μ hs tx ι) (hq6 : q < 6) (hn6 : n ≤ 6) (hsv : ∀ m, m < n → Rl (S (slt q n m)) (P (slt q n m)) (hb hs m)) : Fr (if n = 0 then σ else S q) (if n = 0 then ρ else P q) S P τ (if n = 0 then π else upd (upd π 1 (nI ((q + 5) % 6))) 0 (nI (n - 1))) (if n = 0 then μ else cpA hs ((n - 1) * 284) μ 0 284) hs tx (if n = 0 then ι else upd ι 0 (nI (n - 1))) := by
  by_cases z : n = 0
  · rw [if_pos z, if_pos z, if_pos z, if_pos z, if_pos z]; exact F
  · rw [if_neg z, if_neg z, if_neg z, if_neg z, if_neg z]
    exact ⟨Rl_undo hq6 z hn6 hsv, Sv_undo hq6 z hn6 hsv, Tx_pi F.2.2 (by rw [pk_un (by omega), pk_un (by omega)]) (pk_un (by omega))⟩
theorem pr_undo (l : Launch) (g : Ge) (N o : Nat) (σ ρ : Nat → Int32) (S P : Nat → Nat → Int32) (φ κ τ π μ kp hs tx ι : Nat → Int32) (F : Fr σ ρ S P τ π μ hs tx ι) : Pr l g N o yX7_undo (.code yX7_undo cX7_undo 2 (some .int)) 4 yX8_undo (.code yX8_undo cX8_undo 1 (some .int)) 1 [] σ ρ S P φ κ τ π μ kp hs tx ι isI := by
  obtain ⟨hR, ⟨q, n, ⟨hq, hq6⟩, ⟨hn, hn6⟩, hi, hsv⟩, hT⟩ := id F
  obtain ⟨len, hlen, hlen80, hl1, htx⟩ := id hT
  obtain ⟨C, P0, R, lt, B, g9, hA, ⟨h7, hR20⟩, ⟨hlt, hlt20⟩, hW, ⟨h8, hBR⟩, hCh, hU, hY⟩ := id hR
  have hC16 := g9.2.2.2
  have hg : EqG C σ μ := eA_g hA
  have g8 : GC C P0 μ := GC_g hg g9
  have hA56 : ∀ i, i < 56 → σ i = μ i := fun i hi => hA i (by omega)
  have hYN := YB_n hY
  have h7μ : μ 7 = nI R := (hA 7 (by omega)).symm.trans h7
  have h8μ : μ 8 = nI B := (hA 8 (by omega)).symm.trans h8
  exact Pr_mk (c_X7_undo l g N o σ ρ S P φ κ τ π q n hq hq6 hn hn6) (c_X8_undo l g N (o + 179) μ kp hs tx ι n hi hn6) rfl ⟨_, rfl⟩ (Fr_un F hq6 hn6 hsv)
theorem pr_digest (l : Launch) (g : Ge) (N o : Nat) (σ ρ : Nat → Int32) (S P : Nat → Nat → Int32) (φ κ τ π μ kp hs tx ι : Nat → Int32) (F : Fr σ ρ S P τ π μ hs tx ι) : Pr l g N o yX7_digest (.code yX7_digest cX7_digest 4 (some .long)) 6 yX8_digest (.code yX8_digest cX8_digest 5 (some .long)) 4 [] σ ρ S P φ κ τ π μ kp hs tx ι isL := by
  obtain ⟨hR, ⟨q, n, ⟨hq, hq6⟩, ⟨hn, hn6⟩, hi, hsv⟩, hT⟩ := id F
  obtain ⟨len, hlen, hlen80, hl1, htx⟩ := id hT
  obtain ⟨C, P0, R, lt, B, g9, hA, ⟨h7, hR20⟩, ⟨hlt, hlt20⟩, hW, ⟨h8, hBR⟩, hCh, hU, hY⟩ := id hR
  have hC16 := g9.2.2.2
  have hg : EqG C σ μ := eA_g hA
  have g8 : GC C P0 μ := GC_g hg g9
  have hA56 : ∀ i, i < 56 → σ i = μ i := fun i hi => hA i (by omega)
  have hYN := YB_n hY
  have h7μ : μ 7 = nI R := (hA 7 (by omega)).symm.trans h7
  have h8μ : μ 8 = nI B := (hA 8 (by omega)).symm.trans h8
  exact Pr_mk (c_X7_digest l g N o σ ρ S P φ κ τ π C P0 g9.1 g9.2.1 g9.2.2.1 hC16 R lt h7 hR20 hlt hlt20) (c_X8_digest l g N (o + 179) μ kp hs tx ι C P0 g8.1 g8.2.1 g8.2.2.1 hC16 R h7μ hR20 hU hYN) (congrArg Value.long (dg_m g9 hA h7 hR20 hW)) ⟨_, rfl⟩ (Fr_j F (dgI_o (by omega)) (dgI_o (by omega)))
