/-! the reader of cards -/
abbrev nt (x : Int32) : Nat := x.toNatClampNeg
theorem nt_nI {k : Nat} (h : k < 2 ^ 31) : nt (nI k) = k := nI_clamp h
def stK (κ : Nat → Int32) : Nat → Int32 := upd (upd (upd κ 3 0) 0 0) 4 0
def bxP (s b : Int32) : Prop := (s = 0 ∧ 0 ≤ b ∧ b ≤ 3) ∨ (s = 1 ∧ 0 ≤ b ∧ b ≤ 1)
def bxB (s b : Int32) : Bool := decide ((s = 0 ∧ 0 ≤ b ∧ b ≤ 3) ∨ (s = 1 ∧ 0 ≤ b ∧ b ≤ 1))
def frB (κ : Nat → Int32) (v : Int32) : Bool := decide (κ 4 ≤ v ∧ v ≤ 5)
def frK (κ : Nat → Int32) (v : Int32) : Nat → Int32 := upd (upd κ 0 (κ 0 ||| ((1 : Int32) <<< (v &&& 31)))) 4 (v + 1)
def acV (κ : Nat → Int32) (c : Int32) : Int32 := if κ 3 = 0 then (if c = 76 then 1 else if frB κ (c - 48) then 1 else 0) else if κ 3 = 1 then (if bxB 0 (c - 48) then 1 else 0) else if κ 3 = 2 then (if c = 82 then 1 else 0) else if κ 3 = 3 then (if bxB 1 (c - 48) then 1 else 0) else if c = 59 then 1 else 0
def acK (κ : Nat → Int32) (c : Int32) : Nat → Int32 := if κ 3 = 0 then (if c = 76 then upd κ 3 1 else if frB κ (c - 48) then frK κ (c - 48) else κ) else if κ 3 = 1 then (if bxB 0 (c - 48) then upd (upd κ 1 (c - 48)) 3 2 else upd κ 1 (c - 48)) else if κ 3 = 2 then (if c = 82 then upd κ 3 3 else κ) else if κ 3 = 3 then (if bxB 1 (c - 48) then upd (upd κ 2 (c - 48)) 3 4 else upd κ 2 (c - 48)) else if c = 59 then stK κ else κ
theorem sw03 (x : Int32) : x = 0 ∨ x = 1 ∨ x = 2 ∨ x = 3 ∨ (x.toInt < 0 ∨ 3 < x.toInt) := by
  by_cases h1 : x.toInt < 0
  · exact Or.inr (Or.inr (Or.inr (Or.inr (Or.inl h1))))
  by_cases h2 : 3 < x.toInt
  · exact Or.inr (Or.inr (Or.inr (Or.inr (Or.inr h2))))
  have h : x.toInt = 0 ∨ x.toInt = 1 ∨ x.toInt = 2 ∨ x.toInt = 3 := by omega
  rcases h with h | h | h | h
  · exact Or.inl (Int32.toInt_inj.mp h)
  · exact Or.inr (Or.inl (Int32.toInt_inj.mp h))
  · exact Or.inr (Or.inr (Or.inl (Int32.toInt_inj.mp h)))
  · exact Or.inr (Or.inr (Or.inr (Or.inl (Int32.toInt_inj.mp h))))
-- (no theorem c_X0_goTo here: the claim has no such method)
-- (no theorem c_X0_start here: the claim has no such method)
-- (no theorem c_X0_startNext here: the claim has no such method)
-- (no theorem c_X0_isBehindCard here: the claim has no such method)
-- (no theorem c_X0_acceptsFrame here: the claim has no such method)
-- (no theorem c_X0_acceptsLeft here: the claim has no such method)
-- (no theorem c_X0_acceptsRight here: the claim has no such method)
theorem nar_if {P : Prop} [Decidable P] : narrow .boolean (.int (if P then (1 : Int32) else 0)) = .int (if P then (1 : Int32) else 0) := by
  split <;> rfl
-- (no theorem c_X0_accepts here: the claim has no such method)
