/-! what the law compares: sets of threads, places of shuttles, runs on the cloth -/
theorem bit_r (x : BitVec 32) (j : Nat) (hj : j < 32) : (x.sshiftRight j) &&& 1#32 = if x.getLsbD j then 1#32 else 0#32 := by
  have e : (x.sshiftRight j) &&& 1#32 = (x.sshiftRight j) &&& BitVec.twoPow 32 0 := rfl
  rw [e, BitVec.and_twoPow, BitVec.getLsbD_sshiftRight]
  rw [show decide (32 ≤ 0) = false from rfl]
  simp [hj]
  rfl
theorem bit_l (x : BitVec 32) (j : Nat) (hj : j < 32) : x &&& (1#32 <<< j) = 0#32 ↔ x.getLsbD j = false := by
  rw [← BitVec.twoPow_eq, BitVec.and_twoPow]
  cases h : x.getLsbD j
  · simp
  · simp
    intro q
    have := congrArg (fun z => BitVec.getLsbD z j) q
    simp [hj] at this
theorem bit_i {fr s : Int32} (j : Nat) (hj : j < 32) (h1 : (fr >>> s).toBitVec = fr.toBitVec.sshiftRight j) (h2 : ((1 : Int32) <<< s).toBitVec = 1#32 <<< j) : fr &&& ((1 : Int32) <<< s) = 0 ↔ ¬ (fr >>> s) &&& 1 = 1 := by
  rw [← Int32.toBitVec_inj, ← Int32.toBitVec_inj, Int32.toBitVec_and, Int32.toBitVec_and, h1, h2, show (0 : Int32).toBitVec = 0#32 from rfl, show (1 : Int32).toBitVec = 1#32 from rfl, bit_r _ _ hj, bit_l _ _ hj]
  cases fr.toBitVec.getLsbD j <;> decide
theorem bit_j (fr : Int32) {j : Nat} (hj : j < 6) : fr &&& ((1 : Int32) <<< (nI j &&& 31)) = 0 ↔ ¬ (fr >>> (nI j &&& 31)) &&& 1 = 1 := by
  have e : j = 0 ∨ j = 1 ∨ j = 2 ∨ j = 3 ∨ j = 4 ∨ j = 5 := by omega
  rcases e with rfl | rfl | rfl | rfl | rfl | rfl
  · exact bit_i 0 (by omega) (by rw [Int32.toBitVec_shiftRight]; rfl) (by rw [Int32.toBitVec_shiftLeft]; rfl)
  · exact bit_i 1 (by omega) (by rw [Int32.toBitVec_shiftRight]; rfl) (by rw [Int32.toBitVec_shiftLeft]; rfl)
  · exact bit_i 2 (by omega) (by rw [Int32.toBitVec_shiftRight]; rfl) (by rw [Int32.toBitVec_shiftLeft]; rfl)
  · exact bit_i 3 (by omega) (by rw [Int32.toBitVec_shiftRight]; rfl) (by rw [Int32.toBitVec_shiftLeft]; rfl)
  · exact bit_i 4 (by omega) (by rw [Int32.toBitVec_shiftRight]; rfl) (by rw [Int32.toBitVec_shiftLeft]; rfl)
  · exact bit_i 5 (by omega) (by rw [Int32.toBitVec_shiftRight]; rfl) (by rw [Int32.toBitVec_shiftLeft]; rfl)
/-- the threads' frames are in their range -/
def FR (σ : Nat → Int32) : Prop := ∀ k, k < 12 → ∃ f, f < 6 ∧ σ (32 + 2 * k) = nI f
theorem FR_mv {C P k : Nat} {σ : Nat → Int32} (h : FR σ) (hk : k < 5) : FR (mvS σ C P k) := fun j hj => by rw [mv_fr hk hj]; exact h j hj
theorem thW_S {σ t : Nat → Int32} {fr : Int32} (hF : FR σ) (ht : ∀ i, i < 24 → t i = σ (32 + i)) : ∀ n, n ≤ 12 → thW fr t n = thS σ fr n
  | 0, _ => rfl
  | n + 1, hn => by
    obtain ⟨f, hf, e⟩ := hF n (by omega)
    rw [thW, thS, thW_S hF ht n (by omega), ht (2 * n) (by omega), e]
    have b := bit_j fr hf
    by_cases z : (fr >>> (nI f &&& 31)) &&& 1 = 1
    · rw [if_pos z, if_neg (fun w => b.mp w z)]
    · rw [if_neg z, if_pos (b.mpr z)]
theorem lfB_eq {σ : Nat → Int32} {x : Int32} : lfB σ x = (σ 5 >>> (x &&& 31)) &&& 1 := by
  unfold lfB
  rcases and_1 (σ 5 >>> (x &&& 31)) with p | p <;> rw [p]
  · rfl
  · rfl
theorem lfb_eq {ρ : Nat → Int32} {lt r : Nat} {t : Int32} : lfb ρ lt t r = (ρ (1 + 7 * sl lt r) >>> (t &&& 31)) &&& 1 := by
  unfold lfb
  rcases and_1 (ρ (1 + 7 * sl lt r) >>> (t &&& 31)) with p | p
  · rw [p]; exact bI_f (by decide)
  · rw [p]; exact bI_t rfl
theorem wh_fin2 : ∀ b, b < 4 → ((10 * (0 : Int32) + nI b) / 10 = 0 ∧ (10 * (0 : Int32) + nI b) - (10 * (0 : Int32) + nI b) / 10 * 10 = nI b ∧ (10 * (1 : Int32) + nI b) / 10 = 1 ∧ (10 * (1 : Int32) + nI b) - (10 * (1 : Int32) + nI b) / 10 * 10 = nI b ∧ ¬ 10 * (0 : Int32) + nI b < 0 ∧ ¬ 10 * (1 : Int32) + nI b < 0) := by decide +kernel
/-- where a shuttle is, taken apart again -/
theorem wh_sb {C k : Nat} {σ : Nat → Int32} (hV : VR C σ) (hk : k < 5) : (wh σ k < 0 → σ (14 + 4 * k) = -6 ∧ σ (15 + 4 * k) = -6) ∧ (¬ wh σ k < 0 → σ (14 + 4 * k) = wh σ k / 10 ∧ σ (15 + 4 * k) = wh σ k - wh σ k / 10 * 10) := by
  rcases hV.1 k hk with ⟨e1, e2⟩ | ⟨e1, b, hb, e2⟩ | ⟨e1, b, hb, e2⟩
  · rw [wh_d e1]; exact ⟨fun _ => ⟨e1, e2⟩, fun q => absurd (by decide) q⟩
  · rw [wh_0 e1, e2]
    obtain ⟨a1, a2, a3, a4, a5, a6⟩ := wh_fin2 b hb
    exact ⟨fun q => absurd q a5, fun _ => ⟨e1.trans a1.symm, a2.symm⟩⟩
  · rw [wh_1 e1, e2]
    obtain ⟨a1, a2, a3, a4, a5, a6⟩ := wh_fin2 b (by omega)
    exact ⟨fun q => absurd q a6, fun _ => ⟨e1.trans a3.symm, a4.symm⟩⟩
/-! runs of equal values -/
def rnN (b : Nat → Int32) : Nat → Nat
  | 0 => 0
  | k + 1 => if 0 < k ∧ b k = b (k - 1) then rnN b k + 1 else 1
def rnX (b : Nat → Int32) : Nat → Nat
  | 0 => 0
  | k + 1 => if rnX b k < rnN b (k + 1) then rnN b (k + 1) else rnX b k
theorem rnN_le (b : Nat → Int32) : ∀ k, rnN b k ≤ k
  | 0 => Nat.le_refl _
  | k + 1 => by
    have := rnN_le b k
    rw [rnN]; split <;> omega
theorem rnX_le (b : Nat → Int32) : ∀ k, rnX b k ≤ k
  | 0 => Nat.le_refl _
  | k + 1 => by
    have := rnX_le b k
    have := rnN_le b (k + 1)
    rw [rnX]; split <;> omega
theorem rnN_pos (b : Nat → Int32) (k : Nat) : 0 < rnN b (k + 1) := by
  rw [rnN]; split <;> omega
def Sg (b : Nat → Int32) (i n : Nat) : Prop := ∀ x y, i ≤ x → x < i + n → i ≤ y → y < i + n → b x = b y
theorem rnN_sg (b : Nat → Int32) : ∀ k, Sg b (k - rnN b k) (rnN b k)
  | 0 => fun x y h1 h2 _ _ => absurd h2 (by rw [rnN]; omega)
  | k + 1 => by
    have h := rnN_sg b k
    have hl := rnN_le b k
    intro x y h1 h2 h3 h4
    rw [rnN] at h1 h2 h3 h4
    by_cases z : 0 < k ∧ b k = b (k - 1)
    · rw [if_pos z] at h1 h2 h3 h4
      have hp : 0 < rnN b k := by
        obtain ⟨m, rfl⟩ : ∃ m, k = m + 1 := ⟨k - 1, by omega⟩
        exact rnN_pos b m
      have f : ∀ u, k - rnN b k ≤ u → u < k + 1 → b u = b (k - 1) := by
        intro u a1 a2
        by_cases e : u = k
        · rw [e]; exact z.2
        · exact h u (k - 1) a1 (by omega) (by omega) (by omega)
      rw [f x (by omega) (by omega), f y (by omega) (by omega)]
    · rw [if_neg z] at h1 h2 h3 h4
      rw [show x = y by omega]
theorem rnN_max (b : Nat → Int32) : ∀ k i n, i + n = k → Sg b i n → n ≤ rnN b k
  | 0, i, n, e, _ => by omega
  | k + 1, i, n, e, h => by
    rw [rnN]
    by_cases z : 0 < k ∧ b k = b (k - 1)
    · rw [if_pos z]
      rcases Nat.eq_zero_or_pos n with q | q
      · omega
      · have := rnN_max b k i (n - 1) (by omega) (fun x y h1 h2 h3 h4 => h x y h1 (by omega) h3 (by omega))
        omega
    · rw [if_neg z]
      rcases Nat.lt_or_ge n 2 with q | q
      · omega
      · exact absurd ⟨by omega, h k (k - 1) (by omega) (by omega) (by omega) (by omega)⟩ z
theorem rnX_sg (b : Nat → Int32) : ∀ k, ∃ i, i + rnX b k ≤ k ∧ Sg b i (rnX b k)
  | 0 => ⟨0, Nat.le_refl _, fun x y _ h2 _ _ => absurd h2 (by rw [rnX]; omega)⟩
  | k + 1 => by
    obtain ⟨i, h1, h2⟩ := rnX_sg b k
    rw [rnX]
    by_cases z : rnX b k < rnN b (k + 1)
    · rw [if_pos z]
      have := rnN_le b (k + 1)
      exact ⟨k + 1 - rnN b (k + 1), by omega, rnN_sg b (k + 1)⟩
    · rw [if_neg z]; exact ⟨i, by omega, h2⟩
theorem rnX_max (b : Nat → Int32) : ∀ k i n, i + n ≤ k → Sg b i n → n ≤ rnX b k
  | 0, i, n, e, _ => by omega
  | k + 1, i, n, e, h => by
    rw [rnX]
    by_cases q : i + n ≤ k
    · have := rnX_max b k i n q h
      split <;> omega
    · have := rnN_max b (k + 1) i n (by omega) h
      split <;> omega
theorem rnX_rev {a b : Nat → Int32} {k : Nat} (h : ∀ r, r < k → a r = b (k - 1 - r)) : rnX a k = rnX b k := by
  have f : ∀ {a b : Nat → Int32}, (∀ r, r < k → a r = b (k - 1 - r)) → rnX a k ≤ rnX b k := by
    intro a b h
    obtain ⟨i, h1, h2⟩ := rnX_sg a k
    refine rnX_max b k (k - i - rnX a k) _ (by omega) (fun x y a1 a2 a3 a4 => ?_)
    have e := h2 (k - 1 - x) (k - 1 - y) (by omega) (by omega) (by omega) (by omega)
    rw [h _ (by omega), h _ (by omega), show k - 1 - (k - 1 - x) = x by omega, show k - 1 - (k - 1 - y) = y by omega] at e
    exact e
  refine Nat.le_antisymm (f h) (f fun r hr => ?_)
  rw [h _ (by omega), show k - 1 - (k - 1 - r) = r by omega]
theorem lfN_rn {ρ : Nat → Int32} {lt : Nat} {t : Int32} : ∀ k, lfN ρ lt t k = nI (rnN (lfb ρ lt t) k)
  | 0 => rfl
  | k + 1 => by
    rw [lfN, rnN]
    by_cases z : 0 < k ∧ lfb ρ lt t k = lfb ρ lt t (k - 1)
    · rw [if_pos z, if_pos z, lfN_rn k]; exact nI_add _ 1
    · rw [if_neg z, if_neg z]; rfl
theorem lfM_rn {ρ : Nat → Int32} {lt : Nat} {t : Int32} : ∀ k, k ≤ 20 → lfM ρ lt t k = nI (rnX (lfb ρ lt t) k)
  | 0, _ => rfl
  | k + 1, hk => by
    have h1 := rnX_le (lfb ρ lt t) k
    have h2 := rnN_le (lfb ρ lt t) (k + 1)
    rw [lfM, rnX, lfM_rn k (by omega), lfN_rn (k + 1)]
    by_cases z : rnX (lfb ρ lt t) k < rnN (lfb ρ lt t) (k + 1)
    · rw [if_pos ((nI_ltI (by omega) (by omega)).mpr z), if_pos z]
    · rw [if_neg (fun q => z ((nI_ltI (by omega) (by omega)).mp q)), if_neg z]
/-- the cloth of the law: the oldest row first -/
def RC (R lt : Nat) (ρ w : Nat → Int32) : Prop := ∀ r, r < R → w (2 * r) = ρ (0 + 7 * sl lt (R - 1 - r)) ∧ w (2 * r + 1) = ρ (1 + 7 * sl lt (R - 1 - r))
def wbt (w : Nat → Int32) (k : Nat) (r : Nat) : Int32 := (w (2 * r + 1) >>> (nI k &&& 31)) &&& 1
theorem lf_law {R lt k : Nat} {ρ w : Nat → Int32} (h : RC R lt ρ w) (hR : R ≤ 20) : lfM ρ lt (nI k) R = nI (rnX (wbt w k) R) := by
  rw [lfM_rn R hR, rnX_rev (b := wbt w k) (fun r hr => ?_)]
  rw [lfb_eq, wbt, (h (R - 1 - r) (by omega)).2, show R - 1 - (R - 1 - r) = r by omega]
