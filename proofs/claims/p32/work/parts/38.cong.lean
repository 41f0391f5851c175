/-! what the gear depends on -/
/-- two states with the same gear, C cards -/
def EqG (C : Nat) (a b : Nat → Int32) : Prop := ∀ i, i < 56 + 3 * C → (i < 6 ∨ 12 ≤ i) → a i = b i
theorem eg_refl {C : Nat} {a : Nat → Int32} : EqG C a a := fun _ _ _ => rfl
theorem eg_symm {C : Nat} {a b : Nat → Int32} (h : EqG C a b) : EqG C b a := fun i h1 h2 => (h i h1 h2).symm
theorem eg_tr {C : Nat} {a b c : Nat → Int32} (h : EqG C a b) (h' : EqG C b c) : EqG C a c := fun i h1 h2 => (h i h1 h2).trans (h' i h1 h2)
theorem eg_upd {C k : Nat} {a b : Nat → Int32} {x y : Int32} (h : EqG C a b) (e : x = y) : EqG C (upd a k x) (upd b k y) := by
  intro i h1 h2
  by_cases z : i = k
  · subst z; rw [pk_us, pk_us, e]
  · rw [pk_un z, pk_un z]; exact h i h1 h2
theorem eg_updL {C k : Nat} {a b : Nat → Int32} {x : Int32} (h : EqG C a b) (hk : ¬ (k < 6 ∨ 12 ≤ k)) : EqG C (upd a k x) b := by
  intro i h1 h2
  rw [pk_un (fun z => hk (by rw [← z]; exact h2))]; exact h i h1 h2
theorem eg_updR {C k : Nat} {a b : Nat → Int32} {x : Int32} (h : EqG C a b) (hk : ¬ (k < 6 ∨ 12 ≤ k)) : EqG C a (upd b k x) := eg_symm (eg_updL (eg_symm h) hk)
theorem fndF_g {C : Nat} {a b : Nat → Int32} {x y : Int32} (h : EqG C a b) : ∀ n k, n + k = 5 → fndF a x y n k = fndF b x y n k
  | 0, _, _ => rfl
  | n + 1, k, hk => by rw [fndF, fndF, h (14 + 4 * k) (by omega) (by omega), h (15 + 4 * k) (by omega) (by omega), fndF_g h n (k + 1) (by omega)]
theorem fnd_g {C : Nat} {a b : Nat → Int32} {x y : Int32} (h : EqG C a b) : fnd a x y = fnd b x y := fndF_g h 5 0 rfl
theorem bxS_g {C P : Nat} {a b : Nat → Int32} {s : Int32} (h : EqG C a b) (hP : P < C) : bxS a P s = bxS b P s := by
  unfold bxS
  rw [h (57 + 3 * P) (by omega) (by omega), h (58 + 3 * P) (by omega) (by omega)]
theorem onS_g {C P : Nat} {a b : Nat → Int32} {s : Int32} (h : EqG C a b) (hP : P < C) : onS a P s = onS b P s := by
  unfold onS
  rw [bxS_g h hP, fnd_g h]
theorem flyN_g {C P : Nat} {a b : Nat → Int32} (h : EqG C a b) (hP : P < C) : flyN a P = flyN b P := by
  unfold flyN
  rw [onS_g (s := 0) h hP, onS_g (s := 1) h hP]
theorem fbF_g {C : Nat} {a b : Nat → Int32} (h : EqG C a b) : ∀ n k, n + k = 12 → fbF a n k = fbF b n k
  | 0, _, _ => rfl
  | n + 1, k, hk => by rw [fbF, fbF, h (33 + 2 * k) (by omega) (by omega), fbF_g h n (k + 1) (by omega)]
theorem farV_g {C P sd : Nat} {a b : Nat → Int32} {z : Int32} (h : EqG C a b) (hP : P < C) (hs : sd < 2) : farV a P sd z = farV b P sd z := by
  unfold farV
  rw [bxS_g h hP, h (3 + 1 * sd) (by omega) (by omega)]
theorem stf_g {C P : Nat} {a b : Nat → Int32} (h : EqG C a b) (hP : P < C) : stf a P = stf b P := by
  unfold stf
  rw [h 2 (by omega) (by omega), farV_g (sd := 0) (z := 0) h hP (by omega), farV_g (sd := 1) (z := 1) h hP (by omega)]
theorem thS_g {C : Nat} {a b : Nat → Int32} {fr : Int32} (h : EqG C a b) : ∀ n, n ≤ 12 → thS a fr n = thS b fr n
  | 0, _ => rfl
  | n + 1, hn => by rw [thS, thS, h (32 + 2 * n) (by omega) (by omega), thS_g h n (by omega)]
theorem nTold_g {C P : Nat} {a b : Nat → Int32} {r : Int32} (h : EqG C a b) (hP : P < C) : nTold a P r = nTold b P r := by
  unfold nTold
  rw [fbF_g h 12 0 rfl, stf_g h hP, onS_g h hP, flyN_g h hP]
theorem fly_cl (a : Nat → Int32) (P : Nat) : (flyN a P).toNatClampNeg < 5 := by
  have on : ∀ s, (onS a P s).toNatClampNeg < 5 := by
    intro s
    by_cases q : onS a P s = -6
    · rw [q]; decide
    · obtain ⟨j, hj, e⟩ := onS_nI q
      rw [e, show (nI j).toNatClampNeg = j from nI_clamp (by omega)]; exact hj
  unfold flyN
  by_cases q : onS a P 0 = -6
  · rw [if_pos q]; exact on 1
  · rw [if_neg q]; exact on 0
theorem rsC_g {C P : Nat} {a b : Nat → Int32} (h : EqG C a b) (hPC : P < C ∨ (C = 0 ∧ P = 0)) : rsC a C P = rsC b C P := by
  by_cases h0 : C = 0
  · rw [rsC, rsC, if_pos h0, if_pos h0]
  · have hP : P < C := by omega
    have hc := fly_cl b P
    rw [rsC, rsC, if_neg h0, if_neg h0, onS_g (s := 0) h hP, onS_g (s := 1) h hP, flyN_g h hP, h (13 + 4 * (flyN b P).toNatClampNeg) (by omega) (by omega)]
theorem rsG_g {C P : Nat} {a b : Nat → Int32} (h : EqG C a b) (hPC : P < C ∨ (C = 0 ∧ P = 0)) : rsG a C P = rsG b C P := by
  by_cases h0 : C = 0
  · rw [rsG, rsG, if_pos h0, if_pos h0]
  · have hP : P < C := by omega
    rw [rsG, rsG, if_neg h0, if_neg h0, fbF_g h 12 0 rfl, stf_g h hP, rsC_g h hPC]
theorem wrK_g {C n : Nat} {a b : Nat → Int32} {m m' : Int32} (h : EqG C a b) (hm : m = m') (hn : n ≤ 12) : EqG C (wrK a m n) (wrK b m' n) := by
  subst hm
  intro i h1 h2
  rw [wrK, wrK]
  by_cases q : 33 ≤ i ∧ i < 32 + 2 * n ∧ i % 2 = 1
  · rw [h i h1 h2, h (i - 1) (by omega) (by omega)]
  · rw [if_neg (fun z => q z.1), if_neg (fun z => q z.1)]; exact h i h1 h2
theorem flS_g {C k : Nat} {a b : Nat → Int32} {m : Int32} (h : EqG C a b) (hk : k < 5) : EqG C (flS a k m) (flS b k m) := by
  rw [flS, flS, h (14 + 4 * k) (by omega) (by omega)]
  by_cases q : b (14 + 4 * k) = 0
  · rw [if_pos q, if_pos q, h 4 (by omega) (by omega), h (13 + 4 * k) (by omega) (by omega)]
    exact eg_upd (eg_upd (eg_upd h rfl) rfl) rfl
  · rw [if_neg q, if_neg q, h 3 (by omega) (by omega), h (13 + 4 * k) (by omega) (by omega)]
    exact eg_upd (eg_upd (eg_upd h rfl) rfl) rfl
theorem mvS_g {C P k : Nat} {a b : Nat → Int32} (h : EqG C a b) (hP : P < C) (hk : k < 5) : EqG C (mvS a C P k) (mvS b C P k) := by
  have g1 : EqG C (mvS1 a P) (mvS1 b P) := eg_upd (eg_upd h (bxS_g h hP)) (bxS_g h hP)
  have g2 : EqG C (mvS2 a P) (mvS2 b P) := wrK_g g1 (by rw [g1 5 (by omega) (by omega), g1 (56 + 3 * P) (by omega) (by omega)]) (Nat.le_refl _)
  have g3 : EqG C (mvS3 a P) (mvS3 b P) := eg_upd g2 (g2 _ (by omega) (by omega))
  exact eg_upd (flS_g g3 hk) rfl
theorem stdB_g {C : Nat} {a b c d : Nat → Int32} (h : EqG C a b) (h' : EqG C c d) : ∀ n, n ≤ 5 → stdB a c n = stdB b d n
  | 0, _ => rfl
  | n + 1, hn => by rw [stdB, stdB, h (14 + 4 * n) (by omega) (by omega), h (15 + 4 * n) (by omega) (by omega), h' (14 + 4 * n) (by omega) (by omega), h' (15 + 4 * n) (by omega) (by omega), stdB_g h h' n (by omega)]
/-- a gear in order: its cards, its place -/
def GC (C P : Nat) (σ : Nat → Int32) : Prop := σ 0 = nI C ∧ σ 1 = nI P ∧ (P < C ∨ (C = 0 ∧ P = 0)) ∧ C ≤ 16
theorem GC_gv {C P : Nat} {a : Nat → Int32} (g : GC C P a) : GV a := ⟨C, P, g.1, g.2.1, g.2.2.1, g.2.2.2⟩
theorem GC_g {C P : Nat} {a b : Nat → Int32} (h : EqG C a b) (g : GC C P a) : GC C P b := ⟨(h 0 (by omega) (by omega)).symm.trans g.1, (h 1 (by omega) (by omega)).symm.trans g.2.1, g.2.2⟩
theorem rsG'_c {C P : Nat} {a : Nat → Int32} (g : GC C P a) : rsG' a = rsG a C P := rsG'_eq g.1 g.2.1 g.2.2.2 g.2.2.1
theorem rsC'_c {C P : Nat} {a : Nat → Int32} (g : GC C P a) : rsC' a = rsC a C P := rsC'_eq g.1 g.2.1 g.2.2.2 g.2.2.1
theorem rsG'_g {C P : Nat} {a b : Nat → Int32} (h : EqG C a b) (g : GC C P a) : rsG' a = rsG' b := by rw [rsG'_c g, rsG'_c (GC_g h g), rsG_g h g.2.2.1]
theorem rsC'_g {C P : Nat} {a b : Nat → Int32} (h : EqG C a b) (g : GC C P a) : rsC' a = rsC' b := by rw [rsC'_c g, rsC'_c (GC_g h g), rsC_g h g.2.2.1]
theorem GC_mv {C P k : Nat} {a : Nat → Int32} (g : GC C P a) (hP : P < C) (hk : k < 5) : GC C (goP P C) (mvS a C P k) := ⟨(mvS_0 hk).trans g.1, mvS_1, Or.inl (goP_lt hP), g.2.2.2⟩
theorem rsG'_0 {C P : Nat} {a : Nat → Int32} (g : GC C P a) (z : rsG' a = 0) : rsC a C P = 0 := rsG_0 ((rsG'_c g).symm.trans z)
/-- a pick that isn't stopped, on two states with the same gear -/
theorem stp {C P : Nat} {a b : Nat → Int32} (g : GC C P a) (h : EqG C a b) (z : rsC a C P = 0) : ∃ k, k < 5 ∧ P < C ∧ flyN a P = nI k ∧ flyN b P = nI k ∧ mvS' a = mvS a C P k ∧ mvS' b = mvS b C P k ∧ GC C (goP P C) (mvS a C P k) ∧ EqG C (mvS a C P k) (mvS b C P k) := by
  obtain ⟨h0, k, hk, hf⟩ := rsC_0 z
  have hP : P < C := by have := g.2.2.1; omega
  have hf' : flyN b P = nI k := (flyN_g h hP).symm.trans hf
  have g' := GC_g h g
  exact ⟨k, hk, hP, hf, hf', mvS'_eq g.1 g.2.1 g.2.2.2 hP hk hf, mvS'_eq g'.1 g'.2.1 g'.2.2.2 hP hk hf', GC_mv g hP hk, mvS_g h hP hk⟩
theorem plC_g {C : Nat} : ∀ n k P (a b : Nat → Int32), GC C P a → EqG C a b → plC n k a = plC n k b
  | 0, _, _, _, _, _, _ => rfl
  | n + 1, k, P, a, b, g, h => by
    rw [plC, plC, rsG'_g h g]
    by_cases z : rsG' b = 0
    · obtain ⟨k9, hk, hP, -, -, e1, e2, g2, h2⟩ := stp g h (rsG'_0 g ((rsG'_g h g).trans z))
      rw [if_pos z, if_pos z, e1, e2]
      exact plC_g n (k + 1) _ _ _ g2 h2
    · rw [if_neg z, if_neg z]
theorem fly'_g {C P : Nat} {a b : Nat → Int32} (h : EqG C a b) (g : GC C P a) (hP : P < C) : fly' a = fly' b := by
  have g' := GC_g h g
  rw [fly', fly', nt_of g.2.1 (by have := g.2.2.2; omega), nt_of g'.2.1 (by have := g.2.2.2; omega), flyN_g h hP]
theorem feC_g {C : Nat} : ∀ n P (a b : Nat → Int32), GC C P a → EqG C a b → feC n a = feC n b
  | 0, _, _, _, _, _ => rfl
  | n + 1, P, a, b, g, h => by
    rw [feC, feC, rsC'_g h g]
    by_cases z : rsC' b = 0
    · obtain ⟨k9, hk, hP, -, -, e1, e2, g2, h2⟩ := stp g h ((rsC'_c g).symm.trans ((rsC'_g h g).trans z))
      rw [if_pos z, if_pos z, e1, e2]
      exact feC_g n _ _ _ g2 h2
    · rw [if_neg z, if_neg z]
      by_cases q : rsC' b = 6
      · have hC0 : ¬ C = 0 := fun e => by
          have := (rsC'_c (GC_g h g)).symm.trans q
          rw [rsC, if_pos e] at this
          exact absurd this (by decide)
        have hP : P < C := by have := g.2.2.1; omega
        rw [if_pos q, if_pos q, fly'_g h g hP]
      · rw [if_neg q, if_neg q]
theorem rpC_g {C : Nat} {c d : Nat → Int32} (hcd : EqG C c d) : ∀ n P (a b : Nat → Int32), GC C P a → EqG C a b → rpC n a c = rpC n b d
  | 0, P, a, b, g, h => by rw [rpC, rpC, stdB_g h hcd 5 (Nat.le_refl _)]
  | n + 1, P, a, b, g, h => by
    rw [rpC, rpC, rsG'_g h g]
    by_cases z : rsG' b = 0
    · obtain ⟨k9, hk, hP, -, -, e1, e2, g2, h2⟩ := stp g h (rsG'_0 g ((rsG'_g h g).trans z))
      rw [if_pos z, if_pos z, e1, e2]
      exact rpC_g hcd n _ _ _ g2 h2
    · rw [if_neg z, if_neg z]
theorem nbx_g {C : Nat} {a b : Nat → Int32} (h : EqG C a b) : ∀ n, n ≤ 5 → nbx a n = nbx b n
  | 0, _ => rfl
  | n + 1, hn => by rw [nbx, nbx, h (14 + 4 * n) (by omega) (by omega), nbx_g h n (by omega)]
theorem UN_g {C : Nat} {a b : Nat → Int32} (h : EqG C a b) (hU : UN a) : UN b := by
  intro i j hi hj h1 h2 h3
  rw [← h (14 + 4 * i) (by omega) (by omega)] at h1 h3
  rw [← h (14 + 4 * j) (by omega) (by omega)] at h1
  rw [← h (15 + 4 * i) (by omega) (by omega), ← h (15 + 4 * j) (by omega) (by omega)] at h2
  exact hU i j hi hj h1 h2 h3
theorem YN_g {C : Nat} {a b : Nat → Int32} (h : EqG C a b) (hY : YN a) : YN b := by
  intro j hj
  rw [← h (13 + 4 * j) (by omega) (by omega)]
  exact hY j hj
