/-! what is best -/
/-- the first of the greatest, of those below n -/
def amx (f : Nat → Nat) : Nat → Nat
  | 0 => 0
  | k + 1 => if k = 0 then 0 else if f (amx f k) < f k then k else amx f k
def mxI (f : Nat → Nat) (i : Nat) : Int32 := if i = 0 then -1 else nI (f (amx f i))
theorem mxI_lt {f : Nat → Nat} {i : Nat} (hf : ∀ j, f j < 2 ^ 31) : mxI f i < nI (f i) ↔ (i = 0 ∨ f (amx f i) < f i) := by
  unfold mxI
  by_cases h : i = 0
  · rw [if_pos h]
    refine ⟨fun _ => Or.inl h, fun _ => ?_⟩
    rw [Int32.lt_iff_toInt_lt, nI_toInt (hf i)]
    have : (-1 : Int32).toInt = -1 := by decide
    omega
  · rw [if_neg h, nI_ltI (hf _) (hf _)]
    exact ⟨fun q => Or.inr q, fun q => q.resolve_left h⟩
theorem amx_y {f : Nat → Nat} {i : Nat} (hf : ∀ j, f j < 2 ^ 31) (h : mxI f i < nI (f i)) : amx f (i + 1) = i ∧ mxI f (i + 1) = nI (f i) := by
  have e : amx f (i + 1) = i := by
    rw [amx]
    rcases (mxI_lt hf).mp h with q | q
    · rw [if_pos q, q]
    · split
      · omega
      · rfl
  refine ⟨e, ?_⟩
  unfold mxI
  rw [if_neg (by omega), e]
theorem amx_n {f : Nat → Nat} {i : Nat} (hf : ∀ j, f j < 2 ^ 31) (h : ¬ mxI f i < nI (f i)) : amx f (i + 1) = amx f i ∧ mxI f (i + 1) = mxI f i := by
  have h' : ¬ (i = 0 ∨ f (amx f i) < f i) := fun q => h ((mxI_lt hf).mpr q)
  have e : amx f (i + 1) = amx f i := by
    rw [amx, if_neg (fun q => h' (Or.inl q)), if_neg (fun q => h' (Or.inr q))]
  refine ⟨e, ?_⟩
  unfold mxI
  rw [if_neg (by omega), if_neg (fun q => h' (Or.inl q)), e]
/-- of the parts but water -/
def bstN (f : Nat → Nat) : Nat → Nat
  | 0 => 1
  | p + 1 => if p < 2 then 1 else if f (bstN f p) < f p then p else bstN f p
theorem bstN_lt (f : Nat → Nat) : ∀ n, 2 ≤ n → 1 ≤ bstN f n ∧ bstN f n < n
  | 0, h => absurd h (by decide)
  | 1, h => absurd h (by decide)
  | 2, _ => by rw [bstN, if_pos (by decide)]; decide
  | n + 3, _ => by
    have := bstN_lt f (n + 2) (by omega)
    rw [bstN]
    split
    · omega
    split <;> omega
def kindF (kd pt wt mr : Nat → Nat) (mn : Nat) (gr : Nat → Nat) (yr c p n : Nat) : Nat → Nat := fun k => yearsG (updN kd c (min k 5)) pt wt mr mn gr yr n p
def putsF (kd pt wt mr : Nat → Nat) (mn : Nat) (gr : Nat → Nat) (yr c n : Nat) : Nat → Nat := fun k => leastN (yearsG kd (updN pt c (min k 11)) wt mr mn gr yr n) (sumN (yearsG kd (updN pt c (min k 11)) wt mr mn gr yr n) 12) (maskN gr 12) 12
def dullF (kd pt wt mr : Nat → Nat) (mn : Nat) (gr : Nat → Nat) (yr n : Nat) : Nat → Nat := fun c => if 500 < tasteN (yearsG kd (waterN pt mn c) wt mr mn gr yr n) (sumN (yearsG kd (waterN pt mn c) wt mr mn gr yr n) 12) 0 then 1 else 0
noncomputable def wgN (kd pt wt mr : Nat → Nat) (mn : Nat) (gr : Nat → Nat) (yr c p n v : Nat) : Nat := fstL (fun w => v ≤ yearsG kd pt (updN wt c w) mr mn gr yr n p) 1000
theorem wgN_at {kd pt wt mr : Nat → Nat} {mn : Nat} {gr : Nat → Nat} {yr c p n v i : Nat} (h : ∀ j, j < i → ¬ v ≤ yearsG kd pt (updN wt c j) mr mn gr yr n p) (hi : v ≤ yearsG kd pt (updN wt c i) mr mn gr yr n p) (hl : i < 1000) : wgN kd pt wt mr mn gr yr c p n v = i := (fstL_eq _ _).trans (fst_at (P := fun w => v ≤ yearsG kd pt (updN wt c w) mr mn gr yr n p) h hi hl)
theorem wgN_none {kd pt wt mr : Nat → Nat} {mn : Nat} {gr : Nat → Nat} {yr c p n v : Nat} (h : ∀ j, j < 1000 → ¬ v ≤ yearsG kd pt (updN wt c j) mr mn gr yr n p) : wgN kd pt wt mr mn gr yr c p n v = 1000 := (fstL_eq _ _).trans (fst_none (P := fun w => v ≤ yearsG kd pt (updN wt c w) mr mn gr yr n p) h)
def pairF (kd pt wt mr : Nat → Nat) (mn : Nat) (gr : Nat → Nat) (yr p n : Nat) : Nat → Nat → Nat := fun i j => yearsG (exchN kd i j) (exchN pt i j) (exchN wt i j) (exchN mr i j) mn gr yr n p
/-- over the others from i + 1 on: the most, and by whom -/
def bIn (F : Nat → Nat) (i : Nat) (s : Nat × Int32) : Nat → Nat × Int32
  | 0 => s
  | k + 1 => if (bIn F i s k).1 < F (i + 1 + k) then (F (i + 1 + k), nI (10 * i + (i + 1 + k))) else bIn F i s k
def bOut (F : Nat → Nat → Nat) (mn : Nat) (s : Nat × Int32) : Nat → Nat × Int32
  | 0 => s
  | i + 1 => bIn (F i) i (bOut F mn s i) (mn - (i + 1))
theorem PB_kd {gr kd pt wt mr : Nat → Nat} {tt yr mn c k : Nat} (h : PB gr kd pt wt mr tt yr mn) (hk : k ≤ 5) : PB gr (updN kd c k) pt wt mr tt yr mn := by
  obtain ⟨h1, h2, h3, h4, h5, h6, h7, h8, h9⟩ := h
  exact ⟨h1, h2, h3, fun j => by unfold updN; split <;> first | exact hk | exact h4 j, h5, h6, h7, h8, h9⟩
theorem PB_pt {gr kd pt wt mr : Nat → Nat} {tt yr mn c k : Nat} (h : PB gr kd pt wt mr tt yr mn) (hk : k ≤ 11) : PB gr kd (updN pt c k) wt mr tt yr mn := by
  obtain ⟨h1, h2, h3, h4, h5, h6, h7, h8, h9⟩ := h
  exact ⟨h1, h2, h3, h4, fun j => by unfold updN; split <;> first | exact hk | exact h5 j, h6, h7, h8, h9⟩
theorem PB_wt {gr kd pt wt mr : Nat → Nat} {tt yr mn c k : Nat} (h : PB gr kd pt wt mr tt yr mn) (hk : k ≤ 999) : PB gr kd pt (updN wt c k) mr tt yr mn := by
  obtain ⟨h1, h2, h3, h4, h5, h6, h7, h8, h9⟩ := h
  exact ⟨h1, h2, h3, h4, h5, fun j => by unfold updN; split <;> first | exact hk | exact h6 j, h7, h8, h9⟩
theorem exch_le {f : Nat → Nat} {i j b : Nat} (h : ∀ k, f k ≤ b) : ∀ k, exchN f i j k ≤ b := fun k => by
  unfold exchN updN
  split
  · exact h i
  split
  · exact h j
  · exact h k
theorem PB_ex {gr kd pt wt mr : Nat → Nat} {tt yr mn i j : Nat} (h : PB gr kd pt wt mr tt yr mn) : PB gr (exchN kd i j) (exchN pt i j) (exchN wt i j) (exchN mr i j) tt yr mn := by
  obtain ⟨h1, h2, h3, h4, h5, h6, h7, h8, h9⟩ := h
  exact ⟨h1, h2, h3, exch_le h4, exch_le h5, exch_le h6, exch_le h7, h8, h9⟩
theorem PB_wa {gr kd pt wt mr : Nat → Nat} {tt yr mn c : Nat} (h : PB gr kd pt wt mr tt yr mn) : PB gr kd (waterN pt mn c) wt mr tt yr mn := by
  obtain ⟨h1, h2, h3, h4, h5, h6, h7, h8, h9⟩ := h
  exact ⟨h1, h2, h3, h4, fun j => by unfold waterN; split <;> first | exact Nat.zero_le _ | exact h5 j, h6, h7, h8, h9⟩
noncomputable def f_weight (X : Xs) (c p n v : Int32) : Int32 × Xs := match X with
  | ((mn, yr, gr, kd, pt, wt, mr), _, _, _, _) =>
    if inR c 0 ((mn : Int) - 1) && inR p 0 11 && inR n 1 20 && inR v 0 99999 then
      if wgN kd pt wt mr mn gr yr (ix c) (ix p) (ix n) (ix v) < 1000 then (nI (wgN kd pt wt mr mn gr yr (ix c) (ix p) (ix n) (ix v)), X) else fnd X 3
    else fnd X 0
def f_kind (X : Xs) (c p n : Int32) : Int32 × Xs := match X with
  | ((mn, yr, gr, kd, pt, wt, mr), _, _, _, _) =>
    if inR c 0 ((mn : Int) - 1) && inR p 0 11 && inR n 1 60 then (nI (amx (kindF kd pt wt mr mn gr yr (ix c) (ix p) (ix n)) 6), X) else fnd X 0
def f_puts (X : Xs) (c n : Int32) : Int32 × Xs := match X with
  | ((mn, yr, gr, kd, pt, wt, mr), _, _, _, _) =>
    if inR c 0 ((mn : Int) - 1) && inR n 1 60 then (nI (amx (putsF kd pt wt mr mn gr yr (ix c) (ix n)) 12), X) else fnd X 0
def f_best (X : Xs) (n : Int32) : Int32 × Xs := match X with
  | ((mn, yr, gr, kd, pt, wt, mr), _, _, _, _) =>
    if inR n 0 100 then (nI (bstN (tasteN (yearsG kd pt wt mr mn gr yr (ix n)) (sumN (yearsG kd pt wt mr mn gr yr (ix n)) 12)) 12), X) else fnd X 0
def f_dull (X : Xs) (n : Int32) : Int32 × Xs := match X with
  | ((mn, yr, gr, kd, pt, wt, mr), _, _, _, _) =>
    if inR n 1 60 then (nI (maskN (dullF kd pt wt mr mn gr yr (ix n)) mn), X) else fnd X 0
def f_better (X : Xs) (p n : Int32) : Int32 × Xs := match X with
  | ((mn, yr, gr, kd, pt, wt, mr), _, _, _, _) =>
    if inR p 0 11 && inR n 1 60 then
      if (bOut (pairF kd pt wt mr mn gr yr (ix p) (ix n)) mn (yearsG kd pt wt mr mn gr yr (ix n) (ix p), -1) mn).2 < 0 then fnd X 3
      else ((bOut (pairF kd pt wt mr mn gr yr (ix p) (ix n)) mn (yearsG kd pt wt mr mn gr yr (ix n) (ix p), -1) mn).2, X)
    else fnd X 0
