/-! taking of a pot -/
def baseN (gr : Nat → Nat) (tt w p : Nat) : Nat := gr p * w / tt
def lackN (gr : Nat → Nat) (tt w : Nat) : Nat := w - sumN (baseN gr tt w) 12
def leftN (gr : Nat → Nat) (tt w : Nat) : Nat → Nat
  | 0 => lackN gr tt w
  | p + 1 => if 0 < leftN gr tt w p ∧ baseN gr tt w p < gr p then leftN gr tt w p - 1 else leftN gr tt w p
def ladN (gr : Nat → Nat) (tt w p : Nat) : Nat := if 0 < leftN gr tt w p ∧ baseN gr tt w p < gr p then baseN gr tt w p + 1 else baseN gr tt w p
def cntN (gr : Nat → Nat) (tt w : Nat) : Nat → Nat
  | 0 => 0
  | p + 1 => cntN gr tt w p + if baseN gr tt w p < gr p then 1 else 0
theorem baseN_le {gr : Nat → Nat} {tt w p : Nat} (h : w ≤ tt) : baseN gr tt w p ≤ gr p := by
  unfold baseN
  rcases Nat.eq_zero_or_pos tt with e | e
  · rw [e, Nat.div_zero]; exact Nat.zero_le _
  · exact Nat.div_le_of_le_mul (by rw [Nat.mul_comm tt]; exact Nat.mul_le_mul_left _ h)
theorem baseN_lt {gr : Nat → Nat} {tt w p : Nat} (h : w ≤ tt) (hr : 0 < gr p * w % tt) : baseN gr tt w p < gr p := by
  have h1 := baseN_le (gr := gr) (p := p) h
  rcases Nat.lt_or_ge (baseN gr tt w p) (gr p) with q | q
  · exact q
  · have e : gr p * w / tt = gr p := Nat.le_antisymm h1 q
    have h2 := Nat.div_add_mod (gr p * w) tt
    rw [e] at h2
    have h3 : gr p * w ≤ tt * gr p := by rw [Nat.mul_comm tt]; exact Nat.mul_le_mul_left _ h
    omega
theorem base_sum {gr : Nat → Nat} {tt w : Nat} (h : w ≤ tt) : ∀ n, tt * sumN (baseN gr tt w) n ≤ w * sumN gr n ∧ w * sumN gr n ≤ tt * (sumN (baseN gr tt w) n + cntN gr tt w n)
  | 0 => by simp [sumN]
  | n + 1 => by
    obtain ⟨h1, h2⟩ := base_sum (gr := gr) h n
    have h3 := Nat.div_add_mod (gr n * w) tt
    have e : w * gr n = gr n * w := Nat.mul_comm _ _
    rw [sumN, sumN, Nat.mul_add, Nat.mul_add, e]
    have eb : baseN gr tt w n = gr n * w / tt := rfl
    rw [eb] at *
    refine ⟨by omega, ?_⟩
    rw [cntN]
    rcases Nat.eq_zero_or_pos (gr n * w % tt) with q | q
    · have : tt * (sumN (baseN gr tt w) n + gr n * w / tt + (cntN gr tt w n + if baseN gr tt w n < gr n then 1 else 0)) = tt * (sumN (baseN gr tt w) n + cntN gr tt w n) + tt * (gr n * w / tt) + tt * (if baseN gr tt w n < gr n then 1 else 0) := by
        simp only [Nat.mul_add]; omega
      rw [this]
      omega
    · rw [if_pos (baseN_lt h q)]
      have hlt : gr n * w % tt ≤ tt := by
        rcases Nat.eq_zero_or_pos tt with z | z
        · have hw : w = 0 := by omega
          rw [hw] at q
          simp at q
        · exact Nat.le_of_lt (Nat.mod_lt _ z)
      have : tt * (sumN (baseN gr tt w) n + gr n * w / tt + (cntN gr tt w n + 1)) = tt * (sumN (baseN gr tt w) n + cntN gr tt w n) + tt * (gr n * w / tt) + tt := by
        simp only [Nat.mul_add]; omega
      rw [this]
      omega
theorem base_le {gr : Nat → Nat} {tt w n : Nat} (h : w ≤ tt) (ht : tt = sumN gr 12) (hn : n ≤ 12) : sumN (baseN gr tt w) n ≤ w := by
  rcases Nat.eq_zero_or_pos tt with z | z
  · have h1 : ∀ m, sumN (baseN gr tt w) m = 0 := fun m => by
      induction m with
      | zero => rfl
      | succ m ih => rw [sumN, ih]; unfold baseN; rw [z, Nat.div_zero]
    rw [h1]; exact Nat.zero_le _
  · have h1 := (base_sum (gr := gr) h n).1
    have h2 : w * sumN gr n ≤ w * tt := Nat.mul_le_mul_left _ (by rw [ht]; exact sumN_le gr hn)
    have h3 : tt * sumN (baseN gr tt w) n ≤ tt * w := by rw [Nat.mul_comm tt w]; omega
    exact Nat.le_of_mul_le_mul_left h3 z
theorem lack_le {gr : Nat → Nat} {tt w : Nat} (h : w ≤ tt) (ht : tt = sumN gr 12) : lackN gr tt w ≤ cntN gr tt w 12 := by
  unfold lackN
  rcases Nat.eq_zero_or_pos tt with z | z
  · omega
  · have h1 := (base_sum (gr := gr) h 12).2
    rw [← ht, Nat.mul_comm w tt] at h1
    have := Nat.le_of_mul_le_mul_left h1 z
    omega
theorem left_eq (gr : Nat → Nat) (tt w : Nat) : ∀ n, leftN gr tt w n = lackN gr tt w - cntN gr tt w n
  | 0 => rfl
  | n + 1 => by
    rw [leftN, cntN, left_eq gr tt w n]
    by_cases h : baseN gr tt w n < gr n
    · rw [if_pos h]
      split <;> omega
    · rw [if_neg h, if_neg (fun q => h q.2)]
      omega
theorem left_12 {gr : Nat → Nat} {tt w : Nat} (h : w ≤ tt) (ht : tt = sumN gr 12) : leftN gr tt w 12 = 0 := by
  rw [left_eq]
  have := lack_le h ht
  omega
theorem left_mono {gr : Nat → Nat} {tt w n : Nat} (h : leftN gr tt w n = 0) : ∀ m, leftN gr tt w (n + m) = 0
  | 0 => h
  | m + 1 => by
    show leftN gr tt w ((n + m) + 1) = 0
    rw [leftN, left_mono h m, if_neg (by omega)]
theorem lad_of_left {gr : Nat → Nat} {tt w n j : Nat} (h : leftN gr tt w n = 0) (hj : n ≤ j) : ladN gr tt w j = baseN gr tt w j := by
  have := left_mono h (j - n)
  rw [show n + (j - n) = j by omega] at this
  unfold ladN
  rw [if_neg (by omega)]
theorem lad_le {gr : Nat → Nat} {tt w p : Nat} (h : w ≤ tt) : ladN gr tt w p ≤ gr p := by
  unfold ladN
  have := baseN_le (gr := gr) (p := p) h
  split <;> omega
theorem lad_sum (gr : Nat → Nat) (tt w : Nat) : ∀ n, sumN (ladN gr tt w) n + leftN gr tt w n = sumN (baseN gr tt w) n + lackN gr tt w
  | 0 => rfl
  | n + 1 => by
    have h := lad_sum gr tt w n
    have e : ladN gr tt w n = if 0 < leftN gr tt w n ∧ baseN gr tt w n < gr n then baseN gr tt w n + 1 else baseN gr tt w n := rfl
    rw [sumN, sumN, leftN, e]
    split <;> omega
theorem lad_all {gr : Nat → Nat} {tt w : Nat} (h : w ≤ tt) (ht : tt = sumN gr 12) : sumN (ladN gr tt w) 12 = w := by
  have h1 := lad_sum gr tt w 12
  rw [left_12 h ht] at h1
  have h2 := base_le h ht (Nat.le_refl 12)
  unfold lackN at h1
  omega
/-- what is left of the pot when w is taken -/
def takeG (gr : Nat → Nat) (tt w : Nat) : Nat → Nat := fun j => gr j - ladN gr tt w j
theorem sum_sub {f h : Nat → Nat} (hle : ∀ j, h j ≤ f j) : ∀ n, sumN (fun j => f j - h j) n + sumN h n = sumN f n
  | 0 => rfl
  | n + 1 => by
    have e := sum_sub hle n
    have := hle n
    rw [sumN, sumN, sumN]
    omega
theorem take_sum {gr : Nat → Nat} {tt w : Nat} (h : w ≤ tt) (ht : tt = sumN gr 12) : sumN (takeG gr tt w) 12 = tt - w := by
  have h1 := sum_sub (f := gr) (h := ladN gr tt w) (fun j => lad_le h) 12
  have h2 := lad_all h ht
  unfold takeG
  omega
theorem take_le {gr : Nat → Nat} {tt w j : Nat} : takeG gr tt w j ≤ gr j := Nat.sub_le _ _
/-! a year -/
def serveG (kd pt wt mr gr : Nat → Nat) (tt yr c : Nat) : Nat → Nat :=
  updN (takeG gr tt (min (wantsN kd wt yr c) tt)) (whatN kd pt tt yr c)
    (takeG gr tt (min (wantsN kd wt yr c) tt) (whatN kd pt tt yr c) + min (putsN kd mr c (min (wantsN kd wt yr c) tt)) (99999 - (tt - min (wantsN kd wt yr c) tt)))
def yearG (kd pt wt mr : Nat → Nat) (mn : Nat) (gr : Nat → Nat) (yr : Nat) : Nat → Nat :=
  if mn = 0 then gr else serveG kd pt wt mr gr (sumN gr 12) yr (yr % mn)
def yearsG (kd pt wt mr : Nat → Nat) (mn : Nat) (gr : Nat → Nat) (yr : Nat) : Nat → Nat → Nat
  | 0 => gr
  | n + 1 => yearG kd pt wt mr mn (yearsG kd pt wt mr mn gr yr n) (yr + n)
theorem PB_take {gr kd pt wt mr : Nat → Nat} {tt yr mn w : Nat} (h : PB gr kd pt wt mr tt yr mn) (hw : w ≤ tt) : PB (takeG gr tt w) kd pt wt mr (tt - w) yr mn := by
  obtain ⟨h1, h2, h3, h4, h5, h6, h7, h8, h9⟩ := h
  exact ⟨(take_sum hw h1).symm, by omega, fun j => Nat.le_trans take_le (h3 j), h4, h5, h6, h7, h8, h9⟩
theorem serve_sum {gr kd pt wt mr : Nat → Nat} {tt yr mn c : Nat} (h : PB gr kd pt wt mr tt yr mn) : sumN (serveG kd pt wt mr gr tt yr c) 12 = tt - min (wantsN kd wt yr c) tt + min (putsN kd mr c (min (wantsN kd wt yr c) tt)) (99999 - (tt - min (wantsN kd wt yr c) tt)) := by
  obtain ⟨h1, h2, h3, h4, h5, h6, h7, h8, h9⟩ := h
  have hw : min (wantsN kd wt yr c) tt ≤ tt := Nat.min_le_right _ _
  have e := sumN_upd (takeG gr tt (min (wantsN kd wt yr c) tt)) (takeG gr tt (min (wantsN kd wt yr c) tt) (whatN kd pt tt yr c) + min (putsN kd mr c (min (wantsN kd wt yr c) tt)) (99999 - (tt - min (wantsN kd wt yr c) tt))) (n := 12) (whatN_lt (kd := kd) (tt := tt) (yr := yr) (h5 c))
  rw [take_sum hw h1] at e
  unfold serveG
  omega
theorem PB_serve {gr kd pt wt mr : Nat → Nat} {tt yr mn c : Nat} (h : PB gr kd pt wt mr tt yr mn) : PB (serveG kd pt wt mr gr tt yr c) kd pt wt mr (sumN (serveG kd pt wt mr gr tt yr c) 12) yr mn := by
  have e := serve_sum (c := c) h
  obtain ⟨h1, h2, h3, h4, h5, h6, h7, h8, h9⟩ := h
  refine ⟨rfl, by rw [e]; omega, fun j => ?_, h4, h5, h6, h7, h8, h9⟩
  by_cases q : j = whatN kd pt tt yr c
  · have hj : j < 12 := by rw [q]; exact whatN_lt (h5 c)
    have := sumN_ge (serveG kd pt wt mr gr tt yr c) hj
    rw [e] at this
    omega
  · unfold serveG
    rw [updN_n q]
    exact Nat.le_trans take_le (h3 j)
theorem PB_date {gr kd pt wt mr : Nat → Nat} {tt yr mn y2 : Nat} (h : PB gr kd pt wt mr tt yr mn) (hy : y2 ≤ 20000) : PB gr kd pt wt mr tt y2 mn := by
  obtain ⟨h1, h2, h3, h4, h5, h6, h7, h8, h9⟩ := h
  exact ⟨h1, h2, h3, h4, h5, h6, h7, hy, h9⟩
theorem PB_yrs {gr kd pt wt mr : Nat → Nat} {yr mn : Nat} (h : PB gr kd pt wt mr (sumN gr 12) yr mn) : ∀ n, yr + n ≤ 20000 → PB (yearsG kd pt wt mr mn gr yr n) kd pt wt mr (sumN (yearsG kd pt wt mr mn gr yr n) 12) (yr + n) mn
  | 0, _ => h
  | n + 1, hn => by
    have ih := PB_yrs h n (by omega)
    rw [yearsG, yearG]
    split
    · exact PB_date ih hn
    · exact PB_date (PB_serve ih) hn
/-! sets, the most, the least -/
def maskN (gr : Nat → Nat) : Nat → Nat
  | 0 => 0
  | p + 1 => maskN gr p + if 0 < gr p then 2 ^ p else 0
theorem maskN_lt (gr : Nat → Nat) : ∀ n, maskN gr n < 2 ^ n
  | 0 => Nat.zero_lt_one
  | n + 1 => by
    have := maskN_lt gr n
    rw [maskN, Nat.pow_succ]
    split <;> omega
def mostN (gr : Nat → Nat) : Nat → Nat
  | 0 => 0
  | p + 1 => if gr (mostN gr p) < gr p then p else mostN gr p
theorem mostN_lt (gr : Nat → Nat) : ∀ n, 0 < n → mostN gr n < n
  | 0, h => absurd h (by decide)
  | 1, _ => by rw [mostN]; split <;> exact Nat.zero_lt_one
  | n + 2, _ => by
    have := mostN_lt gr (n + 1) (by omega)
    rw [mostN]
    split <;> omega
def leastN (gr : Nat → Nat) (tt s : Nat) : Nat → Nat
  | 0 => if s = 0 then 0 else 1000
  | p + 1 => if s / 2 ^ p % 2 = 1 then min (leastN gr tt s p) (tasteN gr tt p) else leastN gr tt s p
theorem leastN_le (gr : Nat → Nat) (tt s : Nat) : ∀ n, leastN gr tt s n ≤ 1000
  | 0 => by rw [leastN]; split <;> decide
  | n + 1 => by
    have := leastN_le gr tt s n
    rw [leastN]
    split <;> omega
theorem s_l : ∀ n, n < 32 → ((nI n &&& 31).toBitVec.smod 32).toNat = n := by decide +kernel
theorem fa_and (a b : Nat) : nI a &&& nI b = nI (a &&& b) := by
  apply Int32.toBitVec_inj.1
  show BitVec.ofNat 32 a &&& BitVec.ofNat 32 b = BitVec.ofNat 32 (a &&& b)
  apply BitVec.eq_of_getLsbD_eq
  intro i hi
  simp [hi]
theorem fa_or (a b : Nat) : nI a ||| nI b = nI (a ||| b) := by
  apply Int32.toBitVec_inj.1
  show BitVec.ofNat 32 a ||| BitVec.ofNat 32 b = BitVec.ofNat 32 (a ||| b)
  apply BitVec.eq_of_getLsbD_eq
  intro i hi
  simp [hi]
theorem nI_bit {s p : Nat} (hs : s < 2 ^ 31) (hp : p < 32) : nI s >>> (nI p &&& 31) &&& nI 1 = nI (s / 2 ^ p % 2) := by
  rw [pk_shrN hs _ p (s_l p hp), fa_and, show (1 : Nat) = 2 ^ 1 - 1 from rfl, Nat.and_two_pow_sub_one_eq_mod]
theorem nI_setbit {s p : Nat} (hs : s < 2 ^ p) (hp : p < 31) : nI s ||| nI 1 <<< (nI p &&& 31) = nI (s + 2 ^ p) := by
  have h2 : (2 : Nat) ^ p < 2 ^ 31 := Nat.pow_lt_pow_right (by decide) hp
  rw [pk_shlN (n := 1) _ p (s_l p (by omega)) (by omega), Nat.one_mul, fa_or, Nat.or_comm]
  have := Nat.two_pow_add_eq_or_of_lt hs 1
  rw [Nat.mul_one] at this
  rw [← this, Nat.add_comm]
theorem fill_eq {t x v : Nat} (h : x ≤ t) : nI t + (nI v - nI x) = nI (t - x + v) := by
  have e : nI t = nI (t - x) + nI x := by rw [nI_add]; congr 1; omega
  rw [e, ← nI_add]
  have : nI (t - x) + nI x + (nI v - nI x) = nI (t - x) + nI v := by
    rw [Int32.add_assoc]
    congr 1
    rw [Int32.sub_eq_add_neg, Int32.add_comm, Int32.add_assoc, Int32.add_left_neg, Int32.add_zero]
  exact this
def exchN (f : Nat → Nat) (i j : Nat) : Nat → Nat := updN (updN f i (f j)) j (f i)
def waterN (pt : Nat → Nat) (mn c : Nat) : Nat → Nat := fun j => if j < mn ∧ j ≠ c then 0 else pt j
