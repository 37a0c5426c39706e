/-! the reference's cells -/
def mdV (g : Gl) (a : Nat → Nat) (s ks os sd sts : Nat → Nat) (kp : Nat) (tk tp : Nat → Nat) (tn fr to vl wr : Nat) (bo so : Nat → Nat) (nm mv : Nat → Int64) : va_W :=
  [(a 0, .inr (4, [.ref (a 1), .ref (a 2), .ref (a 3), .ref (a 4), .ref (a 5), .int (nI kp), .ref (a 6), .ref (a 7), .int (nI tn), .int (nI fr), .int (nI to), .int (nI vl), .int (nI wr), .ref (a 8), .ref (a 9), .ref (a 10), .ref (a 11)])),
   (a 1, .inl (g.2.1.1, 46, .inl (fun j => nI (s j)))), (a 2, .inl (g.2.1.1, 46, .inl (fun j => nI (ks j)))), (a 3, .inl (g.2.1.1, 46, .inl (fun j => nI (os j)))), (a 4, .inl (g.2.1.1, 46, .inl (fun j => nI (sd j)))), (a 5, .inl (g.2.1.1, 7, .inl (fun j => nI (sts j)))), (a 6, .inl (g.2.1.1, 12, .inl (fun j => nI (tk j)))), (a 7, .inl (g.2.1.1, 120, .inl (fun j => nI (tp j)))), (a 8, .inl (g.2.1.1, 4, .inl (fun j => nI (bo j)))), (a 9, .inl (g.2.1.1, 4, .inl (fun j => nI (so j)))), (a 10, .inl (g.2.1.2.1, 160, .inr (.inl nm))), (a 11, .inl (g.2.1.2.1, 40, .inr (.inl mv)))]
/-- its one row of ints -/
def sF (mn yr : Nat) (gr kd pt wt mr : Nat → Nat) : Nat → Nat := fun k =>
  if k = 0 then mn else if k = 1 then yr else if k < 14 then gr (k - 2) else if (k - 14) % 4 = 0 then kd ((k - 14) / 4) else if (k - 14) % 4 = 1 then pt ((k - 14) / 4) else if (k - 14) % 4 = 2 then wt ((k - 14) / 4) else mr ((k - 14) / 4)
section
variable {mn yr v c p : Nat} {gr kd pt wt mr : Nat → Nat}
theorem sF_r0 : sF mn yr gr kd pt wt mr 0 = mn := if_pos rfl
theorem sF_r1 : sF mn yr gr kd pt wt mr 1 = yr := by simp [sF]
theorem sF_rg (h : p < 12) : sF mn yr gr kd pt wt mr (2 + p) = gr p := by
  unfold sF
  rw [if_neg (by omega), if_neg (by omega), if_pos (by omega), show 2 + p - 2 = p by omega]
theorem sF_rk : sF mn yr gr kd pt wt mr (14 + 4 * c + 0) = kd c := by
  unfold sF
  rw [if_neg (by omega), if_neg (by omega), if_neg (by omega), if_pos (by omega), show (14 + 4 * c + 0 - 14) / 4 = c by omega]
theorem sF_rp : sF mn yr gr kd pt wt mr (14 + 4 * c + 1) = pt c := by
  unfold sF
  rw [if_neg (by omega), if_neg (by omega), if_neg (by omega), if_neg (by omega), if_pos (by omega), show (14 + 4 * c + 1 - 14) / 4 = c by omega]
theorem sF_rw : sF mn yr gr kd pt wt mr (14 + 4 * c + 2) = wt c := by
  unfold sF
  rw [if_neg (by omega), if_neg (by omega), if_neg (by omega), if_neg (by omega), if_neg (by omega), if_pos (by omega), show (14 + 4 * c + 2 - 14) / 4 = c by omega]
theorem sF_rm : sF mn yr gr kd pt wt mr (14 + 4 * c + 3) = mr c := by
  unfold sF
  rw [if_neg (by omega), if_neg (by omega), if_neg (by omega), if_neg (by omega), if_neg (by omega), if_neg (by omega), show (14 + 4 * c + 3 - 14) / 4 = c by omega]
theorem sF_w0 : updN (sF mn yr gr kd pt wt mr) 0 v = sF v yr gr kd pt wt mr := by
  funext k
  by_cases h : k = 0
  · rw [h, updN_s, sF_r0]
  · rw [updN_n h]; unfold sF; rw [if_neg h, if_neg h]
theorem sF_w1 : updN (sF mn yr gr kd pt wt mr) 1 v = sF mn v gr kd pt wt mr := by
  funext k
  by_cases h : k = 1
  · rw [h, updN_s, sF_r1]
  · rw [updN_n h]; unfold sF; rw [if_neg h, if_neg h]
theorem sF_wg (hp : p < 12) : updN (sF mn yr gr kd pt wt mr) (2 + p) v = sF mn yr (updN gr p v) kd pt wt mr := by
  funext k
  by_cases h : k = 2 + p
  · rw [h, updN_s, sF_rg hp, updN_s]
  · rw [updN_n h]
    unfold sF
    by_cases h0 : k = 0
    · rw [if_pos h0, if_pos h0]
    by_cases h1 : k = 1
    · rw [if_neg h0, if_neg h0, if_pos h1, if_pos h1]
    by_cases h2 : k < 14
    · rw [if_neg h0, if_neg h0, if_neg h1, if_neg h1, if_pos h2, if_pos h2, updN_n (by omega)]
    · rw [if_neg h0, if_neg h0, if_neg h1, if_neg h1, if_neg h2, if_neg h2]
theorem sF_wk : updN (sF mn yr gr kd pt wt mr) (14 + 4 * c + 0) v = sF mn yr gr (updN kd c v) pt wt mr := by
  funext k
  by_cases h : k = 14 + 4 * c + 0
  · rw [h, updN_s, sF_rk, updN_s]
  · rw [updN_n h]
    unfold sF
    by_cases h3 : 14 ≤ k ∧ (k - 14) % 4 = 0
    · rw [updN_n (k := c) (by omega)]
    · by_cases h2 : k < 14
      · simp only [h2, if_true]
      · have h4 : ¬ (k - 14) % 4 = 0 := fun q => h3 ⟨by omega, q⟩
        simp only [h4, if_false]
theorem sF_wp : updN (sF mn yr gr kd pt wt mr) (14 + 4 * c + 1) v = sF mn yr gr kd (updN pt c v) wt mr := by
  funext k
  by_cases h : k = 14 + 4 * c + 1
  · rw [h, updN_s, sF_rp, updN_s]
  · rw [updN_n h]
    unfold sF
    by_cases h3 : 14 ≤ k ∧ (k - 14) % 4 = 1
    · rw [updN_n (k := c) (by omega)]
    · by_cases h2 : k < 14
      · simp only [h2, if_true]
      · have h4 : ¬ (k - 14) % 4 = 1 := fun q => h3 ⟨by omega, q⟩
        simp only [h4, if_false]
theorem sF_ww : updN (sF mn yr gr kd pt wt mr) (14 + 4 * c + 2) v = sF mn yr gr kd pt (updN wt c v) mr := by
  funext k
  by_cases h : k = 14 + 4 * c + 2
  · rw [h, updN_s, sF_rw, updN_s]
  · rw [updN_n h]
    unfold sF
    by_cases h3 : 14 ≤ k ∧ (k - 14) % 4 = 2
    · rw [updN_n (k := c) (by omega)]
    · by_cases h2 : k < 14
      · simp only [h2, if_true]
      · have h4 : ¬ (k - 14) % 4 = 2 := fun q => h3 ⟨by omega, q⟩
        simp only [h4, if_false]
theorem sF_wm : updN (sF mn yr gr kd pt wt mr) (14 + 4 * c + 3) v = sF mn yr gr kd pt wt (updN mr c v) := by
  funext k
  by_cases h : k = 14 + 4 * c + 3
  · rw [h, updN_s, sF_rm, updN_s]
  · rw [updN_n h]
    unfold sF
    by_cases h3 : 14 ≤ k ∧ (k - 14) % 4 = 3
    · rw [updN_n (k := c) (by omega)]
    · by_cases h2 : k < 14
      · simp only [h2, if_true]
      · by_cases e0 : (k - 14) % 4 = 0
        · simp only [e0, if_true]
        by_cases e1 : (k - 14) % 4 = 1
        · simp only [e1, if_true, if_false, e0]
        have e2 : (k - 14) % 4 = 2 := by omega
        simp only [e2, if_true, e1, e0, if_false]
end
def itF (kd pt wt mr : Nat → Nat) (c k : Nat) : Nat := if k = 0 then kd c else if k = 1 then pt c else if k = 2 then wt c else mr c
theorem sF_it {mn yr c k : Nat} {gr kd pt wt mr : Nat → Nat} (hk : k < 4) : sF mn yr gr kd pt wt mr (14 + 4 * c + k) = itF kd pt wt mr c k := by
  rcases (show k = 0 ∨ k = 1 ∨ k = 2 ∨ k = 3 by omega) with rfl | rfl | rfl | rfl
  · exact sF_rk
  · exact sF_rp
  · exact sF_rw
  · exact sF_rm
/-! findings; ranges -/
def fd : Nat → Int32
  | 0 => -1000000001
  | 1 => -1000000002
  | 2 => -1000000003
  | 3 => -1000000004
  | 4 => -1000000005
  | 5 => -1000000006
  | _ => -1000000007
theorem fd_ix : ∀ k, k < 7 → (-1000000001) - fd k = nI k := by decide +kernel
theorem fd_eq : ∀ k, k < 7 → (-1000000001) - nI k = fd k := by decide +kernel
def inR (v : Int32) (lo hi : Int) : Bool := decide (lo ≤ v.toInt ∧ v.toInt ≤ hi)
theorem inR_iff {v : Int32} {lo hi : Int} : inR v lo hi = true ↔ (lo ≤ v.toInt ∧ v.toInt ≤ hi) := decide_eq_true_iff
theorem inR_nat {v : Int32} {lo hi : Nat} (h : inR v lo hi = true) : ∃ j : Nat, lo ≤ j ∧ j ≤ hi ∧ v = nI j := by
  replace h := inR_iff.mp h
  have h1 : (lo : Int) ≤ v.toInt := h.1
  have h2 : v.toInt ≤ (hi : Int) := h.2
  have h3 := Int32.toInt_lt v
  refine ⟨v.toInt.toNat, by omega, by omega, ?_⟩
  apply Int32.toInt_inj.mp
  rw [nI_toInt (by omega)]
  omega
def ix (v : Int32) : Nat := v.toInt.toNat
theorem ix_nI {j : Nat} (h : j < 2 ^ 31) : ix (nI j) = j := by rw [ix, nI_toInt h]; rfl
theorem w64 {lo hi : Int64} {v : Int32} : (lo ≤ v.toInt64 ∧ v.toInt64 ≤ hi) ↔ (lo.toInt ≤ v.toInt ∧ v.toInt ≤ hi.toInt) := by
  rw [Int64.le_iff_toInt_le, Int64.le_iff_toInt_le, Int32.toInt_toInt64]
theorem mul_div64 {a w t : Nat} (ha : a ≤ 99999) (hw : w ≤ 20000) (h0 : 0 < t) (ht : t ≤ 99999) : ((nI a).toInt64 * (nI w).toInt64 / (nI t).toInt64).toInt32 = nI (a * w / t) := by
  have h1 : a * w ≤ 99999 * 20000 := Nat.mul_le_mul ha hw
  rw [nI_l (by omega), nI_l (by omega), nI_l (by omega), lN_mul, pk_lDiv (by omega) h0 (by omega), lN_i]
theorem nar_bI {P : Prop} [Decidable P] : narrow .boolean (.int (bI P)) = .int (bI P) := by
  unfold bI
  split <;> rfl
abbrev underN (k o : Nat) : Prop := k = o ∨ o = 0 ∨ (k = 4 ∧ o = 1) ∨ (k = 5 ∧ o = 2)
abbrev soN (gr : Nat → Nat) (q p v : Nat) : Prop := (q = 0 ∧ 500 < tasteN gr (sumN gr 12) 0) ∨ (q = 1 ∧ gr p ≤ v) ∨ (q = 2 ∧ v ≤ tasteN gr (sumN gr 12) p)
/-- the first below n of which P is true; n if there is none -/
def fstN (P : Nat → Prop) [DecidablePred P] : Nat → Nat
  | 0 => 0
  | n + 1 => if fstN P n < n then fstN P n else if P n then n else n + 1
theorem fst_le (P : Nat → Prop) [DecidablePred P] : ∀ n, fstN P n ≤ n
  | 0 => Nat.le_refl 0
  | n + 1 => by
    have := fst_le P n
    rw [fstN]
    split
    · omega
    split <;> omega
theorem fst_none {P : Nat → Prop} [DecidablePred P] : ∀ {n : Nat}, (∀ j, j < n → ¬ P j) → fstN P n = n
  | 0, _ => rfl
  | n + 1, h => by
    rw [fstN, fst_none (fun j hj => h j (by omega)), if_neg (by omega), if_neg (h n (by omega))]
theorem fst_at {P : Nat → Prop} [DecidablePred P] {i : Nat} (h : ∀ j, j < i → ¬ P j) (hi : P i) : ∀ {n : Nat}, i < n → fstN P n = i
  | 0, hn => absurd hn (Nat.not_lt_zero i)
  | n + 1, hn => by
    rw [fstN]
    rcases Nat.lt_or_ge i n with q | q
    · rw [fst_at h hi q, if_pos q]
    · have e : i = n := by omega
      subst e
      rw [fst_none h, if_neg (by omega), if_pos hi]
/-- fstN under a name that doesn't unfold -/
theorem fstL_ex (P : Nat → Prop) [DecidablePred P] (n : Nat) : ∃ r, r = fstN P n := ⟨_, rfl⟩
noncomputable def fstL (P : Nat → Prop) [DecidablePred P] (n : Nat) : Nat := Classical.choose (fstL_ex P n)
theorem fstL_eq (P : Nat → Prop) [DecidablePred P] (n : Nat) : fstL P n = fstN P n := Classical.choose_spec (fstL_ex P n)
/-- in how many years on it is so first; 201: in none -/
noncomputable def fsN (kd pt wt mr : Nat → Nat) (mn : Nat) (gr : Nat → Nat) (yr q p v : Nat) : Nat := fstL (fun n => soN (yearsG kd pt wt mr mn gr yr n) q p v) 201
theorem fsN_at {kd pt wt mr : Nat → Nat} {mn : Nat} {gr : Nat → Nat} {yr q p v i : Nat} (h : ∀ j, j < i → ¬ soN (yearsG kd pt wt mr mn gr yr j) q p v) (hi : soN (yearsG kd pt wt mr mn gr yr i) q p v) (hl : i < 201) : fsN kd pt wt mr mn gr yr q p v = i := (fstL_eq _ _).trans (fst_at (P := fun n => soN (yearsG kd pt wt mr mn gr yr n) q p v) h hi hl)
theorem fsN_none {kd pt wt mr : Nat → Nat} {mn : Nat} {gr : Nat → Nat} {yr q p v : Nat} (h : ∀ j, j < 201 → ¬ soN (yearsG kd pt wt mr mn gr yr j) q p v) : fsN kd pt wt mr mn gr yr q p v = 201 := (fstL_eq _ _).trans (fst_none (P := fun n => soN (yearsG kd pt wt mr mn gr yr n) q p v) h)
