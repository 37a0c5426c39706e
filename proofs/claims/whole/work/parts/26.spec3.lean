/-! the tape's bytes and the sheets' numbers -/
def byt (x : Int32) : Nat := x.toUInt32.toNat % 256
theorem byt_lt (x : Int32) : byt x < 256 := Nat.mod_lt _ (by decide)
theorem byt_and (x : Int32) : x &&& nI 255 = nI (byt x) := by
  apply Int32.toBitVec_inj.mp
  apply BitVec.eq_of_toNat_eq
  rw [Int32.toBitVec_and, BitVec.toNat_and]
  show x.toBitVec.toNat &&& 255 = (BitVec.ofNat 32 (byt x)).toNat
  rw [BitVec.toNat_ofNat, Nat.mod_eq_of_lt (Nat.lt_trans (byt_lt x) (by decide))]
  exact Nat.and_two_pow_sub_one_eq_mod _ 8
theorem byt_b (x : Int32) : x.toInt8.toInt32 = sb_b (byt x) := by
  unfold sb_b
  congr 1
  apply Int8.toBitVec_inj.mp
  apply BitVec.eq_of_toNat_eq
  rw [Int32.toBitVec_toInt8, Int32.toBitVec_toInt8, BitVec.signExtend_eq_setWidth_of_le _ (by decide), BitVec.signExtend_eq_setWidth_of_le _ (by decide), BitVec.toNat_setWidth, BitVec.toNat_setWidth]
  show _ = (BitVec.ofNat 32 (byt x)).toNat % _
  rw [BitVec.toNat_ofNat, Nat.mod_eq_of_lt (Nat.lt_trans (byt_lt x) (by decide))]
  show _ = _ % 256 % 256
  rw [Nat.mod_mod]
  rfl
theorem byt_sb {v : Nat} (h : v < 256) : (sb_b v).toInt8.toInt32 = sb_b v := by
  have : ∀ c, c < 256 → (sb_b c).toInt8.toInt32 = sb_b c := by decide +kernel
  exact this v h
theorem tbB_upd {tb : Nat → Nat} {i v : Nat} (h : v < 256) : upd (tbB tb) i (vp_nar .byte (sb_b v)) = tbB (updN tb i v) := by
  funext j
  rw [vp_nar_byte, byt_sb h]
  unfold tbB upd updN
  split <;> rfl
/-- n bytes of b are fed, the highest first -/
def fedN (tb : Nat → Nat) (tn : Nat) (b : Int32) : Nat → (Nat → Nat)
  | 0 => tb
  | k + 1 => fedN (updN tb tn (byt (b >>> (nI (8 * k) &&& 31)))) (tn + 1) b k
def f_feed (X : Xs) (b n : Int32) : Int32 × Xs := match X with
  | (S, K, (tb, tn), H, tl) => if inR n 1 4 then if tn + ix n ≤ 120 then (nI (tn + ix n), (S, K, (fedN tb tn b (ix n), tn + ix n), H, tl)) else fnd X 1 else fnd X 0
def isWd (b : Int32) : Bool := b == nI 0 || b == nI 8 || b == nI 16 || b == nI 64
theorem isWd_nat {b : Int32} (h : isWd b = true) : ∃ w, (w = 0 ∨ w = 8 ∨ w = 16 ∨ w = 64) ∧ b = nI w := by
  simp only [isWd, Bool.or_eq_true, beq_iff_eq] at h
  rcases h with ((h | h) | h) | h
  · exact ⟨0, Or.inl rfl, h⟩
  · exact ⟨8, Or.inr (Or.inl rfl), h⟩
  · exact ⟨16, Or.inr (Or.inr (Or.inl rfl)), h⟩
  · exact ⟨64, Or.inr (Or.inr (Or.inr rfl)), h⟩
def updH (nm : Nat → Nat → Int64) (s : Nat) (f : Nat → Int64) : Nat → Nat → Int64 := fun q => if q = s then f else nm q
def narW (w : Nat) (v : Int64) : Int64 := if w = 8 then v.toInt32.toInt8.toInt32.toInt64 else if w = 16 then v.toInt32.toInt16.toInt32.toInt64 else v
def fndL (X : Xs) (k : Nat) : Int64 × Xs := ((fnd X k).1.toInt64, (fnd X k).2)
def f_sheet (X : Xs) (s b n : Int32) : Int32 × Xs := match X with
  | (S, K, T, (wd, sz, nm), tl) =>
    if inR s 0 3 && isWd b then if 0 ≤ n then if n ≤ nI 40 then (nI (if ix b = 0 then 0 else ix n), (S, K, T, (updN wd (ix s) (ix b), updN sz (ix s) (if ix b = 0 then 0 else ix n), updH nm (ix s) (fun _ => 0)), tl)) else fnd X 0 else fnd X 6
    else fnd X 0
def f_write (X : Xs) (s i : Int32) (v : Int64) : Int64 × Xs := match X with
  | (S, K, T, (wd, sz, nm), tl) =>
    if inR s 0 3 then if wd (ix s) = 0 then fndL X 5 else if inR i 0 ((sz (ix s) : Int) - 1) then (nm (ix s) (ix i), (S, K, T, (wd, sz, updH nm (ix s) (vp_updL (nm (ix s)) (ix i) (narW (wd (ix s)) v))), tl)) else fndL X 0 else fndL X 0
theorem flat_at {nm : Nat → Nat → Int64} {s k : Nat} (h : k < 40) : flat nm (40 * s + k) = nm s k := by
  unfold flat
  rw [show (40 * s + k) / 40 = s by omega, show (40 * s + k) % 40 = k by omega]
theorem flat_upd {nm : Nat → Nat → Int64} {s k : Nat} {v : Int64} (h : k < 40) : vp_updL (flat nm) (40 * s + k) v = flat (updH nm s (vp_updL (nm s) k v)) := by
  funext j
  unfold vp_updL flat updH
  by_cases e : j = 40 * s + k
  · rw [if_pos e, e, show (40 * s + k) / 40 = s by omega, show (40 * s + k) % 40 = k by omega, if_pos rfl, if_pos rfl]
  · rw [if_neg e]
    by_cases e2 : j / 40 = s
    · rw [if_pos e2, if_neg (by omega), e2]
    · rw [if_neg e2]
theorem flat_zero {nm : Nat → Nat → Int64} {F : Nat → Int64} {s i : Nat} (h : ∀ k, F k = if 40 * s ≤ k ∧ k < 40 * s + i then 0 else flat nm k) (hi : i = 40) : F = flat (updH nm s (fun _ => 0)) := by
  funext k
  rw [h k]
  unfold flat updH
  by_cases e : k / 40 = s
  · rw [if_pos (by omega), if_pos e]
  · rw [if_neg (by omega), if_neg e]
theorem le40 {n : Int32} (h0 : 0 ≤ n) (h1 : n ≤ nI 40) : ∃ j, j ≤ 40 ∧ n = nI j := by
  obtain ⟨j, -, h, e⟩ := inR_nat (lo := 0) (hi := 40) ((isW_iff (by decide) (by decide)).mp ⟨h0, h1⟩)
  exact ⟨j, h, e⟩
