/-! the system's state in plain numbers, and its cells -/
def updN (f : Nat → Nat) (k v : Nat) : Nat → Nat := fun j => if j = k then v else f j
theorem updN_s {f : Nat → Nat} {k v : Nat} : updN f k v k = v := if_pos rfl
theorem updN_n {f : Nat → Nat} {k v j : Nat} (h : j ≠ k) : updN f k v j = f j := if_neg h
theorem upd_nI (f : Nat → Nat) (k v : Nat) : upd (fun j => nI (f j)) k (nI v) = fun j => nI (updN f k v j) := by
  funext j
  by_cases h : j = k
  · rw [h, updN_s, pk_us]
  · rw [updN_n h, pk_un h]
def sumN (f : Nat → Nat) : Nat → Nat
  | 0 => 0
  | n + 1 => sumN f n + f n
theorem sumN_le (f : Nat → Nat) : ∀ {n m : Nat}, n ≤ m → sumN f n ≤ sumN f m
  | n, 0, h => by rw [Nat.le_zero.mp h]; exact Nat.le_refl _
  | n, m + 1, h => by
    rcases Nat.lt_or_ge n (m + 1) with q | q
    · exact Nat.le_trans (sumN_le f (Nat.le_of_lt_succ q)) (Nat.le_add_right _ _)
    · rw [Nat.le_antisymm h q]; exact Nat.le_refl _
theorem sumN_ge (f : Nat → Nat) {k n : Nat} (h : k < n) : f k ≤ sumN f n := Nat.le_trans (Nat.le_add_left _ _) (sumN_le f (n := k + 1) h)
theorem sumN_cong {f h : Nat → Nat} : ∀ {n : Nat}, (∀ j, j < n → f j = h j) → sumN f n = sumN h n
  | 0, _ => rfl
  | n + 1, e => by rw [sumN, sumN, sumN_cong (fun j hj => e j (Nat.lt_succ_of_lt hj)), e n (Nat.lt_succ_self n)]
theorem sumN_upd (f : Nat → Nat) (v : Nat) {k : Nat} : ∀ {n : Nat}, k < n → sumN (updN f k v) n + f k = sumN f n + v
  | 0, h => absurd h (Nat.not_lt_zero k)
  | n + 1, h => by
    rw [sumN, sumN]
    rcases Nat.lt_or_ge k n with q | q
    · have := sumN_upd f v q
      rw [updN_n (by omega : n ≠ k)]
      omega
    · have e : k = n := by omega
      subst e
      rw [sumN_cong (f := updN f k v) (h := f) (fun j hj => updN_n (by omega)), updN_s]
      omega
/-- a Pot: grains, ladle, kinds, parts, weights, merits; total, date, staff -/
def potV (g : Gl) (a : Nat → Nat) (gr la kd pt wt mr : Nat → Nat) (tt yr mn : Nat) : va_W :=
  [(a 0, .inr (0, [.ref (a 1), .ref (a 2), .ref (a 3), .ref (a 4), .ref (a 5), .ref (a 6), .int (nI tt), .int (nI yr), .int (nI mn)])), (a 1, .inl (g.2.1.1, 12, .inl (fun j => nI (gr j)))), (a 2, .inl (g.2.1.1, 12, .inl (fun j => nI (la j)))), (a 3, .inl (g.2.1.1, 8, .inl (fun j => nI (kd j)))), (a 4, .inl (g.2.1.1, 8, .inl (fun j => nI (pt j)))), (a 5, .inl (g.2.1.1, 8, .inl (fun j => nI (wt j)))), (a 6, .inl (g.2.1.1, 8, .inl (fun j => nI (mr j))))]
/-- the numbers' bounds -/
def PB (gr kd pt wt mr : Nat → Nat) (tt yr mn : Nat) : Prop := tt = sumN gr 12 ∧ tt ≤ 99999 ∧ (∀ j, gr j ≤ 99999) ∧ (∀ j, kd j ≤ 5) ∧ (∀ j, pt j ≤ 11) ∧ (∀ j, wt j ≤ 999) ∧ (∀ j, mr j ≤ 9) ∧ yr ≤ 20000 ∧ mn ≤ 8
section
variable {φ : Fx} {g : Gl} {cc : ByteArray} {nL pc : Nat} {own : String} {rm : Room} {lv : List (Nat × Value)} {st : List Value} {ws : va_W}
theorem g_ialdM {a n j : Nat} {cA : ClassId} {f : Nat → Nat} (C : Cx φ g cc nL own rm) (hd : decode cc pc = .ok (.iaload, 1)) (q0 : Nat) (ha : ws[q0]? = some (a, .inl (cA, n, .inl (fun j => nI (f j))))) (hA : cA = g.2.1.1) (hj : j < n) (hn : n < 2 ^ 31) (k : Go φ g nL (pc + 1) lv (.int (nI (f j)) :: st) ws) : Go φ g nL pc lv (.int (nI j) :: .ref a :: st) ws := g_ialdN C hd q0 ha hA hj hn k
theorem g_iastM {a n j v : Nat} {cA : ClassId} {f : Nat → Nat} {ws2 : va_W} (C : Cx φ g cc nL own rm) (hd : decode cc pc = .ok (.iastore, 1)) (q0 : Nat) (ha : ws[q0]? = some (a, .inl (cA, n, .inl (fun j => nI (f j))))) (hA : cA = g.2.1.1) (hj : j < n) (hn : n < 2 ^ 31) (hw : ws.set q0 (a, .inl (cA, n, .inl (fun i => nI (updN f j v i)))) = ws2) (k : Go φ g nL (pc + 1) lv st ws2) : Go φ g nL pc lv (.int (nI v) :: .int (nI j) :: .ref a :: st) ws := g_iastN C hd q0 ha hA hj hn (by rw [upd_nI]; exact hw) k
theorem g_isubN {x y : Nat} (C : Cx φ g cc nL own rm) (hd : decode cc pc = .ok (.isub, 1)) (h : y ≤ x) (k : Go φ g nL (pc + 1) lv (.int (nI (x - y)) :: st) ws) : Go φ g nL pc lv (.int (nI y) :: .int (nI x) :: st) ws := g_isub C hd (by rw [pk_sub h]; exact k)
theorem g_iaddN {x y : Nat} (C : Cx φ g cc nL own rm) (hd : decode cc pc = .ok (.iadd, 1)) (k : Go φ g nL (pc + 1) lv (.int (nI (x + y)) :: st) ws) : Go φ g nL pc lv (.int (nI y) :: .int (nI x) :: st) ws := g_iadd C hd (by rw [nI_add]; exact k)
theorem g_imulN {x y : Nat} (C : Cx φ g cc nL own rm) (hd : decode cc pc = .ok (.imul, 1)) (k : Go φ g nL (pc + 1) lv (.int (nI (x * y)) :: st) ws) : Go φ g nL pc lv (.int (nI y) :: .int (nI x) :: st) ws := g_imul C hd (by rw [pk_mul]; exact k)
theorem g_idivN {x y : Nat} (C : Cx φ g cc nL own rm) (hd : decode cc pc = .ok (.idiv, 1)) (hx : x < 2 ^ 31) (h0 : 0 < y) (hy : y < 2 ^ 31) (k : Go φ g nL (pc + 1) lv (.int (nI (x / y)) :: st) ws) : Go φ g nL pc lv (.int (nI y) :: .int (nI x) :: st) ws := g_idiv C hd (nI_ne0 h0 hy) (by rw [pk_div hx h0 hy]; exact k)
theorem g_iremN {x y : Nat} (C : Cx φ g cc nL own rm) (hd : decode cc pc = .ok (.irem, 1)) (hx : x < 2 ^ 31) (h0 : 0 < y) (hy : y < 2 ^ 31) (k : Go φ g nL (pc + 1) lv (.int (nI (x % y)) :: st) ws) : Go φ g nL pc lv (.int (nI y) :: .int (nI x) :: st) ws := g_irem C hd (nI_ne0 h0 hy) (by rw [pk_rem hx h0 hy]; exact k)
theorem nI_min {x y : Nat} (hx : x < 2 ^ 31) (hy : y < 2 ^ 31) : (if nI y < nI x then nI y else nI x) = nI (min x y) := by
  rcases Nat.lt_or_ge y x with h | h
  · rw [if_pos (nI_lt h hx), Nat.min_eq_right (by omega)]
  · rw [if_neg (nI_nlt h hy), Nat.min_eq_left h]
theorem nI_max0 {x y : Nat} (hx : x < 2 ^ 30) (hy : y < 2 ^ 30) : (if nI x - nI y < nI 0 then nI 0 else nI x - nI y) = nI (x - y) := by
  rcases Nat.lt_or_ge x y with h | h
  · rw [if_pos (show nI x - nI y < nI 0 from pk_sneg hy h), Nat.sub_eq_zero_of_le (by omega)]
  · rw [pk_sub h, if_neg (nI_nlt (Nat.zero_le _) (by omega))]
theorem g_mminN {ix x y : Nat} (C : Cx φ g cc nL own rm) (hd : decode cc pc = .ok (.invokestatic ix, 3)) (hm : Cond.methodLink own ix Lib.Math.min.name ∈ TB) (hf : 1 ≤ rm.frames) (hr : (st.map fun v => v.category).sum + 13 ≤ rm.locals) (hx : x < 2 ^ 31) (hy : y < 2 ^ 31) (k : Go φ g nL (pc + 3) lv (.int (nI (min x y)) :: st) ws) : Go φ g nL pc lv (.int (nI y) :: .int (nI x) :: st) ws := g_mmin C hd hm hf hr (by rw [nI_min hx hy]; exact k)
end
/-! what the parts of a Pot come to -/
def tasteN (gr : Nat → Nat) (tt p : Nat) : Nat := 1000 * gr p / tt
def wantsN (kd wt : Nat → Nat) (yr c : Nat) : Nat := if kd c = 1 then wt c / 2 else if kd c = 2 then wt c + 50 else if kd c = 4 then (if yr % 7 = 0 then 0 else wt c / 2) else if kd c = 5 then 2 * (wt c + 50) else wt c
def putsN (kd mr : Nat → Nat) (c t : Nat) : Nat := if kd c = 2 then t + mr c + t / 10 else if kd c = 3 then t else if kd c = 4 then t + mr c - 5 else if kd c = 5 then t + mr c + t / 10 - t / 2 else t + mr c
def whatN (kd pt : Nat → Nat) (tt yr c : Nat) : Nat := if kd c = 3 then 0 else if kd c = 4 then (if yr % 5 = 0 then 3 else pt c) else if kd c = 5 then (if tt < 500 then 11 else pt c) else pt c
theorem wantsN_le {kd wt : Nat → Nat} {yr c : Nat} (h : wt c ≤ 999) : wantsN kd wt yr c ≤ 2098 := by
  unfold wantsN
  split
  · omega
  split
  · omega
  split
  · split <;> omega
  split <;> omega
theorem putsN_le {kd mr : Nat → Nat} {c t : Nat} (h : mr c ≤ 9) : putsN kd mr c t ≤ 2 * t + 9 := by
  unfold putsN
  split
  · omega
  split
  · omega
  split
  · omega
  split <;> omega
theorem whatN_lt {kd pt : Nat → Nat} {tt yr c : Nat} (h : pt c ≤ 11) : whatN kd pt tt yr c < 12 := by
  unfold whatN
  split
  · omega
  split
  · split <;> omega
  split
  · split <;> omega
  omega
