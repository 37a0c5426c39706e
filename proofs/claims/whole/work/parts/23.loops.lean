theorem g_loop5 {φ : Fx} {g : Gl} {nL pc : Nat} {A0 A1 A2 A3 A4 : Type} (n : Nat) (inv : Nat → A0 → A1 → A2 → A3 → A4 → Prop) (lv : Nat → A0 → A1 → A2 → A3 → A4 → List (Nat × Value)) (ws : Nat → A0 → A1 → A2 → A3 → A4 → va_W) (step : ∀ (i : Nat) (x0 : A0) (x1 : A1) (x2 : A2) (x3 : A3) (x4 : A4), i ≤ n → inv i x0 x1 x2 x3 x4 → (∀ (z0 : A0) (z1 : A1) (z2 : A2) (z3 : A3) (z4 : A4), i < n → inv (i + 1) z0 z1 z2 z3 z4 → Go φ g nL pc (lv (i + 1) z0 z1 z2 z3 z4) [] (ws (i + 1) z0 z1 z2 z3 z4)) → Go φ g nL pc (lv i x0 x1 x2 x3 x4) [] (ws i x0 x1 x2 x3 x4)) (i : Nat) (x0 : A0) (x1 : A1) (x2 : A2) (x3 : A3) (x4 : A4) (hi : i ≤ n) (hv : inv i x0 x1 x2 x3 x4) : Go φ g nL pc (lv i x0 x1 x2 x3 x4) [] (ws i x0 x1 x2 x3 x4) :=
  g_loop (σ := A0 × A1 × A2 × A3 × A4) n (fun i q => inv i q.1 q.2.1 q.2.2.1 q.2.2.2.1 q.2.2.2.2) (fun i q => lv i q.1 q.2.1 q.2.2.1 q.2.2.2.1 q.2.2.2.2) (fun i q => ws i q.1 q.2.1 q.2.2.1 q.2.2.2.1 q.2.2.2.2) (fun i q hi hv ih => step i q.1 q.2.1 q.2.2.1 q.2.2.2.1 q.2.2.2.2 hi hv (fun z0 z1 z2 z3 z4 a b => ih (z0, z1, z2, z3, z4) a b)) i (x0, x1, x2, x3, x4) hi hv
theorem g_loop6 {φ : Fx} {g : Gl} {nL pc : Nat} {A0 A1 A2 A3 A4 A5 : Type} (n : Nat) (inv : Nat → A0 → A1 → A2 → A3 → A4 → A5 → Prop) (lv : Nat → A0 → A1 → A2 → A3 → A4 → A5 → List (Nat × Value)) (ws : Nat → A0 → A1 → A2 → A3 → A4 → A5 → va_W) (step : ∀ (i : Nat) (x0 : A0) (x1 : A1) (x2 : A2) (x3 : A3) (x4 : A4) (x5 : A5), i ≤ n → inv i x0 x1 x2 x3 x4 x5 → (∀ (z0 : A0) (z1 : A1) (z2 : A2) (z3 : A3) (z4 : A4) (z5 : A5), i < n → inv (i + 1) z0 z1 z2 z3 z4 z5 → Go φ g nL pc (lv (i + 1) z0 z1 z2 z3 z4 z5) [] (ws (i + 1) z0 z1 z2 z3 z4 z5)) → Go φ g nL pc (lv i x0 x1 x2 x3 x4 x5) [] (ws i x0 x1 x2 x3 x4 x5)) (i : Nat) (x0 : A0) (x1 : A1) (x2 : A2) (x3 : A3) (x4 : A4) (x5 : A5) (hi : i ≤ n) (hv : inv i x0 x1 x2 x3 x4 x5) : Go φ g nL pc (lv i x0 x1 x2 x3 x4 x5) [] (ws i x0 x1 x2 x3 x4 x5) :=
  g_loop (σ := A0 × A1 × A2 × A3 × A4 × A5) n (fun i q => inv i q.1 q.2.1 q.2.2.1 q.2.2.2.1 q.2.2.2.2.1 q.2.2.2.2.2) (fun i q => lv i q.1 q.2.1 q.2.2.1 q.2.2.2.1 q.2.2.2.2.1 q.2.2.2.2.2) (fun i q => ws i q.1 q.2.1 q.2.2.1 q.2.2.2.1 q.2.2.2.2.1 q.2.2.2.2.2) (fun i q hi hv ih => step i q.1 q.2.1 q.2.2.1 q.2.2.2.1 q.2.2.2.2.1 q.2.2.2.2.2 hi hv (fun z0 z1 z2 z3 z4 z5 a b => ih (z0, z1, z2, z3, z4, z5) a b)) i (x0, x1, x2, x3, x4, x5) hi hv
theorem g_loop7 {φ : Fx} {g : Gl} {nL pc : Nat} {A0 A1 A2 A3 A4 A5 A6 : Type} (n : Nat) (inv : Nat → A0 → A1 → A2 → A3 → A4 → A5 → A6 → Prop) (lv : Nat → A0 → A1 → A2 → A3 → A4 → A5 → A6 → List (Nat × Value)) (ws : Nat → A0 → A1 → A2 → A3 → A4 → A5 → A6 → va_W) (step : ∀ (i : Nat) (x0 : A0) (x1 : A1) (x2 : A2) (x3 : A3) (x4 : A4) (x5 : A5) (x6 : A6), i ≤ n → inv i x0 x1 x2 x3 x4 x5 x6 → (∀ (z0 : A0) (z1 : A1) (z2 : A2) (z3 : A3) (z4 : A4) (z5 : A5) (z6 : A6), i < n → inv (i + 1) z0 z1 z2 z3 z4 z5 z6 → Go φ g nL pc (lv (i + 1) z0 z1 z2 z3 z4 z5 z6) [] (ws (i + 1) z0 z1 z2 z3 z4 z5 z6)) → Go φ g nL pc (lv i x0 x1 x2 x3 x4 x5 x6) [] (ws i x0 x1 x2 x3 x4 x5 x6)) (i : Nat) (x0 : A0) (x1 : A1) (x2 : A2) (x3 : A3) (x4 : A4) (x5 : A5) (x6 : A6) (hi : i ≤ n) (hv : inv i x0 x1 x2 x3 x4 x5 x6) : Go φ g nL pc (lv i x0 x1 x2 x3 x4 x5 x6) [] (ws i x0 x1 x2 x3 x4 x5 x6) :=
  g_loop (σ := A0 × A1 × A2 × A3 × A4 × A5 × A6) n (fun i q => inv i q.1 q.2.1 q.2.2.1 q.2.2.2.1 q.2.2.2.2.1 q.2.2.2.2.2.1 q.2.2.2.2.2.2) (fun i q => lv i q.1 q.2.1 q.2.2.1 q.2.2.2.1 q.2.2.2.2.1 q.2.2.2.2.2.1 q.2.2.2.2.2.2) (fun i q => ws i q.1 q.2.1 q.2.2.1 q.2.2.2.1 q.2.2.2.2.1 q.2.2.2.2.2.1 q.2.2.2.2.2.2) (fun i q hi hv ih => step i q.1 q.2.1 q.2.2.1 q.2.2.2.1 q.2.2.2.2.1 q.2.2.2.2.2.1 q.2.2.2.2.2.2 hi hv (fun z0 z1 z2 z3 z4 z5 z6 a b => ih (z0, z1, z2, z3, z4, z5, z6) a b)) i (x0, x1, x2, x3, x4, x5, x6) hi hv
theorem updN_self (f : Nat → Nat) (c : Nat) : f = updN f c (f c) := by
  funext j
  unfold updN
  split
  · rename_i h; rw [h]
  · rfl
theorem updN_twice (f : Nat → Nat) (c u v : Nat) : updN (updN f c u) c v = updN f c v := by
  funext j
  unfold updN
  split <;> rfl
theorem updN_back (f : Nat → Nat) (c u : Nat) : updN (updN f c u) c (f c) = f := by rw [updN_twice, ← updN_self]
theorem exch_back {f : Nat → Nat} {c o : Nat} (h : c ≠ o) : exchN (exchN f c o) c o = f := by
  funext j
  unfold exchN updN
  by_cases h1 : j = o
  · rw [if_pos h1, h1]
    by_cases h2 : c = o
    · exact absurd h2 h
    · simp [h2]
  · rw [if_neg h1]
    by_cases h2 : j = c
    · rw [if_pos h2, h2]; simp
    · rw [if_neg h2, if_neg h1, if_neg h2]
