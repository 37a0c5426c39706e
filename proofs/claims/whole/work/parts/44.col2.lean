theorem g_loop8 {φ : Fx} {g : Gl} {nL pc : Nat} {A0 A1 A2 A3 A4 A5 A6 A7 : Type} (n : Nat) (inv : Nat → A0 → A1 → A2 → A3 → A4 → A5 → A6 → A7 → Prop) (lv : Nat → A0 → A1 → A2 → A3 → A4 → A5 → A6 → A7 → List (Nat × Value)) (ws : Nat → A0 → A1 → A2 → A3 → A4 → A5 → A6 → A7 → va_W) (step : ∀ (i : Nat) (x0 : A0) (x1 : A1) (x2 : A2) (x3 : A3) (x4 : A4) (x5 : A5) (x6 : A6) (x7 : A7), i ≤ n → inv i x0 x1 x2 x3 x4 x5 x6 x7 → (∀ (z0 : A0) (z1 : A1) (z2 : A2) (z3 : A3) (z4 : A4) (z5 : A5) (z6 : A6) (z7 : A7), i < n → inv (i + 1) z0 z1 z2 z3 z4 z5 z6 z7 → Go φ g nL pc (lv (i + 1) z0 z1 z2 z3 z4 z5 z6 z7) [] (ws (i + 1) z0 z1 z2 z3 z4 z5 z6 z7)) → Go φ g nL pc (lv i x0 x1 x2 x3 x4 x5 x6 x7) [] (ws i x0 x1 x2 x3 x4 x5 x6 x7)) (i : Nat) (x0 : A0) (x1 : A1) (x2 : A2) (x3 : A3) (x4 : A4) (x5 : A5) (x6 : A6) (x7 : A7) (hi : i ≤ n) (hv : inv i x0 x1 x2 x3 x4 x5 x6 x7) : Go φ g nL pc (lv i x0 x1 x2 x3 x4 x5 x6 x7) [] (ws i x0 x1 x2 x3 x4 x5 x6 x7) :=
  g_loop (σ := A0 × A1 × A2 × A3 × A4 × A5 × A6 × A7) n (fun i q => inv i q.1 q.2.1 q.2.2.1 q.2.2.2.1 q.2.2.2.2.1 q.2.2.2.2.2.1 q.2.2.2.2.2.2.1 q.2.2.2.2.2.2.2) (fun i q => lv i q.1 q.2.1 q.2.2.1 q.2.2.2.1 q.2.2.2.2.1 q.2.2.2.2.2.1 q.2.2.2.2.2.2.1 q.2.2.2.2.2.2.2) (fun i q => ws i q.1 q.2.1 q.2.2.1 q.2.2.2.1 q.2.2.2.2.1 q.2.2.2.2.2.1 q.2.2.2.2.2.2.1 q.2.2.2.2.2.2.2) (fun i q hi hv ih => step i q.1 q.2.1 q.2.2.1 q.2.2.2.1 q.2.2.2.2.1 q.2.2.2.2.2.1 q.2.2.2.2.2.2.1 q.2.2.2.2.2.2.2 hi hv (fun z0 z1 z2 z3 z4 z5 z6 z7 a b => ih (z0, z1, z2, z3, z4, z5, z6, z7) a b)) i (x0, x1, x2, x3, x4, x5, x6, x7) hi hv
theorem g_loop9 {φ : Fx} {g : Gl} {nL pc : Nat} {A0 A1 A2 A3 A4 A5 A6 A7 A8 : Type} (n : Nat) (inv : Nat → A0 → A1 → A2 → A3 → A4 → A5 → A6 → A7 → A8 → Prop) (lv : Nat → A0 → A1 → A2 → A3 → A4 → A5 → A6 → A7 → A8 → List (Nat × Value)) (ws : Nat → A0 → A1 → A2 → A3 → A4 → A5 → A6 → A7 → A8 → va_W) (step : ∀ (i : Nat) (x0 : A0) (x1 : A1) (x2 : A2) (x3 : A3) (x4 : A4) (x5 : A5) (x6 : A6) (x7 : A7) (x8 : A8), i ≤ n → inv i x0 x1 x2 x3 x4 x5 x6 x7 x8 → (∀ (z0 : A0) (z1 : A1) (z2 : A2) (z3 : A3) (z4 : A4) (z5 : A5) (z6 : A6) (z7 : A7) (z8 : A8), i < n → inv (i + 1) z0 z1 z2 z3 z4 z5 z6 z7 z8 → Go φ g nL pc (lv (i + 1) z0 z1 z2 z3 z4 z5 z6 z7 z8) [] (ws (i + 1) z0 z1 z2 z3 z4 z5 z6 z7 z8)) → Go φ g nL pc (lv i x0 x1 x2 x3 x4 x5 x6 x7 x8) [] (ws i x0 x1 x2 x3 x4 x5 x6 x7 x8)) (i : Nat) (x0 : A0) (x1 : A1) (x2 : A2) (x3 : A3) (x4 : A4) (x5 : A5) (x6 : A6) (x7 : A7) (x8 : A8) (hi : i ≤ n) (hv : inv i x0 x1 x2 x3 x4 x5 x6 x7 x8) : Go φ g nL pc (lv i x0 x1 x2 x3 x4 x5 x6 x7 x8) [] (ws i x0 x1 x2 x3 x4 x5 x6 x7 x8) :=
  g_loop (σ := A0 × A1 × A2 × A3 × A4 × A5 × A6 × A7 × A8) n (fun i q => inv i q.1 q.2.1 q.2.2.1 q.2.2.2.1 q.2.2.2.2.1 q.2.2.2.2.2.1 q.2.2.2.2.2.2.1 q.2.2.2.2.2.2.2.1 q.2.2.2.2.2.2.2.2) (fun i q => lv i q.1 q.2.1 q.2.2.1 q.2.2.2.1 q.2.2.2.2.1 q.2.2.2.2.2.1 q.2.2.2.2.2.2.1 q.2.2.2.2.2.2.2.1 q.2.2.2.2.2.2.2.2) (fun i q => ws i q.1 q.2.1 q.2.2.1 q.2.2.2.1 q.2.2.2.2.1 q.2.2.2.2.2.1 q.2.2.2.2.2.2.1 q.2.2.2.2.2.2.2.1 q.2.2.2.2.2.2.2.2) (fun i q hi hv ih => step i q.1 q.2.1 q.2.2.1 q.2.2.2.1 q.2.2.2.2.1 q.2.2.2.2.2.1 q.2.2.2.2.2.2.1 q.2.2.2.2.2.2.2.1 q.2.2.2.2.2.2.2.2 hi hv (fun z0 z1 z2 z3 z4 z5 z6 z7 z8 a b => ih (z0, z1, z2, z3, z4, z5, z6, z7, z8) a b)) i (x0, x1, x2, x3, x4, x5, x6, x7, x8) hi hv
theorem updN_le {f : Nat → Nat} {c v m : Nat} (h : ∀ j, f j ≤ m) (hv : v ≤ m) : ∀ j, updN f c v j ≤ m := fun j => by
  unfold updN
  split
  · exact hv
  · exact h j
theorem tkE_gt (tb : Nat → Nat) {tn fr : Nat} (h : fr < tn) : fr < tkE tb tn fr := by
  have run : ∀ P : Nat → Prop, P fr → fr < endE P tn fr := fun P hp => by
    have q := endE_is (P := P) (n := tn) (k := fr) (by omega)
    rcases Nat.lt_or_ge fr (endE P tn fr) with z | z
    · exact z
    · have e : endE P tn fr = fr := Nat.le_antisymm z q.1
      have q2 := q.2.2.2
      rw [e] at q2
      exact absurd hp (q2 h)
  unfold tkE
  rw [if_neg (by omega)]
  split
  · rename_i hl
    exact run (fun j => isL (tb j)) hl
  · split
    · rename_i hd
      exact run (fun j => isD (tb j)) hd
    · omega
theorem wdL_lt {tb : Nat → Nat} {tn fr to : Nat} (h : wdL tb tn fr to ≠ 0) : fr < tn := by
  unfold wdL at h
  split at h
  · rename_i c
    exact c.1
  · exact absurd rfl h
theorem trP_ok {tb : Nat → Nat} {tn : Nat} {w : Int64} {h c : Nat} {r r2 : Nat → Nat} {fr wr f2 w2 : Nat} (hf : fr ≤ tn) (hw : wr ≤ 1) (e : trP tb tn w h c r fr wr = (r2, f2, w2)) : fr ≤ f2 ∧ f2 ≤ tn ∧ w2 ≤ 1 ∧ ((∀ j, r j ≤ h) → ∀ j, r2 j ≤ h) := by
  have a1 := tkE_ge tb hf
  have a2 := spE_ge tb a1.2
  have a3 := tkE_ge tb a2.2
  have a4 := spE_ge tb a3.2
  unfold trP at e
  split at e
  · split at e
    · split at e
      · rename_i c0 c1 c2
        cases e
        exact ⟨Nat.le_trans a1.1 (Nat.le_trans a2.1 (Nat.le_trans a3.1 a4.1)), a4.2, Nat.zero_le _, fun hr => updN_le hr c2.2⟩
      · cases e
        exact ⟨Nat.le_trans a1.1 a2.1, a2.2, Nat.le_refl _, fun hr => hr⟩
    · cases e
      exact ⟨Nat.le_refl _, hf, Nat.zero_le _, fun hr => hr⟩
  · cases e
    exact ⟨Nat.le_refl _, hf, hw, fun hr => hr⟩
def PBS (S : St) : Prop := match S with
  | (mn, yr, gr, kd, pt, wt, mr) => PB gr kd pt wt mr (sumN gr 12) yr mn
theorem cookP_ok {tb : Nat → Nat} {tn k fr f2 w2 : Nat} {S S2 : St} (hB : PBS S) (hk : k ≤ 5) (hlt : fr < tn) (e : cookP tb tn k S fr = (S2, f2, w2)) : PBS S2 ∧ fr ≤ f2 ∧ f2 ≤ tn ∧ w2 ≤ 1 ∧ (w2 = 0 → fr < f2) := by
  obtain ⟨mn, yr, gr, kd, pt, wt, mr⟩ := S
  have a0 := tkE_ge tb (Nat.le_of_lt hlt)
  have a1 := tkE_gt tb hlt
  have a2 := spE_ge tb a0.2
  simp only [cookP] at e
  by_cases hm : mn < 8
  · rw [if_pos hm] at e
    generalize e1 : trP tb tn 546451 11 mn (updN pt mn 1) (nxT tb tn fr) 0 = q1 at e
    obtain ⟨p1, f1, w1⟩ := q1
    simp only at e
    generalize e2 : trP tb tn 777297172 999 mn (updN wt mn 100) f1 w1 = q2 at e
    obtain ⟨p2, g2, v2⟩ := q2
    simp only at e
    generalize e3 : trP tb tn 13814068 9 mn (updN mr mn 5) g2 v2 = q3 at e
    obtain ⟨p3, g3, v3⟩ := q3
    simp only at e
    cases e
    obtain ⟨b1, b2, b3, b4⟩ := trP_ok a2.2 (Nat.zero_le _) e1
    obtain ⟨c1, c2, c3, c4⟩ := trP_ok b2 b3 e2
    obtain ⟨d1, d2, d3, d4⟩ := trP_ok c2 c3 e3
    obtain ⟨h0, h1, h2, h3, h4, h5, h6, h7, h8⟩ := hB
    have hlt3 : fr < f2 := Nat.lt_of_lt_of_le a1 (Nat.le_trans a2.1 (Nat.le_trans b1 (Nat.le_trans c1 d1)))
    exact ⟨⟨rfl, h1, h2, updN_le h3 hk, b4 (updN_le h4 (by decide)), c4 (updN_le h5 (by decide)), d4 (updN_le h6 (by decide)), h7, hm⟩, Nat.le_of_lt hlt3, d2, d3, fun _ => hlt3⟩
  · rw [if_neg hm] at e
    cases e
    exact ⟨hB, Nat.le_refl _, Nat.le_of_lt hlt, Nat.le_refl _, fun h => absurd h (by decide)⟩
theorem itemP_ok {tb : Nat → Nat} {tn fr f2 w2 : Nat} {S S2 : St} (hB : PBS S) (hf : fr ≤ tn) (e : itemP tb tn S fr = (S2, f2, w2)) : PBS S2 ∧ fr ≤ f2 ∧ f2 ≤ tn ∧ w2 ≤ 1 ∧ (w2 = 0 → fr < f2) := by
  unfold itemP at e
  split at e
  · split at e
    · rename_i c0 c1
      have hlt : fr < tn := wdL_lt (by rw [c1]; decide)
      obtain ⟨mn, yr, gr, kd, pt, wt, mr⟩ := S
      have a1 := tkE_gt tb hlt
      have a0 := tkE_ge tb hf
      have a2 := spE_ge tb a0.2
      have a3 := tkE_ge tb a2.2
      have a4 := spE_ge tb a3.2
      have a5 := tkE_ge tb a4.2
      have a6 := spE_ge tb a5.2
      simp only at e
      generalize eg : grP tb tn gr fr = q at e
      obtain ⟨g2, f, w⟩ := q
      simp only at e
      cases e
      unfold grP at eg
      split at eg
      · rename_i d1
        split at eg
        · rename_i d2
          cases eg
          have hp : numP tb tn (nxT tb tn fr) < 12 := Nat.lt_succ_of_le d1.2
          have hv : numP tb tn (nxT tb tn (nxT tb tn fr)) ≤ min (99999 - sumN gr 12 + gr (numP tb tn (nxT tb tn fr))) 9999 := d2.2
          have hge := sumN_ge gr hp
          have hle : sumN gr 12 ≤ 99999 := hB.2.1
          generalize numP tb tn (nxT tb tn fr) = p at *
          generalize numP tb tn (nxT tb tn (nxT tb tn fr)) = v at *
          have l3 := Nat.lt_of_lt_of_le a1 (Nat.le_trans a2.1 (Nat.le_trans a3.1 (Nat.le_trans a4.1 (Nat.le_trans a5.1 a6.1))))
          exact ⟨PB_fill hB hp (by omega), Nat.le_of_lt l3, a6.2, Nat.zero_le _, fun _ => l3⟩
        · cases eg
          exact ⟨hB, Nat.le_trans a0.1 (Nat.le_trans a2.1 (Nat.le_trans a3.1 a4.1)), a4.2, Nat.le_refl _, fun h => absurd h (by decide)⟩
      · cases eg
        exact ⟨hB, Nat.le_trans a0.1 a2.1, a2.2, Nat.le_refl _, fun h => absurd h (by decide)⟩
    · cases e
      exact ⟨hB, Nat.le_refl _, hf, Nat.le_refl _, fun h => absurd h (by decide)⟩
  · rename_i c0
    rcases kdW_or (wdL tb tn fr (tkE tb tn fr)) with z | ⟨k, hk, z⟩
    · exact absurd z c0
    · rw [z, ix_nI (by omega)] at e
      refine cookP_ok hB hk (wdL_lt (tb := tb) (to := tkE tb tn fr) (fun h => ?_)) e
      rw [h] at c0
      exact c0 (by decide)
/-- what there is, and where, before item i -/
noncomputable def stP (tb : Nat → Nat) (tn : Nat) (S : St) : Nat → St × Nat
  | 0 => (S, spE tb tn 0)
  | i + 1 => ((itemP tb tn (stP tb tn S i).1 (stP tb tn S i).2).1, nxT tb tn (itemP tb tn (stP tb tn S i).1 (stP tb tn S i).2).2.1)
/-- behind item i -/
noncomputable def sqP (tb : Nat → Nat) (tn : Nat) (S : St) (i : Nat) : St × Nat × Nat := itemP tb tn (stP tb tn S i).1 (stP tb tn S i).2
def goP (tb : Nat → Nat) (tn : Nat) (S : St) (i : Nat) : Prop := (sqP tb tn S i).2.2 = 0 ∧ (sqP tb tn S i).2.1 < tn ∧ tb (sqP tb tn S i).2.1 = 59
noncomputable def enP (tb : Nat → Nat) (tn : Nat) (S : St) : Nat := Classical.epsilon (fun e => (∀ j, j < e → goP tb tn S j) ∧ ¬ goP tb tn S e)
noncomputable def f_college (X : Xs) : Int32 × Xs := match X with
  | (S, K, (tb, tn), H, tl) => if (sqP tb tn S (enP tb tn S)).2.2 = 0 ∧ tn ≤ (sqP tb tn S (enP tb tn S)).2.1 then (nI (enP tb tn S + 1), ((sqP tb tn S (enP tb tn S)).1, K, (tb, 0), H, tl)) else ((-1) - nI (sqP tb tn S (enP tb tn S)).2.1, (S, K, (tb, 0), H, tl))
section
variable {tb : Nat → Nat} {tn i f w : Nat} {S S2 : St} {K : St × Nat} {H : (Nat → Nat) × (Nat → Nat) × (Nat → Nat → Int64)} {tl : Nat → Nat}
theorem enP_eq (h1 : ∀ j, j < i → goP tb tn S j) (h2 : ¬ goP tb tn S i) : enP tb tn S = i := by
  have q : (∀ j, j < enP tb tn S → goP tb tn S j) ∧ ¬ goP tb tn S (enP tb tn S) := Classical.epsilon_spec (p := fun e => (∀ j, j < e → goP tb tn S j) ∧ ¬ goP tb tn S e) ⟨i, h1, h2⟩
  generalize enP tb tn S = d at q
  rcases Nat.lt_trichotomy d i with z | z | z
  · exact absurd (h1 d z) q.2
  · exact z
  · exact absurd (q.1 i z) h2
theorem go_iff (e : sqP tb tn S i = (S2, f, w)) : goP tb tn S i ↔ (w = 0 ∧ f < tn ∧ tb f = 59) := by
  unfold goP
  rw [e]
theorem st_next (e : sqP tb tn S i = (S2, f, w)) : stP tb tn S (i + 1) = (S2, nxT tb tn f) := by
  show ((sqP tb tn S i).1, nxT tb tn (sqP tb tn S i).2.1) = _
  rw [e]
theorem sq_next {q : St × Nat × Nat} (e : sqP tb tn S i = (S2, f, w)) (h : itemP tb tn S2 (nxT tb tn f) = q) : sqP tb tn S (i + 1) = q := by
  unfold sqP
  rw [st_next e]
  exact h
theorem go_next (h : ∀ j, j < i → goP tb tn S j) (hi : goP tb tn S i) : ∀ j, j < i + 1 → goP tb tn S j := fun j hj => by
  rcases Nat.lt_or_ge j i with z | z
  · exact h j z
  · exact (show j = i by omega) ▸ hi
theorem st_ok (hB : PBS S) : ∀ i, (∀ j, j < i → goP tb tn S j) → PBS (stP tb tn S i).1 ∧ (stP tb tn S i).2 ≤ tn ∧ 2 * i ≤ (stP tb tn S i).2
  | 0, _ => ⟨hB, (spE_ge tb (Nat.zero_le tn)).2, Nat.zero_le _⟩
  | i + 1, h => by
    obtain ⟨b1, b2, b3⟩ := st_ok hB i (fun j hj => h j (by omega))
    have hg := h i (by omega)
    generalize e : sqP tb tn S i = q
    obtain ⟨S2, f, w⟩ := q
    obtain ⟨c1, c2, c3, c4, c5⟩ := itemP_ok b1 b2 (show itemP tb tn (stP tb tn S i).1 (stP tb tn S i).2 = (S2, f, w) from e)
    obtain ⟨g1, g2, g3⟩ := (go_iff e).mp hg
    rw [st_next e]
    have l1 := c5 g1
    have l2 := tkE_gt tb g2
    have l3 := spE_ge tb (tkE_ge tb c3).2
    exact ⟨c1, l3.2, show 2 * (i + 1) ≤ spE tb tn (tkE tb tn f) by omega⟩
theorem sq_ok (hB : PBS S) (h : ∀ j, j < i → goP tb tn S j) (e : sqP tb tn S i = (S2, f, w)) : PBS S2 ∧ f ≤ tn ∧ w ≤ 1 ∧ 2 * i ≤ f := by
  obtain ⟨b1, b2, b3⟩ := st_ok hB i h
  obtain ⟨c1, c2, c3, c4, c5⟩ := itemP_ok b1 b2 (show itemP tb tn (stP tb tn S i).1 (stP tb tn S i).2 = (S2, f, w) from e)
  exact ⟨c1, c3, c4, by omega⟩
theorem f_college_ok (h1 : ∀ j, j < i → goP tb tn S j) (h2 : ¬ goP tb tn S i) (e : sqP tb tn S i = (S2, f, 0)) (hf : tn ≤ f) : f_college (S, K, (tb, tn), H, tl) = (nI (i + 1), (S2, K, (tb, 0), H, tl)) := by
  simp only [f_college, enP_eq h1 h2, e]
  rw [if_pos ⟨trivial, hf⟩]
theorem f_college_no (h1 : ∀ j, j < i → goP tb tn S j) (h2 : ¬ goP tb tn S i) (e : sqP tb tn S i = (S2, f, w)) (hn : ¬ (w = 0 ∧ tn ≤ f)) : f_college (S, K, (tb, tn), H, tl) = ((-1) - nI f, (S, K, (tb, 0), H, tl)) := by
  simp only [f_college, enP_eq h1 h2, e]
  rw [if_neg hn]
end
set_option maxHeartbeats 400000 in
set_option maxRecDepth 100000 in
theorem n_college (g : Gl) (a : Nat → Nat) (X : Xs) (J : Jm) (hX : InvX X) (hJ : OkM X J) : Ct g yX4_college cX4_college 2 (some .int) (rk 8 180) [.ref (a 0)] (mdX g a X J) (fun r w2 => ∃ J2, OkM (f_college X).2 J2 ∧ r = some (.int (f_college X).1) ∧ w2 = mdX g a (f_college X).2 J2) := by
  obtain ⟨⟨mn, yr, gr, kd, pt, wt, mr⟩, ⟨⟨kmn, kyr, kgr, kkd, kpt, kwt, kmr⟩, kp⟩, ⟨tb, tn⟩, ⟨wd, sz, nm⟩, tl⟩ := X
  obtain ⟨kc, os, sd, tk, fr, to, vl, wr, mv⟩ := J
  obtain ⟨hB, hy, hkp, htb, htn, hwd, hsz⟩ := id hX
  obtain ⟨-, hTle, hgr, hkd, hpt, hwt, hmr, hyr, hmn⟩ := id hB
  refine ct_of (by decide) (Nat.le_of_ble_eq_true rfl) ?_
  intro φ C0 Rr
  have C : Cx φ g cX4_college 2 RX4 (rk 8 180) := C0
  show Go φ g 2 0 [(0, .ref (a 0))] [] (mdV g a (sF mn yr gr kd pt wt mr) kc os sd tl kp tk tb tn fr to vl wr wd sz (flat nm) mv)
  refine g_aload_n (pc := 0) C dX4_college_0 rfl ?_
  refine g_vxn (pc := 1) (ws2 := (mdV g a (sF mn yr gr kd pt wt mr) kc (sF mn yr gr kd pt wt mr) sd tl kp tk tb tn fr to vl wr wd sz (flat nm) mv)) C dX4_college_1 ml_X4_269 mf_X4_saves (m_saves g a kc os sd tl kp tk tb tn fr to vl wr wd sz (flat nm) mv mn yr gr kd pt wt mr) ⟨rfl, rfl, (Nat.le_of_ble_eq_true rfl), (Nat.le_of_ble_eq_true rfl)⟩ rfl rfl (Nat.le_of_ble_eq_true rfl) 0 rfl rfl rfl [0, 1, 2, 3, 4, 5, 6, 7, 8, 9, 10, 11] [] [0, 1, 2, 3, 4, 5, 6, 7, 8, 9, 10, 11] rfl rfl rfl rfl (by decide) rfl rfl ?_
  refine g_aload_n (pc := 4) C dX4_college_4 rfl ?_
  refine g_iconst (pc := 5) (v := nI 0) C dX4_college_5 (by decide) ?_
  refine g_put4 (pc := 6) (ws2 := (mdV g a (sF mn yr gr kd pt wt mr) kc (sF mn yr gr kd pt wt mr) sd tl kp tk tb tn fr to vl 0 wd sz (flat nm) mv)) C dX4_college_6 0 rfl 12 (by decide) fl_X4_211 rfl (by first | rfl | decide) rfl (Nat.le_of_ble_eq_true rfl) rfl ?_
  refine g_aload_n (pc := 9) C dX4_college_9 rfl ?_
  refine g_iconst (pc := 10) (v := nI 0) C dX4_college_10 (by decide) ?_
  refine g_put4 (pc := 11) (ws2 := (mdV g a (sF mn yr gr kd pt wt mr) kc (sF mn yr gr kd pt wt mr) sd tl kp tk tb tn fr 0 vl 0 wd sz (flat nm) mv)) C dX4_college_11 0 rfl 10 (by decide) fl_X4_196 rfl rfl rfl (Nat.le_of_ble_eq_true rfl) rfl ?_
  refine g_aload_n (pc := 14) C dX4_college_14 rfl ?_
  refine g_vxn (pc := 15) (ws2 := (mdV g a (sF mn yr gr kd pt wt mr) kc (sF mn yr gr kd pt wt mr) sd tl kp tk tb tn (spE tb tn 0) (tkE tb tn (spE tb tn 0)) vl 0 wd sz (flat nm) mv)) C dX4_college_15 ml_X4_215 mf_X4_token (m_token g a (sF mn yr gr kd pt wt mr) kc (sF mn yr gr kd pt wt mr) sd tl kp tk tb tn fr 0 vl 0 wd sz (flat nm) mv htb htn (by omega)) ⟨rfl, rfl, (Nat.le_of_ble_eq_true rfl), (Nat.le_of_ble_eq_true rfl)⟩ rfl rfl (Nat.le_of_ble_eq_true rfl) 0 rfl rfl rfl [0, 1, 2, 3, 4, 5, 6, 7, 8, 9, 10, 11] [] [0, 1, 2, 3, 4, 5, 6, 7, 8, 9, 10, 11] rfl rfl rfl rfl (by decide) rfl rfl ?_
  have hs0 := spE_ge tb (Nat.zero_le tn)
  refine g_iconst (pc := 18) (v := nI 1) C dX4_college_18 (by decide) ?_
  refine g_istore_n (pc := 19) (lv2 := [(0, .ref (a 0)), (1, .int (nI 1))]) C dX4_college_19 rfl (Nat.le_of_ble_eq_true rfl) rfl ?_
  refine g_aload_n (pc := 20) C dX4_college_20 rfl ?_
  refine g_rV (pc := 21) (rest := []) C dX4_college_21 ml_X4_272 mf_X4_item (m_item g a kc (sF mn yr gr kd pt wt mr) sd tl kp tk tb tn (spE tb tn 0) vl wd sz (flat nm) mv mn yr gr kd pt wt mr hB htb htn (by omega)) ⟨rfl, rfl, (Nat.le_of_ble_eq_true rfl), (Nat.le_of_ble_eq_true rfl)⟩ rfl rfl (Nat.le_of_ble_eq_true rfl) 0 rfl rfl rfl [0, 1, 2, 3, 4, 5, 6, 7, 8, 9, 10, 11] [] rfl rfl rfl rfl (by decide) ?_
  intro r9 w9 h9
  obtain ⟨mn0, gr0, kd0, pt0, wt0, mr0, fr0, wr0, vl0, hp_0, rfl, rfl⟩ := h9
  refine g_sub (ws2 := (mdV g a (sF mn0 yr gr0 kd0 pt0 wt0 mr0) kc (sF mn yr gr kd pt wt mr) sd tl kp tk tb tn fr0 (tkE tb tn fr0) vl0 wr0 wd sz (flat nm) mv)) [0, 1, 2, 3, 4, 5, 6, 7, 8, 9, 10, 11] rfl rfl ?_
  show Go φ g 2 24 [(0, .ref (a 0)), (1, .int (nI 1))] [] (mdV g a (sF mn0 yr gr0 kd0 pt0 wt0 mr0) kc (sF mn yr gr kd pt wt mr) sd tl kp tk tb tn fr0 (tkE tb tn fr0) vl0 wr0 wd sz (flat nm) mv)
  refine g_loop9 (n := tn) (fun (i : Nat) (mnL : Nat) (grL : Nat → Nat) (kdL : Nat → Nat) (ptL : Nat → Nat) (wtL : Nat → Nat) (mrL : Nat → Nat) (frL : Nat) (wrL : Nat) (vlL : Nat) => sqP tb tn (mn, yr, gr, kd, pt, wt, mr) i = ((mnL, yr, grL, kdL, ptL, wtL, mrL), frL, wrL) ∧ ∀ j, j < i → goP tb tn (mn, yr, gr, kd, pt, wt, mr) j) (fun (i : Nat) (mnL : Nat) (grL : Nat → Nat) (kdL : Nat → Nat) (ptL : Nat → Nat) (wtL : Nat → Nat) (mrL : Nat → Nat) (frL : Nat) (wrL : Nat) (vlL : Nat) => [(0, .ref (a 0)), (1, .int (nI (i + 1)))]) (fun (i : Nat) (mnL : Nat) (grL : Nat → Nat) (kdL : Nat → Nat) (ptL : Nat → Nat) (wtL : Nat → Nat) (mrL : Nat → Nat) (frL : Nat) (wrL : Nat) (vlL : Nat) => (mdV g a (sF mnL yr grL kdL ptL wtL mrL) kc (sF mn yr gr kd pt wt mr) sd tl kp tk tb tn frL (tkE tb tn frL) vlL wrL wd sz (flat nm) mv)) ?_ 0 mn0 gr0 kd0 pt0 wt0 mr0 fr0 wr0 vl0 (by omega) ⟨hp_0, fun j hj => absurd hj (Nat.not_lt_zero j)⟩
  intro i mnL grL kdL ptL wtL mrL frL wrL vlL hi_i hv_i ih_i
  show Go φ g 2 24 [(0, .ref (a 0)), (1, .int (nI (i + 1)))] [] (mdV g a (sF mnL yr grL kdL ptL wtL mrL) kc (sF mn yr gr kd pt wt mr) sd tl kp tk tb tn frL (tkE tb tn frL) vlL wrL wd sz (flat nm) mv)
  have hv_i : sqP tb tn (mn, yr, gr, kd, pt, wt, mr) i = ((mnL, yr, grL, kdL, ptL, wtL, mrL), frL, wrL) ∧ ∀ j, j < i → goP tb tn (mn, yr, gr, kd, pt, wt, mr) j := hv_i
  obtain ⟨hBS, hfL, hwL, hiL⟩ := sq_ok (S := (mn, yr, gr, kd, pt, wt, mr)) (S2 := (mnL, yr, grL, kdL, ptL, wtL, mrL)) (f := frL) (w := wrL) hB hv_i.2 hv_i.1
  have hBL : PB grL kdL ptL wtL mrL (sumN grL 12) yr mnL := hBS
  have hq1 := tkE_ge tb hfL
  have hq2 := spE_ge tb hq1.2
  refine g_aload_n (pc := 24) C dX4_college_24 rfl ?_
  refine g_get4 (pc := 25) C dX4_college_25 0 rfl 12 (by decide) fl_X4_211 rfl ?_
  refine g_if_neN (pc := 28) (tgt := 59) C dX4_college_28 (by decide) (by omega) (fun c1 => ?_) (fun c1 => ?_)
  · obtain rfl : wrL = 1 := by omega
    refine g_aload_n (pc := 59) C dX4_college_59 rfl ?_
    refine g_aload_n (pc := 60) C dX4_college_60 rfl ?_
    refine g_get4 (pc := 61) C dX4_college_61 0 rfl 12 (by decide) fl_X4_211 rfl ?_
    refine g_if_neN (pc := 64) (tgt := 78) C dX4_college_64 (by decide) (by decide) (fun _ => ?_) (fun h => absurd h (by decide))
    refine g_iconst (pc := 78) (v := nI 1) C dX4_college_78 (by decide) ?_
    refine g_goto (pc := 79) (tgt := 83) C dX4_college_79 (by decide) ?_
    refine g_put4 (pc := 83) (ws2 := (mdV g a (sF mnL yr grL kdL ptL wtL mrL) kc (sF mn yr gr kd pt wt mr) sd tl kp tk tb tn frL (tkE tb tn frL) vlL 1 wd sz (flat nm) mv)) C dX4_college_83 0 rfl 12 (by decide) fl_X4_211 rfl (by first | rfl | decide) rfl (Nat.le_of_ble_eq_true rfl) rfl ?_
    refine g_aload_n (pc := 86) C dX4_college_86 rfl ?_
    refine g_get4 (pc := 87) C dX4_college_87 0 rfl 12 (by decide) fl_X4_211 rfl ?_
    refine g_if_eqN (pc := 90) (tgt := 97) C dX4_college_90 (by decide) (by decide) (fun h => absurd h (by decide)) (fun _ => ?_)
    refine g_aload_n (pc := 93) C dX4_college_93 rfl ?_
    refine g_vxn (pc := 94) (ws2 := (mdV g a (sF mn yr gr kd pt wt mr) kc (sF mn yr gr kd pt wt mr) sd tl kp tk tb tn frL (tkE tb tn frL) vlL 1 wd sz (flat nm) mv)) C dX4_college_94 ml_X4_275 mf_X4_putsBack (m_putsBack g a kc sd tl kp tk tb tn frL (tkE tb tn frL) vlL 1 wd sz (flat nm) mv mnL yr grL kdL ptL wtL mrL mn yr gr kd pt wt mr) ⟨rfl, rfl, (Nat.le_of_ble_eq_true rfl), (Nat.le_of_ble_eq_true rfl)⟩ rfl rfl (Nat.le_of_ble_eq_true rfl) 0 rfl rfl rfl [0, 1, 2, 3, 4, 5, 6, 7, 8, 9, 10, 11] [] [0, 1, 2, 3, 4, 5, 6, 7, 8, 9, 10, 11] rfl rfl rfl rfl (by decide) rfl rfl ?_
    refine g_aload_n (pc := 97) C dX4_college_97 rfl ?_
    refine g_iconst (pc := 98) (v := nI 0) C dX4_college_98 (by decide) ?_
    refine g_put4 (pc := 99) (ws2 := (mdV g a (sF mn yr gr kd pt wt mr) kc (sF mn yr gr kd pt wt mr) sd tl kp tk tb 0 frL (tkE tb tn frL) vlL 1 wd sz (flat nm) mv)) C dX4_college_99 0 rfl 8 (by decide) fl_X4_184 rfl rfl rfl (Nat.le_of_ble_eq_true rfl) rfl ?_
    refine g_aload_n (pc := 102) C dX4_college_102 rfl ?_
    refine g_get4 (pc := 103) C dX4_college_103 0 rfl 12 (by decide) fl_X4_211 rfl ?_
    refine g_if_eqN (pc := 106) (tgt := 118) C dX4_college_106 (by decide) (by decide) (fun h => absurd h (by decide)) (fun _ => ?_)
    refine g_iconst (pc := 109) (v := -1) C dX4_college_109 (by decide) ?_
    refine g_aload_n (pc := 110) C dX4_college_110 rfl ?_
    refine g_get4 (pc := 111) C dX4_college_111 0 rfl 9 (by decide) fl_X4_199 rfl ?_
    refine g_isub (pc := 114) C dX4_college_114 ?_
    refine g_goto (pc := 115) (tgt := 119) C dX4_college_115 (by decide) ?_
    have hf : f_college ((mn, yr, gr, kd, pt, wt, mr), ((kmn, kyr, kgr, kkd, kpt, kwt, kmr), kp), (tb, tn), (wd, sz, nm), tl) = (((-1) - (nI frL)), ((mn, yr, gr, kd, pt, wt, mr), ((kmn, kyr, kgr, kkd, kpt, kwt, kmr), kp), (tb, 0), (wd, sz, nm), tl)) := by exact f_college_no hv_i.2 (fun z => absurd ((go_iff hv_i.1).mp z).1 (by decide)) hv_i.1 (fun z => absurd z.1 (by decide))
    exact g_iret C Rr dX4_college_119 ⟨(kc, sF mn yr gr kd pt wt mr, sd, tk, frL, tkE tb tn frL, vlL, 1, mv), by rw [hf]; exact hJ, by rw [hf], by rw [hf]; rfl⟩ rfl
  · obtain rfl : wrL = 0 := by omega
    refine g_aload_n (pc := 31) C dX4_college_31 rfl ?_
    refine g_aload_n (pc := 32) C dX4_college_32 rfl ?_
    refine g_get4 (pc := 33) C dX4_college_33 0 rfl 9 (by decide) fl_X4_199 rfl ?_
    refine g_vxi (pc := 36) (ws2 := (mdV g a (sF mnL yr grL kdL ptL wtL mrL) kc (sF mn yr gr kd pt wt mr) sd tl kp tk tb tn frL (tkE tb tn frL) vlL 0 wd sz (flat nm) mv)) C dX4_college_36 ml_X4_202 mf_X4_byteAt (m_byteAt g a (sF mnL yr grL kdL ptL wtL mrL) kc (sF mn yr gr kd pt wt mr) sd tl kp tk tb tn frL (tkE tb tn frL) vlL 0 wd sz (flat nm) mv frL htn (by omega)) ⟨rfl, rfl, (Nat.le_of_ble_eq_true rfl), (Nat.le_of_ble_eq_true rfl)⟩ rfl rfl (Nat.le_of_ble_eq_true rfl) 0 rfl rfl rfl [0, 1, 2, 3, 4, 5, 6, 7, 8, 9, 10, 11] [] [0, 1, 2, 3, 4, 5, 6, 7, 8, 9, 10, 11] rfl rfl rfl rfl (by decide) rfl rfl ?_
    refine g_bipush (pc := 39) (v := nI 59) C dX4_college_39 (by decide) ?_
    refine g_icmp_ne (pc := 41) (tgt := 59) C dX4_college_41 (by decide) (fun c5 => ?_) (fun c5 => ?_)
    · refine g_aload_n (pc := 59) C dX4_college_59 rfl ?_
      refine g_aload_n (pc := 60) C dX4_college_60 rfl ?_
      refine g_get4 (pc := 61) C dX4_college_61 0 rfl 12 (by decide) fl_X4_211 rfl ?_
      refine g_if_neN (pc := 64) (tgt := 78) C dX4_college_64 (by decide) (by decide) (fun h => absurd h (by decide)) (fun _ => ?_)
      refine g_aload_n (pc := 67) C dX4_college_67 rfl ?_
      refine g_get4 (pc := 68) C dX4_college_68 0 rfl 9 (by decide) fl_X4_199 rfl ?_
      refine g_aload_n (pc := 71) C dX4_college_71 rfl ?_
      refine g_get4 (pc := 72) C dX4_college_72 0 rfl 8 (by decide) fl_X4_184 rfl ?_
      refine g_icmp_geN (pc := 75) (tgt := 82) C dX4_college_75 (by decide) (by omega) (by omega) (fun c7 => ?_) (fun c7 => ?_)
      · refine g_iconst (pc := 82) (v := nI 0) C dX4_college_82 (by decide) ?_
        refine g_put4 (pc := 83) (ws2 := (mdV g a (sF mnL yr grL kdL ptL wtL mrL) kc (sF mn yr gr kd pt wt mr) sd tl kp tk tb tn frL (tkE tb tn frL) vlL 0 wd sz (flat nm) mv)) C dX4_college_83 0 rfl 12 (by decide) fl_X4_211 rfl (by first | rfl | decide) rfl (Nat.le_of_ble_eq_true rfl) rfl ?_
        refine g_aload_n (pc := 86) C dX4_college_86 rfl ?_
        refine g_get4 (pc := 87) C dX4_college_87 0 rfl 12 (by decide) fl_X4_211 rfl ?_
        refine g_if_eqN (pc := 90) (tgt := 97) C dX4_college_90 (by decide) (by decide) (fun _ => ?_) (fun h => absurd h (by decide))
        refine g_aload_n (pc := 97) C dX4_college_97 rfl ?_
        refine g_iconst (pc := 98) (v := nI 0) C dX4_college_98 (by decide) ?_
        refine g_put4 (pc := 99) (ws2 := (mdV g a (sF mnL yr grL kdL ptL wtL mrL) kc (sF mn yr gr kd pt wt mr) sd tl kp tk tb 0 frL (tkE tb tn frL) vlL 0 wd sz (flat nm) mv)) C dX4_college_99 0 rfl 8 (by decide) fl_X4_184 rfl rfl rfl (Nat.le_of_ble_eq_true rfl) rfl ?_
        refine g_aload_n (pc := 102) C dX4_college_102 rfl ?_
        refine g_get4 (pc := 103) C dX4_college_103 0 rfl 12 (by decide) fl_X4_211 rfl ?_
        refine g_if_eqN (pc := 106) (tgt := 118) C dX4_college_106 (by decide) (by decide) (fun _ => ?_) (fun h => absurd h (by decide))
        refine g_iload_n (pc := 118) C dX4_college_118 rfl ?_
        have hf : f_college ((mn, yr, gr, kd, pt, wt, mr), ((kmn, kyr, kgr, kkd, kpt, kwt, kmr), kp), (tb, tn), (wd, sz, nm), tl) = ((nI (i + 1)), ((mnL, yr, grL, kdL, ptL, wtL, mrL), ((kmn, kyr, kgr, kkd, kpt, kwt, kmr), kp), (tb, 0), (wd, sz, nm), tl)) := by exact f_college_ok hv_i.2 (fun z => c5 ((bt_eq (tp := tb) (tn := tn) (htb frL) (by decide)).mpr ((go_iff hv_i.1).mp z).2)) hv_i.1 c7
        exact g_iret C Rr dX4_college_119 ⟨(kc, sF mn yr gr kd pt wt mr, sd, tk, frL, tkE tb tn frL, vlL, 0, mv), by rw [hf]; exact hJ, by rw [hf], by rw [hf]; rfl⟩ rfl
      · refine g_iconst (pc := 78) (v := nI 1) C dX4_college_78 (by decide) ?_
        refine g_goto (pc := 79) (tgt := 83) C dX4_college_79 (by decide) ?_
        refine g_put4 (pc := 83) (ws2 := (mdV g a (sF mnL yr grL kdL ptL wtL mrL) kc (sF mn yr gr kd pt wt mr) sd tl kp tk tb tn frL (tkE tb tn frL) vlL 1 wd sz (flat nm) mv)) C dX4_college_83 0 rfl 12 (by decide) fl_X4_211 rfl (by first | rfl | decide) rfl (Nat.le_of_ble_eq_true rfl) rfl ?_
        refine g_aload_n (pc := 86) C dX4_college_86 rfl ?_
        refine g_get4 (pc := 87) C dX4_college_87 0 rfl 12 (by decide) fl_X4_211 rfl ?_
        refine g_if_eqN (pc := 90) (tgt := 97) C dX4_college_90 (by decide) (by decide) (fun h => absurd h (by decide)) (fun _ => ?_)
        refine g_aload_n (pc := 93) C dX4_college_93 rfl ?_
        refine g_vxn (pc := 94) (ws2 := (mdV g a (sF mn yr gr kd pt wt mr) kc (sF mn yr gr kd pt wt mr) sd tl kp tk tb tn frL (tkE tb tn frL) vlL 1 wd sz (flat nm) mv)) C dX4_college_94 ml_X4_275 mf_X4_putsBack (m_putsBack g a kc sd tl kp tk tb tn frL (tkE tb tn frL) vlL 1 wd sz (flat nm) mv mnL yr grL kdL ptL wtL mrL mn yr gr kd pt wt mr) ⟨rfl, rfl, (Nat.le_of_ble_eq_true rfl), (Nat.le_of_ble_eq_true rfl)⟩ rfl rfl (Nat.le_of_ble_eq_true rfl) 0 rfl rfl rfl [0, 1, 2, 3, 4, 5, 6, 7, 8, 9, 10, 11] [] [0, 1, 2, 3, 4, 5, 6, 7, 8, 9, 10, 11] rfl rfl rfl rfl (by decide) rfl rfl ?_
        refine g_aload_n (pc := 97) C dX4_college_97 rfl ?_
        refine g_iconst (pc := 98) (v := nI 0) C dX4_college_98 (by decide) ?_
        refine g_put4 (pc := 99) (ws2 := (mdV g a (sF mn yr gr kd pt wt mr) kc (sF mn yr gr kd pt wt mr) sd tl kp tk tb 0 frL (tkE tb tn frL) vlL 1 wd sz (flat nm) mv)) C dX4_college_99 0 rfl 8 (by decide) fl_X4_184 rfl rfl rfl (Nat.le_of_ble_eq_true rfl) rfl ?_
        refine g_aload_n (pc := 102) C dX4_college_102 rfl ?_
        refine g_get4 (pc := 103) C dX4_college_103 0 rfl 12 (by decide) fl_X4_211 rfl ?_
        refine g_if_eqN (pc := 106) (tgt := 118) C dX4_college_106 (by decide) (by decide) (fun h => absurd h (by decide)) (fun _ => ?_)
        refine g_iconst (pc := 109) (v := -1) C dX4_college_109 (by decide) ?_
        refine g_aload_n (pc := 110) C dX4_college_110 rfl ?_
        refine g_get4 (pc := 111) C dX4_college_111 0 rfl 9 (by decide) fl_X4_199 rfl ?_
        refine g_isub (pc := 114) C dX4_college_114 ?_
        refine g_goto (pc := 115) (tgt := 119) C dX4_college_115 (by decide) ?_
        have hf : f_college ((mn, yr, gr, kd, pt, wt, mr), ((kmn, kyr, kgr, kkd, kpt, kwt, kmr), kp), (tb, tn), (wd, sz, nm), tl) = (((-1) - (nI frL)), ((mn, yr, gr, kd, pt, wt, mr), ((kmn, kyr, kgr, kkd, kpt, kwt, kmr), kp), (tb, 0), (wd, sz, nm), tl)) := by exact f_college_no hv_i.2 (fun z => c5 ((bt_eq (tp := tb) (tn := tn) (htb frL) (by decide)).mpr ((go_iff hv_i.1).mp z).2)) hv_i.1 (fun z => absurd z.2 (Nat.not_le.mpr c7))
        exact g_iret C Rr dX4_college_119 ⟨(kc, sF mn yr gr kd pt wt mr, sd, tk, frL, tkE tb tn frL, vlL, 1, mv), by rw [hf]; exact hJ, by rw [hf], by rw [hf]; rfl⟩ rfl
    · refine g_aload_n (pc := 44) C dX4_college_44 rfl ?_
      refine g_iconst (pc := 45) (v := nI 1) C dX4_college_45 (by decide) ?_
      refine g_vxn (pc := 46) (ws2 := (mdV g a (sF mnL yr grL kdL ptL wtL mrL) kc (sF mn yr gr kd pt wt mr) sd tl kp tk tb tn (spE tb tn (tkE tb tn frL)) (tkE tb tn (spE tb tn (tkE tb tn frL))) vlL 0 wd sz (flat nm) mv)) C dX4_college_46 ml_X4_225 mf_X4_must (m_must1 g a (sF mnL yr grL kdL ptL wtL mrL) kc (sF mn yr gr kd pt wt mr) sd tl kp tk tb tn frL (tkE tb tn frL) vlL wd sz (flat nm) mv htb htn (by omega)) ⟨rfl, rfl, (Nat.le_of_ble_eq_true rfl), (Nat.le_of_ble_eq_true rfl)⟩ rfl rfl (Nat.le_of_ble_eq_true rfl) 0 rfl rfl rfl [0, 1, 2, 3, 4, 5, 6, 7, 8, 9, 10, 11] [] [0, 1, 2, 3, 4, 5, 6, 7, 8, 9, 10, 11] rfl rfl rfl rfl (by decide) rfl rfl ?_
      refine g_aload_n (pc := 49) C dX4_college_49 rfl ?_
      refine g_rV (pc := 50) (rest := []) C dX4_college_50 ml_X4_272 mf_X4_item (m_item g a kc (sF mn yr gr kd pt wt mr) sd tl kp tk tb tn (spE tb tn (tkE tb tn frL)) vlL wd sz (flat nm) mv mnL yr grL kdL ptL wtL mrL hBL htb htn (by omega)) ⟨rfl, rfl, (Nat.le_of_ble_eq_true rfl), (Nat.le_of_ble_eq_true rfl)⟩ rfl rfl (Nat.le_of_ble_eq_true rfl) 0 rfl rfl rfl [0, 1, 2, 3, 4, 5, 6, 7, 8, 9, 10, 11] [] rfl rfl rfl rfl (by decide) ?_
      intro r9 w9 h9
      obtain ⟨mnN, grN, kdN, ptN, wtN, mrN, frN, wrN, vlN, hp_n, rfl, rfl⟩ := h9
      refine g_sub (ws2 := (mdV g a (sF mnN yr grN kdN ptN wtN mrN) kc (sF mn yr gr kd pt wt mr) sd tl kp tk tb tn frN (tkE tb tn frN) vlN wrN wd sz (flat nm) mv)) [0, 1, 2, 3, 4, 5, 6, 7, 8, 9, 10, 11] rfl rfl ?_
      show Go φ g 2 53 [(0, .ref (a 0)), (1, .int (nI (i + 1)))] [] (mdV g a (sF mnN yr grN kdN ptN wtN mrN) kc (sF mn yr gr kd pt wt mr) sd tl kp tk tb tn frN (tkE tb tn frN) vlN wrN wd sz (flat nm) mv)
      refine g_iinc (pc := 53) (v := (nI (i + 1 + 1))) (lv2 := [(0, .ref (a 0)), (1, .int (nI (i + 1 + 1)))]) C dX4_college_53 rfl (nI_1 _) (Nat.le_of_ble_eq_true rfl) rfl ?_
      refine g_goto (pc := 56) (tgt := 24) C dX4_college_56 (by decide) ?_
      exact ih_i _ _ _ _ _ _ _ _ _ (by have := ((bt_eq (htb frL) (by decide)).mp c5).1; omega) ⟨sq_next hv_i.1 hp_n, go_next hv_i.2 ((go_iff hv_i.1).mpr ⟨rfl, (bt_eq (htb frL) (by decide)).mp c5⟩)⟩
