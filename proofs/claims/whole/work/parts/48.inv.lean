/-! what holds between two calls, of what is kept too -/
def SOk (S : St) : Prop := PBS S ∧ S.2.1 ≤ 9999
def TOk (T : (Nat → Nat) × Nat) : Prop := (∀ j, T.1 j < 256) ∧ T.2 ≤ 120
def HOk (H : (Nat → Nat) × (Nat → Nat) × (Nat → Nat → Int64)) : Prop := (∀ s, H.1 s = 0 ∨ H.1 s = 8 ∨ H.1 s = 16 ∨ H.1 s = 64) ∧ ∀ s, H.2.1 s ≤ 40
def InvW (X : Xs) : Prop := SOk X.1 ∧ (X.2.1.2 ≤ 1 ∧ (X.2.1.2 = 1 → SOk X.2.1.1)) ∧ TOk X.2.2.1 ∧ HOk X.2.2.2.1
theorem InvW.inv {X : Xs} (h : InvW X) : InvX X := by
  obtain ⟨⟨mn, yr, gr, kd, pt, wt, mr⟩, ⟨ks, kp⟩, ⟨tb, tn⟩, ⟨wd, sz, nm⟩, tl⟩ := X
  exact ⟨h.1.1, h.1.2, h.2.1.1, h.2.2.1.1, h.2.2.1.2, h.2.2.2.1, h.2.2.2.2⟩
theorem W_fnd {X : Xs} (h : InvW X) (k : Nat) : InvW (fnd X k).2 := by
  obtain ⟨S, K, T, H, tl⟩ := X
  exact h
theorem W_fndL {X : Xs} (h : InvW X) (k : Nat) : InvW (fndL X k).2 := W_fnd h k
section
variable {S S2 : St} {K : St × Nat} {T T2 : (Nat → Nat) × Nat} {H H2 : (Nat → Nat) × (Nat → Nat) × (Nat → Nat → Int64)} {tl : Nat → Nat}
theorem W_S (h : InvW (S, K, T, H, tl)) (h2 : SOk S2) : InvW (S2, K, T, H, tl) := ⟨h2, h.2.1, h.2.2.1, h.2.2.2⟩
theorem W_T (h : InvW (S, K, T, H, tl)) (h2 : TOk T2) : InvW (S, K, T2, H, tl) := ⟨h.1, h.2.1, h2, h.2.2.2⟩
theorem W_H (h : InvW (S, K, T, H, tl)) (h2 : HOk H2) : InvW (S, K, T, H2, tl) := ⟨h.1, h.2.1, h.2.2.1, h2⟩
end
theorem updN_P {P : Nat → Prop} {f : Nat → Nat} {c v : Nat} (h : ∀ j, P (f j)) (hv : P v) (j : Nat) : P (updN f c v j) := by
  unfold updN
  split
  · exact hv
  · exact h j
theorem inR_ix {v : Int32} {lo hi : Nat} (h : inR v lo hi = true) : lo ≤ ix v ∧ ix v ≤ hi := by
  have := inR_iff.mp h
  unfold ix
  omega
theorem PB_norm {gr kd pt wt mr : Nat → Nat} {tt yr mn : Nat} (h : PB gr kd pt wt mr tt yr mn) : PB gr kd pt wt mr (sumN gr 12) yr mn := h.1 ▸ h
section
variable {X : Xs}
theorem W_grains (h : InvW X) (p : Int32) : InvW (f_grains X p).2 := by
  obtain ⟨⟨mn, yr, gr, kd, pt, wt, mr⟩, K, T, H, tl⟩ := X
  simp only [f_grains]
  repeat' split
  all_goals first | exact h | exact W_fnd h _
theorem W_taste (h : InvW X) (p : Int32) : InvW (f_taste X p).2 := by
  obtain ⟨⟨mn, yr, gr, kd, pt, wt, mr⟩, K, T, H, tl⟩ := X
  simp only [f_taste]
  repeat' split
  all_goals first | exact h | exact W_fnd h _
theorem W_spoonOf (h : InvW X) (p t : Int32) : InvW (f_spoonOf X p t).2 := by
  obtain ⟨⟨mn, yr, gr, kd, pt, wt, mr⟩, K, T, H, tl⟩ := X
  simp only [f_spoonOf]
  repeat' split
  all_goals first | exact h | exact W_fnd h _
theorem W_of (h : InvW X) (c w : Int32) : InvW (f_of X c w).2 := by
  obtain ⟨⟨mn, yr, gr, kd, pt, wt, mr⟩, K, T, H, tl⟩ := X
  simp only [f_of]
  repeat' split
  all_goals first | exact h | exact W_fnd h _
theorem W_as (h : InvW X) (c k : Int32) : InvW (f_as X c k).2 := by
  obtain ⟨⟨mn, yr, gr, kd, pt, wt, mr⟩, K, T, H, tl⟩ := X
  simp only [f_as]
  repeat' split
  all_goals first | exact h | exact W_fnd h _
theorem W_now (h : InvW X) (w : Int32) : InvW (f_now X w).2 := by
  obtain ⟨⟨mn, yr, gr, kd, pt, wt, mr⟩, K, T, H, tl⟩ := X
  simp only [f_now]
  repeat' split
  all_goals first | exact h | exact W_fnd h _
theorem W_on (h : InvW X) (p n w : Int32) : InvW (f_on X p n w).2 := by
  obtain ⟨⟨mn, yr, gr, kd, pt, wt, mr⟩, K, T, H, tl⟩ := X
  simp only [f_on]
  repeat' split
  all_goals first | exact h | exact W_fnd h _
theorem W_first (h : InvW X) (q p v : Nat) : InvW (f_first X q p v).2 := by
  obtain ⟨⟨mn, yr, gr, kd, pt, wt, mr⟩, K, T, H, tl⟩ := X
  simp only [f_first]
  repeat' split
  all_goals first | exact h | exact W_fnd h _
theorem W_vague (h : InvW X) : InvW (f_vague X).2 := W_first h 0 0 0
theorem W_gone (h : InvW X) (p v : Int32) : InvW (f_gone X p v).2 := by
  unfold f_gone
  split
  · exact W_first h _ _ _
  · exact W_fnd h _
theorem W_strong (h : InvW X) (p v : Int32) : InvW (f_strong X p v).2 := by
  unfold f_strong
  split
  · exact W_first h _ _ _
  · exact W_fnd h _
theorem W_better (h : InvW X) (p n : Int32) : InvW (f_better X p n).2 := by
  obtain ⟨⟨mn, yr, gr, kd, pt, wt, mr⟩, K, T, H, tl⟩ := X
  simp only [f_better]
  repeat' split
  all_goals first | exact h | exact W_fnd h _
theorem W_weight (h : InvW X) (c p n v : Int32) : InvW (f_weight X c p n v).2 := by
  obtain ⟨⟨mn, yr, gr, kd, pt, wt, mr⟩, K, T, H, tl⟩ := X
  simp only [f_weight]
  repeat' split
  all_goals first | exact h | exact W_fnd h _
theorem W_kind (h : InvW X) (c p n : Int32) : InvW (f_kind X c p n).2 := by
  obtain ⟨⟨mn, yr, gr, kd, pt, wt, mr⟩, K, T, H, tl⟩ := X
  simp only [f_kind]
  repeat' split
  all_goals first | exact h | exact W_fnd h _
theorem W_puts (h : InvW X) (c n : Int32) : InvW (f_puts X c n).2 := by
  obtain ⟨⟨mn, yr, gr, kd, pt, wt, mr⟩, K, T, H, tl⟩ := X
  simp only [f_puts]
  repeat' split
  all_goals first | exact h | exact W_fnd h _
theorem W_best (h : InvW X) (n : Int32) : InvW (f_best X n).2 := by
  obtain ⟨⟨mn, yr, gr, kd, pt, wt, mr⟩, K, T, H, tl⟩ := X
  simp only [f_best]
  repeat' split
  all_goals first | exact h | exact W_fnd h _
theorem W_dull (h : InvW X) (n : Int32) : InvW (f_dull X n).2 := by
  obtain ⟨⟨mn, yr, gr, kd, pt, wt, mr⟩, K, T, H, tl⟩ := X
  simp only [f_dull]
  repeat' split
  all_goals first | exact h | exact W_fnd h _
theorem W_read (h : InvW X) (s p c : Int32) : InvW (f_read X s p c).2 := by
  obtain ⟨⟨mn, yr, gr, kd, pt, wt, mr⟩, K, T, ⟨wd, sz, nm⟩, tl⟩ := X
  simp only [f_read]
  repeat' split
  all_goals first | exact h | exact W_fnd h _
theorem W_count (h : InvW X) (w : Int32) : InvW (f_count X w).2 := by
  obtain ⟨⟨mn, yr, gr, kd, pt, wt, mr⟩, K, ⟨tb, tn⟩, H, tl⟩ := X
  simp only [f_count]
  repeat' split
  all_goals first | exact h | exact W_fnd h _
theorem W_status (h : InvW X) (w : Int32) : InvW (f_status X w).2 := by
  obtain ⟨S, K, T, H, tl⟩ := X
  simp only [f_status]
  repeat' split
  all_goals first | exact h | exact W_fnd h _
theorem W_write (h : InvW X) (s i : Int32) (v : Int64) : InvW (f_write X s i v).2 := by
  obtain ⟨S, K, T, ⟨wd, sz, nm⟩, tl⟩ := X
  simp only [f_write]
  repeat' split
  all_goals first | exact h | exact W_fndL h _ | exact W_H h h.2.2.2
theorem W_copy (h : InvW X) (s f t o n : Int32) : InvW (f_copy X s f t o n).2 := by
  obtain ⟨S, K, T, ⟨wd, sz, nm⟩, tl⟩ := X
  simp only [f_copy]
  repeat' split
  all_goals first | exact h | exact W_fnd h _ | exact W_H h h.2.2.2
theorem W_book (h : InvW X) (s p : Int32) : InvW (f_book X s p).2 := by
  obtain ⟨⟨mn, yr, gr, kd, pt, wt, mr⟩, K, T, ⟨wd, sz, nm⟩, tl⟩ := X
  simp only [f_book]
  repeat' split
  all_goals first | exact h | exact W_fnd h _ | exact W_H h h.2.2.2
theorem W_image (h : InvW X) : InvW (f_image X).2 := by
  obtain ⟨S, K, T, H, tl⟩ := X
  exact ⟨h.1, ⟨Nat.le_refl 1, fun _ => h.1⟩, h.2.2.1, h.2.2.2⟩
theorem W_undo (h : InvW X) : InvW (f_undo X).2 := by
  obtain ⟨S, ⟨ks, kp⟩, T, H, tl⟩ := X
  simp only [f_undo]
  split
  · exact W_fnd h _
  · rename_i c
    have h1 : kp ≤ 1 := h.2.1.1
    exact W_S h (h.2.1.2 (show kp = 1 by omega))
theorem W_tear (h : InvW X) : InvW (f_tear X).2 := by
  obtain ⟨S, ⟨ks, kp⟩, T, H, tl⟩ := X
  exact ⟨h.1, ⟨Nat.zero_le 1, fun z => absurd (show (0 : Nat) = 1 from z) (by decide)⟩, h.2.2.1, h.2.2.2⟩
theorem W_wipe (h : InvW X) : InvW (f_wipe X).2 := by
  obtain ⟨S, K, ⟨tb, tn⟩, H, tl⟩ := X
  exact W_T h ⟨h.2.2.1.1, Nat.zero_le _⟩
theorem W_pour (h : InvW X) (p v : Int32) : InvW (f_pour X p v).2 := by
  obtain ⟨⟨mn, yr, gr, kd, pt, wt, mr⟩, K, T, H, tl⟩ := X
  simp only [f_pour]
  split
  · rename_i c
    rw [Bool.and_eq_true] at c
    split
    · rename_i c2
      exact W_S h ⟨PB_fill h.1.1 (Nat.lt_succ_of_le (inR_ix c.1).2) c2, h.1.2⟩
    · exact W_fnd h _
  · exact W_fnd h _
theorem W_spoon (h : InvW X) (t : Int32) : InvW (f_spoon X t).2 := by
  obtain ⟨⟨mn, yr, gr, kd, pt, wt, mr⟩, K, T, H, tl⟩ := X
  simp only [f_spoon]
  split
  · exact W_S h ⟨PB_norm (PB_take h.1.1 (Nat.min_le_right _ _)), h.1.2⟩
  · exact W_fnd h _
theorem W_cook (h : InvW X) (k : Int32) : InvW (f_cook X k).2 := by
  obtain ⟨⟨mn, yr, gr, kd, pt, wt, mr⟩, K, T, H, tl⟩ := X
  simp only [f_cook]
  split
  · rename_i c
    split
    · rename_i c2
      obtain ⟨⟨h0, h1, h2, h3, h4, h5, h6, h7, h8⟩, h9⟩ := h.1
      exact W_S h ⟨⟨rfl, h1, h2, updN_le h3 (inR_ix c).2, updN_le h4 (by decide), updN_le h5 (by decide), updN_le h6 (by decide), h7, c2⟩, h9⟩
    · exact W_fnd h _
  · exact W_fnd h _
theorem W_turn (h : InvW X) (c k : Int32) : InvW (f_turn X c k).2 := by
  obtain ⟨⟨mn, yr, gr, kd, pt, wt, mr⟩, K, T, H, tl⟩ := X
  simp only [f_turn]
  split
  · rename_i c
    rw [Bool.and_eq_true] at c
    exact W_S h ⟨PB_kd h.1.1 (inR_ix c.2).2, h.1.2⟩
  · exact W_fnd h _
theorem W_swap (h : InvW X) (c o : Int32) : InvW (f_swap X c o).2 := by
  obtain ⟨⟨mn, yr, gr, kd, pt, wt, mr⟩, K, T, H, tl⟩ := X
  simp only [f_swap]
  split
  · exact W_S h ⟨PB_ex h.1.1, h.1.2⟩
  · exact W_fnd h _
theorem W_set (h : InvW X) (c w v : Int32) : InvW (f_set X c w v).2 := by
  obtain ⟨⟨mn, yr, gr, kd, pt, wt, mr⟩, K, T, H, tl⟩ := X
  simp only [f_set]
  by_cases c9 : (inR c 0 ((mn : Int) - 1) && inR w 1 3 && inR v 0 (if ix w = 1 then 11 else if ix w = 2 then 999 else 9)) = true
  · rw [if_pos c9]
    rw [Bool.and_eq_true] at c9
    obtain ⟨⟨h0, h1, h2, h3, h4, h5, h6, h7, h8⟩, h9⟩ := h.1
    have hv : ix v ≤ (if ix w = 1 then 11 else if ix w = 2 then 999 else 9) := by
      have z := inR_iff.mp c9.2
      unfold ix at z ⊢
      split at z
      · rename_i e1; rw [if_pos e1]; omega
      · rename_i e1
        rw [if_neg e1]
        split at z
        · rename_i e2; rw [if_pos e2]; omega
        · rename_i e2; rw [if_neg e2]; omega
    refine W_S h ⟨⟨rfl, h1, h2, h3, fun j => ?_, fun j => ?_, fun j => ?_, h7, h8⟩, h9⟩
    · split
      · rename_i e; rw [if_pos e] at hv; exact updN_le h4 hv j
      · exact h4 j
    · split
      · rename_i e; rw [if_neg (by omega), if_pos e] at hv; exact updN_le h5 hv j
      · exact h5 j
    · split
      · rename_i e; rw [if_neg (by omega), if_neg (by omega)] at hv; exact updN_le h6 hv j
      · exact h6 j
  · rw [if_neg c9]
    exact W_fnd h _
theorem W_years (h : InvW X) (n : Int32) : InvW (f_years X n).2 := by
  obtain ⟨⟨mn, yr, gr, kd, pt, wt, mr⟩, K, T, H, tl⟩ := X
  simp only [f_years]
  split
  · split
    · rename_i c
      exact W_S h ⟨PB_yrs h.1.1 _ (by omega), c⟩
    · exact W_fnd h _
  · exact W_fnd h _
theorem fed_lt (b : Int32) : ∀ (k : Nat) (tb : Nat → Nat) (tn : Nat), (∀ j, tb j < 256) → ∀ j, fedN tb tn b k j < 256
  | 0, _, _, h => h
  | k + 1, tb, tn, h => fed_lt b k _ _ (fun j => by
    unfold updN
    split
    · exact byt_lt _
    · exact h j)
theorem W_feed (h : InvW X) (b n : Int32) : InvW (f_feed X b n).2 := by
  obtain ⟨S, K, ⟨tb, tn⟩, H, tl⟩ := X
  simp only [f_feed]
  split
  · split
    · rename_i c
      exact W_T h ⟨fed_lt b _ tb tn h.2.2.1.1, c⟩
    · exact W_fnd h _
  · exact W_fnd h _
theorem W_sheet (h : InvW X) (s b n : Int32) : InvW (f_sheet X s b n).2 := by
  obtain ⟨S, K, T, ⟨wd, sz, nm⟩, tl⟩ := X
  simp only [f_sheet]
  split
  · rename_i c
    rw [Bool.and_eq_true] at c
    split
    · rename_i c1
      split
      · rename_i c2
        obtain ⟨w, hw, rfl⟩ := isWd_nat c.2
        have e : ix (nI w) = w := ix_nI (by omega)
        have hn : ix n ≤ 40 := by
          have z := Int32.le_iff_toInt_le.mp c2
          rw [nI_toInt (by decide)] at z
          unfold ix
          omega
        refine W_H h ⟨fun q => ?_, fun q => ?_⟩
        · exact updN_P (P := fun x => x = 0 ∨ x = 8 ∨ x = 16 ∨ x = 64) h.2.2.2.1 (by rw [e]; exact hw) q
        · refine updN_le h.2.2.2.2 ?_ q
          split
          · exact Nat.zero_le _
          · exact hn
      · exact W_fnd h _
    · exact W_fnd h _
  · exact W_fnd h _
theorem lay_PB {N : Nat → Int64} {gr kd pt wt mr : Nat → Nat} {yr mn : Nat} (h : PB gr kd pt wt mr (sumN gr 12) yr mn) : ∀ k, k ≤ 12 → PB (layN N gr k).1 kd pt wt mr (sumN (layN N gr k).1 12) yr mn
  | 0, _ => h
  | k + 1, hk => by
    have ih := lay_PB (N := N) h k (by omega)
    rw [layN]
    split
    · rename_i c
      have hs := ih.2.1
      have hg := sumN_ge (layN N gr k).1 (show k < 12 by omega)
      exact PB_fill ih (by omega) (by have := c.1; have := c.2; omega)
    · exact ih
theorem W_lays (h : InvW X) (s : Int32) : InvW (f_lays X s).2 := by
  obtain ⟨⟨mn, yr, gr, kd, pt, wt, mr⟩, K, T, ⟨wd, sz, nm⟩, tl⟩ := X
  simp only [f_lays]
  split
  · split
    · exact W_fnd h _
    · exact W_S h ⟨lay_PB h.1.1 _ (Nat.min_le_left _ _), h.1.2⟩
  · exact W_fnd h _
theorem item_yr {tb : Nat → Nat} {tn fr : Nat} {S : St} : (itemP tb tn S fr).1.2.1 = S.2.1 := by
  obtain ⟨mn, yr, gr, kd, pt, wt, mr⟩ := S
  unfold itemP
  split
  · split <;> rfl
  · unfold cookP
    dsimp only
    split <;> rfl
theorem st_yr {tb : Nat → Nat} {tn : Nat} {S : St} : ∀ i, (stP tb tn S i).1.2.1 = S.2.1
  | 0 => rfl
  | i + 1 => by
    show (itemP tb tn (stP tb tn S i).1 (stP tb tn S i).2).1.2.1 = _
    rw [item_yr, st_yr i]
theorem en_spec {tb : Nat → Nat} {tn : Nat} {S : St} (hB : PBS S) : (∀ j, j < enP tb tn S → goP tb tn S j) ∧ ¬ goP tb tn S (enP tb tn S) := by
  refine Classical.epsilon_spec (p := fun e => (∀ j, j < e → goP tb tn S j) ∧ ¬ goP tb tn S e) (Classical.byContradiction (fun hn => ?_))
  have all : ∀ i j, j < i → goP tb tn S j := by
    intro i
    induction i with
    | zero => exact fun j hj => absurd hj (Nat.not_lt_zero j)
    | succ i ih => exact go_next ih (Classical.byContradiction (fun q => hn ⟨i, ih, q⟩))
  have := st_ok hB (tn + 1) (all (tn + 1))
  omega
theorem W_college (h : InvW X) : InvW (f_college X).2 := by
  obtain ⟨S, K, ⟨tb, tn⟩, H, tl⟩ := X
  have hT : TOk (tb, 0) := ⟨h.2.2.1.1, Nat.zero_le _⟩
  have he := en_spec (tb := tb) (tn := tn) (S := S) h.1.1
  have hq := sq_ok (S2 := (sqP tb tn S (enP tb tn S)).1) (f := (sqP tb tn S (enP tb tn S)).2.1) (w := (sqP tb tn S (enP tb tn S)).2.2) h.1.1 he.1 rfl
  have hy : (sqP tb tn S (enP tb tn S)).1.2.1 = S.2.1 := by
    unfold sqP
    rw [item_yr, st_yr]
  simp only [f_college]
  split
  · exact W_S (W_T h hT) ⟨hq.1, by rw [hy]; exact h.1.2⟩
  · exact W_T h hT
end
