/-! truth values -/
def bI (P : Prop) [Decidable P] : Int32 := if P then 1 else 0
theorem bI_t {P : Prop} [Decidable P] (h : P) : bI P = nI 1 := by rw [bI, if_pos h]; rfl
theorem bI_f {P : Prop} [Decidable P] (h : ¬ P) : bI P = nI 0 := by rw [bI, if_neg h]; rfl
theorem bI_0 {P : Prop} [Decidable P] : bI P = 0 ↔ ¬ P := by
  unfold bI
  by_cases h : P
  · simp [h]
  · simp [h]
theorem bI_iff {P Q : Prop} [Decidable P] [Decidable Q] (h : P ↔ Q) : bI P = bI Q := by
  unfold bI
  simp only [h]
theorem sw_ne {x : Int32} {k : Nat} (h : ¬ x = nI k) (hk : k < 2 ^ 31) : x.toInt ≠ (k : Int) := fun e => h (by
  apply Int32.toInt_inj.mp
  rw [e, nI_toInt hk])
theorem cpy_all {α : Type} {f f1 : Nat → α} {n : Nat} (hn : n < 2 ^ 31) : ∀ j, j < n → va_cpy f f1 (nI 0).toNatClampNeg (nI 0).toNatClampNeg (nI n).toNatClampNeg j = f j := fun j hj => by
  rw [nI_clamp hn, nI_clamp (by decide), pk_cpy_in (Nat.zero_le _) (by omega)]
  congr 1
  omega
theorem lgc_lt {x y : Int64} : lg_cmp x y < 0 ↔ x < y := by
  unfold lg_cmp
  by_cases h1 : y < x
  · rw [if_pos h1]
    exact ⟨fun h => absurd h (by decide), fun h => absurd h (Int64.lt_asymm h1)⟩
  · rw [if_neg h1]
    by_cases h2 : x = y
    · rw [if_pos h2]
      exact ⟨fun h => absurd h (by decide), fun h => absurd h (by rw [h2]; exact Int64.lt_irrefl)⟩
    · rw [if_neg h2]
      refine ⟨fun _ => ?_, fun _ => by decide⟩
      have := Int64.not_lt.mp h1
      exact Int64.lt_of_le_of_ne this h2
theorem lgc_gt {x y : Int64} : 0 < lg_cmp x y ↔ y < x := by
  unfold lg_cmp
  by_cases h1 : y < x
  · rw [if_pos h1]
    exact ⟨fun _ => h1, fun _ => by decide⟩
  · rw [if_neg h1]
    by_cases h2 : x = y
    · rw [if_pos h2]
      exact ⟨fun h => absurd h (by decide), fun h => absurd h h1⟩
    · rw [if_neg h2]
      exact ⟨fun h => absurd h (by decide), fun h => absurd h h1⟩
theorem lgc_eq {x y : Int64} : lg_cmp x y = 0 ↔ x = y := by
  unfold lg_cmp
  by_cases h1 : y < x
  · rw [if_pos h1]
    exact ⟨fun h => absurd h (by decide), fun h => absurd h1 (by rw [h]; exact Int64.lt_irrefl)⟩
  · rw [if_neg h1]
    by_cases h2 : x = y
    · rw [if_pos h2]
      exact ⟨fun _ => h2, fun _ => rfl⟩
    · rw [if_neg h2]
      exact ⟨fun h => absurd h (by decide), fun h => absurd h h2⟩
section
variable {φ : Fx} {g : Gl} {cc : ByteArray} {nL pc : Nat} {own : String} {rm : Room} {lv : List (Nat × Value)} {st : List Value} {ws : va_W}
theorem g_if_eqB {P : Prop} [Decidable P] {off : Int} {tgt : Nat} (C : Cx φ g cc nL own rm) (hd : decode cc pc = .ok (.ifCond .eq off, 3)) (ht : (pc : Int) + off = (tgt : Int)) (kt : ¬ P → Go φ g nL tgt lv st ws) (kf : P → Go φ g nL (pc + 3) lv st ws) : Go φ g nL pc lv (.int (bI P) :: st) ws := g_if_eq C hd ht (fun h => kt (bI_0.mp h)) (fun h => kf (Decidable.of_not_not (fun z => h (bI_0.mpr z))))
theorem g_if_neB {P : Prop} [Decidable P] {off : Int} {tgt : Nat} (C : Cx φ g cc nL own rm) (hd : decode cc pc = .ok (.ifCond .ne off, 3)) (ht : (pc : Int) + off = (tgt : Int)) (kt : P → Go φ g nL tgt lv st ws) (kf : ¬ P → Go φ g nL (pc + 3) lv st ws) : Go φ g nL pc lv (.int (bI P) :: st) ws := g_if_ne C hd ht (fun h => kt (Decidable.of_not_not (fun z => h (bI_0.mpr z)))) (fun h => kf (bI_0.mp h))
theorem g_icmp_eqN {a b : Nat} {off : Int} {tgt : Nat} (C : Cx φ g cc nL own rm) (hd : decode cc pc = .ok (.if_icmp .eq off, 3)) (ht : (pc : Int) + off = (tgt : Int)) (ha : a < 2 ^ 31) (hb : b < 2 ^ 31) (kt : a = b → Go φ g nL tgt lv st ws) (kf : a ≠ b → Go φ g nL (pc + 3) lv st ws) : Go φ g nL pc lv (.int (nI b) :: .int (nI a) :: st) ws := g_icmp_eq C hd ht (fun h => kt ((nI_eq ha hb).mp h)) (fun h => kf (fun z => h (congrArg nI z)))
theorem g_icmp_neN {a b : Nat} {off : Int} {tgt : Nat} (C : Cx φ g cc nL own rm) (hd : decode cc pc = .ok (.if_icmp .ne off, 3)) (ht : (pc : Int) + off = (tgt : Int)) (ha : a < 2 ^ 31) (hb : b < 2 ^ 31) (kt : a ≠ b → Go φ g nL tgt lv st ws) (kf : a = b → Go φ g nL (pc + 3) lv st ws) : Go φ g nL pc lv (.int (nI b) :: .int (nI a) :: st) ws := g_icmp_ne C hd ht (fun h => kt (fun z => h (congrArg nI z))) (fun h => kf ((nI_eq ha hb).mp h))
theorem g_icmp_ltN {a b : Nat} {off : Int} {tgt : Nat} (C : Cx φ g cc nL own rm) (hd : decode cc pc = .ok (.if_icmp .lt off, 3)) (ht : (pc : Int) + off = (tgt : Int)) (ha : a < 2 ^ 31) (hb : b < 2 ^ 31) (kt : a < b → Go φ g nL tgt lv st ws) (kf : b ≤ a → Go φ g nL (pc + 3) lv st ws) : Go φ g nL pc lv (.int (nI b) :: .int (nI a) :: st) ws := g_icmp_lt C hd ht (fun h => kt ((nI_ltI ha hb).mp h)) (fun h => kf (Nat.not_lt.mp (fun z => h ((nI_ltI ha hb).mpr z))))
theorem g_icmp_geN {a b : Nat} {off : Int} {tgt : Nat} (C : Cx φ g cc nL own rm) (hd : decode cc pc = .ok (.if_icmp .ge off, 3)) (ht : (pc : Int) + off = (tgt : Int)) (ha : a < 2 ^ 31) (hb : b < 2 ^ 31) (kt : b ≤ a → Go φ g nL tgt lv st ws) (kf : a < b → Go φ g nL (pc + 3) lv st ws) : Go φ g nL pc lv (.int (nI b) :: .int (nI a) :: st) ws := g_icmp_ge C hd ht (fun h => kt ((nI_leI hb ha).mp h)) (fun h => kf (Nat.not_le.mp (fun z => h ((nI_leI hb ha).mpr z))))
theorem g_icmp_gtN {a b : Nat} {off : Int} {tgt : Nat} (C : Cx φ g cc nL own rm) (hd : decode cc pc = .ok (.if_icmp .gt off, 3)) (ht : (pc : Int) + off = (tgt : Int)) (ha : a < 2 ^ 31) (hb : b < 2 ^ 31) (kt : b < a → Go φ g nL tgt lv st ws) (kf : a ≤ b → Go φ g nL (pc + 3) lv st ws) : Go φ g nL pc lv (.int (nI b) :: .int (nI a) :: st) ws := g_icmp_gt C hd ht (fun h => kt ((nI_ltI hb ha).mp h)) (fun h => kf (Nat.not_lt.mp (fun z => h ((nI_ltI hb ha).mpr z))))
theorem g_icmp_leN {a b : Nat} {off : Int} {tgt : Nat} (C : Cx φ g cc nL own rm) (hd : decode cc pc = .ok (.if_icmp .le off, 3)) (ht : (pc : Int) + off = (tgt : Int)) (ha : a < 2 ^ 31) (hb : b < 2 ^ 31) (kt : a ≤ b → Go φ g nL tgt lv st ws) (kf : b < a → Go φ g nL (pc + 3) lv st ws) : Go φ g nL pc lv (.int (nI b) :: .int (nI a) :: st) ws := g_icmp_le C hd ht (fun h => kt ((nI_leI ha hb).mp h)) (fun h => kf (Nat.not_le.mp (fun z => h ((nI_leI ha hb).mpr z))))
theorem g_if_eqN {a : Nat} {off : Int} {tgt : Nat} (C : Cx φ g cc nL own rm) (hd : decode cc pc = .ok (.ifCond .eq off, 3)) (ht : (pc : Int) + off = (tgt : Int)) (ha : a < 2 ^ 31) (kt : a = 0 → Go φ g nL tgt lv st ws) (kf : a ≠ 0 → Go φ g nL (pc + 3) lv st ws) : Go φ g nL pc lv (.int (nI a) :: st) ws := g_if_eq C hd ht (fun h => kt ((nI_eq ha (by decide)).mp h)) (fun h => kf (fun z => h (congrArg nI z)))
theorem g_if_neN {a : Nat} {off : Int} {tgt : Nat} (C : Cx φ g cc nL own rm) (hd : decode cc pc = .ok (.ifCond .ne off, 3)) (ht : (pc : Int) + off = (tgt : Int)) (ha : a < 2 ^ 31) (kt : a ≠ 0 → Go φ g nL tgt lv st ws) (kf : a = 0 → Go φ g nL (pc + 3) lv st ws) : Go φ g nL pc lv (.int (nI a) :: st) ws := g_if_ne C hd ht (fun h => kt (fun z => h (congrArg nI z))) (fun h => kf ((nI_eq ha (by decide)).mp h))
theorem g_if_ltN {a : Nat} {off : Int} {tgt : Nat} (C : Cx φ g cc nL own rm) (hd : decode cc pc = .ok (.ifCond .lt off, 3)) (ht : (pc : Int) + off = (tgt : Int)) (ha : a < 2 ^ 31) (kt : False → Go φ g nL tgt lv st ws) (kf : True → Go φ g nL (pc + 3) lv st ws) : Go φ g nL pc lv (.int (nI a) :: st) ws := g_if_lt C hd ht (fun h => kt (nI_pos ha h)) (fun h => kf (trivial))
theorem g_if_geN {a : Nat} {off : Int} {tgt : Nat} (C : Cx φ g cc nL own rm) (hd : decode cc pc = .ok (.ifCond .ge off, 3)) (ht : (pc : Int) + off = (tgt : Int)) (ha : a < 2 ^ 31) (kt : True → Go φ g nL tgt lv st ws) (kf : False → Go φ g nL (pc + 3) lv st ws) : Go φ g nL pc lv (.int (nI a) :: st) ws := g_if_ge C hd ht (fun h => kt (trivial)) (fun h => kf (h (nI_pos' ha)))
theorem g_if_gtN {a : Nat} {off : Int} {tgt : Nat} (C : Cx φ g cc nL own rm) (hd : decode cc pc = .ok (.ifCond .gt off, 3)) (ht : (pc : Int) + off = (tgt : Int)) (ha : a < 2 ^ 31) (kt : 0 < a → Go φ g nL tgt lv st ws) (kf : a = 0 → Go φ g nL (pc + 3) lv st ws) : Go φ g nL pc lv (.int (nI a) :: st) ws := g_if_gt C hd ht (fun h => kt ((nI_ltI (a := 0) (by decide) ha).mp h)) (fun h => kf (by have := Nat.not_lt.mp (fun z => h ((nI_ltI (a := 0) (by decide) ha).mpr z)); omega))
theorem g_if_leN {a : Nat} {off : Int} {tgt : Nat} (C : Cx φ g cc nL own rm) (hd : decode cc pc = .ok (.ifCond .le off, 3)) (ht : (pc : Int) + off = (tgt : Int)) (ha : a < 2 ^ 31) (kt : a = 0 → Go φ g nL tgt lv st ws) (kf : 0 < a → Go φ g nL (pc + 3) lv st ws) : Go φ g nL pc lv (.int (nI a) :: st) ws := g_if_le C hd ht (fun h => kt (by have := (nI_leI (b := 0) ha (by decide)).mp h; omega)) (fun h => kf (Nat.not_le.mp (fun z => h ((nI_leI (b := 0) ha (by decide)).mpr z))))
theorem g_if_eqL {x y : Int64} {off : Int} {tgt : Nat} (C : Cx φ g cc nL own rm) (hd : decode cc pc = .ok (.ifCond .eq off, 3)) (ht : (pc : Int) + off = (tgt : Int)) (kt : x = y → Go φ g nL tgt lv st ws) (kf : ¬ x = y → Go φ g nL (pc + 3) lv st ws) : Go φ g nL pc lv (.int (lg_cmp x y) :: st) ws := g_if_eq C hd ht (fun h => kt (lgc_eq.mp h)) (fun h => kf (fun z => h (lgc_eq.mpr z)))
theorem g_if_neL {x y : Int64} {off : Int} {tgt : Nat} (C : Cx φ g cc nL own rm) (hd : decode cc pc = .ok (.ifCond .ne off, 3)) (ht : (pc : Int) + off = (tgt : Int)) (kt : ¬ x = y → Go φ g nL tgt lv st ws) (kf : x = y → Go φ g nL (pc + 3) lv st ws) : Go φ g nL pc lv (.int (lg_cmp x y) :: st) ws := g_if_ne C hd ht (fun h => kt (fun z => h (lgc_eq.mpr z))) (fun h => kf (lgc_eq.mp h))
theorem g_if_ltL {x y : Int64} {off : Int} {tgt : Nat} (C : Cx φ g cc nL own rm) (hd : decode cc pc = .ok (.ifCond .lt off, 3)) (ht : (pc : Int) + off = (tgt : Int)) (kt : x < y → Go φ g nL tgt lv st ws) (kf : y ≤ x → Go φ g nL (pc + 3) lv st ws) : Go φ g nL pc lv (.int (lg_cmp x y) :: st) ws := g_if_lt C hd ht (fun h => kt (lgc_lt.mp h)) (fun h => kf (Int64.not_lt.mp (fun z => h (lgc_lt.mpr z))))
theorem g_if_geL {x y : Int64} {off : Int} {tgt : Nat} (C : Cx φ g cc nL own rm) (hd : decode cc pc = .ok (.ifCond .ge off, 3)) (ht : (pc : Int) + off = (tgt : Int)) (kt : y ≤ x → Go φ g nL tgt lv st ws) (kf : x < y → Go φ g nL (pc + 3) lv st ws) : Go φ g nL pc lv (.int (lg_cmp x y) :: st) ws := g_if_ge C hd ht (fun h => kt (Int64.not_lt.mp (fun z => absurd (lgc_lt.mpr z) (Int32.not_lt.mpr h)))) (fun h => kf (lgc_lt.mp (Int32.not_le.mp h)))
theorem g_if_gtL {x y : Int64} {off : Int} {tgt : Nat} (C : Cx φ g cc nL own rm) (hd : decode cc pc = .ok (.ifCond .gt off, 3)) (ht : (pc : Int) + off = (tgt : Int)) (kt : y < x → Go φ g nL tgt lv st ws) (kf : x ≤ y → Go φ g nL (pc + 3) lv st ws) : Go φ g nL pc lv (.int (lg_cmp x y) :: st) ws := g_if_gt C hd ht (fun h => kt (lgc_gt.mp h)) (fun h => kf (Int64.not_lt.mp (fun z => h (lgc_gt.mpr z))))
theorem g_if_leL {x y : Int64} {off : Int} {tgt : Nat} (C : Cx φ g cc nL own rm) (hd : decode cc pc = .ok (.ifCond .le off, 3)) (ht : (pc : Int) + off = (tgt : Int)) (kt : x ≤ y → Go φ g nL tgt lv st ws) (kf : y < x → Go φ g nL (pc + 3) lv st ws) : Go φ g nL pc lv (.int (lg_cmp x y) :: st) ws := g_if_le C hd ht (fun h => kt (Int64.not_lt.mp (fun z => absurd (lgc_gt.mpr z) (Int32.not_lt.mpr h)))) (fun h => kf (lgc_gt.mp (Int32.not_le.mp h)))
theorem map_all {α β : Type} {f : α → Option β} : ∀ {l : List α}, l.all (fun i => (f i).isSome) = true → l.map f = (l.filterMap f).map some
  | [], _ => rfl
  | a :: l, h => by
    rw [List.all_cons, Bool.and_eq_true] at h
    obtain ⟨b, hb⟩ := Option.isSome_iff_exists.mp h.1
    rw [List.map_cons, List.filterMap_cons, hb]
    show some b :: l.map f = some b :: (l.filterMap f).map some
    rw [map_all h.2]
variable {y : MethodName} {Cn : String} {bytes : ByteArray} {maxL n ix : Nat} {ret : Option FieldType} {rmc : Room} {b : Nat} {As rest : List Value} {wc wr : va_W}
theorem g_vxi {v : Int32} {wd ws2 : va_W} {ci : Nat} {fs : List Value} {cr : vw_C} (C : Cx φ g cc nL own rm) (hd : decode cc pc = .ok (.invokevirtual ix, 3)) (hml : Cond.methodLink own ix y ∈ TB) (M : MV y Cn bytes maxL ret n) (hM : Ct g y bytes maxL ret rmc (.ref b :: As) wc (fun r w2 => r = some (.int v) ∧ w2 = wd)) (hf : Fit rmc maxL rm) (hn : As.length = n) (hst : st = As.reverse ++ .ref b :: rest) (hcat : (rest.map fun v => v.category).sum ≤ 8) (q0 : Nat) (hb : wc[q0]? = some (b, .inr (ci, fs))) (hc : vwCl[ci]? = some cr) (hcn : cr.1 = Cn) (isC isR is2 : List Nat) (hC : isC.map (fun i => ws[i]?) = wc.map some) (hR : isR.all (fun i => (ws[i]?).isSome) = true) (hnC : va_nd isC = true) (hnR : va_nd isR = true) (hdis : ∀ i ∈ isR, i ∉ isC) (h2 : is2.map (fun i => (isR.filterMap (fun i => ws[i]?) ++ wd)[i]?) = ws2.map some) (hn2 : va_nd is2 = true) (k : Go φ g nL (pc + 3) lv (.int v :: rest) ws2) : Go φ g nL pc lv st ws := g_vx C hd hml M hM hf hn hst hcat q0 hb hc hcn isC isR is2 hC (map_all hR) hnC hnR hdis h2 hn2 k
theorem g_sxi {v : Int32} {wd ws2 : va_W} (C : Cx φ g cc nL own rm) (hd : decode cc pc = .ok (.invokestatic ix, 3)) (hml : Cond.methodLink own ix y ∈ TB) (M : MS y bytes maxL ret n) (hM : Ct g y bytes maxL ret rmc As wc (fun r w2 => r = some (.int v) ∧ w2 = wd)) (hf : Fit rmc maxL rm) (hn : As.length = n) (hst : st = As.reverse ++ rest) (hcat : (rest.map fun v => v.category).sum ≤ 8) (isC isR is2 : List Nat) (hC : isC.map (fun i => ws[i]?) = wc.map some) (hR : isR.all (fun i => (ws[i]?).isSome) = true) (hnC : va_nd isC = true) (hnR : va_nd isR = true) (hdis : ∀ i ∈ isR, i ∉ isC) (h2 : is2.map (fun i => (isR.filterMap (fun i => ws[i]?) ++ wd)[i]?) = ws2.map some) (hn2 : va_nd is2 = true) (k : Go φ g nL (pc + 3) lv (.int v :: rest) ws2) : Go φ g nL pc lv st ws := g_callS C hd hml M hM hf hn hst hcat isC isR hC (map_all hR) hnC hnR hdis (fun r w2 h _ => by obtain ⟨rfl, rfl⟩ := h; exact g_sub is2 hn2 h2 k)
theorem g_vxl {v : Int64} {wd ws2 : va_W} {ci : Nat} {fs : List Value} {cr : vw_C} (C : Cx φ g cc nL own rm) (hd : decode cc pc = .ok (.invokevirtual ix, 3)) (hml : Cond.methodLink own ix y ∈ TB) (M : MV y Cn bytes maxL ret n) (hM : Ct g y bytes maxL ret rmc (.ref b :: As) wc (fun r w2 => r = some (.long v) ∧ w2 = wd)) (hf : Fit rmc maxL rm) (hn : As.length = n) (hst : st = As.reverse ++ .ref b :: rest) (hcat : (rest.map fun v => v.category).sum ≤ 8) (q0 : Nat) (hb : wc[q0]? = some (b, .inr (ci, fs))) (hc : vwCl[ci]? = some cr) (hcn : cr.1 = Cn) (isC isR is2 : List Nat) (hC : isC.map (fun i => ws[i]?) = wc.map some) (hR : isR.all (fun i => (ws[i]?).isSome) = true) (hnC : va_nd isC = true) (hnR : va_nd isR = true) (hdis : ∀ i ∈ isR, i ∉ isC) (h2 : is2.map (fun i => (isR.filterMap (fun i => ws[i]?) ++ wd)[i]?) = ws2.map some) (hn2 : va_nd is2 = true) (k : Go φ g nL (pc + 3) lv (.long v :: rest) ws2) : Go φ g nL pc lv st ws := g_vx C hd hml M hM hf hn hst hcat q0 hb hc hcn isC isR is2 hC (map_all hR) hnC hnR hdis h2 hn2 k
theorem g_sxl {v : Int64} {wd ws2 : va_W} (C : Cx φ g cc nL own rm) (hd : decode cc pc = .ok (.invokestatic ix, 3)) (hml : Cond.methodLink own ix y ∈ TB) (M : MS y bytes maxL ret n) (hM : Ct g y bytes maxL ret rmc As wc (fun r w2 => r = some (.long v) ∧ w2 = wd)) (hf : Fit rmc maxL rm) (hn : As.length = n) (hst : st = As.reverse ++ rest) (hcat : (rest.map fun v => v.category).sum ≤ 8) (isC isR is2 : List Nat) (hC : isC.map (fun i => ws[i]?) = wc.map some) (hR : isR.all (fun i => (ws[i]?).isSome) = true) (hnC : va_nd isC = true) (hnR : va_nd isR = true) (hdis : ∀ i ∈ isR, i ∉ isC) (h2 : is2.map (fun i => (isR.filterMap (fun i => ws[i]?) ++ wd)[i]?) = ws2.map some) (hn2 : va_nd is2 = true) (k : Go φ g nL (pc + 3) lv (.long v :: rest) ws2) : Go φ g nL pc lv st ws := g_callS C hd hml M hM hf hn hst hcat isC isR hC (map_all hR) hnC hnR hdis (fun r w2 h _ => by obtain ⟨rfl, rfl⟩ := h; exact g_sub is2 hn2 h2 k)
theorem g_vxn  {wd ws2 : va_W} {ci : Nat} {fs : List Value} {cr : vw_C} (C : Cx φ g cc nL own rm) (hd : decode cc pc = .ok (.invokevirtual ix, 3)) (hml : Cond.methodLink own ix y ∈ TB) (M : MV y Cn bytes maxL ret n) (hM : Ct g y bytes maxL ret rmc (.ref b :: As) wc (fun r w2 => r = none ∧ w2 = wd)) (hf : Fit rmc maxL rm) (hn : As.length = n) (hst : st = As.reverse ++ .ref b :: rest) (hcat : (rest.map fun v => v.category).sum ≤ 8) (q0 : Nat) (hb : wc[q0]? = some (b, .inr (ci, fs))) (hc : vwCl[ci]? = some cr) (hcn : cr.1 = Cn) (isC isR is2 : List Nat) (hC : isC.map (fun i => ws[i]?) = wc.map some) (hR : isR.all (fun i => (ws[i]?).isSome) = true) (hnC : va_nd isC = true) (hnR : va_nd isR = true) (hdis : ∀ i ∈ isR, i ∉ isC) (h2 : is2.map (fun i => (isR.filterMap (fun i => ws[i]?) ++ wd)[i]?) = ws2.map some) (hn2 : va_nd is2 = true) (k : Go φ g nL (pc + 3) lv (rest) ws2) : Go φ g nL pc lv st ws := g_vx C hd hml M hM hf hn hst hcat q0 hb hc hcn isC isR is2 hC (map_all hR) hnC hnR hdis h2 hn2 k
theorem g_sxn  {wd ws2 : va_W} (C : Cx φ g cc nL own rm) (hd : decode cc pc = .ok (.invokestatic ix, 3)) (hml : Cond.methodLink own ix y ∈ TB) (M : MS y bytes maxL ret n) (hM : Ct g y bytes maxL ret rmc As wc (fun r w2 => r = none ∧ w2 = wd)) (hf : Fit rmc maxL rm) (hn : As.length = n) (hst : st = As.reverse ++ rest) (hcat : (rest.map fun v => v.category).sum ≤ 8) (isC isR is2 : List Nat) (hC : isC.map (fun i => ws[i]?) = wc.map some) (hR : isR.all (fun i => (ws[i]?).isSome) = true) (hnC : va_nd isC = true) (hnR : va_nd isR = true) (hdis : ∀ i ∈ isR, i ∉ isC) (h2 : is2.map (fun i => (isR.filterMap (fun i => ws[i]?) ++ wd)[i]?) = ws2.map some) (hn2 : va_nd is2 = true) (k : Go φ g nL (pc + 3) lv (rest) ws2) : Go φ g nL pc lv st ws := g_callS C hd hml M hM hf hn hst hcat isC isR hC (map_all hR) hnC hnR hdis (fun r w2 h _ => by obtain ⟨rfl, rfl⟩ := h; exact g_sub is2 hn2 h2 k)
theorem g_rV {post : Option Value → va_W → Prop} {ci : Nat} {fs : List Value} {cr : vw_C} (C : Cx φ g cc nL own rm) (hd : decode cc pc = .ok (.invokevirtual ix, 3)) (hml : Cond.methodLink own ix y ∈ TB) (M : MV y Cn bytes maxL ret n) (hM : Ct g y bytes maxL ret rmc (.ref b :: As) wc post) (hf : Fit rmc maxL rm) (hn : As.length = n) (hst : st = As.reverse ++ .ref b :: rest) (hcat : (rest.map fun v => v.category).sum ≤ 8) (q0 : Nat) (hb : wc[q0]? = some (b, .inr (ci, fs))) (hc : vwCl[ci]? = some cr) (hcn : cr.1 = Cn) (isC isR : List Nat) (hC : isC.map (fun i => ws[i]?) = wc.map some) (hR : isR.all (fun i => (ws[i]?).isSome) = true) (hnC : va_nd isC = true) (hnR : va_nd isR = true) (hdis : ∀ i ∈ isR, i ∉ isC) (k : ∀ (r : Option Value) (w2 : va_W), post r w2 → Go φ g nL (pc + 3) lv (r.toList ++ rest) (isR.filterMap (fun i => ws[i]?) ++ w2)) : Go φ g nL pc lv st ws := g_callV C hd hml M hM hf hn hst hcat q0 hb hc hcn isC isR hC (map_all hR) hnC hnR hdis (fun r w2 h _ => k r w2 h)
end
/-! loops, with none to four changing things beside the counter -/
theorem g_loop0 {φ : Fx} {g : Gl} {nL pc : Nat} (n : Nat) (inv : Nat → Prop) (lv : Nat → List (Nat × Value)) (ws : Nat → va_W) (step : ∀ (i : Nat), i ≤ n → inv i → (i < n → inv (i + 1) → Go φ g nL pc (lv (i + 1)) [] (ws (i + 1))) → Go φ g nL pc (lv i) [] (ws i)) (i : Nat) (hi : i ≤ n) (hv : inv i) : Go φ g nL pc (lv i) [] (ws i) :=
  g_loop (σ := Unit) n (fun i _ => inv i) (fun i _ => lv i) (fun i _ => ws i) (fun i _ hi hv ih => step i hi hv (fun a b => ih () a b)) i () hi hv
theorem g_loop1 {φ : Fx} {g : Gl} {nL pc : Nat} {A : Type} (n : Nat) (inv : Nat → A → Prop) (lv : Nat → A → List (Nat × Value)) (ws : Nat → A → va_W) (step : ∀ (i : Nat) (x : A), i ≤ n → inv i x → (∀ z : A, i < n → inv (i + 1) z → Go φ g nL pc (lv (i + 1) z) [] (ws (i + 1) z)) → Go φ g nL pc (lv i x) [] (ws i x)) (i : Nat) (x : A) (hi : i ≤ n) (hv : inv i x) : Go φ g nL pc (lv i x) [] (ws i x) :=
  g_loop n inv lv ws step i x hi hv
theorem g_loop2 {φ : Fx} {g : Gl} {nL pc : Nat} {A B : Type} (n : Nat) (inv : Nat → A → B → Prop) (lv : Nat → A → B → List (Nat × Value)) (ws : Nat → A → B → va_W) (step : ∀ (i : Nat) (x : A) (y : B), i ≤ n → inv i x y → (∀ (z : A) (t : B), i < n → inv (i + 1) z t → Go φ g nL pc (lv (i + 1) z t) [] (ws (i + 1) z t)) → Go φ g nL pc (lv i x y) [] (ws i x y)) (i : Nat) (x : A) (y : B) (hi : i ≤ n) (hv : inv i x y) : Go φ g nL pc (lv i x y) [] (ws i x y) :=
  g_loop (σ := A × B) n (fun i q => inv i q.1 q.2) (fun i q => lv i q.1 q.2) (fun i q => ws i q.1 q.2) (fun i q hi hv ih => step i q.1 q.2 hi hv (fun z t a b => ih (z, t) a b)) i (x, y) hi hv
theorem g_loop3 {φ : Fx} {g : Gl} {nL pc : Nat} {A B D : Type} (n : Nat) (inv : Nat → A → B → D → Prop) (lv : Nat → A → B → D → List (Nat × Value)) (ws : Nat → A → B → D → va_W) (step : ∀ (i : Nat) (x : A) (y : B) (u : D), i ≤ n → inv i x y u → (∀ (z : A) (t : B) (v : D), i < n → inv (i + 1) z t v → Go φ g nL pc (lv (i + 1) z t v) [] (ws (i + 1) z t v)) → Go φ g nL pc (lv i x y u) [] (ws i x y u)) (i : Nat) (x : A) (y : B) (u : D) (hi : i ≤ n) (hv : inv i x y u) : Go φ g nL pc (lv i x y u) [] (ws i x y u) :=
  g_loop (σ := A × B × D) n (fun i q => inv i q.1 q.2.1 q.2.2) (fun i q => lv i q.1 q.2.1 q.2.2) (fun i q => ws i q.1 q.2.1 q.2.2) (fun i q hi hv ih => step i q.1 q.2.1 q.2.2 hi hv (fun z t v a b => ih (z, t, v) a b)) i (x, y, u) hi hv
theorem g_loop4 {φ : Fx} {g : Gl} {nL pc : Nat} {A B D E : Type} (n : Nat) (inv : Nat → A → B → D → E → Prop) (lv : Nat → A → B → D → E → List (Nat × Value)) (ws : Nat → A → B → D → E → va_W) (step : ∀ (i : Nat) (x : A) (y : B) (u : D) (e : E), i ≤ n → inv i x y u e → (∀ (z : A) (t : B) (v : D) (f : E), i < n → inv (i + 1) z t v f → Go φ g nL pc (lv (i + 1) z t v f) [] (ws (i + 1) z t v f)) → Go φ g nL pc (lv i x y u e) [] (ws i x y u e)) (i : Nat) (x : A) (y : B) (u : D) (e : E) (hi : i ≤ n) (hv : inv i x y u e) : Go φ g nL pc (lv i x y u e) [] (ws i x y u e) :=
  g_loop (σ := A × B × D × E) n (fun i q => inv i q.1 q.2.1 q.2.2.1 q.2.2.2) (fun i q => lv i q.1 q.2.1 q.2.2.1 q.2.2.2) (fun i q => ws i q.1 q.2.1 q.2.2.1 q.2.2.2) (fun i q hi hv ih => step i q.1 q.2.1 q.2.2.1 q.2.2.2 hi hv (fun z t v f a b => ih (z, t, v, f) a b)) i (x, y, u, e) hi hv
theorem mf_X3_finding : MV yX3_finding RX3 cX3_finding 2 (some .int) 1 := ⟨im_X3_finding, se_X3_finding, in_X3, cd_X3_finding, rfl, by decide, by decide, by decide +kernel⟩
theorem mf_X3_isCook : MV yX3_isCook RX3 cX3_isCook 2 (some .boolean) 1 := ⟨im_X3_isCook, se_X3_isCook, in_X3, cd_X3_isCook, rfl, by decide, by decide, by decide +kernel⟩
theorem mf_X0_wantsBy : MV yX0_wantsBy RX0 cX0_wantsBy 3 (some .int) 1 := ⟨im_X0_wantsBy, se_X0_wantsBy, in_X0, cd_X0_wantsBy, rfl, by decide, by decide, by decide +kernel⟩
theorem mf_X3_replace : MV yX3_replace RX3 cX3_replace 6 (some .int) 4 := ⟨im_X3_replace, se_X3_replace, in_X3, cd_X3_replace, rfl, by decide, by decide, by decide +kernel⟩
theorem mf_X0_serve : MV yX0_serve RX0 cX0_serve 5 none 1 := ⟨im_X0_serve, se_X0_serve, in_X0, cd_X0_serve, rfl, by decide, by decide, by decide +kernel⟩
theorem mf_X3_startTrial : MV yX3_startTrial RX3 cX3_startTrial 1 none 0 := ⟨im_X3_startTrial, se_X3_startTrial, in_X3, cd_X3_startTrial, rfl, by decide, by decide, by decide +kernel⟩
theorem mf_X2_step : MV yX2_step RX2 cX2_step 1 none 0 := ⟨im_X2_step, se_X2_step, in_X2, cd_X2_step, rfl, by decide, by decide, by decide +kernel⟩
theorem mf_X2_isAmong : MV yX2_isAmong RX2 cX2_isAmong 3 (some .boolean) 2 := ⟨im_X2_isAmong, se_X2_isAmong, in_X2, cd_X2_isAmong, rfl, by decide, by decide, by decide +kernel⟩
theorem mf_X2_stepWord : MV yX2_stepWord RX2 cX2_stepWord 1 none 0 := ⟨im_X2_stepWord, se_X2_stepWord, in_X2, cd_X2_stepWord, rfl, by decide, by decide, by decide +kernel⟩
theorem mf_X2_stepNumber : MV yX2_stepNumber RX2 cX2_stepNumber 1 none 0 := ⟨im_X2_stepNumber, se_X2_stepNumber, in_X2, cd_X2_stepNumber, rfl, by decide, by decide, by decide +kernel⟩
theorem mf_X2_passItem : MV yX2_passItem RX2 cX2_passItem 4 (some .boolean) 1 := ⟨im_X2_passItem, se_X2_passItem, in_X2, cd_X2_passItem, rfl, by decide, by decide, by decide +kernel⟩
theorem mf_X2_isWord : MV yX2_isWord RX2 cX2_isWord 3 (some .boolean) 1 := ⟨im_X2_isWord, se_X2_isWord, in_X2, cd_X2_isWord, rfl, by decide, by decide, by decide +kernel⟩
theorem mf_X2_passPart : MV yX2_passPart RX2 cX2_passPart 3 (some .boolean) 1 := ⟨im_X2_passPart, se_X2_passPart, in_X2, cd_X2_passPart, rfl, by decide, by decide, by decide +kernel⟩
theorem mf_X2_isNumber : MV yX2_isNumber RX2 cX2_isNumber 2 (some .boolean) 1 := ⟨im_X2_isNumber, se_X2_isNumber, in_X2, cd_X2_isNumber, rfl, by decide, by decide, by decide +kernel⟩
theorem mf_X2_kindNamed : MV yX2_kindNamed RX2 cX2_kindNamed 1 (some .int) 0 := ⟨im_X2_kindNamed, se_X2_kindNamed, in_X2, cd_X2_kindNamed, rfl, by decide, by decide, by decide +kernel⟩
theorem mf_X2_passTrait : MV yX2_passTrait RX2 cX2_passTrait 5 (some .boolean) 4 := ⟨im_X2_passTrait, se_X2_passTrait, in_X2, cd_X2_passTrait, rfl, by decide, by decide, by decide +kernel⟩
theorem mf_X3_tastesAsWritten : MV yX3_tastesAsWritten RX3 cX3_tastesAsWritten 4 (some .boolean) 2 := ⟨im_X3_tastesAsWritten, se_X3_tastesAsWritten, in_X3, cd_X3_tastesAsWritten, rfl, by decide, by decide, by decide +kernel⟩
theorem mf_X4_finds : MV yX4_finds RX4 cX4_finds 2 (some .int) 1 := ⟨im_X4_finds, se_X4_finds, in_X4, cd_X4_finds, rfl, by decide, by decide, by decide +kernel⟩
theorem mf_X4_all : MV yX4_all RX4 cX4_all 3 (some .int) 0 := ⟨im_X4_all, se_X4_all, in_X4, cd_X4_all, rfl, by decide, by decide, by decide +kernel⟩
theorem mf_X4_becomes : MV yX4_becomes RX4 cX4_becomes 4 (some .int) 2 := ⟨im_X4_becomes, se_X4_becomes, in_X4, cd_X4_becomes, rfl, by decide, by decide, by decide +kernel⟩
theorem mf_X4_tasteOf : MV yX4_tasteOf RX4 cX4_tasteOf 3 (some .int) 1 := ⟨im_X4_tasteOf, se_X4_tasteOf, in_X4, cd_X4_tasteOf, rfl, by decide, by decide, by decide +kernel⟩
theorem mf_X4_takesOut : MV yX4_takesOut RX4 cX4_takesOut 7 (some .int) 1 := ⟨im_X4_takesOut, se_X4_takesOut, in_X4, cd_X4_takesOut, rfl, by decide, by decide, by decide +kernel⟩
theorem mf_X4_laysAside : MV yX4_laysAside RX4 cX4_laysAside 2 none 0 := ⟨im_X4_laysAside, se_X4_laysAside, in_X4, cd_X4_laysAside, rfl, by decide, by decide, by decide +kernel⟩
theorem mf_X4_takesBack : MV yX4_takesBack RX4 cX4_takesBack 3 (some .int) 1 := ⟨im_X4_takesBack, se_X4_takesBack, in_X4, cd_X4_takesBack, rfl, by decide, by decide, by decide +kernel⟩
theorem mf_X4_adds : MV yX4_adds RX4 cX4_adds 3 (some .int) 1 := ⟨im_X4_adds, se_X4_adds, in_X4, cd_X4_adds, rfl, by decide, by decide, by decide +kernel⟩
theorem mf_X4_isCook : MV yX4_isCook RX4 cX4_isCook 2 (some .boolean) 1 := ⟨im_X4_isCook, se_X4_isCook, in_X4, cd_X4_isCook, rfl, by decide, by decide, by decide +kernel⟩
theorem mf_X4_takesOf : MV yX4_takesOf RX4 cX4_takesOf 3 (some .int) 1 := ⟨im_X4_takesOf, se_X4_takesOf, in_X4, cd_X4_takesOf, rfl, by decide, by decide, by decide +kernel⟩
theorem mf_X4_wants : MV yX4_wants RX4 cX4_wants 3 (some .int) 1 := ⟨im_X4_wants, se_X4_wants, in_X4, cd_X4_wants, rfl, by decide, by decide, by decide +kernel⟩
theorem mf_X4_its : MV yX4_its RX4 cX4_its 3 (some .int) 2 := ⟨im_X4_its, se_X4_its, in_X4, cd_X4_its, rfl, by decide, by decide, by decide +kernel⟩
theorem mf_X4_putsOf : MV yX4_putsOf RX4 cX4_putsOf 4 (some .int) 2 := ⟨im_X4_putsOf, se_X4_putsOf, in_X4, cd_X4_putsOf, rfl, by decide, by decide, by decide +kernel⟩
theorem mf_X4_whatOf : MV yX4_whatOf RX4 cX4_whatOf 2 (some .int) 1 := ⟨im_X4_whatOf, se_X4_whatOf, in_X4, cd_X4_whatOf, rfl, by decide, by decide, by decide +kernel⟩
theorem mf_X4_areTwo : MV yX4_areTwo RX4 cX4_areTwo 3 (some .boolean) 2 := ⟨im_X4_areTwo, se_X4_areTwo, in_X4, cd_X4_areTwo, rfl, by decide, by decide, by decide +kernel⟩
theorem mf_X4_swaps : MV yX4_swaps RX4 cX4_swaps 5 none 2 := ⟨im_X4_swaps, se_X4_swaps, in_X4, cd_X4_swaps, rfl, by decide, by decide, by decide +kernel⟩
theorem mf_X4_yearsGo : MV yX4_yearsGo RX4 cX4_yearsGo 3 none 1 := ⟨im_X4_yearsGo, se_X4_yearsGo, in_X4, cd_X4_yearsGo, rfl, by decide, by decide, by decide +kernel⟩
theorem mf_X4_year : MV yX4_year RX4 cX4_year 6 none 0 := ⟨im_X4_year, se_X4_year, in_X4, cd_X4_year, rfl, by decide, by decide, by decide +kernel⟩
theorem mf_X4_present : MV yX4_present RX4 cX4_present 3 (some .int) 0 := ⟨im_X4_present, se_X4_present, in_X4, cd_X4_present, rfl, by decide, by decide, by decide +kernel⟩
theorem mf_X4_isVague : MV yX4_isVague RX4 cX4_isVague 1 (some .boolean) 0 := ⟨im_X4_isVague, se_X4_isVague, in_X4, cd_X4_isVague, rfl, by decide, by decide, by decide +kernel⟩
theorem mf_X4_mostPart : MV yX4_mostPart RX4 cX4_mostPart 3 (some .int) 0 := ⟨im_X4_mostPart, se_X4_mostPart, in_X4, cd_X4_mostPart, rfl, by decide, by decide, by decide +kernel⟩
theorem mf_X4_firstSo : MV yX4_firstSo RX4 cX4_firstSo 6 (some .int) 3 := ⟨im_X4_firstSo, se_X4_firstSo, in_X4, cd_X4_firstSo, rfl, by decide, by decide, by decide +kernel⟩
theorem mf_X4_isSo : MV yX4_isSo RX4 cX4_isSo 4 (some .boolean) 3 := ⟨im_X4_isSo, se_X4_isSo, in_X4, cd_X4_isSo, rfl, by decide, by decide, by decide +kernel⟩
theorem mf_X4_behind : MV yX4_behind RX4 cX4_behind 3 (some .int) 2 := ⟨im_X4_behind, se_X4_behind, in_X4, cd_X4_behind, rfl, by decide, by decide, by decide +kernel⟩
theorem mf_X4_leastTaste : MV yX4_leastTaste RX4 cX4_leastTaste 5 (some .int) 1 := ⟨im_X4_leastTaste, se_X4_leastTaste, in_X4, cd_X4_leastTaste, rfl, by decide, by decide, by decide +kernel⟩
theorem mf_X4_saves : MV yX4_saves RX4 cX4_saves 2 none 0 := ⟨im_X4_saves, se_X4_saves, in_X4, cd_X4_saves, rfl, by decide, by decide, by decide +kernel⟩
theorem mf_X4_token : MV yX4_token RX4 cX4_token 3 none 0 := ⟨im_X4_token, se_X4_token, in_X4, cd_X4_token, rfl, by decide, by decide, by decide +kernel⟩
theorem mf_X4_byteAt : MV yX4_byteAt RX4 cX4_byteAt 2 (some .int) 1 := ⟨im_X4_byteAt, se_X4_byteAt, in_X4, cd_X4_byteAt, rfl, by decide, by decide, by decide +kernel⟩
theorem mf_X4_item : MV yX4_item RX4 cX4_item 2 none 0 := ⟨im_X4_item, se_X4_item, in_X4, cd_X4_item, rfl, by decide, by decide, by decide +kernel⟩
theorem mf_X4_kindHere : MV yX4_kindHere RX4 cX4_kindHere 3 (some .int) 0 := ⟨im_X4_kindHere, se_X4_kindHere, in_X4, cd_X4_kindHere, rfl, by decide, by decide, by decide +kernel⟩
theorem mf_X4_word : MV yX4_word RX4 cX4_word 4 (some .long) 0 := ⟨im_X4_word, se_X4_word, in_X4, cd_X4_word, rfl, by decide, by decide, by decide +kernel⟩
theorem mf_X4_cookItem : MV yX4_cookItem RX4 cX4_cookItem 3 none 1 := ⟨im_X4_cookItem, se_X4_cookItem, in_X4, cd_X4_cookItem, rfl, by decide, by decide, by decide +kernel⟩
theorem mf_X4_must : MV yX4_must RX4 cX4_must 2 none 1 := ⟨im_X4_must, se_X4_must, in_X4, cd_X4_must, rfl, by decide, by decide, by decide +kernel⟩
theorem mf_X4_partItem : MV yX4_partItem RX4 cX4_partItem 5 none 3 := ⟨im_X4_partItem, se_X4_partItem, in_X4, cd_X4_partItem, rfl, by decide, by decide, by decide +kernel⟩
theorem mf_X4_number : MV yX4_number RX4 cX4_number 6 none 2 := ⟨im_X4_number, se_X4_number, in_X4, cd_X4_number, rfl, by decide, by decide, by decide +kernel⟩
theorem mf_X4_grainsItem : MV yX4_grainsItem RX4 cX4_grainsItem 3 none 0 := ⟨im_X4_grainsItem, se_X4_grainsItem, in_X4, cd_X4_grainsItem, rfl, by decide, by decide, by decide +kernel⟩
theorem mf_X4_putsBack : MV yX4_putsBack RX4 cX4_putsBack 2 none 0 := ⟨im_X4_putsBack, se_X4_putsBack, in_X4, cd_X4_putsBack, rfl, by decide, by decide, by decide +kernel⟩
theorem mf_X4_wrongSheet : MV yX4_wrongSheet RX4 cX4_wrongSheet 2 (some .int) 1 := ⟨im_X4_wrongSheet, se_X4_wrongSheet, in_X4, cd_X4_wrongSheet, rfl, by decide, by decide, by decide +kernel⟩
theorem mf_X4_isBook : MV yX4_isBook RX4 cX4_isBook 4 (some .boolean) 2 := ⟨im_X4_isBook, se_X4_isBook, in_X4, cd_X4_isBook, rfl, by decide, by decide, by decide +kernel⟩
theorem mf_X4_weights : MV yX4_weights RX4 cX4_weights 3 (some .int) 0 := ⟨im_X4_weights, se_X4_weights, in_X4, cd_X4_weights, rfl, by decide, by decide, by decide +kernel⟩
theorem mf_X4_missing : MV yX4_missing RX4 cX4_missing 3 (some .int) 0 := ⟨im_X4_missing, se_X4_missing, in_X4, cd_X4_missing, rfl, by decide, by decide, by decide +kernel⟩
theorem mf_X3_grains : MV yX3_grains RX3 cX3_grains 2 (some .int) 1 := ⟨im_X3_grains, se_X3_grains, in_X3, cd_X3_grains, rfl, by decide, by decide, by decide +kernel⟩
theorem mf_X3_isPart : MS yX3_isPart cX3_isPart 1 (some .boolean) 1 := ⟨sm_X3_isPart, in_X3, cd_X3_isPart, by decide, by decide, by decide +kernel⟩
theorem mf_X3_isWithin : MS yX3_isWithin cX3_isWithin 3 (some .boolean) 3 := ⟨sm_X3_isWithin, in_X3, cd_X3_isWithin, by decide, by decide, by decide +kernel⟩
theorem mf_X3_pour : MV yX3_pour RX3 cX3_pour 4 (some .int) 2 := ⟨im_X3_pour, se_X3_pour, in_X3, cd_X3_pour, rfl, by decide, by decide, by decide +kernel⟩
theorem mf_X0_hasRoom : MV yX0_hasRoom RX0 cX0_hasRoom 3 (some .boolean) 2 := ⟨im_X0_hasRoom, se_X0_hasRoom, in_X0, cd_X0_hasRoom, rfl, by decide, by decide, by decide +kernel⟩
theorem mf_X0_fill : MV yX0_fill RX0 cX0_fill 3 none 2 := ⟨im_X0_fill, se_X0_fill, in_X0, cd_X0_fill, rfl, by decide, by decide, by decide +kernel⟩
theorem mf_X3_taste : MV yX3_taste RX3 cX3_taste 2 (some .int) 1 := ⟨im_X3_taste, se_X3_taste, in_X3, cd_X3_taste, rfl, by decide, by decide, by decide +kernel⟩
theorem mf_X0_tasteOf : MV yX0_tasteOf RX0 cX0_tasteOf 2 (some .int) 1 := ⟨im_X0_tasteOf, se_X0_tasteOf, in_X0, cd_X0_tasteOf, rfl, by decide, by decide, by decide +kernel⟩
theorem mf_X3_spoon : MV yX3_spoon RX3 cX3_spoon 2 (some .int) 1 := ⟨im_X3_spoon, se_X3_spoon, in_X3, cd_X3_spoon, rfl, by decide, by decide, by decide +kernel⟩
theorem mf_X0_takeOut : MV yX0_takeOut RX0 cX0_takeOut 4 (some .int) 1 := ⟨im_X0_takeOut, se_X0_takeOut, in_X0, cd_X0_takeOut, rfl, by decide, by decide, by decide +kernel⟩
theorem mf_X0_measure : MV yX0_measure RX0 cX0_measure 6 (some .int) 1 := ⟨im_X0_measure, se_X0_measure, in_X0, cd_X0_measure, rfl, by decide, by decide, by decide +kernel⟩
theorem mf_X3_spoonOf : MV yX3_spoonOf RX3 cX3_spoonOf 3 (some .int) 2 := ⟨im_X3_spoonOf, se_X3_spoonOf, in_X3, cd_X3_spoonOf, rfl, by decide, by decide, by decide +kernel⟩
theorem mf_X3_cook : MV yX3_cook RX3 cX3_cook 2 (some .int) 1 := ⟨im_X3_cook, se_X3_cook, in_X3, cd_X3_cook, rfl, by decide, by decide, by decide +kernel⟩
theorem mf_X3_isKind : MS yX3_isKind cX3_isKind 1 (some .boolean) 1 := ⟨sm_X3_isKind, in_X3, cd_X3_isKind, by decide, by decide, by decide +kernel⟩
theorem mf_X0_isStaffed : MV yX0_isStaffed RX0 cX0_isStaffed 1 (some .boolean) 0 := ⟨im_X0_isStaffed, se_X0_isStaffed, in_X0, cd_X0_isStaffed, rfl, by decide, by decide, by decide +kernel⟩
theorem mf_X0_hire : MV yX0_hire RX0 cX0_hire 2 (some .int) 1 := ⟨im_X0_hire, se_X0_hire, in_X0, cd_X0_hire, rfl, by decide, by decide, by decide +kernel⟩
theorem mf_X3_of : MV yX3_of RX3 cX3_of 3 (some .int) 2 := ⟨im_X3_of, se_X3_of, in_X3, cd_X3_of, rfl, by decide, by decide, by decide +kernel⟩
theorem mf_X0_takesBy : MV yX0_takesBy RX0 cX0_takesBy 2 (some .int) 1 := ⟨im_X0_takesBy, se_X0_takesBy, in_X0, cd_X0_takesBy, rfl, by decide, by decide, by decide +kernel⟩
theorem mf_X0_putsBy : MV yX0_putsBy RX0 cX0_putsBy 4 (some .int) 2 := ⟨im_X0_putsBy, se_X0_putsBy, in_X0, cd_X0_putsBy, rfl, by decide, by decide, by decide +kernel⟩
theorem mf_X0_partPutBy : MV yX0_partPutBy RX0 cX0_partPutBy 2 (some .int) 1 := ⟨im_X0_partPutBy, se_X0_partPutBy, in_X0, cd_X0_partPutBy, rfl, by decide, by decide, by decide +kernel⟩
theorem mf_X3_set : MV yX3_set RX3 cX3_set 4 (some .int) 3 := ⟨im_X3_set, se_X3_set, in_X3, cd_X3_set, rfl, by decide, by decide, by decide +kernel⟩
theorem mf_X3_turn : MV yX3_turn RX3 cX3_turn 3 (some .int) 2 := ⟨im_X3_turn, se_X3_turn, in_X3, cd_X3_turn, rfl, by decide, by decide, by decide +kernel⟩
theorem mf_X3_as : MV yX3_as RX3 cX3_as 3 (some .int) 2 := ⟨im_X3_as, se_X3_as, in_X3, cd_X3_as, rfl, by decide, by decide, by decide +kernel⟩
theorem mf_X3_isUnder : MS yX3_isUnder cX3_isUnder 2 (some .boolean) 2 := ⟨sm_X3_isUnder, in_X3, cd_X3_isUnder, by decide, by decide, by decide +kernel⟩
theorem mf_X3_swap : MV yX3_swap RX3 cX3_swap 3 (some .int) 2 := ⟨im_X3_swap, se_X3_swap, in_X3, cd_X3_swap, rfl, by decide, by decide, by decide +kernel⟩
theorem mf_X0_exchange : MV yX0_exchange RX0 cX0_exchange 3 none 2 := ⟨im_X0_exchange, se_X0_exchange, in_X0, cd_X0_exchange, rfl, by decide, by decide, by decide +kernel⟩
theorem mf_X0_exchangeIn : MS yX0_exchangeIn cX0_exchangeIn 4 none 3 := ⟨sm_X0_exchangeIn, in_X0, cd_X0_exchangeIn, by decide, by decide, by decide +kernel⟩
theorem mf_X3_years : MV yX3_years RX3 cX3_years 2 (some .int) 1 := ⟨im_X3_years, se_X3_years, in_X3, cd_X3_years, rfl, by decide, by decide, by decide +kernel⟩
theorem mf_X0_goOn : MV yX0_goOn RX0 cX0_goOn 3 none 1 := ⟨im_X0_goOn, se_X0_goOn, in_X0, cd_X0_goOn, rfl, by decide, by decide, by decide +kernel⟩
theorem mf_X3_now : MV yX3_now RX3 cX3_now 2 (some .int) 1 := ⟨im_X3_now, se_X3_now, in_X3, cd_X3_now, rfl, by decide, by decide, by decide +kernel⟩
theorem mf_X0_whoseTurn : MV yX0_whoseTurn RX0 cX0_whoseTurn 1 (some .int) 0 := ⟨im_X0_whoseTurn, se_X0_whoseTurn, in_X0, cd_X0_whoseTurn, rfl, by decide, by decide, by decide +kernel⟩
theorem mf_X0_partsThere : MV yX0_partsThere RX0 cX0_partsThere 3 (some .int) 0 := ⟨im_X0_partsThere, se_X0_partsThere, in_X0, cd_X0_partsThere, rfl, by decide, by decide, by decide +kernel⟩
theorem mf_X0_isVague : MV yX0_isVague RX0 cX0_isVague 1 (some .boolean) 0 := ⟨im_X0_isVague, se_X0_isVague, in_X0, cd_X0_isVague, rfl, by decide, by decide, by decide +kernel⟩
theorem mf_X0_fullestPart : MV yX0_fullestPart RX0 cX0_fullestPart 3 (some .int) 0 := ⟨im_X0_fullestPart, se_X0_fullestPart, in_X0, cd_X0_fullestPart, rfl, by decide, by decide, by decide +kernel⟩
theorem mf_X3_on : MV yX3_on RX3 cX3_on 4 (some .int) 3 := ⟨im_X3_on, se_X3_on, in_X3, cd_X3_on, rfl, by decide, by decide, by decide +kernel⟩
theorem mf_X0_become : MV yX0_become RX0 cX0_become 2 none 1 := ⟨im_X0_become, se_X0_become, in_X0, cd_X0_become, rfl, by decide, by decide, by decide +kernel⟩
theorem mf_X3_vague : MV yX3_vague RX3 cX3_vague 2 (some .int) 0 := ⟨im_X3_vague, se_X3_vague, in_X3, cd_X3_vague, rfl, by decide, by decide, by decide +kernel⟩
theorem mf_X3_gone : MV yX3_gone RX3 cX3_gone 4 (some .int) 2 := ⟨im_X3_gone, se_X3_gone, in_X3, cd_X3_gone, rfl, by decide, by decide, by decide +kernel⟩
theorem mf_X3_strong : MV yX3_strong RX3 cX3_strong 4 (some .int) 2 := ⟨im_X3_strong, se_X3_strong, in_X3, cd_X3_strong, rfl, by decide, by decide, by decide +kernel⟩
theorem mf_X3_better : MV yX3_better RX3 cX3_better 7 (some .int) 2 := ⟨im_X3_better, se_X3_better, in_X3, cd_X3_better, rfl, by decide, by decide, by decide +kernel⟩
theorem mf_X3_weight : MV yX3_weight RX3 cX3_weight 6 (some .int) 4 := ⟨im_X3_weight, se_X3_weight, in_X3, cd_X3_weight, rfl, by decide, by decide, by decide +kernel⟩
theorem mf_X3_kind : MV yX3_kind RX3 cX3_kind 7 (some .int) 3 := ⟨im_X3_kind, se_X3_kind, in_X3, cd_X3_kind, rfl, by decide, by decide, by decide +kernel⟩
theorem mf_X3_puts : MV yX3_puts RX3 cX3_puts 8 (some .int) 2 := ⟨im_X3_puts, se_X3_puts, in_X3, cd_X3_puts, rfl, by decide, by decide, by decide +kernel⟩
theorem mf_X0_leastTaste : MV yX0_leastTaste RX0 cX0_leastTaste 4 (some .int) 1 := ⟨im_X0_leastTaste, se_X0_leastTaste, in_X0, cd_X0_leastTaste, rfl, by decide, by decide, by decide +kernel⟩
theorem mf_X3_best : MV yX3_best RX3 cX3_best 4 (some .int) 1 := ⟨im_X3_best, se_X3_best, in_X3, cd_X3_best, rfl, by decide, by decide, by decide +kernel⟩
theorem mf_X3_dull : MV yX3_dull RX3 cX3_dull 4 (some .int) 1 := ⟨im_X3_dull, se_X3_dull, in_X3, cd_X3_dull, rfl, by decide, by decide, by decide +kernel⟩
theorem mf_X0_waterAllBut : MV yX0_waterAllBut RX0 cX0_waterAllBut 3 none 1 := ⟨im_X0_waterAllBut, se_X0_waterAllBut, in_X0, cd_X0_waterAllBut, rfl, by decide, by decide, by decide +kernel⟩
theorem mf_X3_feed : MV yX3_feed RX3 cX3_feed 4 (some .int) 2 := ⟨im_X3_feed, se_X3_feed, in_X3, cd_X3_feed, rfl, by decide, by decide, by decide +kernel⟩
theorem mf_X2_append : MV yX2_append RX2 cX2_append 2 none 1 := ⟨im_X2_append, se_X2_append, in_X2, cd_X2_append, rfl, by decide, by decide, by decide +kernel⟩
theorem mf_X3_wipe : MV yX3_wipe RX3 cX3_wipe 2 (some .int) 0 := ⟨im_X3_wipe, se_X3_wipe, in_X3, cd_X3_wipe, rfl, by decide, by decide, by decide +kernel⟩
theorem mf_X3_college : MV yX3_college RX3 cX3_college 2 (some .int) 0 := ⟨im_X3_college, se_X3_college, in_X3, cd_X3_college, rfl, by decide, by decide, by decide +kernel⟩
theorem mf_X2_tellTo : MV yX2_tellTo RX2 cX2_tellTo 3 (some .int) 1 := ⟨im_X2_tellTo, se_X2_tellTo, in_X2, cd_X2_tellTo, rfl, by decide, by decide, by decide +kernel⟩
theorem mf_J0_length_8abf5 : MV yJ0_length_8abf5 RJ0 cJ0_length_8abf5 1 (some .int) 0 := ⟨im_J0_length_8abf5, se_J0_length_8abf5, in_J0, cd_J0_length_8abf5, rfl, by decide, by decide, by decide +kernel⟩
theorem mf_J0_coder_7d493 : MV yJ0_coder_7d493 RJ0 cJ0_coder_7d493 1 (some .byte) 0 := ⟨im_J0_coder_7d493, se_J0_coder_7d493, in_J0, cd_J0_coder_7d493, rfl, by decide, by decide, by decide +kernel⟩
theorem mf_J0_charAt_5068e : MV yJ0_charAt_5068e RJ0 cJ0_charAt_5068e 2 (some .char) 1 := ⟨im_J0_charAt_5068e, se_J0_charAt_5068e, in_J0, cd_J0_charAt_5068e, rfl, by decide, by decide, by decide +kernel⟩
theorem mf_J0_isLatin1_aae02 : MV yJ0_isLatin1_aae02 RJ0 cJ0_isLatin1_aae02 1 (some .boolean) 0 := ⟨im_J0_isLatin1_aae02, se_J0_isLatin1_aae02, in_J0, cd_J0_isLatin1_aae02, rfl, by decide, by decide, by decide +kernel⟩
theorem mf_J1_charAt_3b067 : MS yJ1_charAt_3b067 cJ1_charAt_3b067 2 (some .char) 2 := ⟨sm_J1_charAt_3b067, in_J1, cd_J1_charAt_3b067, by decide, by decide, by decide +kernel⟩
theorem mf_J0_checkIndex_df160 : MS yJ0_checkIndex_df160 cJ0_checkIndex_df160 2 none 2 := ⟨sm_J0_checkIndex_df160, in_J0, cd_J0_checkIndex_df160, by decide, by decide, by decide +kernel⟩
theorem mf_J3_checkIndex_8e157 : MS yJ3_checkIndex_8e157 cJ3_checkIndex_8e157 3 (some .int) 3 := ⟨sm_J3_checkIndex_8e157, in_J3, cd_J3_checkIndex_8e157, by decide, by decide, by decide +kernel⟩
theorem mf_J2_charAt_3b067 : MS yJ2_charAt_3b067 cJ2_charAt_3b067 2 (some .char) 2 := ⟨sm_J2_charAt_3b067, in_J2, cd_J2_charAt_3b067, by decide, by decide, by decide +kernel⟩
theorem mf_J2_checkIndex_2214a : MS yJ2_checkIndex_2214a cJ2_checkIndex_2214a 2 none 2 := ⟨sm_J2_checkIndex_2214a, in_J2, cd_J2_checkIndex_2214a, by decide, by decide, by decide +kernel⟩
theorem mf_J2_length_9d52b : MS yJ2_length_9d52b cJ2_length_9d52b 1 (some .int) 1 := ⟨sm_J2_length_9d52b, in_J2, cd_J2_length_9d52b, by decide, by decide, by decide +kernel⟩
theorem mf_J2_getChar_3b067 : MS yJ2_getChar_3b067 cJ2_getChar_3b067 2 (some .char) 2 := ⟨sm_J2_getChar_3b067, in_J2, cd_J2_getChar_3b067, by decide, by decide, by decide +kernel⟩
theorem mf_X3_sheet : MV yX3_sheet RX3 cX3_sheet 4 (some .int) 3 := ⟨im_X3_sheet, se_X3_sheet, in_X3, cd_X3_sheet, rfl, by decide, by decide, by decide +kernel⟩
theorem mf_X3_isSheet : MS yX3_isSheet cX3_isSheet 1 (some .boolean) 1 := ⟨sm_X3_isSheet, in_X3, cd_X3_isSheet, by decide, by decide, by decide +kernel⟩
theorem mf_X3_isWidth : MS yX3_isWidth cX3_isWidth 1 (some .boolean) 1 := ⟨sm_X3_isWidth, in_X3, cd_X3_isWidth, by decide, by decide, by decide +kernel⟩
theorem mf_X1_layOut : MV yX1_layOut RX1 cX1_layOut 4 none 2 := ⟨im_X1_layOut, se_X1_layOut, in_X1, cd_X1_layOut, rfl, by decide, by decide, by decide +kernel⟩
theorem mf_X3_write : MV yX3_write RX3 cX3_write 8 (some .long) 3 := ⟨im_X3_write, se_X3_write, in_X3, cd_X3_write, rfl, by decide, by decide, by decide +kernel⟩
theorem mf_X1_isMissing : MV yX1_isMissing RX1 cX1_isMissing 1 (some .boolean) 0 := ⟨im_X1_isMissing, se_X1_isMissing, in_X1, cd_X1_isMissing, rfl, by decide, by decide, by decide +kernel⟩
theorem mf_X1_put : MV yX1_put RX1 cX1_put 4 none 2 := ⟨im_X1_put, se_X1_put, in_X1, cd_X1_put, rfl, by decide, by decide, by decide +kernel⟩
theorem mf_X3_copy : MV yX3_copy RX3 cX3_copy 8 (some .int) 5 := ⟨im_X3_copy, se_X3_copy, in_X3, cd_X3_copy, rfl, by decide, by decide, by decide +kernel⟩
theorem mf_X1_hasRun : MV yX1_hasRun RX1 cX1_hasRun 3 (some .boolean) 2 := ⟨im_X1_hasRun, se_X1_hasRun, in_X1, cd_X1_hasRun, rfl, by decide, by decide, by decide +kernel⟩
theorem mf_X3_lays : MV yX3_lays RX3 cX3_lays 7 (some .int) 1 := ⟨im_X3_lays, se_X3_lays, in_X3, cd_X3_lays, rfl, by decide, by decide, by decide +kernel⟩
theorem mf_X3_book : MV yX3_book RX3 cX3_book 5 (some .int) 2 := ⟨im_X3_book, se_X3_book, in_X3, cd_X3_book, rfl, by decide, by decide, by decide +kernel⟩
theorem mf_X3_read : MV yX3_read RX3 cX3_read 8 (some .int) 3 := ⟨im_X3_read, se_X3_read, in_X3, cd_X3_read, rfl, by decide, by decide, by decide +kernel⟩
theorem mf_X3_image : MV yX3_image RX3 cX3_image 1 (some .int) 0 := ⟨im_X3_image, se_X3_image, in_X3, cd_X3_image, rfl, by decide, by decide, by decide +kernel⟩
theorem mf_X3_undo : MV yX3_undo RX3 cX3_undo 1 (some .int) 0 := ⟨im_X3_undo, se_X3_undo, in_X3, cd_X3_undo, rfl, by decide, by decide, by decide +kernel⟩
theorem mf_X3_tear : MV yX3_tear RX3 cX3_tear 2 (some .int) 0 := ⟨im_X3_tear, se_X3_tear, in_X3, cd_X3_tear, rfl, by decide, by decide, by decide +kernel⟩
theorem mf_X3_count : MV yX3_count RX3 cX3_count 2 (some .int) 1 := ⟨im_X3_count, se_X3_count, in_X3, cd_X3_count, rfl, by decide, by decide, by decide +kernel⟩
theorem mf_X0_weightOfAll : MV yX0_weightOfAll RX0 cX0_weightOfAll 3 (some .int) 0 := ⟨im_X0_weightOfAll, se_X0_weightOfAll, in_X0, cd_X0_weightOfAll, rfl, by decide, by decide, by decide +kernel⟩
theorem mf_J6_bitCount_0f7a4 : MS yJ6_bitCount_0f7a4 cJ6_bitCount_0f7a4 1 (some .int) 1 := ⟨sm_J6_bitCount_0f7a4, in_J6, cd_J6_bitCount_0f7a4, by decide, by decide, by decide +kernel⟩
theorem mf_X3_status : MV yX3_status RX3 cX3_status 4 (some .int) 1 := ⟨im_X3_status, se_X3_status, in_X3, cd_X3_status, rfl, by decide, by decide, by decide +kernel⟩
theorem mf_X4_grains : MV yX4_grains RX4 cX4_grains 2 (some .int) 1 := ⟨im_X4_grains, se_X4_grains, in_X4, cd_X4_grains, rfl, by decide, by decide, by decide +kernel⟩
theorem mf_X4_isPart : MS yX4_isPart cX4_isPart 1 (some .boolean) 1 := ⟨sm_X4_isPart, in_X4, cd_X4_isPart, by decide, by decide, by decide +kernel⟩
theorem mf_X4_in : MS yX4_in cX4_in 6 (some .boolean) 3 := ⟨sm_X4_in, in_X4, cd_X4_in, by decide, by decide, by decide +kernel⟩
theorem mf_X4_pour : MV yX4_pour RX4 cX4_pour 3 (some .int) 2 := ⟨im_X4_pour, se_X4_pour, in_X4, cd_X4_pour, rfl, by decide, by decide, by decide +kernel⟩
theorem mf_X4_taste : MV yX4_taste RX4 cX4_taste 2 (some .int) 1 := ⟨im_X4_taste, se_X4_taste, in_X4, cd_X4_taste, rfl, by decide, by decide, by decide +kernel⟩
theorem mf_X4_spoon : MV yX4_spoon RX4 cX4_spoon 2 (some .int) 1 := ⟨im_X4_spoon, se_X4_spoon, in_X4, cd_X4_spoon, rfl, by decide, by decide, by decide +kernel⟩
theorem mf_X4_isSpoon : MS yX4_isSpoon cX4_isSpoon 1 (some .boolean) 1 := ⟨sm_X4_isSpoon, in_X4, cd_X4_isSpoon, by decide, by decide, by decide +kernel⟩
theorem mf_X4_spoonOf : MV yX4_spoonOf RX4 cX4_spoonOf 4 (some .int) 2 := ⟨im_X4_spoonOf, se_X4_spoonOf, in_X4, cd_X4_spoonOf, rfl, by decide, by decide, by decide +kernel⟩
theorem mf_X4_cook : MV yX4_cook RX4 cX4_cook 2 (some .int) 1 := ⟨im_X4_cook, se_X4_cook, in_X4, cd_X4_cook, rfl, by decide, by decide, by decide +kernel⟩
theorem mf_X4_isKind : MS yX4_isKind cX4_isKind 1 (some .boolean) 1 := ⟨sm_X4_isKind, in_X4, cd_X4_isKind, by decide, by decide, by decide +kernel⟩
theorem mf_X4_spotOf : MS yX4_spotOf cX4_spotOf 2 (some .int) 2 := ⟨sm_X4_spotOf, in_X4, cd_X4_spotOf, by decide, by decide, by decide +kernel⟩
theorem mf_X4_of : MV yX4_of RX4 cX4_of 3 (some .int) 2 := ⟨im_X4_of, se_X4_of, in_X4, cd_X4_of, rfl, by decide, by decide, by decide +kernel⟩
theorem mf_X4_atLeastNothing : MS yX4_atLeastNothing cX4_atLeastNothing 1 (some .int) 1 := ⟨sm_X4_atLeastNothing, in_X4, cd_X4_atLeastNothing, by decide, by decide, by decide +kernel⟩
theorem mf_X4_set : MV yX4_set RX4 cX4_set 5 (some .int) 3 := ⟨im_X4_set, se_X4_set, in_X4, cd_X4_set, rfl, by decide, by decide, by decide +kernel⟩
theorem mf_X4_turn : MV yX4_turn RX4 cX4_turn 3 (some .int) 2 := ⟨im_X4_turn, se_X4_turn, in_X4, cd_X4_turn, rfl, by decide, by decide, by decide +kernel⟩
theorem mf_X4_as : MV yX4_as RX4 cX4_as 3 (some .int) 2 := ⟨im_X4_as, se_X4_as, in_X4, cd_X4_as, rfl, by decide, by decide, by decide +kernel⟩
theorem mf_X4_isUnder : MS yX4_isUnder cX4_isUnder 2 (some .boolean) 2 := ⟨sm_X4_isUnder, in_X4, cd_X4_isUnder, by decide, by decide, by decide +kernel⟩
theorem mf_X4_swap : MV yX4_swap RX4 cX4_swap 3 (some .int) 2 := ⟨im_X4_swap, se_X4_swap, in_X4, cd_X4_swap, rfl, by decide, by decide, by decide +kernel⟩
theorem mf_X4_years : MV yX4_years RX4 cX4_years 2 (some .int) 1 := ⟨im_X4_years, se_X4_years, in_X4, cd_X4_years, rfl, by decide, by decide, by decide +kernel⟩
theorem mf_X4_now : MV yX4_now RX4 cX4_now 2 (some .int) 1 := ⟨im_X4_now, se_X4_now, in_X4, cd_X4_now, rfl, by decide, by decide, by decide +kernel⟩
theorem mf_X4_on : MV yX4_on RX4 cX4_on 4 (some .int) 3 := ⟨im_X4_on, se_X4_on, in_X4, cd_X4_on, rfl, by decide, by decide, by decide +kernel⟩
theorem mf_X4_vague : MV yX4_vague RX4 cX4_vague 1 (some .int) 0 := ⟨im_X4_vague, se_X4_vague, in_X4, cd_X4_vague, rfl, by decide, by decide, by decide +kernel⟩
theorem mf_X4_gone : MV yX4_gone RX4 cX4_gone 3 (some .int) 2 := ⟨im_X4_gone, se_X4_gone, in_X4, cd_X4_gone, rfl, by decide, by decide, by decide +kernel⟩
theorem mf_X4_strong : MV yX4_strong RX4 cX4_strong 3 (some .int) 2 := ⟨im_X4_strong, se_X4_strong, in_X4, cd_X4_strong, rfl, by decide, by decide, by decide +kernel⟩
theorem mf_X4_better : MV yX4_better RX4 cX4_better 8 (some .int) 2 := ⟨im_X4_better, se_X4_better, in_X4, cd_X4_better, rfl, by decide, by decide, by decide +kernel⟩
theorem mf_X4_isSoon : MS yX4_isSoon cX4_isSoon 1 (some .boolean) 1 := ⟨sm_X4_isSoon, in_X4, cd_X4_isSoon, by decide, by decide, by decide +kernel⟩
theorem mf_X4_weight : MV yX4_weight RX4 cX4_weight 8 (some .int) 4 := ⟨im_X4_weight, se_X4_weight, in_X4, cd_X4_weight, rfl, by decide, by decide, by decide +kernel⟩
theorem mf_X4_kind : MV yX4_kind RX4 cX4_kind 9 (some .int) 3 := ⟨im_X4_kind, se_X4_kind, in_X4, cd_X4_kind, rfl, by decide, by decide, by decide +kernel⟩
theorem mf_X4_puts : MV yX4_puts RX4 cX4_puts 8 (some .int) 2 := ⟨im_X4_puts, se_X4_puts, in_X4, cd_X4_puts, rfl, by decide, by decide, by decide +kernel⟩
theorem mf_X4_best : MV yX4_best RX4 cX4_best 4 (some .int) 1 := ⟨im_X4_best, se_X4_best, in_X4, cd_X4_best, rfl, by decide, by decide, by decide +kernel⟩
theorem mf_X4_dull : MV yX4_dull RX4 cX4_dull 5 (some .int) 1 := ⟨im_X4_dull, se_X4_dull, in_X4, cd_X4_dull, rfl, by decide, by decide, by decide +kernel⟩
theorem mf_X4_feed : MV yX4_feed RX4 cX4_feed 4 (some .int) 2 := ⟨im_X4_feed, se_X4_feed, in_X4, cd_X4_feed, rfl, by decide, by decide, by decide +kernel⟩
theorem mf_X4_wipe : MV yX4_wipe RX4 cX4_wipe 2 (some .int) 0 := ⟨im_X4_wipe, se_X4_wipe, in_X4, cd_X4_wipe, rfl, by decide, by decide, by decide +kernel⟩
theorem mf_X4_college : MV yX4_college RX4 cX4_college 2 (some .int) 0 := ⟨im_X4_college, se_X4_college, in_X4, cd_X4_college, rfl, by decide, by decide, by decide +kernel⟩
theorem mf_X4_isLetter : MS yX4_isLetter cX4_isLetter 1 (some .boolean) 1 := ⟨sm_X4_isLetter, in_X4, cd_X4_isLetter, by decide, by decide, by decide +kernel⟩
theorem mf_X4_isDigit : MS yX4_isDigit cX4_isDigit 1 (some .boolean) 1 := ⟨sm_X4_isDigit, in_X4, cd_X4_isDigit, by decide, by decide, by decide +kernel⟩
theorem mf_X4_sheet : MV yX4_sheet RX4 cX4_sheet 5 (some .int) 3 := ⟨im_X4_sheet, se_X4_sheet, in_X4, cd_X4_sheet, rfl, by decide, by decide, by decide +kernel⟩
theorem mf_X4_isOne : MS yX4_isOne cX4_isOne 1 (some .boolean) 1 := ⟨sm_X4_isOne, in_X4, cd_X4_isOne, by decide, by decide, by decide +kernel⟩
theorem mf_X4_write : MV yX4_write RX4 cX4_write 8 (some .long) 3 := ⟨im_X4_write, se_X4_write, in_X4, cd_X4_write, rfl, by decide, by decide, by decide +kernel⟩
theorem mf_X4_narrowed : MS yX4_narrowed cX4_narrowed 3 (some .long) 2 := ⟨sm_X4_narrowed, in_X4, cd_X4_narrowed, by decide, by decide, by decide +kernel⟩
theorem mf_X4_copy : MV yX4_copy RX4 cX4_copy 7 (some .int) 5 := ⟨im_X4_copy, se_X4_copy, in_X4, cd_X4_copy, rfl, by decide, by decide, by decide +kernel⟩
theorem mf_X4_lays : MV yX4_lays RX4 cX4_lays 6 (some .int) 1 := ⟨im_X4_lays, se_X4_lays, in_X4, cd_X4_lays, rfl, by decide, by decide, by decide +kernel⟩
theorem mf_X4_book : MV yX4_book RX4 cX4_book 5 (some .int) 2 := ⟨im_X4_book, se_X4_book, in_X4, cd_X4_book, rfl, by decide, by decide, by decide +kernel⟩
theorem mf_X4_read : MV yX4_read RX4 cX4_read 7 (some .int) 3 := ⟨im_X4_read, se_X4_read, in_X4, cd_X4_read, rfl, by decide, by decide, by decide +kernel⟩
theorem mf_X4_image : MV yX4_image RX4 cX4_image 2 (some .int) 0 := ⟨im_X4_image, se_X4_image, in_X4, cd_X4_image, rfl, by decide, by decide, by decide +kernel⟩
theorem mf_X4_undo : MV yX4_undo RX4 cX4_undo 2 (some .int) 0 := ⟨im_X4_undo, se_X4_undo, in_X4, cd_X4_undo, rfl, by decide, by decide, by decide +kernel⟩
theorem mf_X4_tear : MV yX4_tear RX4 cX4_tear 2 (some .int) 0 := ⟨im_X4_tear, se_X4_tear, in_X4, cd_X4_tear, rfl, by decide, by decide, by decide +kernel⟩
theorem mf_X4_count : MV yX4_count RX4 cX4_count 2 (some .int) 1 := ⟨im_X4_count, se_X4_count, in_X4, cd_X4_count, rfl, by decide, by decide, by decide +kernel⟩
theorem mf_X4_status : MV yX4_status RX4 cX4_status 4 (some .int) 1 := ⟨im_X4_status, se_X4_status, in_X4, cd_X4_status, rfl, by decide, by decide, by decide +kernel⟩
