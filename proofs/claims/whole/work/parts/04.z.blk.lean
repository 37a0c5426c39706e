/-! worlds as lists of blocks: a call changes blocks, and no cell is counted -/
def fl (bs : List va_W) : va_W := bs.flatten
theorem fl1 (b : va_W) : b = fl [b] := by simp [fl]
theorem va_P_mem {D : va_G} {cl : List vw_C} {w : va_W} {H : Heap} : va_P D cl w H ↔ ∀ q ∈ w, va_at D cl q H := by
  constructor
  · intro h q hq
    obtain ⟨k, hk⟩ := List.getElem?_of_mem hq
    exact h k q hk
  · intro h k q hk
    exact h q (List.mem_of_getElem? hk)
theorem va_D_pw {A : Nat → Prop} {w : va_W} : va_D A w ↔ (w.Pairwise (fun p q => p.1 ≠ q.1) ∧ ∀ q ∈ w, A q.1) := by
  constructor
  · intro h
    refine ⟨List.pairwise_iff_getElem.mpr (fun i j hi hj hij e => ?_), fun q hq => ?_⟩
    · have := h.1 i j w[i] w[j] (List.getElem?_eq_getElem hi) (List.getElem?_eq_getElem hj) e
      omega
    · obtain ⟨k, hk⟩ := List.getElem?_of_mem hq
      exact h.2 k q hk
  · intro h
    refine ⟨fun i j p q hp hq e => ?_, fun k q hk => h.2 q (List.mem_of_getElem? hk)⟩
    obtain ⟨hi, rfl⟩ := List.getElem?_eq_some_iff.mp hp
    obtain ⟨hj, rfl⟩ := List.getElem?_eq_some_iff.mp hq
    have hpw := List.pairwise_iff_getElem.mp h.1
    rcases Nat.lt_trichotomy i j with q | q | q
    · exact absurd e (hpw i j hi hj q)
    · exact q
    · exact absurd e.symm (hpw j i hj hi q)
/-- two blocks of a world have no cell in common -/
theorem fl_apart {A : Nat → Prop} {bs : List va_W} (h : va_D A (fl bs)) {i j : Nat} {b c : va_W} (hi : bs[i]? = some b) (hj : bs[j]? = some c) (hij : i ≠ j) : ∀ p ∈ b, ∀ q ∈ c, p.1 ≠ q.1 := by
  have hp := (List.pairwise_flatten.mp (va_D_pw.mp h).1).2
  obtain ⟨hi', rfl⟩ := List.getElem?_eq_some_iff.mp hi
  obtain ⟨hj', rfl⟩ := List.getElem?_eq_some_iff.mp hj
  have hpw := List.pairwise_iff_getElem.mp hp
  intro p hpb q hqc
  rcases Nat.lt_or_gt_of_ne hij with z | z
  · exact hpw i j hi' hj' z p hpb q hqc
  · exact (hpw j i hj' hi' z q hqc p hpb).symm
def bput : List va_W → List Nat → List va_W → List va_W
  | bs, i :: is, d :: ds => bput (bs.set i d) is ds
  | bs, _, _ => bs
theorem set_map {α β : Type} (f : α → β) {l : List α} {i : Nat} {a b : α} (h : l[i]? = some a) (e : f b = f a) : (l.set i b).map f = l.map f := by
  apply List.ext_getElem?
  intro k
  rw [List.getElem?_map, List.getElem?_map, List.getElem?_set]
  split
  · rename_i h1
    subst h1
    obtain ⟨hl, h2⟩ := List.getElem?_eq_some_iff.mp h
    rw [if_pos hl, h]
    show some (f b) = some (f a)
    rw [e]
  · rfl
theorem bput_ad : ∀ {is : List Nat} {bs cs ds : List va_W}, is.map (fun i => bs[i]?) = cs.map some → va_nd is = true → ds.map (fun b => b.map Prod.fst) = cs.map (fun b => b.map Prod.fst) → (bput bs is ds).map (fun b => b.map Prod.fst) = bs.map (fun b => b.map Prod.fst)
  | [], bs, cs, ds, _, _, _ => by cases ds <;> rfl
  | i :: is, bs, [], ds, h, _, _ => by simp at h
  | i :: is, bs, c :: cs, [], _, _, h => by simp at h
  | i :: is, bs, c :: cs, d :: ds, h, hn, hd => by
    simp only [List.map_cons, List.cons.injEq] at h hd
    simp only [va_nd, Bool.and_eq_true, decide_eq_true_eq] at hn
    show (bput (bs.set i d) is ds).map _ = _
    rw [bput_ad (cs := cs) (by
      rw [← h.2]
      apply List.map_congr_left
      intro k hk
      rw [List.getElem?_set_ne (fun e => hn.1 (by rw [e]; exact hk))]) hn.2 hd.2]
    exact set_map _ h.1 hd.1
theorem bput_mem : ∀ {is : List Nat} {bs ds : List va_W} {b : va_W}, is.length = ds.length → b ∈ bput bs is ds → b ∈ ds ∨ ∃ j, j ∉ is ∧ bs[j]? = some b
  | [], bs, ds, b, _, h => by
    have h' : b ∈ bs := by cases ds <;> exact h
    obtain ⟨j, hj⟩ := List.getElem?_of_mem h'
    exact Or.inr ⟨j, List.not_mem_nil, hj⟩
  | i :: is, bs, [], b, hl, _ => by simp at hl
  | i :: is, bs, d :: ds, b, hl, h => by
    rcases bput_mem (is := is) (bs := bs.set i d) (ds := ds) (by simpa using hl) h with h1 | ⟨j, h1, h2⟩
    · exact Or.inl (List.mem_cons_of_mem _ h1)
    · by_cases e : j = i
      · subst e
        rw [List.getElem?_set, if_pos rfl] at h2
        split at h2
        · exact Or.inl (by rw [← Option.some.inj h2]; exact List.mem_cons_self)
        · cases h2
      · refine Or.inr ⟨j, ?_, ?_⟩
        · intro z
          rcases List.mem_cons.mp z with z | z
          · exact e z
          · exact h1 z
        · rw [List.getElem?_set_ne (fun z => e z.symm)] at h2
          exact h2
theorem pick_at {is : List Nat} {bs cs : List va_W} (hC : is.map (fun i => bs[i]?) = cs.map some) {k : Nat} {c : va_W} (hk : cs[k]? = some c) : ∃ i, is[k]? = some i ∧ bs[i]? = some c := by
  have h1 : (is.map (fun i => bs[i]?))[k]? = some (some c) := by rw [hC, List.getElem?_map, hk]; rfl
  rw [List.getElem?_map] at h1
  cases hi : is[k]? with
  | none => rw [hi] at h1; cases h1
  | some i => rw [hi] at h1; exact ⟨i, rfl, Option.some.inj h1⟩
theorem fl_P {D : va_G} {cl : List vw_C} {bs : List va_W} {H : Heap} : va_P D cl (fl bs) H ↔ ∀ b ∈ bs, va_P D cl b H := by
  rw [va_P_mem]
  constructor
  · intro h b hb
    rw [va_P_mem]
    exact fun q hq => h q (List.mem_flatten.mpr ⟨b, hb, hq⟩)
  · intro h q hq
    obtain ⟨b, hb, hq⟩ := List.mem_flatten.mp hq
    exact va_P_mem.mp (h b hb) q hq
theorem fl_subP {D : va_G} {cl : List vw_C} {bs cs : List va_W} {is : List Nat} {H : Heap} (hC : is.map (fun i => bs[i]?) = cs.map some) (h : va_P D cl (fl bs) H) : va_P D cl (fl cs) H := by
  rw [fl_P] at h ⊢
  intro c hc
  obtain ⟨k, hk⟩ := List.getElem?_of_mem hc
  obtain ⟨i, -, hi⟩ := pick_at hC hk
  exact h c (List.mem_of_getElem? hi)
theorem fl_subD {A : Nat → Prop} {bs cs : List va_W} {is : List Nat} (hC : is.map (fun i => bs[i]?) = cs.map some) (hn : va_nd is = true) (h : va_D A (fl bs)) : va_D A (fl cs) := by
  have h0 := va_D_pw.mp h
  have h1 := List.pairwise_flatten.mp h0.1
  refine va_D_pw.mpr ⟨List.pairwise_flatten.mpr ⟨fun c hc => ?_, ?_⟩, fun q hq => ?_⟩
  · obtain ⟨k, hk⟩ := List.getElem?_of_mem hc
    obtain ⟨i, -, hi⟩ := pick_at hC hk
    exact h1.1 c (List.mem_of_getElem? hi)
  · refine List.pairwise_iff_getElem.mpr (fun k l hk hl hkl => ?_)
    obtain ⟨i, e1, hi⟩ := pick_at hC (List.getElem?_eq_getElem hk)
    obtain ⟨j, e2, hj⟩ := pick_at hC (List.getElem?_eq_getElem hl)
    have hij : i ≠ j := fun e => by
      subst e
      have := va_nd_inj is hn k l i e1 e2
      omega
    exact fl_apart h hi hj hij
  · obtain ⟨c, hc, hq⟩ := List.mem_flatten.mp hq
    obtain ⟨k, hk⟩ := List.getElem?_of_mem hc
    obtain ⟨i, -, hi⟩ := pick_at hC hk
    exact h0.2 q (List.mem_flatten.mpr ⟨c, List.mem_of_getElem? hi, hq⟩)
theorem fl_free {A : Nat → Prop} {w : va_W} {H0 H : Heap} {locs : List Loc} (hD : va_D A w) (hS : va_S A H0 H locs) (hA : ∀ q, H0.size ≤ q → A q) : ∀ q, va_A w H.size q → A q := by
  intro q h
  rcases h with ⟨k, e, h⟩ | h
  · exact hD.2 k (q, e) h
  · exact hA q (Nat.le_trans hS.1 h)
theorem b_frame {D : va_G} {cl : List vw_C} {A : Nat → Prop} {bs cs ds : List va_W} {is : List Nat} {H H1 : Heap} (hP : va_P D cl (fl bs) H) (hD : va_D A (fl bs)) (hC : is.map (fun i => bs[i]?) = cs.map some) (hn : va_nd is = true) (had : ds.map (fun b => b.map Prod.fst) = cs.map (fun b => b.map Prod.fst)) (hk : ∀ q : Nat, q < H.size → ¬ va_A (fl cs) H.size q → H1[q]? = H[q]?) (hP1 : va_P D cl (fl ds) H1) :
    va_P D cl (fl (bput bs is ds)) H1 ∧ va_D A (fl (bput bs is ds)) := by
  have hlen : is.length = ds.length := by
    have h1 := congrArg List.length hC
    have h2 := congrArg List.length had
    simp only [List.length_map] at h1 h2
    omega
  refine ⟨fl_P.mpr (fun b hb => ?_), hD.addr ?_⟩
  · rcases bput_mem hlen hb with h | ⟨j, hj, hb⟩
    · exact fl_P.mp hP1 b h
    · have hPb := fl_P.mp hP b (List.mem_of_getElem? hb)
      refine hPb.kept (fun k q hq => ?_)
      have hlt := (hPb k q hq).lt
      refine hk q.1 hlt (fun z => ?_)
      rcases z with ⟨k2, e, z⟩ | z
      · obtain ⟨c, hc, hqc⟩ := List.mem_flatten.mp (List.mem_of_getElem? z)
        obtain ⟨k3, hk3⟩ := List.getElem?_of_mem hc
        obtain ⟨i, e1, hi⟩ := pick_at hC hk3
        exact fl_apart hD hb hi (fun e2 => hj (by rw [e2]; exact List.mem_of_getElem? e1)) q (List.mem_of_getElem? hq) (q.1, e) hqc rfl
      · omega
  · unfold fl
    rw [List.map_flatten, bput_ad hC hn had, ← List.map_flatten]
section
variable {φ : Fx} {g : Gl} {cc : ByteArray} {nL pc : Nat} {own : String} {rm : Room} {lv : List (Nat × Value)} {st : List Value} {post : Option Value → va_W → Prop}
variable {y : MethodName} {Cn : String} {bytes : ByteArray} {maxL n ix : Nat} {ret : Option FieldType} {rmc : Room} {b : Nat} {As rest : List Value} {wc : va_W} {bs cs : List va_W}
theorem g_bafter {isC : List Nat} {st0 : List Value} {a : Array Value} {H : Heap} {locs : List Loc} {ls : Array Slot} (C : Cx φ g cc nL own rm) (hP : va_P g.1 vwCl (fl bs) H) (hD : va_D (fA φ) (fl bs)) (hS : va_S (fA φ) (fs φ).heap H locs) (hl : lv_has ls nL lv)
    (hr : va_Run φ.1.1 φ.1.2.1 φ.1.2.2.1 φ.1.2.2.2 φ.2.1.1 φ.2.1.2.1 φ.2.1.2.2.1 φ.2.1.2.2.2 φ.2.2.1.1 φ.2.2.1.2 H locs 0 0 0 0 (F0 φ.2.1.2.1 pc ls st0) rest (Qct g (va_A (fl cs) H.size) (fl cs) post a) (va_A (fl cs) H.size))
    (hC : isC.map (fun i => bs[i]?) = cs.map some) (hnC : va_nd isC = true)
    (k : ∀ (r : Option Value) (w2 : va_W), post r w2 → ∃ ds : List va_W, w2 = fl ds ∧ ds.map (fun b => b.map Prod.fst) = cs.map (fun b => b.map Prod.fst) ∧ Go φ g nL (pc + 3) lv (r.toList ++ rest) (fl (bput bs isC ds))) : Wk φ H locs pc ls st0 := by
  intro T hT X
  obtain ⟨v, st₀, t, T', L, h0, X', hL, e1, e2, ⟨⟨r, w2, hv, hp, ha, hP2⟩, hz, hk⟩, stp⟩ := hr T hT X
  cases hv
  rw [h0] at hz hk
  have hF := fl_free (fl_subD hC hnC hD) hS C.2.2.2.2.2.2.1
  rw [← e1] at hP2 hz hk
  obtain ⟨ds, rfl, had, hgo⟩ := k v w2 hp
  obtain ⟨hP3, hD3⟩ := b_frame hP hD hC hnC had hk hP2
  obtain ⟨t2, a1, b1⟩ := hgo T'.heap (locs ++ L) ls hP3 hD3 ⟨Nat.le_trans hS.1 hz, fun q h1 h2 => by rw [hk q (Nat.lt_of_lt_of_le h1 hS.1) (fun z => h2 (hF q z))]; exact hS.2.1 q h1 h2, fun q hq => by
      rcases List.mem_append.mp hq with h | h
      · exact hS.2.2 q h
      · exact hF _ (hL q h)⟩ hl T' rfl X'
  exact ⟨t2, stp t2 a1, b1⟩
theorem g_bV {ci : Nat} {fs : List Value} {cr : vw_C} (C : Cx φ g cc nL own rm) (hd : decode cc pc = .ok (.invokevirtual ix, 3)) (hml : Cond.methodLink own ix y ∈ TB) (M : MV y Cn bytes maxL ret n) (hM : Ct g y bytes maxL ret rmc (.ref b :: As) wc post) (hf : Fit rmc maxL rm) (hn : As.length = n) (hst : st = As.reverse ++ .ref b :: rest) (hcat : (rest.map fun v => v.category).sum ≤ 8)
    (hw : wc = fl cs) (q0 : Nat) (hb : wc[q0]? = some (b, .inr (ci, fs))) (hc : vwCl[ci]? = some cr) (hcn : cr.1 = Cn) (isC : List Nat) (hC : isC.map (fun i => bs[i]?) = cs.map some) (hnC : va_nd isC = true)
    (k : ∀ (r : Option Value) (w2 : va_W), post r w2 → ∃ ds : List va_W, w2 = fl ds ∧ ds.map (fun b => b.map Prod.fst) = cs.map (fun b => b.map Prod.fst) ∧ Go φ g nL (pc + 3) lv (r.toList ++ rest) (fl (bput bs isC ds))) : Go φ g nL pc lv st (fl bs) := fun H locs ls hP hD hS hl => by
  subst hw
  have hPc := fl_subP hC hP
  have hDc := fl_subD hC hnC hD
  have hF := fl_free hDc hS C.2.2.2.2.2.2.1
  have hcw : CallW φ.1.2.2.2 φ.2.1.1 φ.2.1.2.2.1 own Cn ix y bytes maxL ret (wsM y bytes maxL ret) rmc 0 0 n := cwV n C.2.2.2.2.1 (good_ws (l := [.methodLink own ix y, .instanceMethod y, .selects Cn y y, .initialized Cn]) (fun w hw => by
    simp only [List.mem_cons, List.not_mem_nil, or_false] at hw
    rcases hw with rfl | rfl | rfl | rfl
    · exact hml
    · exact M.1
    · exact M.2.1
    · exact M.2.2.1) M.2.2.2.1) rfl hf.1 hf.2.1 M.2.2.2.2 (by rw [C.2.2.2.2.2.2.2.2.2]; exact ⟨hf.2.2.1, hf.2.2.2⟩)
  have hrecv := va_recv C.2.2.2.2.2.1 hPc hc hb
  rw [hcn] at hrecv
  subst hst
  exact g_bafter C hP hD hS hl (va_runV (As := As) (rest := rest) (b := b) (C := Cn) ⟨C.1, C.2.1, C.2.2.1, C.2.2.2.1, C.2.2.2.2.1⟩ (hM _ H.size) hcw ⟨pct_blind, hrecv, fun U hU hW => ⟨rfl, by rw [hU], by rw [hU]; exact hPc, va_K.moved hW.alike C.2.2.2.2.2.1, hDc.weaken (fun _ _ _ _ => trivial), C.2.2.2.2.2.2.2.1.to hS hU hW hF⟩⟩ rfl hn hl.1 rfl (lv_room hcat) hd ⟨Nat.zero_le _, Nat.zero_le _⟩) hC hnC k
theorem g_bx {v : Option Value} {wd : va_W} {ds bs2 : List va_W} {ci : Nat} {fs : List Value} {cr : vw_C} (C : Cx φ g cc nL own rm) (hd : decode cc pc = .ok (.invokevirtual ix, 3)) (hml : Cond.methodLink own ix y ∈ TB) (M : MV y Cn bytes maxL ret n) (hM : Ct g y bytes maxL ret rmc (.ref b :: As) wc (fun r w2 => r = v ∧ w2 = wd)) (hf : Fit rmc maxL rm) (hn : As.length = n) (hst : st = As.reverse ++ .ref b :: rest) (hcat : (rest.map fun v => v.category).sum ≤ 8)
    (hw : wc = fl cs) (hwd : wd = fl ds) (q0 : Nat) (hb : wc[q0]? = some (b, .inr (ci, fs))) (hc : vwCl[ci]? = some cr) (hcn : cr.1 = Cn) (isC : List Nat) (hC : isC.map (fun i => bs[i]?) = cs.map some) (hnC : va_nd isC = true) (had : ds.map (fun b => b.map Prod.fst) = cs.map (fun b => b.map Prod.fst)) (h2 : bput bs isC ds = bs2)
    (k : Go φ g nL (pc + 3) lv (v.toList ++ rest) (fl bs2)) : Go φ g nL pc lv st (fl bs) := g_bV C hd hml M hM hf hn hst hcat hw q0 hb hc hcn isC hC hnC (fun r w2 h => by
      obtain ⟨rfl, rfl⟩ := h
      exact ⟨ds, hwd, had, by rw [h2]; exact k⟩)
theorem g_bxi {v : Int32} {wd : va_W} {ds bs2 : List va_W} {ci : Nat} {fs : List Value} {cr : vw_C} (C : Cx φ g cc nL own rm) (hd : decode cc pc = .ok (.invokevirtual ix, 3)) (hml : Cond.methodLink own ix y ∈ TB) (M : MV y Cn bytes maxL ret n) (hM : Ct g y bytes maxL ret rmc (.ref b :: As) wc (fun r w2 => r = some (.int v) ∧ w2 = wd)) (hf : Fit rmc maxL rm) (hn : As.length = n) (hst : st = As.reverse ++ .ref b :: rest) (hcat : (rest.map fun v => v.category).sum ≤ 8)
    (hw : wc = fl cs) (hwd : wd = fl ds) (q0 : Nat) (hb : wc[q0]? = some (b, .inr (ci, fs))) (hc : vwCl[ci]? = some cr) (hcn : cr.1 = Cn) (isC : List Nat) (hC : isC.map (fun i => bs[i]?) = cs.map some) (hnC : va_nd isC = true) (had : ds.map (fun b => b.map Prod.fst) = cs.map (fun b => b.map Prod.fst)) (h2 : bput bs isC ds = bs2)
    (k : Go φ g nL (pc + 3) lv (.int v :: rest) (fl bs2)) : Go φ g nL pc lv st (fl bs) := g_bx C hd hml M hM hf hn hst hcat hw hwd q0 hb hc hcn isC hC hnC had h2 k
theorem g_bxn {wd : va_W} {ds bs2 : List va_W} {ci : Nat} {fs : List Value} {cr : vw_C} (C : Cx φ g cc nL own rm) (hd : decode cc pc = .ok (.invokevirtual ix, 3)) (hml : Cond.methodLink own ix y ∈ TB) (M : MV y Cn bytes maxL ret n) (hM : Ct g y bytes maxL ret rmc (.ref b :: As) wc (fun r w2 => r = none ∧ w2 = wd)) (hf : Fit rmc maxL rm) (hn : As.length = n) (hst : st = As.reverse ++ .ref b :: rest) (hcat : (rest.map fun v => v.category).sum ≤ 8)
    (hw : wc = fl cs) (hwd : wd = fl ds) (q0 : Nat) (hb : wc[q0]? = some (b, .inr (ci, fs))) (hc : vwCl[ci]? = some cr) (hcn : cr.1 = Cn) (isC : List Nat) (hC : isC.map (fun i => bs[i]?) = cs.map some) (hnC : va_nd isC = true) (had : ds.map (fun b => b.map Prod.fst) = cs.map (fun b => b.map Prod.fst)) (h2 : bput bs isC ds = bs2)
    (k : Go φ g nL (pc + 3) lv rest (fl bs2)) : Go φ g nL pc lv st (fl bs) := g_bx C hd hml M hM hf hn hst hcat hw hwd q0 hb hc hcn isC hC hnC had h2 k
end
