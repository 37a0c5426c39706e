/-! contracts over Go -/
def Qct (g : Gl) (A : Nat → Prop) (w : va_W) (post : Option Value → va_W → Prop) : Array Value → State → Outcome → State → Prop := fun _ st o t =>
  (∃ (r : Option Value) (w2 : va_W), o = .returned r ∧ post r w2 ∧ w2.map Prod.fst = w.map Prod.fst ∧ va_P g.1 vwCl w2 t.heap) ∧ va_F A st t
def Pct (g : Gl) (av : List Value) (w : va_W) (sz : Nat) : Array Value → State → Prop := va_Pc av (fun U => U.heap.size = sz ∧ va_P g.1 vwCl w U.heap ∧ va_K g.1 vwCl (tysG g) U ∧ va_D (fun _ => True) w ∧ En g (va_A w sz) U)
def wsM (y : MethodName) (cc : ByteArray) (maxL : Nat) (ret : Option FieldType) : List Cond := .code y cc maxL ret :: TB
/-- method y, called with av over the cells w, returns, with 'post answer cells' -/
def Ct (g : Gl) (y : MethodName) (cc : ByteArray) (maxL : Nat) (ret : Option FieldType) (rm : Room) (av : List Value) (w : va_W) (post : Option Value → va_W → Prop) : Prop :=
  ∀ (l : Launch) (sz : Nat), Met l y (wsM y cc maxL ret) rm (Pct g av w sz) (Qct g (va_A w sz) w post) 0 0 (va_A w sz)
def Rt (φ : Fx) (g : Gl) (ret : Option FieldType) (w : va_W) (post : Option Value → va_W → Prop) : Prop :=
  φ.2.2.1.1.sig.returnType = ret ∧ φ.2.2.2.2 = MQ φ.2.1.2.2.2 (Qct g (fA φ) w post) φ.2.1.2.2.1 φ.2.1.1 0 0 (fA φ)
theorem ct_of {g : Gl} {y : MethodName} {cc : ByteArray} {maxL : Nat} {ret : Option FieldType} {rm : Room} {av : List Value} {w : va_W} {post : Option Value → va_W → Prop} (hy : plainName y.cls = true) (hlen : (lg_sl av).length ≤ maxL)
    (body : ∀ φ : Fx, Cx φ g cc maxL y.cls rm → Rt φ g ret w post → Go φ g maxL 0 (lv_args 0 av) [] w) : Ct g y cc maxL ret rm av w post := by
  intro l sz
  refine Met.ofW (cc := cc) (maxL := maxL) (ret := ret) hy rfl ?_
  intro p e s m args below meth c s₁ B hml hv
  obtain ⟨rfl, hsz, hP, hK, hD0, hE⟩ := hv
  subst hsz
  have hts := atoms_spec (ws := wsM y cc maxL ret) B.pre
  have h := body ((p, l, e, rm), (s, m, av.toArray, below), (meth, c), (va_A w s.heap.size, MQ below (Qct g (va_A w s.heap.size) w post) av.toArray s 0 0 (va_A w s.heap.size)))
    ⟨B.exec, B.bytes, hml, findClass_of_methodNamed B.named, fun w hw => hts w (List.mem_cons_of_mem _ hw), hK, fun q h => Or.inr h, hE, B.notSynchronized, rfl⟩ ⟨B.returns, rfl⟩
  rw [lg_entry_eq]
  exact h s.heap [] _ hP (hD0.self) va_S.rf (lv_entry av hlen)
theorem pct_blind {g : Gl} {av : List Value} {w : va_W} {sz : Nat} : FrameBlind (Pct g av w sz) := fun a U gf mk q => by
  obtain ⟨q0, q1, qP, qK, qD, qE⟩ := q
  exact ⟨q0, q1, qP, va_K.moved (u := U) (U := U.calling gf mk a) (Vm.Alike.refl U.vm) qK, qD, qE.calling gf mk a⟩
theorem va_D.addr {A : Nat → Prop} {w w2 : va_W} (h : va_D A w) (ha : w2.map Prod.fst = w.map Prod.fst) : va_D A w2 := by
  have key : ∀ (k : Nat) (q : Nat × va_E), w2[k]? = some q → ∃ q1, w[k]? = some q1 ∧ q1.1 = q.1 := by
    intro k q hk
    have h1 : (w2.map Prod.fst)[k]? = some q.1 := by rw [List.getElem?_map, hk]; rfl
    rw [ha, List.getElem?_map] at h1
    cases hw : w[k]? with
    | none => rw [hw] at h1; cases h1
    | some q1 => rw [hw] at h1; exact ⟨q1, rfl, Option.some.inj h1⟩
  refine ⟨fun i j p q hi hj hpq => ?_, fun k q hk => ?_⟩
  · obtain ⟨p1, g1, e1⟩ := key i p hi
    obtain ⟨q1, g2, e2⟩ := key j q hj
    exact h.1 i j p1 q1 g1 g2 (e1.trans (hpq.trans e2.symm))
  · obtain ⟨q1, g1, e1⟩ := key k q hk
    rw [← e1]
    exact h.2 k q1 g1
section
variable {φ : Fx} {g : Gl} {cc : ByteArray} {nL pc : Nat} {own : String} {rm : Room} {lv : List (Nat × Value)} {st : List Value} {ws : va_W} {w : va_W} {post : Option Value → va_W → Prop}
theorem g_iret {v : Int32} (C : Cx φ g cc nL own rm) (R : Rt φ g (some .int) w post) (hd : decode cc pc = .ok (.ireturn, 1)) (hp : post (some (.int v)) ws) (ha : ws.map Prod.fst = w.map Prod.fst) : Go φ g nL pc lv [.int v] ws := fun H locs ls hP hD hS hl => by
  unfold Wk
  rw [R.2]
  exact W.iret C.1 C.2.1 R.1 (fun t ht hW => ⟨⟨_, _, rfl, hp, ha, by rw [ht]; exact hP⟩, hS.F ht⟩) hS.2.2 hd (hlocks := C.2.2.2.2.2.2.2.2.1)
theorem g_zret {v : Int32} {ty : FieldType} (C : Cx φ g cc nL own rm) (R : Rt φ g (some ty) w post) (hd : decode cc pc = .ok (.ireturn, 1)) (hn : narrow ty (.int v) = .int v) (hp : post (some (.int v)) ws) (ha : ws.map Prod.fst = w.map Prod.fst) : Go φ g nL pc lv [.int v] ws := fun H locs ls hP hD hS hl => by
  unfold Wk
  rw [R.2]
  exact W.zret C.1 C.2.1 R.1 hn (fun t ht hW => ⟨⟨_, _, rfl, hp, ha, by rw [ht]; exact hP⟩, hS.F ht⟩) hS.2.2 hd (hlocks := C.2.2.2.2.2.2.2.2.1)
theorem g_lret {v : Int64} (C : Cx φ g cc nL own rm) (R : Rt φ g (some .long) w post) (hd : decode cc pc = .ok (.lreturn, 1)) (hp : post (some (.long v)) ws) (ha : ws.map Prod.fst = w.map Prod.fst) : Go φ g nL pc lv [.long v] ws := fun H locs ls hP hD hS hl => by
  unfold Wk
  rw [R.2]
  exact W.lret C.1 C.2.1 R.1 (fun t ht hW => ⟨⟨_, _, rfl, hp, ha, by rw [ht]; exact hP⟩, hS.F ht⟩) hS.2.2 hd (hlocks := C.2.2.2.2.2.2.2.2.1)
theorem g_vret (C : Cx φ g cc nL own rm) (R : Rt φ g none w post) (hd : decode cc pc = .ok (.return_, 1)) (hp : post none ws) (ha : ws.map Prod.fst = w.map Prod.fst) : Go φ g nL pc lv [] ws := fun H locs ls hP hD hS hl => by
  unfold Wk
  rw [R.2]
  exact W.vret C.1 C.2.1 R.1 (fun t ht hW => ⟨⟨_, _, rfl, hp, ha, by rw [ht]; exact hP⟩, hS.F ht⟩) hS.2.2 hd (hlocks := C.2.2.2.2.2.2.2.2.1)
/-- behind a call -/
theorem g_after {wc wr : va_W} {isC isR : List Nat} {rest st0 : List Value} {a : Array Value} {H : Heap} {locs : List Loc} {ls : Array Slot} (C : Cx φ g cc nL own rm) (hP : va_P g.1 vwCl ws H) (hD : va_D (fA φ) ws) (hS : va_S (fA φ) (fs φ).heap H locs) (hl : lv_has ls nL lv)
    (hr : va_Run φ.1.1 φ.1.2.1 φ.1.2.2.1 φ.1.2.2.2 φ.2.1.1 φ.2.1.2.1 φ.2.1.2.2.1 φ.2.1.2.2.2 φ.2.2.1.1 φ.2.2.1.2 H locs 0 0 0 0 (F0 φ.2.1.2.1 pc ls st0) rest (Qct g (va_A wc H.size) wc post a) (va_A wc H.size))
    (hC : isC.map (fun i => ws[i]?) = wc.map some) (hR : isR.map (fun i => ws[i]?) = wr.map some) (hnC : va_nd isC = true) (hnR : va_nd isR = true) (hdis : ∀ i ∈ isR, i ∉ isC)
    (k : ∀ (r : Option Value) (w2 : va_W), post r w2 → w2.map Prod.fst = wc.map Prod.fst → Go φ g nL (pc + 3) lv (r.toList ++ rest) (wr ++ w2)) : Wk φ H locs pc ls st0 := by
  intro T hT X
  obtain ⟨v, st₀, t, T', L, h0, X', hL, e1, e2, ⟨⟨r, w2, hv, hp, ha, hP2⟩, hz, hk⟩, stp⟩ := hr T hT X
  cases hv
  rw [h0] at hz hk
  have hF := va_free hD hS C.2.2.2.2.2.2.1 isC hC
  have hD1 : va_D (va_A wc H.size) w2 := ((hD.sub isC hnC hC).self (sz := H.size)).addr ha
  rw [← e1] at hP2 hz hk
  obtain ⟨hP3, hD3⟩ := va_join (wr := wr) (w1 := w2) hP hD isC isR hC hR hnR hdis hk hF hP2 hD1
  obtain ⟨t2, a1, b1⟩ := k v w2 hp ha T'.heap (locs ++ L) ls hP3 hD3 ⟨Nat.le_trans hS.1 hz, fun q h1 h2 => by rw [hk q (Nat.lt_of_lt_of_le h1 hS.1) (fun z => h2 (hF q z))]; exact hS.2.1 q h1 h2, fun q hq => by
      rcases List.mem_append.mp hq with h | h
      · exact hS.2.2 q h
      · exact hF _ (hL q h)⟩ hl T' rfl X'
  exact ⟨t2, stp t2 a1, b1⟩
/-- behind a call that has no world -/
theorem g_after0 {rest st0 : List Value} {a : Array Value} {H : Heap} {locs : List Loc} {ls : Array Slot} (C : Cx φ g cc nL own rm) (hP : va_P g.1 vwCl ws H) (hD : va_D (fA φ) ws) (hS : va_S (fA φ) (fs φ).heap H locs) (hl : lv_has ls nL lv)
    (hr : va_Run φ.1.1 φ.1.2.1 φ.1.2.2.1 φ.1.2.2.2 φ.2.1.1 φ.2.1.2.1 φ.2.1.2.2.1 φ.2.1.2.2.2 φ.2.2.1.1 φ.2.2.1.2 H locs 0 0 0 0 (F0 φ.2.1.2.1 pc ls st0) rest (Qct g (va_A [] H.size) [] post a) (va_A [] H.size))
    (k : ∀ (r : Option Value) (w2 : va_W), post r w2 → Go φ g nL (pc + 3) lv (r.toList ++ rest) ws) : Wk φ H locs pc ls st0 := by
  intro T hT X
  obtain ⟨v, st₀, t, T', L, h0, X', hL, e1, e2, ⟨⟨r, w2, hv, hp, ha, hP2⟩, hz, hk⟩, stp⟩ := hr T hT X
  cases hv
  rw [h0] at hz hk
  rw [← e1] at hz hk
  have hF : ∀ q, va_A [] H.size q → fA φ q := fun q h => by
    rcases h with ⟨k, e, h⟩ | h
    · cases h
    · exact C.2.2.2.2.2.2.1 q (Nat.le_trans hS.1 h)
  have hno : ∀ q, q < H.size → ¬ va_A [] H.size q := fun q h z => by
    rcases z with ⟨k, e, z⟩ | z
    · cases z
    · omega
  obtain ⟨t2, a1, b1⟩ := k v w2 hp T'.heap (locs ++ L) ls (hP.kept (fun k q hq => hk q.1 (hP k q hq).lt (hno _ (hP k q hq).lt))) hD ⟨Nat.le_trans hS.1 hz, fun q h1 h2 => by rw [hk q (Nat.lt_of_lt_of_le h1 hS.1) (fun z => h2 (hF q z))]; exact hS.2.1 q h1 h2, fun q hq => by
      rcases List.mem_append.mp hq with h | h
      · exact hS.2.2 q h
      · exact hF _ (hL q h)⟩ hl T' rfl X'
  exact ⟨t2, stp t2 a1, b1⟩
end
/-- what the tables say of an instance method, and of a static one -/
def MV (y : MethodName) (Cn : String) (bytes : ByteArray) (maxL : Nat) (ret : Option FieldType) (n : Nat) : Prop :=
  Cond.instanceMethod y ∈ TB ∧ Cond.selects Cn y y ∈ TB ∧ Cond.initialized Cn ∈ TB ∧ Cond.code y bytes maxL ret ∈ TB ∧ (y.cls = Cn ∧ y.cls ≠ "java/lang/invoke/MethodHandle" ∧ y.cls ≠ "java/lang/invoke/VarHandle" ∧ (parseMethodDescriptor y.desc).map (fun d => d.parameters.length) = some n)
def MS (y : MethodName) (bytes : ByteArray) (maxL : Nat) (ret : Option FieldType) (n : Nat) : Prop :=
  Cond.static y ∈ TB ∧ Cond.initialized y.cls ∈ TB ∧ Cond.code y bytes maxL ret ∈ TB ∧ (y.cls ≠ "java/lang/invoke/MethodHandle" ∧ y.cls ≠ "java/lang/invoke/VarHandle" ∧ (parseMethodDescriptor y.desc).map (fun d => d.parameters.length) = some n)
/-- room for a callee -/
def Fit (rmc : Room) (maxL : Nat) (rm : Room) : Prop := rmc.cells = 0 ∧ rmc.slots = 0 ∧ rmc.frames + 1 ≤ rm.frames ∧ 8 + (maxL + 11) + rmc.locals ≤ rm.locals
theorem good_ws {y : MethodName} {bytes : ByteArray} {maxL : Nat} {ret : Option FieldType} {l : List Cond} (hl : ∀ w ∈ l, w ∈ TB) (hc : Cond.code y bytes maxL ret ∈ TB) : GoodIn TB (l ++ wsM y bytes maxL ret) := fun w hw => by
  have h : w ∈ TB := by
    rcases List.mem_append.mp hw with h | h
    · exact hl w h
    · rcases List.mem_cons.mp h with h | h
      · rw [h]; exact hc
      · exact h
  exact ⟨h, tb_good h⟩
abbrev rk (f lo : Nat) : Room := { frames := f, cells := 0, slots := 0, locals := lo }
section
variable {φ : Fx} {g : Gl} {cc : ByteArray} {nL pc : Nat} {own : String} {rm : Room} {lv : List (Nat × Value)} {st : List Value} {ws : va_W} {post : Option Value → va_W → Prop}
variable {y : MethodName} {Cn : String} {bytes : ByteArray} {maxL n ix : Nat} {ret : Option FieldType} {rmc : Room} {b : Nat} {As rest : List Value} {wc wr : va_W}
theorem g_callV {ci : Nat} {fs : List Value} {cr : vw_C} (C : Cx φ g cc nL own rm) (hd : decode cc pc = .ok (.invokevirtual ix, 3)) (hml : Cond.methodLink own ix y ∈ TB) (M : MV y Cn bytes maxL ret n) (hM : Ct g y bytes maxL ret rmc (.ref b :: As) wc post) (hf : Fit rmc maxL rm) (hn : As.length = n) (hst : st = As.reverse ++ .ref b :: rest) (hcat : (rest.map fun v => v.category).sum ≤ 8)
    (q0 : Nat) (hb : wc[q0]? = some (b, .inr (ci, fs))) (hc : vwCl[ci]? = some cr) (hcn : cr.1 = Cn) (isC isR : List Nat) (hC : isC.map (fun i => ws[i]?) = wc.map some) (hR : isR.map (fun i => ws[i]?) = wr.map some) (hnC : va_nd isC = true) (hnR : va_nd isR = true) (hdis : ∀ i ∈ isR, i ∉ isC)
    (k : ∀ (r : Option Value) (w2 : va_W), post r w2 → w2.map Prod.fst = wc.map Prod.fst → Go φ g nL (pc + 3) lv (r.toList ++ rest) (wr ++ w2)) : Go φ g nL pc lv st ws := fun H locs ls hP hD hS hl => by
  have hPc := hP.sub isC (fm_map hC)
  have hDc := hD.sub isC hnC hC
  have hF := va_free hD hS C.2.2.2.2.2.2.1 isC hC
  have hcw : CallW φ.1.2.2.2 φ.2.1.1 φ.2.1.2.2.1 own Cn ix y bytes maxL ret (wsM y bytes maxL ret) rmc 0 0 n := cwV n C.2.2.2.2.1 (good_ws (l := [.methodLink own ix y, .instanceMethod y, .selects Cn y y, .initialized Cn]) (fun w hw => by
    simp only [List.mem_cons, List.not_mem_nil, or_false] at hw
    rcases hw with rfl | rfl | rfl | rfl
    · exact hml
    · exact M.1
    · exact M.2.1
    · exact M.2.2.1) M.2.2.2.1) rfl hf.1 hf.2.1 M.2.2.2.2 (by rw [C.2.2.2.2.2.2.2.2.2]; exact ⟨hf.2.2.1, hf.2.2.2⟩)
  have hrecv := va_recv C.2.2.2.2.2.1 hPc hc hb
  rw [hcn] at hrecv
  subst hst
  exact g_after C hP hD hS hl (va_runV (As := As) (rest := rest) (b := b) (C := Cn) ⟨C.1, C.2.1, C.2.2.1, C.2.2.2.1, C.2.2.2.2.1⟩ (hM _ H.size) hcw ⟨pct_blind, hrecv, fun U hU hW => ⟨rfl, by rw [hU], by rw [hU]; exact hPc, va_K.moved hW.alike C.2.2.2.2.2.1, hDc.weaken (fun _ _ _ _ => trivial), C.2.2.2.2.2.2.2.1.to hS hU hW hF⟩⟩ rfl hn hl.1 rfl (lv_room hcat) hd ⟨Nat.zero_le _, Nat.zero_le _⟩) hC hR hnC hnR hdis k
theorem g_callS (C : Cx φ g cc nL own rm) (hd : decode cc pc = .ok (.invokestatic ix, 3)) (hml : Cond.methodLink own ix y ∈ TB) (M : MS y bytes maxL ret n) (hM : Ct g y bytes maxL ret rmc As wc post) (hf : Fit rmc maxL rm) (hn : As.length = n) (hst : st = As.reverse ++ rest) (hcat : (rest.map fun v => v.category).sum ≤ 8)
    (isC isR : List Nat) (hC : isC.map (fun i => ws[i]?) = wc.map some) (hR : isR.map (fun i => ws[i]?) = wr.map some) (hnC : va_nd isC = true) (hnR : va_nd isR = true) (hdis : ∀ i ∈ isR, i ∉ isC)
    (k : ∀ (r : Option Value) (w2 : va_W), post r w2 → w2.map Prod.fst = wc.map Prod.fst → Go φ g nL (pc + 3) lv (r.toList ++ rest) (wr ++ w2)) : Go φ g nL pc lv st ws := fun H locs ls hP hD hS hl => by
  have hPc := hP.sub isC (fm_map hC)
  have hDc := hD.sub isC hnC hC
  have hF := va_free hD hS C.2.2.2.2.2.2.1 isC hC
  have hcw : CallB φ.1.2.2.2 φ.2.1.1 φ.2.1.2.2.1 own ix y bytes maxL ret (wsM y bytes maxL ret) rmc 0 0 n ∧ (Cond.static y).before φ.2.1.2.2.1 φ.2.1.1 = true := va_cwS n C.2.2.2.2.1 (good_ws (l := [.methodLink own ix y, .static y, .initialized y.cls]) (fun w hw => by
    simp only [List.mem_cons, List.not_mem_nil, or_false] at hw
    rcases hw with rfl | rfl | rfl
    · exact hml
    · exact M.1
    · exact M.2.1) M.2.2.1) rfl hf.1 hf.2.1 M.2.2.2 (by rw [C.2.2.2.2.2.2.2.2.2]; exact ⟨hf.2.2.1, hf.2.2.2⟩)
  subst hst
  exact g_after C hP hD hS hl (va_runS (As := As) (rest := rest) ⟨C.1, C.2.1, C.2.2.1, C.2.2.2.1, C.2.2.2.2.1⟩ (hM _ H.size) hcw ⟨pct_blind, fun U hU hW => ⟨rfl, by rw [hU], by rw [hU]; exact hPc, va_K.moved hW.alike C.2.2.2.2.2.1, hDc.weaken (fun _ _ _ _ => trivial), C.2.2.2.2.2.2.2.1.to hS hU hW hF⟩⟩ rfl hn hl.1 rfl (lv_room hcat) hd ⟨Nat.zero_le _, Nat.zero_le _⟩) hC hR hnC hnR hdis k
theorem g_callS0 (C : Cx φ g cc nL own rm) (hd : decode cc pc = .ok (.invokestatic ix, 3)) (hml : Cond.methodLink own ix y ∈ TB) (M : MS y bytes maxL ret n) (hM : Ct g y bytes maxL ret rmc As [] post) (hf : Fit rmc maxL rm) (hn : As.length = n) (hst : st = As.reverse ++ rest) (hcat : (rest.map fun v => v.category).sum ≤ 8)
    (k : ∀ (r : Option Value) (w2 : va_W), post r w2 → Go φ g nL (pc + 3) lv (r.toList ++ rest) ws) : Go φ g nL pc lv st ws := fun H locs ls hP hD hS hl => by
  have hF := va_free (wc := []) hD hS C.2.2.2.2.2.2.1 [] rfl
  have hcw : CallB φ.1.2.2.2 φ.2.1.1 φ.2.1.2.2.1 own ix y bytes maxL ret (wsM y bytes maxL ret) rmc 0 0 n ∧ (Cond.static y).before φ.2.1.2.2.1 φ.2.1.1 = true := va_cwS n C.2.2.2.2.1 (good_ws (l := [.methodLink own ix y, .static y, .initialized y.cls]) (fun w hw => by
    simp only [List.mem_cons, List.not_mem_nil, or_false] at hw
    rcases hw with rfl | rfl | rfl
    · exact hml
    · exact M.1
    · exact M.2.1) M.2.2.1) rfl hf.1 hf.2.1 M.2.2.2 (by rw [C.2.2.2.2.2.2.2.2.2]; exact ⟨hf.2.2.1, hf.2.2.2⟩)
  subst hst
  exact g_after0 C hP hD hS hl (va_runS (As := As) (rest := rest) ⟨C.1, C.2.1, C.2.2.1, C.2.2.2.1, C.2.2.2.2.1⟩ (hM _ H.size) hcw ⟨pct_blind, fun U hU hW => ⟨rfl, by rw [hU], fun k q h => by simp at h, va_K.moved hW.alike C.2.2.2.2.2.1, ⟨fun i j p q h => by simp at h, fun k q h => by simp at h⟩, C.2.2.2.2.2.2.2.1.to hS hU hW hF⟩⟩ rfl hn hl.1 rfl (lv_room hcat) hd ⟨Nat.zero_le _, Nat.zero_le _⟩) k
/-! exact contracts -/
/-- static, without a world, an int -/
theorem g_s0i {v : Int32} (C : Cx φ g cc nL own rm) (hd : decode cc pc = .ok (.invokestatic ix, 3)) (hml : Cond.methodLink own ix y ∈ TB) (M : MS y bytes maxL ret n) (hM : Ct g y bytes maxL ret rmc As [] (fun r w2 => r = some (.int v) ∧ w2 = [])) (hf : Fit rmc maxL rm) (hn : As.length = n) (hst : st = As.reverse ++ rest) (hcat : (rest.map fun v => v.category).sum ≤ 8)
    (k : Go φ g nL (pc + 3) lv (.int v :: rest) ws) : Go φ g nL pc lv st ws := g_callS0 C hd hml M hM hf hn hst hcat (fun r w2 h => by obtain ⟨rfl, rfl⟩ := h; exact k)
theorem g_s0l {v : Int64} (C : Cx φ g cc nL own rm) (hd : decode cc pc = .ok (.invokestatic ix, 3)) (hml : Cond.methodLink own ix y ∈ TB) (M : MS y bytes maxL ret n) (hM : Ct g y bytes maxL ret rmc As [] (fun r w2 => r = some (.long v) ∧ w2 = [])) (hf : Fit rmc maxL rm) (hn : As.length = n) (hst : st = As.reverse ++ rest) (hcat : (rest.map fun v => v.category).sum ≤ 8)
    (k : Go φ g nL (pc + 3) lv (.long v :: rest) ws) : Go φ g nL pc lv st ws := g_callS0 C hd hml M hM hf hn hst hcat (fun r w2 h => by obtain ⟨rfl, rfl⟩ := h; exact k)
/-- an instance method, exact: an answer v, the cells wc become wd, the world ws2 -/
theorem g_vx {v : Option Value} {wd ws2 : va_W} {ci : Nat} {fs : List Value} {cr : vw_C} (C : Cx φ g cc nL own rm) (hd : decode cc pc = .ok (.invokevirtual ix, 3)) (hml : Cond.methodLink own ix y ∈ TB) (M : MV y Cn bytes maxL ret n) (hM : Ct g y bytes maxL ret rmc (.ref b :: As) wc (fun r w2 => r = v ∧ w2 = wd)) (hf : Fit rmc maxL rm) (hn : As.length = n) (hst : st = As.reverse ++ .ref b :: rest) (hcat : (rest.map fun v => v.category).sum ≤ 8)
    (q0 : Nat) (hb : wc[q0]? = some (b, .inr (ci, fs))) (hc : vwCl[ci]? = some cr) (hcn : cr.1 = Cn) (isC isR is2 : List Nat) (hC : isC.map (fun i => ws[i]?) = wc.map some) (hR : isR.map (fun i => ws[i]?) = wr.map some) (hnC : va_nd isC = true) (hnR : va_nd isR = true) (hdis : ∀ i ∈ isR, i ∉ isC) (h2 : is2.map (fun i => (wr ++ wd)[i]?) = ws2.map some) (hn2 : va_nd is2 = true)
    (k : Go φ g nL (pc + 3) lv (v.toList ++ rest) ws2) : Go φ g nL pc lv st ws := g_callV C hd hml M hM hf hn hst hcat q0 hb hc hcn isC isR hC hR hnC hnR hdis (fun r w2 h _ => by obtain ⟨rfl, rfl⟩ := h; exact g_sub is2 hn2 h2 k)
end
/-! loops -/
theorem g_loop {φ : Fx} {g : Gl} {nL pc : Nat} {σ : Type} (n : Nat) (inv : Nat → σ → Prop) (lv : Nat → σ → List (Nat × Value)) (ws : Nat → σ → va_W) (step : ∀ (i : Nat) (x : σ), i ≤ n → inv i x → (∀ z : σ, i < n → inv (i + 1) z → Go φ g nL pc (lv (i + 1) z) [] (ws (i + 1) z)) → Go φ g nL pc (lv i x) [] (ws i x)) : ∀ (i : Nat) (x : σ), i ≤ n → inv i x → Go φ g nL pc (lv i x) [] (ws i x) := by
  have key : ∀ (d i : Nat) (x : σ), i ≤ n → n - i ≤ d → inv i x → Go φ g nL pc (lv i x) [] (ws i x) := by
    intro d
    induction d with
    | zero => exact fun i x hi hd hx => step i x hi hx (fun z hlt _ => absurd hlt (by omega))
    | succ d ih => exact fun i x hi hd hx => step i x hi hx (fun z hlt hz => ih (i + 1) z (by omega) (by omega) hz)
  exact fun i x hi hx => key (n - i) i x hi (Nat.le_refl _) hx
