/-! frames that make cells: Go, with what has been made so far; what stands here of the single instructions is as in part 02 -/
def Wk2 (φ : Fx) (k9 n9 : Nat) (H : Heap) (locs : List Loc) (pc : Nat) (ls : Array Slot) (st : List Value) : Prop :=
  W φ.1.1 φ.1.2.1 φ.1.2.2.1 φ.1.2.2.2 φ.2.1.1 φ.2.1.2.1 φ.2.1.2.2.1 φ.2.1.2.2.2 φ.2.2.1.1 φ.2.2.1.2 H locs k9 n9 φ.2.2.2.2 (F0 φ.2.1.2.1 pc ls st)
def Ga (φ : Fx) (g : Gl) (k9 n9 nL pc : Nat) (lv : List (Nat × Value)) (st : List Value) (ws : va_W) : Prop :=
  ∀ (H : Heap) (locs : List Loc) (ls : Array Slot), va_P g.1 vwCl ws H → va_D (fA φ) ws → va_S (fA φ) (fs φ).heap H locs → lv_has ls nL lv → Wk2 φ k9 n9 H locs pc ls st
section
variable {φ : Fx} {g : Gl} {cc : ByteArray} {k9 n9 nL pc : Nat} {own : String} {rm : Room} {lv : List (Nat × Value)} {st : List Value} {ws : va_W}
theorem a_iconst {n : Int} {v : Int32} (C : Cx φ g cc nL own rm) (hd : decode cc pc = .ok (.iconst n, 1)) (hv : Int32.ofInt n = v)  (k : Ga φ g k9 n9 nL (pc + 1) lv (.int v :: st) ws) : Ga φ g k9 n9 nL pc lv (st) ws := fun H locs ls hP hD hS hl => lv_iconst C.1 C.2.1 hd hv (k H locs ls hP hD hS hl)
theorem a_bipush {n : Int} {v : Int32} (C : Cx φ g cc nL own rm) (hd : decode cc pc = .ok (.bipush n, 2)) (hv : (Int8.ofInt n).toInt32 = v)  (k : Ga φ g k9 n9 nL (pc + 2) lv (.int v :: st) ws) : Ga φ g k9 n9 nL pc lv (st) ws := fun H locs ls hP hD hS hl => lv_bipush C.1 C.2.1 hd hv (k H locs ls hP hD hS hl)
theorem a_sipush {n : Int} {v : Int32} (C : Cx φ g cc nL own rm) (hd : decode cc pc = .ok (.sipush n, 3)) (hv : (Int16.ofInt n).toInt32 = v)  (k : Ga φ g k9 n9 nL (pc + 3) lv (.int v :: st) ws) : Ga φ g k9 n9 nL pc lv (st) ws := fun H locs ls hP hD hS hl => lv_sipush C.1 C.2.1 hd hv (k H locs ls hP hD hS hl)
theorem a_iload_n {k0 : Fin 4} {x : Int32} (C : Cx φ g cc nL own rm) (hd : decode cc pc = .ok (.iload_n k0, 1)) (hx : lv.lookup (k0 : Nat) = some (.int x))  (k : Ga φ g k9 n9 nL (pc + 1) lv (.int x :: st) ws) : Ga φ g k9 n9 nL pc lv (st) ws := fun H locs ls hP hD hS hl => lv_iload_n C.1 C.2.1 hd rfl (lv_lk hl hx) (k H locs ls hP hD hS hl)
theorem a_istore_n {k0 : Fin 4} {i : Nat} {x : Int32} {lv2 : List (Nat × Value)} (C : Cx φ g cc nL own rm) (hd : decode cc pc = .ok (.istore_n k0, 1)) (hi : (k0 : Nat) = i) (hn : i < nL) (hlv : lput1 lv i (.int x) = lv2)  (k : Ga φ g k9 n9 nL (pc + 1) lv2 (st) ws) : Ga φ g k9 n9 nL pc lv (.int x :: st) ws := fun H locs ls hP hD hS hl => lv_istore_n C.1 C.2.1 hd hi hl hn rfl (fun ls2 h2 => k H locs ls2 hP hD hS (hlv ▸ lv_lins h2))
theorem a_aload_n {k0 : Fin 4} {x : Nat} (C : Cx φ g cc nL own rm) (hd : decode cc pc = .ok (.aload_n k0, 1)) (hx : lv.lookup (k0 : Nat) = some (.ref x))  (k : Ga φ g k9 n9 nL (pc + 1) lv (.ref x :: st) ws) : Ga φ g k9 n9 nL pc lv (st) ws := fun H locs ls hP hD hS hl => lv_aload_n C.1 C.2.1 hd rfl (lv_lk hl hx) (k H locs ls hP hD hS hl)
theorem a_astore_n {k0 : Fin 4} {i : Nat} {x : Nat} {lv2 : List (Nat × Value)} (C : Cx φ g cc nL own rm) (hd : decode cc pc = .ok (.astore_n k0, 1)) (hi : (k0 : Nat) = i) (hn : i < nL) (hlv : lput1 lv i (.ref x) = lv2)  (k : Ga φ g k9 n9 nL (pc + 1) lv2 (st) ws) : Ga φ g k9 n9 nL pc lv (.ref x :: st) ws := fun H locs ls hP hD hS hl => lv_astore_n C.1 C.2.1 hd hi hl hn rfl (fun ls2 h2 => k H locs ls2 hP hD hS (hlv ▸ lv_lins h2))
theorem a_iinc {i : Nat} {n : Int} {x v : Int32} {lv2 : List (Nat × Value)} (C : Cx φ g cc nL own rm) (hd : decode cc pc = .ok (.iinc i n, 3)) (hx : lv.lookup i = some (.int x)) (hv : x + Int32.ofInt n = v) (hn : i < nL) (hlv : lput1 lv i (.int v) = lv2)  (k : Ga φ g k9 n9 nL (pc + 3) lv2 (st) ws) : Ga φ g k9 n9 nL pc lv (st) ws := fun H locs ls hP hD hS hl => by obtain ⟨k1, hk1⟩ := lk_mem hx; exact lv_iinc C.1 C.2.1 hd hl hk1 hv hn rfl (fun ls2 h2 => k H locs ls2 hP hD hS (hlv ▸ lv_lins h2))
theorem a_iadd {x y : Int32} (C : Cx φ g cc nL own rm) (hd : decode cc pc = .ok (.iadd, 1))  (k : Ga φ g k9 n9 nL (pc + 1) lv (.int (x + y) :: st) ws) : Ga φ g k9 n9 nL pc lv (.int y :: .int x :: st) ws := fun H locs ls hP hD hS hl => lv_iadd C.1 C.2.1 hd (k H locs ls hP hD hS hl)
theorem a_isub {x y : Int32} (C : Cx φ g cc nL own rm) (hd : decode cc pc = .ok (.isub, 1))  (k : Ga φ g k9 n9 nL (pc + 1) lv (.int (x - y) :: st) ws) : Ga φ g k9 n9 nL pc lv (.int y :: .int x :: st) ws := fun H locs ls hP hD hS hl => lv_isub C.1 C.2.1 hd (k H locs ls hP hD hS hl)
theorem a_iand {x y : Int32} (C : Cx φ g cc nL own rm) (hd : decode cc pc = .ok (.iand, 1))  (k : Ga φ g k9 n9 nL (pc + 1) lv (.int (x &&& y) :: st) ws) : Ga φ g k9 n9 nL pc lv (.int y :: .int x :: st) ws := fun H locs ls hP hD hS hl => lv_iand C.1 C.2.1 hd (k H locs ls hP hD hS hl)
theorem a_i2l {x : Int32} (C : Cx φ g cc nL own rm) (hd : decode cc pc = .ok (.i2l, 1))  (k : Ga φ g k9 n9 nL (pc + 1) lv (.long (x.toInt64) :: st) ws) : Ga φ g k9 n9 nL pc lv (.int x :: st) ws := fun H locs ls hP hD hS hl => lv_i2l C.1 C.2.1 hd rfl (k H locs ls hP hD hS hl)
theorem a_lshl {x : Int64} {y : Int32} (C : Cx φ g cc nL own rm) (hd : decode cc pc = .ok (.lshl, 1))  (k : Ga φ g k9 n9 nL (pc + 1) lv (.long (x <<< (y.toInt64 &&& 63)) :: st) ws) : Ga φ g k9 n9 nL pc lv (.int y :: .long x :: st) ws := fun H locs ls hP hD hS hl => lv_lshl C.1 C.2.1 hd rfl (k H locs ls hP hD hS hl)
theorem a_ldc2 {ix : Nat} {v v2 : Int64} (C : Cx φ g cc nL own rm) (hd : decode cc pc = .ok (.ldc2_w ix, 3)) (hm : Cond.constantLong own ix v ∈ TB) (hv : v = v2)  (k : Ga φ g k9 n9 nL (pc + 3) lv (.long v2 :: st) ws) : Ga φ g k9 n9 nL pc lv (st) ws := fun H locs ls hP hD hS hl => by subst hv; exact W.ldc2 C.1 C.2.1 C.2.2.2.1 (C.2.2.2.2.1 _ hm) rfl hd (k H locs ls hP hD hS hl)
theorem a_land {x y : Int64} (C : Cx φ g cc nL own rm) (hd : decode cc pc = .ok (.land, 1))  (k : Ga φ g k9 n9 nL (pc + 1) lv (.long (x &&& y) :: st) ws) : Ga φ g k9 n9 nL pc lv (.long y :: .long x :: st) ws := fun H locs ls hP hD hS hl => lv_land C.1 C.2.1 hd (k H locs ls hP hD hS hl)
theorem a_lor {x y : Int64} (C : Cx φ g cc nL own rm) (hd : decode cc pc = .ok (.lor, 1))  (k : Ga φ g k9 n9 nL (pc + 1) lv (.long (x ||| y) :: st) ws) : Ga φ g k9 n9 nL pc lv (.long y :: .long x :: st) ws := fun H locs ls hP hD hS hl => lv_lor C.1 C.2.1 hd (k H locs ls hP hD hS hl)
theorem a_lcmp {x y : Int64} (C : Cx φ g cc nL own rm) (hd : decode cc pc = .ok (.lcmp, 1))  (k : Ga φ g k9 n9 nL (pc + 1) lv (.int (lg_cmp x y) :: st) ws) : Ga φ g k9 n9 nL pc lv (.long y :: .long x :: st) ws := fun H locs ls hP hD hS hl => W.lcmp C.1 C.2.1 hd (k H locs ls hP hD hS hl)
theorem a_dup {v : Value} (C : Cx φ g cc nL own rm) (hd : decode cc pc = .ok (.dup, 1)) (hv : v.category = 1)  (k : Ga φ g k9 n9 nL (pc + 1) lv (v :: v :: st) ws) : Ga φ g k9 n9 nL pc lv (v :: st) ws := fun H locs ls hP hD hS hl => lv_dup C.1 C.2.1 hd hv (k H locs ls hP hD hS hl)
theorem a_goto {off : Int} {tgt : Nat} (C : Cx φ g cc nL own rm) (hd : decode cc pc = .ok (.goto off, 3)) (ht : (pc : Int) + off = (tgt : Int)) (k : Ga φ g k9 n9 nL tgt lv st ws) : Ga φ g k9 n9 nL pc lv st ws := fun H locs ls hP hD hS hl => lv_goto C.1 C.2.1 hd ht (k H locs ls hP hD hS hl)
theorem a_icmp_eq {x y : Int32} {off : Int} {tgt : Nat} (C : Cx φ g cc nL own rm) (hd : decode cc pc = .ok (.if_icmp .eq off, 3)) (ht : (pc : Int) + off = (tgt : Int)) (kt : x = y → Ga φ g k9 n9 nL tgt lv st ws) (kf : ¬ x = y → Ga φ g k9 n9 nL (pc + 3) lv st ws) : Ga φ g k9 n9 nL pc lv (.int y :: .int x :: st) ws := fun H locs ls hP hD hS hl => lv_icmp_eq C.1 C.2.1 hd ht (fun h => kt h H locs ls hP hD hS hl) (fun h => kf h H locs ls hP hD hS hl)
theorem a_icmp_ge {x y : Int32} {off : Int} {tgt : Nat} (C : Cx φ g cc nL own rm) (hd : decode cc pc = .ok (.if_icmp .ge off, 3)) (ht : (pc : Int) + off = (tgt : Int)) (kt : y ≤ x → Ga φ g k9 n9 nL tgt lv st ws) (kf : ¬ y ≤ x → Ga φ g k9 n9 nL (pc + 3) lv st ws) : Ga φ g k9 n9 nL pc lv (.int y :: .int x :: st) ws := fun H locs ls hP hD hS hl => lv_icmp_ge C.1 C.2.1 hd ht (fun h => kt h H locs ls hP hD hS hl) (fun h => kf h H locs ls hP hD hS hl)
theorem a_icmp_gt {x y : Int32} {off : Int} {tgt : Nat} (C : Cx φ g cc nL own rm) (hd : decode cc pc = .ok (.if_icmp .gt off, 3)) (ht : (pc : Int) + off = (tgt : Int)) (kt : y < x → Ga φ g k9 n9 nL tgt lv st ws) (kf : ¬ y < x → Ga φ g k9 n9 nL (pc + 3) lv st ws) : Ga φ g k9 n9 nL pc lv (.int y :: .int x :: st) ws := fun H locs ls hP hD hS hl => lv_icmp_gt C.1 C.2.1 hd ht (fun h => kt h H locs ls hP hD hS hl) (fun h => kf h H locs ls hP hD hS hl)
theorem a_if_eq {x : Int32} {off : Int} {tgt : Nat} (C : Cx φ g cc nL own rm) (hd : decode cc pc = .ok (.ifCond .eq off, 3)) (ht : (pc : Int) + off = (tgt : Int)) (kt : x = 0 → Ga φ g k9 n9 nL tgt lv st ws) (kf : ¬ x = 0 → Ga φ g k9 n9 nL (pc + 3) lv st ws) : Ga φ g k9 n9 nL pc lv (.int x :: st) ws := fun H locs ls hP hD hS hl => lv_if_eq C.1 C.2.1 hd ht (fun h => kt h H locs ls hP hD hS hl) (fun h => kf h H locs ls hP hD hS hl)
theorem a_tableIn {dflt lo hi : Int} {offs : Array Int} {len : Nat} {x : Int32} {off : Int} {tgt : Nat} (C : Cx φ g cc nL own rm) (hd : decode cc pc = .ok (.tableswitch dflt lo hi offs, len)) (h1 : ¬ x.toInt < lo) (h2 : ¬ hi < x.toInt) (ho : offs[(x.toInt - lo).toNat]? = some off) (ht : (pc : Int) + off = (tgt : Int)) (k : Ga φ g k9 n9 nL tgt lv st ws) : Ga φ g k9 n9 nL pc lv (.int x :: st) ws := fun H locs ls hP hD hS hl => lv_tableIn C.1 C.2.1 hd h1 h2 ho ht (k H locs ls hP hD hS hl)
theorem a_tableOut {dflt lo hi : Int} {offs : Array Int} {len : Nat} {x : Int32} {tgt : Nat} (C : Cx φ g cc nL own rm) (hd : decode cc pc = .ok (.tableswitch dflt lo hi offs, len)) (h : x.toInt < lo ∨ hi < x.toInt) (ht : (pc : Int) + dflt = (tgt : Int)) (k : Ga φ g k9 n9 nL tgt lv st ws) : Ga φ g k9 n9 nL pc lv (.int x :: st) ws := fun H locs ls hP hD hS hl => lv_tableOut C.1 C.2.1 hd h ht (k H locs ls hP hD hS hl)
theorem a_get0 {ix a : Nat} {fs : List Value} {v : Value} (C : Cx φ g cc nL own rm) (hd : decode cc pc = .ok (.getfield ix, 3)) (q0 : Nat) (he : ws[q0]? = some (a, .inr (0, fs))) (k0 : Nat) (hk : k0 < 9) (hm : Cond.fieldLink own ix (TX0 k0).1 (TX0 k0).2.1 (TX0 k0).2.2.1 ∈ TB) (hv : fs[k0]? = some v) (k : Ga φ g k9 n9 nL (pc + 3) lv (v :: st) ws) : Ga φ g k9 n9 nL pc lv (.ref a :: st) ws := fun H locs ls hP hD hS hl => va_get (C := RX0) (T := TX0) (N := 9) C.1 C.2.1 C.2.2.2.2.1 inT_X0 C.2.2.2.1 C.2.2.2.2.2.1 hP q0 he rfl k0 hk (C.2.2.2.2.1 _ hm) (fun _ h => h) hv hd (k H locs ls hP hD hS hl)
theorem a_get3 {ix a : Nat} {fs : List Value} {v : Value} (C : Cx φ g cc nL own rm) (hd : decode cc pc = .ok (.getfield ix, 3)) (q0 : Nat) (he : ws[q0]? = some (a, .inr (3, fs))) (k0 : Nat) (hk : k0 < 7) (hm : Cond.fieldLink own ix (TX3 k0).1 (TX3 k0).2.1 (TX3 k0).2.2.1 ∈ TB) (hv : fs[k0]? = some v) (k : Ga φ g k9 n9 nL (pc + 3) lv (v :: st) ws) : Ga φ g k9 n9 nL pc lv (.ref a :: st) ws := fun H locs ls hP hD hS hl => va_get (C := RX3) (T := TX3) (N := 7) C.1 C.2.1 C.2.2.2.2.1 inT_X3 C.2.2.2.1 C.2.2.2.2.2.1 hP q0 he rfl k0 hk (C.2.2.2.2.1 _ hm) (fun _ h => h) hv hd (k H locs ls hP hD hS hl)
theorem a_get4 {ix a : Nat} {fs : List Value} {v : Value} (C : Cx φ g cc nL own rm) (hd : decode cc pc = .ok (.getfield ix, 3)) (q0 : Nat) (he : ws[q0]? = some (a, .inr (4, fs))) (k0 : Nat) (hk : k0 < 17) (hm : Cond.fieldLink own ix (TX4 k0).1 (TX4 k0).2.1 (TX4 k0).2.2.1 ∈ TB) (hv : fs[k0]? = some v) (k : Ga φ g k9 n9 nL (pc + 3) lv (v :: st) ws) : Ga φ g k9 n9 nL pc lv (.ref a :: st) ws := fun H locs ls hP hD hS hl => va_get (C := RX4) (T := TX4) (N := 17) C.1 C.2.1 C.2.2.2.2.1 inT_X4 C.2.2.2.1 C.2.2.2.2.2.1 hP q0 he rfl k0 hk (C.2.2.2.2.1 _ hm) (fun _ h => h) hv hd (k H locs ls hP hD hS hl)
theorem a_put0 {ix a : Nat} {fs : List Value} {v : Value} {ws2 : va_W} (C : Cx φ g cc nL own rm) (hd : decode cc pc = .ok (.putfield ix, 3)) (q0 : Nat) (he : ws[q0]? = some (a, .inr (0, fs))) (k0 : Nat) (hk : k0 < 9) (hm : Cond.fieldLink own ix (TX0 k0).1 (TX0 k0).2.1 (TX0 k0).2.2.1 ∈ TB) (hfin : (TX0 k0).2.2.2 = false) (hn : narrow (tyX0 k0) v = v) (hfit : fits (tyX0 k0) v = true) (hl0 : k0 < fs.length) (hw : ws.set q0 (a, .inr (0, fs.set k0 v)) = ws2) (k : Ga φ g k9 n9 nL (pc + 3) lv st ws2) : Ga φ g k9 n9 nL pc lv (v :: .ref a :: st) ws := fun H locs ls hP hD hS hl => va_put (C := RX0) (T := TX0) (N := 9) C.1 C.2.1 C.2.2.2.2.1 inT_X0 tyX0 tyX0_ok nmX0 C.2.2.2.1 C.2.2.2.2.2.1 hP hD hS q0 he rfl k0 hk (C.2.2.2.2.1 _ hm) (fun _ h => h) hfin (tyX0_ok k0 hk) hn hfit hl0 hd (fun H1 locs1 hP1 hD1 hS1 => k H1 locs1 ls (hw ▸ hP1) (hw ▸ hD1) hS1 hl)
theorem a_iast {a n : Nat} {cA : ClassId} {f : Nat → Int32} {i x : Int32} {ws2 : va_W} (C : Cx φ g cc nL own rm) (hd : decode cc pc = .ok (.iastore, 1)) (q0 : Nat) (ha : ws[q0]? = some (a, .inl (cA, n, .inl f))) (hA : cA = g.2.1.1) (hin : vp_in i n) (hw : ws.set q0 (a, .inl (cA, n, .inl (upd f i.toNatClampNeg x))) = ws2) (k : Ga φ g k9 n9 nL (pc + 1) lv st ws2) : Ga φ g k9 n9 nL pc lv (.int x :: .int i :: .ref a :: st) ws := fun H locs ls hP hD hS hl => va_iast C.1 C.2.1 C.2.2.2.2.2.1 hP hD hS q0 0 ha (by rw [hA]; rfl) hin hd (fun H1 locs1 hP1 hD1 hS1 => k H1 locs1 ls (hw ▸ hP1) (hw ▸ hD1) hS1 hl)
theorem a_iastN {a n j : Nat} {cA : ClassId} {f : Nat → Int32} {x : Int32} {ws2 : va_W} (C : Cx φ g cc nL own rm) (hd : decode cc pc = .ok (.iastore, 1)) (q0 : Nat) (ha : ws[q0]? = some (a, .inl (cA, n, .inl f))) (hA : cA = g.2.1.1) (hj : j < n) (hn : n < 2 ^ 31) (hw : ws.set q0 (a, .inl (cA, n, .inl (upd f j x))) = ws2) (k : Ga φ g k9 n9 nL (pc + 1) lv st ws2) : Ga φ g k9 n9 nL pc lv (.int x :: .int (nI j) :: .ref a :: st) ws := a_iast C hd q0 ha hA (vp_in_nI hj hn) (by rw [nI_clamp (Nat.lt_trans hj hn)]; exact hw) k
theorem a_top {x y : Int32} (h : x = y) (k : Ga φ g k9 n9 nL pc lv (.int y :: st) ws) : Ga φ g k9 n9 nL pc lv (.int x :: st) ws := h ▸ k
theorem a_topL {x y : Int64} (h : x = y) (k : Ga φ g k9 n9 nL pc lv (.long y :: st) ws) : Ga φ g k9 n9 nL pc lv (.long x :: st) ws := h ▸ k
theorem a_ws {ws2 : va_W} (h : ws = ws2) (k : Ga φ g k9 n9 nL pc lv st ws2) : Ga φ g k9 n9 nL pc lv st ws := h ▸ k
theorem a_sub {ws2 : va_W} (is : List Nat) (hn : va_nd is = true) (h : is.map (fun i => ws[i]?) = ws2.map some) (k : Ga φ g k9 n9 nL pc lv st ws2) : Ga φ g k9 n9 nL pc lv st ws := fun H locs ls hP hD hS hl => k H locs ls (hP.sub is (fm_map h)) (hD.sub is hn h) hS hl
theorem a_icmp_geN {a b : Nat} {off : Int} {tgt : Nat} (C : Cx φ g cc nL own rm) (hd : decode cc pc = .ok (.if_icmp .ge off, 3)) (ht : (pc : Int) + off = (tgt : Int)) (ha : a < 2 ^ 31) (hb : b < 2 ^ 31) (kt : b ≤ a → Ga φ g k9 n9 nL tgt lv st ws) (kf : a < b → Ga φ g k9 n9 nL (pc + 3) lv st ws) : Ga φ g k9 n9 nL pc lv (.int (nI b) :: .int (nI a) :: st) ws := a_icmp_ge C hd ht (fun h => kt ((nI_leI hb ha).mp h)) (fun h => kf (Nat.not_le.mp (fun z => h ((nI_leI hb ha).mpr z))))
theorem a_if_eqL {x y : Int64} {off : Int} {tgt : Nat} (C : Cx φ g cc nL own rm) (hd : decode cc pc = .ok (.ifCond .eq off, 3)) (ht : (pc : Int) + off = (tgt : Int)) (kt : x = y → Ga φ g k9 n9 nL tgt lv st ws) (kf : ¬ x = y → Ga φ g k9 n9 nL (pc + 3) lv st ws) : Ga φ g k9 n9 nL pc lv (.int (lg_cmp x y) :: st) ws := a_if_eq C hd ht (fun h => kt (lgc_eq.mp h)) (fun h => kf (fun z => h (lgc_eq.mpr z)))
theorem a_iaddN {x y : Nat} (C : Cx φ g cc nL own rm) (hd : decode cc pc = .ok (.iadd, 1)) (k : Ga φ g k9 n9 nL (pc + 1) lv (.int (nI (x + y)) :: st) ws) : Ga φ g k9 n9 nL pc lv (.int (nI y) :: .int (nI x) :: st) ws := a_iadd C hd (by rw [nI_add]; exact k)
theorem a_iastM {a n j v : Nat} {cA : ClassId} {f : Nat → Nat} {ws2 : va_W} (C : Cx φ g cc nL own rm) (hd : decode cc pc = .ok (.iastore, 1)) (q0 : Nat) (ha : ws[q0]? = some (a, .inl (cA, n, .inl (fun j => nI (f j))))) (hA : cA = g.2.1.1) (hj : j < n) (hn : n < 2 ^ 31) (hw : ws.set q0 (a, .inl (cA, n, .inl (fun i => nI (updN f j v i)))) = ws2) (k : Ga φ g k9 n9 nL (pc + 1) lv st ws2) : Ga φ g k9 n9 nL pc lv (.int (nI v) :: .int (nI j) :: .ref a :: st) ws := a_iastN C hd q0 ha hA hj hn (by rw [upd_nI]; exact hw) k
theorem a_objInit {ix a : Nat} (C : Cx φ g cc nL own rm) (hd : decode cc pc = .ok (.invokespecial ix, 3)) (hm : Cond.methodLink own ix objectInit ∈ TB) (hf : 1 ≤ rm.frames) (hr : (st.map fun v => v.category).sum + 12 ≤ rm.locals) (k : Ga φ g k9 n9 nL (pc + 3) lv st ws) : Ga φ g k9 n9 nL pc lv (.ref a :: st) ws := fun H locs ls hP hD hS hl =>
  W.objInit C.1 C.2.1 C.2.2.2.1 (C.2.2.2.2.1 _ hm) (C.2.2.2.2.1 _ im_objectInit) (C.2.2.2.2.1 _ cd_objectInit) (g := F0 φ.2.1.2.1 pc ls (.ref a :: st)) rfl (hl.1.trans C.2.2.1.symm) rfl hd (by rw [C.2.2.2.2.2.2.2.2.2]; exact hf) (by rw [C.2.2.2.2.2.2.2.2.2]; show 2 * 0 + _ + 12 ≤ _; omega) (W.eq (g2 := F0 φ.2.1.2.1 (pc + 3) ls st) rfl (k H locs ls hP hD hS hl))
theorem a_newQ {ix : Nat} (C : Cx φ g cc nL own rm) (hao : va_AO "StockPot$Sheet" (fs φ)) (hd : decode cc pc = .ok (.anewarray ix, 3)) (hm : Cond.classLink own ix RX1 ∈ TB) (hc : k9 + 1 ≤ rm.cells) (hs : n9 + 4 ≤ rm.slots) (k : ∀ q : Nat, Ga φ g (k9 + 1) (n9 + 4) nL (pc + 3) lv (.ref q :: st) (ws ++ [(q, .inl (g.2.1.2.2.2, 4, .inr (.inr (.inr (.inr (fun _ => none))))))])) : Ga φ g k9 n9 nL pc lv (.int (nI 4) :: st) ws := fun H locs ls hP hD hS hl => by
  refine va_newq (C := "StockPot$Sheet") (N' := 4) C.1 C.2.1 C.2.2.2.1 (C.2.2.2.2.1 _ hm) hao C.2.2.2.2.2.1 hP hD hS C.2.2.2.2.2.2.1 (nI_pos (by decide)) (nI_clamp (by decide)) (by decide) (by rw [C.2.2.2.2.2.2.2.2.2]; exact hc) (by rw [C.2.2.2.2.2.2.2.2.2]; exact hs) hd (fun q cA H1 hK1 hP1 hD1 hS1 => ?_)
  obtain ⟨-, -, -, -, -, h1⟩ : va_RA (fs φ) cA (.object "StockPot$Sheet") := (hK1.2 4 (cA, .object "StockPot$Sheet") rfl).2
  obtain ⟨-, -, -, -, -, h2⟩ : va_RA (fs φ) g.2.1.2.2.2 (.object "StockPot$Sheet") := (C.2.2.2.2.2.1.2 3 (g.2.1.2.2.2, .object "StockPot$Sheet") rfl).2
  obtain rfl : cA = g.2.1.2.2.2 := Option.some.inj (h1.symm.trans h2)
  exact k q H1 locs ls hP1 hD1 hS1 hl
theorem a_astQ {a j v : Nat} {f : Nat → Option Nat} {vs : List Value} {ws2 : va_W} (C : Cx φ g cc nL own rm) (hd : decode cc pc = .ok (.aastore, 1)) (q0 qk : Nat) (ha : ws[q0]? = some (a, .inl (g.2.1.2.2.2, 4, .inr (.inr (.inr (.inr f)))))) (hv : ws[qk]? = some (v, .inr (1, vs))) (hj : j < 4) (hw : ws.set q0 (a, .inl (g.2.1.2.2.2, 4, .inr (.inr (.inr (.inr (va_up f j (some v))))))) = ws2) (k : Ga φ g k9 n9 nL (pc + 1) lv st ws2) : Ga φ g k9 n9 nL pc lv (.ref v :: .int (nI j) :: .ref a :: st) ws := fun H locs ls hP hD hS hl => by
  have e : (nI j).toNatClampNeg = j := nI_clamp (by omega)
  refine va_astq (r := (RX1, TX1, 3)) C.1 C.2.1 C.2.2.2.2.2.1 hP hD hS q0 3 qk 1 ha rfl hv rfl (vp_in_nI hj (by decide)) hd (fun H1 locs1 hP1 hD1 hS1 => ?_)
  rw [e] at hP1 hD1
  exact k H1 locs1 ls (hw ▸ hP1) (hw ▸ hD1) hS1 hl
theorem a_newI {N : Nat} (C : Cx φ g cc nL own rm) (hd : decode cc pc = .ok (.newarray .int, 2)) (hN : N ≤ 200) (hc : k9 + 1 ≤ rm.cells) (hs : n9 + N ≤ rm.slots) (k : ∀ q : Nat, Ga φ g (k9 + 1) (n9 + N) nL (pc + 2) lv (.ref q :: st) (ws ++ [(q, .inl (g.2.1.1, N, .inl (fun _ => nI 0)))])) : Ga φ g k9 n9 nL pc lv (.int (nI N) :: st) ws := fun H locs ls hP hD hS hl => by
  refine va_newa (atype := .int) (ty := .int) (a0 := (N, .inl (fun _ => nI 0))) (N' := N) C.1 C.2.1 (C.2.2.2.2.1 _ ac_int) rfl C.2.2.2.2.2.1 hP hD hS C.2.2.2.2.2.2.1 (fun cA => rfl) (nI_pos (by omega)) (nI_clamp (by omega)) (show N * 4 ≤ 536870912 by omega) (by rw [C.2.2.2.2.2.2.2.2.2]; exact hc) (by rw [C.2.2.2.2.2.2.2.2.2]; exact hs) hd (fun q cA H1 hK1 hP1 hD1 hS1 => ?_)
  have h1 : (fs φ).vm.findClass ("[" ++ FieldType.int.toString) = some cA := (hK1.2 4 (cA, .int) rfl).2
  have h2 : (fs φ).vm.findClass ("[" ++ FieldType.int.toString) = some g.2.1.1 := (C.2.2.2.2.2.1.2 0 (g.2.1.1, .int) rfl).2
  obtain rfl : cA = g.2.1.1 := Option.some.inj (h1.symm.trans h2)
  exact k q H1 locs ls hP1 hD1 hS1 hl
theorem a_newJ {N : Nat} (C : Cx φ g cc nL own rm) (hd : decode cc pc = .ok (.newarray .long, 2)) (hN : N ≤ 200) (hc : k9 + 1 ≤ rm.cells) (hs : n9 + N ≤ rm.slots) (k : ∀ q : Nat, Ga φ g (k9 + 1) (n9 + N) nL (pc + 2) lv (.ref q :: st) (ws ++ [(q, .inl (g.2.1.2.1, N, .inr (.inl (fun _ => 0))))])) : Ga φ g k9 n9 nL pc lv (.int (nI N) :: st) ws := fun H locs ls hP hD hS hl => by
  refine va_newa (atype := .long) (ty := .long) (a0 := (N, .inr (.inl (fun _ => 0)))) (N' := N) C.1 C.2.1 (C.2.2.2.2.1 _ ac_long) rfl C.2.2.2.2.2.1 hP hD hS C.2.2.2.2.2.2.1 (fun cA => rfl) (nI_pos (by omega)) (nI_clamp (by omega)) (show N * 8 ≤ 536870912 by omega) (by rw [C.2.2.2.2.2.2.2.2.2]; exact hc) (by rw [C.2.2.2.2.2.2.2.2.2]; exact hs) hd (fun q cA H1 hK1 hP1 hD1 hS1 => ?_)
  have h1 : (fs φ).vm.findClass ("[" ++ FieldType.long.toString) = some cA := (hK1.2 4 (cA, .long) rfl).2
  have h2 : (fs φ).vm.findClass ("[" ++ FieldType.long.toString) = some g.2.1.2.1 := (C.2.2.2.2.2.1.2 1 (g.2.1.2.1, .long) rfl).2
  obtain rfl : cA = g.2.1.2.1 := Option.some.inj (h1.symm.trans h2)
  exact k q H1 locs ls hP1 hD1 hS1 hl
theorem a_newB {N : Nat} (C : Cx φ g cc nL own rm) (hd : decode cc pc = .ok (.newarray .byte, 2)) (hN : N ≤ 200) (hc : k9 + 1 ≤ rm.cells) (hs : n9 + N ≤ rm.slots) (k : ∀ q : Nat, Ga φ g (k9 + 1) (n9 + N) nL (pc + 2) lv (.ref q :: st) (ws ++ [(q, .inl (g.2.1.2.2.1, N, .inl (fun _ => nI 0)))])) : Ga φ g k9 n9 nL pc lv (.int (nI N) :: st) ws := fun H locs ls hP hD hS hl => by
  refine va_newa (atype := .byte) (ty := .byte) (a0 := (N, .inl (fun _ => nI 0))) (N' := N) C.1 C.2.1 (C.2.2.2.2.1 _ ac_byte) rfl C.2.2.2.2.2.1 hP hD hS C.2.2.2.2.2.2.1 (fun cA => rfl) (nI_pos (by omega)) (nI_clamp (by omega)) (show N * 1 ≤ 536870912 by omega) (by rw [C.2.2.2.2.2.2.2.2.2]; exact hc) (by rw [C.2.2.2.2.2.2.2.2.2]; exact hs) hd (fun q cA H1 hK1 hP1 hD1 hS1 => ?_)
  have h1 : (fs φ).vm.findClass ("[" ++ FieldType.byte.toString) = some cA := (hK1.2 4 (cA, .byte) rfl).2
  have h2 : (fs φ).vm.findClass ("[" ++ FieldType.byte.toString) = some g.2.1.2.2.1 := (C.2.2.2.2.2.1.2 2 (g.2.1.2.2.1, .byte) rfl).2
  obtain rfl : cA = g.2.1.2.2.1 := Option.some.inj (h1.symm.trans h2)
  exact k q H1 locs ls hP1 hD1 hS1 hl
abbrev df0 : List Value := [.null, .null, .null, .null, .null, .null, .int (nI 0), .int (nI 0), .int (nI 0)]
theorem a_new0 {ix : Nat} (C : Cx φ g cc nL own rm) (hd : decode cc pc = .ok (.new ix, 3)) (hm : Cond.classLink own ix RX0 ∈ TB) (hc : k9 + 1 ≤ rm.cells) (hs : n9 + 9 ≤ rm.slots) (k : ∀ q : Nat, Ga φ g (k9 + 1) (n9 + 9) nL (pc + 3) lv (.ref q :: st) (ws ++ [(q, .inr (0, df0))])) : Ga φ g k9 n9 nL pc lv st ws := fun H locs ls hP hD hS hl =>
  va_new (ci := 0) (fs := df0) (C := RX0) (T := TX0) (N := 9) C.1 C.2.1 C.2.2.2.2.1 inT_X0 tyX0 tyX0_ok C.2.2.2.1 (C.2.2.2.2.1 _ hm) (C.2.2.2.2.1 _ it_X0) (C.2.2.2.2.1 _ in_X0) C.2.2.2.2.2.1 hP hD hS C.2.2.2.2.2.2.1 rfl (fun j hj => by rcases (show j = 0 ∨ j = 1 ∨ j = 2 ∨ j = 3 ∨ j = 4 ∨ j = 5 ∨ j = 6 ∨ j = 7 ∨ j = 8 by omega) with rfl | rfl | rfl | rfl | rfl | rfl | rfl | rfl | rfl <;> rfl) (by rw [C.2.2.2.2.2.2.2.2.2]; exact hc) (by rw [C.2.2.2.2.2.2.2.2.2]; exact hs) hd (fun q H1 hP1 hD1 hS1 => k q H1 locs ls hP1 hD1 hS1 hl)
theorem a_putF0 {ix a : Nat} {fs : List Value} {v : Value} {ws2 : va_W} (C : Cx φ g cc nL RX0 rm) (hnm : φ.2.2.1.1.name = "<init>") (hd : decode cc pc = .ok (.putfield ix, 3)) (q0 : Nat) (he : ws[q0]? = some (a, .inr (0, fs))) (k0 : Nat) (hk : k0 < 9) (hm : Cond.fieldLink RX0 ix (TX0 k0).1 (TX0 k0).2.1 (TX0 k0).2.2.1 ∈ TB) (hfin : (TX0 k0).2.2.2 = true) (hdecl : (TX0 k0).1 = RX0) (hn : narrow (tyX0 k0) v = v) (hfit : fits (tyX0 k0) v = true) (hl0 : k0 < fs.length) (hw : ws.set q0 (a, .inr (0, fs.set k0 v)) = ws2) (k : Ga φ g k9 n9 nL (pc + 3) lv st ws2) : Ga φ g k9 n9 nL pc lv (v :: .ref a :: st) ws := fun H locs ls hP hD hS hl =>
  va_putF (C := RX0) (T := TX0) (N := 9) C.1 C.2.1 C.2.2.2.2.1 inT_X0 tyX0 tyX0_ok nmX0 C.2.2.2.1 C.2.2.2.2.2.1 hP hD hS q0 he rfl k0 hk (C.2.2.2.2.1 _ hm) (fun _ h => h) hfin hnm hdecl (tyX0_ok k0 hk) hn hfit hl0 hd (fun H1 locs1 hP1 hD1 hS1 => k H1 locs1 ls (hw ▸ hP1) (hw ▸ hD1) hS1 hl)
abbrev df1 : List Value := [.null, .int (nI 0), .int (nI 0)]
theorem a_new1 {ix : Nat} (C : Cx φ g cc nL own rm) (hd : decode cc pc = .ok (.new ix, 3)) (hm : Cond.classLink own ix RX1 ∈ TB) (hc : k9 + 1 ≤ rm.cells) (hs : n9 + 3 ≤ rm.slots) (k : ∀ q : Nat, Ga φ g (k9 + 1) (n9 + 3) nL (pc + 3) lv (.ref q :: st) (ws ++ [(q, .inr (1, df1))])) : Ga φ g k9 n9 nL pc lv st ws := fun H locs ls hP hD hS hl =>
  va_new (ci := 1) (fs := df1) (C := RX1) (T := TX1) (N := 3) C.1 C.2.1 C.2.2.2.2.1 inT_X1 tyX1 tyX1_ok C.2.2.2.1 (C.2.2.2.2.1 _ hm) (C.2.2.2.2.1 _ it_X1) (C.2.2.2.2.1 _ in_X1) C.2.2.2.2.2.1 hP hD hS C.2.2.2.2.2.2.1 rfl (fun j hj => by rcases (show j = 0 ∨ j = 1 ∨ j = 2 by omega) with rfl | rfl | rfl <;> rfl) (by rw [C.2.2.2.2.2.2.2.2.2]; exact hc) (by rw [C.2.2.2.2.2.2.2.2.2]; exact hs) hd (fun q H1 hP1 hD1 hS1 => k q H1 locs ls hP1 hD1 hS1 hl)
theorem a_putF1 {ix a : Nat} {fs : List Value} {v : Value} {ws2 : va_W} (C : Cx φ g cc nL RX1 rm) (hnm : φ.2.2.1.1.name = "<init>") (hd : decode cc pc = .ok (.putfield ix, 3)) (q0 : Nat) (he : ws[q0]? = some (a, .inr (1, fs))) (k0 : Nat) (hk : k0 < 3) (hm : Cond.fieldLink RX1 ix (TX1 k0).1 (TX1 k0).2.1 (TX1 k0).2.2.1 ∈ TB) (hfin : (TX1 k0).2.2.2 = true) (hdecl : (TX1 k0).1 = RX1) (hn : narrow (tyX1 k0) v = v) (hfit : fits (tyX1 k0) v = true) (hl0 : k0 < fs.length) (hw : ws.set q0 (a, .inr (1, fs.set k0 v)) = ws2) (k : Ga φ g k9 n9 nL (pc + 3) lv st ws2) : Ga φ g k9 n9 nL pc lv (v :: .ref a :: st) ws := fun H locs ls hP hD hS hl =>
  va_putF (C := RX1) (T := TX1) (N := 3) C.1 C.2.1 C.2.2.2.2.1 inT_X1 tyX1 tyX1_ok nmX1 C.2.2.2.1 C.2.2.2.2.2.1 hP hD hS q0 he rfl k0 hk (C.2.2.2.2.1 _ hm) (fun _ h => h) hfin hnm hdecl (tyX1_ok k0 hk) hn hfit hl0 hd (fun H1 locs1 hP1 hD1 hS1 => k H1 locs1 ls (hw ▸ hP1) (hw ▸ hD1) hS1 hl)
abbrev df2 : List Value := [.null, .int (nI 0), .int (nI 0), .int (nI 0), .int (nI 0), .int (nI 0)]
theorem a_new2 {ix : Nat} (C : Cx φ g cc nL own rm) (hd : decode cc pc = .ok (.new ix, 3)) (hm : Cond.classLink own ix RX2 ∈ TB) (hc : k9 + 1 ≤ rm.cells) (hs : n9 + 6 ≤ rm.slots) (k : ∀ q : Nat, Ga φ g (k9 + 1) (n9 + 6) nL (pc + 3) lv (.ref q :: st) (ws ++ [(q, .inr (2, df2))])) : Ga φ g k9 n9 nL pc lv st ws := fun H locs ls hP hD hS hl =>
  va_new (ci := 2) (fs := df2) (C := RX2) (T := TX2) (N := 6) C.1 C.2.1 C.2.2.2.2.1 inT_X2 tyX2 tyX2_ok C.2.2.2.1 (C.2.2.2.2.1 _ hm) (C.2.2.2.2.1 _ it_X2) (C.2.2.2.2.1 _ in_X2) C.2.2.2.2.2.1 hP hD hS C.2.2.2.2.2.2.1 rfl (fun j hj => by rcases (show j = 0 ∨ j = 1 ∨ j = 2 ∨ j = 3 ∨ j = 4 ∨ j = 5 by omega) with rfl | rfl | rfl | rfl | rfl | rfl <;> rfl) (by rw [C.2.2.2.2.2.2.2.2.2]; exact hc) (by rw [C.2.2.2.2.2.2.2.2.2]; exact hs) hd (fun q H1 hP1 hD1 hS1 => k q H1 locs ls hP1 hD1 hS1 hl)
theorem a_putF2 {ix a : Nat} {fs : List Value} {v : Value} {ws2 : va_W} (C : Cx φ g cc nL RX2 rm) (hnm : φ.2.2.1.1.name = "<init>") (hd : decode cc pc = .ok (.putfield ix, 3)) (q0 : Nat) (he : ws[q0]? = some (a, .inr (2, fs))) (k0 : Nat) (hk : k0 < 6) (hm : Cond.fieldLink RX2 ix (TX2 k0).1 (TX2 k0).2.1 (TX2 k0).2.2.1 ∈ TB) (hfin : (TX2 k0).2.2.2 = true) (hdecl : (TX2 k0).1 = RX2) (hn : narrow (tyX2 k0) v = v) (hfit : fits (tyX2 k0) v = true) (hl0 : k0 < fs.length) (hw : ws.set q0 (a, .inr (2, fs.set k0 v)) = ws2) (k : Ga φ g k9 n9 nL (pc + 3) lv st ws2) : Ga φ g k9 n9 nL pc lv (v :: .ref a :: st) ws := fun H locs ls hP hD hS hl =>
  va_putF (C := RX2) (T := TX2) (N := 6) C.1 C.2.1 C.2.2.2.2.1 inT_X2 tyX2 tyX2_ok nmX2 C.2.2.2.1 C.2.2.2.2.2.1 hP hD hS q0 he rfl k0 hk (C.2.2.2.2.1 _ hm) (fun _ h => h) hfin hnm hdecl (tyX2_ok k0 hk) hn hfit hl0 hd (fun H1 locs1 hP1 hD1 hS1 => k H1 locs1 ls (hw ▸ hP1) (hw ▸ hD1) hS1 hl)
abbrev df3 : List Value := [.null, .null, .null, .null, .null, .null, .int (nI 0)]
theorem a_new3 {ix : Nat} (C : Cx φ g cc nL own rm) (hd : decode cc pc = .ok (.new ix, 3)) (hm : Cond.classLink own ix RX3 ∈ TB) (hc : k9 + 1 ≤ rm.cells) (hs : n9 + 7 ≤ rm.slots) (k : ∀ q : Nat, Ga φ g (k9 + 1) (n9 + 7) nL (pc + 3) lv (.ref q :: st) (ws ++ [(q, .inr (3, df3))])) : Ga φ g k9 n9 nL pc lv st ws := fun H locs ls hP hD hS hl =>
  va_new (ci := 3) (fs := df3) (C := RX3) (T := TX3) (N := 7) C.1 C.2.1 C.2.2.2.2.1 inT_X3 tyX3 tyX3_ok C.2.2.2.1 (C.2.2.2.2.1 _ hm) (C.2.2.2.2.1 _ it_X3) (C.2.2.2.2.1 _ in_X3) C.2.2.2.2.2.1 hP hD hS C.2.2.2.2.2.2.1 rfl (fun j hj => by rcases (show j = 0 ∨ j = 1 ∨ j = 2 ∨ j = 3 ∨ j = 4 ∨ j = 5 ∨ j = 6 by omega) with rfl | rfl | rfl | rfl | rfl | rfl | rfl <;> rfl) (by rw [C.2.2.2.2.2.2.2.2.2]; exact hc) (by rw [C.2.2.2.2.2.2.2.2.2]; exact hs) hd (fun q H1 hP1 hD1 hS1 => k q H1 locs ls hP1 hD1 hS1 hl)
theorem a_putF3 {ix a : Nat} {fs : List Value} {v : Value} {ws2 : va_W} (C : Cx φ g cc nL RX3 rm) (hnm : φ.2.2.1.1.name = "<init>") (hd : decode cc pc = .ok (.putfield ix, 3)) (q0 : Nat) (he : ws[q0]? = some (a, .inr (3, fs))) (k0 : Nat) (hk : k0 < 7) (hm : Cond.fieldLink RX3 ix (TX3 k0).1 (TX3 k0).2.1 (TX3 k0).2.2.1 ∈ TB) (hfin : (TX3 k0).2.2.2 = true) (hdecl : (TX3 k0).1 = RX3) (hn : narrow (tyX3 k0) v = v) (hfit : fits (tyX3 k0) v = true) (hl0 : k0 < fs.length) (hw : ws.set q0 (a, .inr (3, fs.set k0 v)) = ws2) (k : Ga φ g k9 n9 nL (pc + 3) lv st ws2) : Ga φ g k9 n9 nL pc lv (v :: .ref a :: st) ws := fun H locs ls hP hD hS hl =>
  va_putF (C := RX3) (T := TX3) (N := 7) C.1 C.2.1 C.2.2.2.2.1 inT_X3 tyX3 tyX3_ok nmX3 C.2.2.2.1 C.2.2.2.2.2.1 hP hD hS q0 he rfl k0 hk (C.2.2.2.2.1 _ hm) (fun _ h => h) hfin hnm hdecl (tyX3_ok k0 hk) hn hfit hl0 hd (fun H1 locs1 hP1 hD1 hS1 => k H1 locs1 ls (hw ▸ hP1) (hw ▸ hD1) hS1 hl)
abbrev df4 : List Value := [.null, .null, .null, .null, .null, .int (nI 0), .null, .null, .int (nI 0), .int (nI 0), .int (nI 0), .int (nI 0), .int (nI 0), .null, .null, .null, .null]
theorem a_new4 {ix : Nat} (C : Cx φ g cc nL own rm) (hd : decode cc pc = .ok (.new ix, 3)) (hm : Cond.classLink own ix RX4 ∈ TB) (hc : k9 + 1 ≤ rm.cells) (hs : n9 + 17 ≤ rm.slots) (k : ∀ q : Nat, Ga φ g (k9 + 1) (n9 + 17) nL (pc + 3) lv (.ref q :: st) (ws ++ [(q, .inr (4, df4))])) : Ga φ g k9 n9 nL pc lv st ws := fun H locs ls hP hD hS hl =>
  va_new (ci := 4) (fs := df4) (C := RX4) (T := TX4) (N := 17) C.1 C.2.1 C.2.2.2.2.1 inT_X4 tyX4 tyX4_ok C.2.2.2.1 (C.2.2.2.2.1 _ hm) (C.2.2.2.2.1 _ it_X4) (C.2.2.2.2.1 _ in_X4) C.2.2.2.2.2.1 hP hD hS C.2.2.2.2.2.2.1 rfl (fun j hj => by rcases (show j = 0 ∨ j = 1 ∨ j = 2 ∨ j = 3 ∨ j = 4 ∨ j = 5 ∨ j = 6 ∨ j = 7 ∨ j = 8 ∨ j = 9 ∨ j = 10 ∨ j = 11 ∨ j = 12 ∨ j = 13 ∨ j = 14 ∨ j = 15 ∨ j = 16 by omega) with rfl | rfl | rfl | rfl | rfl | rfl | rfl | rfl | rfl | rfl | rfl | rfl | rfl | rfl | rfl | rfl | rfl <;> rfl) (by rw [C.2.2.2.2.2.2.2.2.2]; exact hc) (by rw [C.2.2.2.2.2.2.2.2.2]; exact hs) hd (fun q H1 hP1 hD1 hS1 => k q H1 locs ls hP1 hD1 hS1 hl)
theorem a_putF4 {ix a : Nat} {fs : List Value} {v : Value} {ws2 : va_W} (C : Cx φ g cc nL RX4 rm) (hnm : φ.2.2.1.1.name = "<init>") (hd : decode cc pc = .ok (.putfield ix, 3)) (q0 : Nat) (he : ws[q0]? = some (a, .inr (4, fs))) (k0 : Nat) (hk : k0 < 17) (hm : Cond.fieldLink RX4 ix (TX4 k0).1 (TX4 k0).2.1 (TX4 k0).2.2.1 ∈ TB) (hfin : (TX4 k0).2.2.2 = true) (hdecl : (TX4 k0).1 = RX4) (hn : narrow (tyX4 k0) v = v) (hfit : fits (tyX4 k0) v = true) (hl0 : k0 < fs.length) (hw : ws.set q0 (a, .inr (4, fs.set k0 v)) = ws2) (k : Ga φ g k9 n9 nL (pc + 3) lv st ws2) : Ga φ g k9 n9 nL pc lv (v :: .ref a :: st) ws := fun H locs ls hP hD hS hl =>
  va_putF (C := RX4) (T := TX4) (N := 17) C.1 C.2.1 C.2.2.2.2.1 inT_X4 tyX4 tyX4_ok nmX4 C.2.2.2.1 C.2.2.2.2.2.1 hP hD hS q0 he rfl k0 hk (C.2.2.2.2.1 _ hm) (fun _ h => h) hfin hnm hdecl (tyX4_ok k0 hk) hn hfit hl0 hd (fun H1 locs1 hP1 hD1 hS1 => k H1 locs1 ls (hw ▸ hP1) (hw ▸ hD1) hS1 hl)
end
/-! contracts of constructors: cells are made, and the object's own world grows -/
def Qcn (g : Gl) (A : Nat → Prop) (post : va_W → Prop) : Array Value → State → Outcome → State → Prop := fun _ st o t =>
  (∃ w2 : va_W, o = .returned none ∧ post w2 ∧ va_P g.1 vwCl w2 t.heap ∧ va_D A w2) ∧ va_F A st t
def Pcn (g : Gl) (av : List Value) (w : va_W) (sz : Nat) : Array Value → State → Prop := va_Pc av (fun U => U.heap.size = sz ∧ va_P g.1 vwCl w U.heap ∧ va_K g.1 vwCl (tysG g) U ∧ va_D (fun _ => True) w ∧ En g (va_A w sz) U ∧ va_AO "StockPot$Sheet" U)
def Cc (g : Gl) (y : MethodName) (cc : ByteArray) (maxL : Nat) (rm : Room) (av : List Value) (w : va_W) (mc ms : Nat) (post : va_W → Prop) : Prop :=
  ∀ (l : Launch) (sz : Nat), Met l y (wsM y cc maxL none) rm (Pcn g av w sz) (Qcn g (va_A w sz) post) mc ms (va_A w sz)
def Rn (φ : Fx) (g : Gl) (mc ms : Nat) (post : va_W → Prop) : Prop :=
  φ.2.2.1.1.sig.returnType = none ∧ φ.2.2.2.2 = MQ φ.2.1.2.2.2 (Qcn g (fA φ) post) φ.2.1.2.2.1 φ.2.1.1 mc ms (fA φ)
theorem cc_of {g : Gl} {y : MethodName} {cc : ByteArray} {maxL : Nat} {rm : Room} {av : List Value} {w : va_W} {mc ms : Nat} {post : va_W → Prop} (hy : plainName y.cls = true) (hn : y.name = "<init>") (hlen : (lg_sl av).length ≤ maxL)
    (body : ∀ φ : Fx, Cx φ g cc maxL y.cls rm → Rn φ g mc ms post → φ.2.2.1.1.name = "<init>" → va_AO "StockPot$Sheet" (fs φ) → Ga φ g 0 0 maxL 0 (lv_args 0 av) [] w) : Cc g y cc maxL rm av w mc ms post := by
  intro l sz
  refine Met.ofW (cc := cc) (maxL := maxL) (ret := none) hy rfl ?_
  intro p e s m args below meth c s₁ B hml hv
  obtain ⟨rfl, hsz, hP, hK, hD0, hE, hao⟩ := hv
  subst hsz
  have hts := atoms_spec (ws := wsM y cc maxL none) B.pre
  have hin : meth.name = "<init>" := (name_of_methodNamed B.named B.method).1.trans hn
  have h := body ((p, l, e, rm), (s, m, av.toArray, below), (meth, c), (va_A w s.heap.size, MQ below (Qcn g (va_A w s.heap.size) post) av.toArray s mc ms (va_A w s.heap.size)))
    ⟨B.exec, B.bytes, hml, findClass_of_methodNamed B.named, fun w hw => hts w (List.mem_cons_of_mem _ hw), hK, fun q h => Or.inr h, hE, B.notSynchronized, rfl⟩ ⟨B.returns, rfl⟩ hin hao
  rw [lg_entry_eq]
  exact h s.heap [] _ hP (hD0.self) va_S.rf (lv_entry av hlen)
theorem pcn_blind {g : Gl} {av : List Value} {w : va_W} {sz : Nat} : FrameBlind (Pcn g av w sz) := fun a U gf mk q => by
  obtain ⟨q0, q1, qP, qK, qD, qE, qA⟩ := q
  exact ⟨q0, q1, qP, va_K.moved (u := U) (U := U.calling gf mk a) (Vm.Alike.refl U.vm) qK, qD, qE.calling gf mk a, va_AO.moved (u := U) (U := U.calling gf mk a) (Vm.Alike.refl U.vm) qA⟩
/-- a made object's world beside the rest -/
theorem join_new {D : va_G} {cl : List vw_C} {A : Nat → Prop} {ws w2 : va_W} {q : Nat} {e : va_E} {H H1 : Heap} (hP : va_P D cl (ws ++ [(q, e)]) H) (hD : va_D A (ws ++ [(q, e)])) (hk : ∀ x : Nat, x < H.size → ¬ va_A [(q, e)] H.size x → H1[x]? = H[x]?) (hF : ∀ x, va_A [(q, e)] H.size x → A x) (hP1 : va_P D cl w2 H1) (hD1 : va_D (va_A [(q, e)] H.size) w2) : va_P D cl (ws ++ w2) H1 ∧ va_D A (ws ++ w2) := by
  have hPm := va_P_mem.mp hP
  have hDp := va_D_pw.mp hD
  have hD1p := va_D_pw.mp hD1
  have hap := List.pairwise_append.mp hDp.1
  have hout : ∀ p ∈ ws, ¬ va_A [(q, e)] H.size p.1 := fun p hp z => by
    rcases z with ⟨k, e2, z⟩ | z
    · have hm := List.mem_of_getElem? z
      rw [List.mem_singleton] at hm
      have e3 : p.1 = q := congrArg Prod.fst hm
      exact hap.2.2 p hp (q, e) List.mem_cons_self e3
    · have := (hPm p (List.mem_append_left _ hp)).lt
      omega
  refine ⟨va_P_mem.mpr (fun p hp => ?_), va_D_pw.mpr ⟨List.pairwise_append.mpr ⟨hap.1, hD1p.1, fun p hp r hr h => ?_⟩, fun p hp => ?_⟩⟩
  · rcases List.mem_append.mp hp with h | h
    · have hPw : va_P D cl ws H := va_P_mem.mpr (fun x hx => hPm x (List.mem_append_left _ hx))
      have hPw1 : va_P D cl ws H1 := hPw.kept (fun k x hx => hk x.1 ((hPw k x hx).lt) (hout x (List.mem_of_getElem? hx)))
      exact va_P_mem.mp hPw1 p h
    · exact va_P_mem.mp hP1 p h
  · exact hout p hp (h ▸ hD1p.2 r hr)
  · rcases List.mem_append.mp hp with h | h
    · exact hDp.2 p (List.mem_append_left _ h)
    · exact hF _ (hD1p.2 p h)
/-- room for a constructor -/
def FitN (rmc : Room) (mc ms maxL : Nat) (rm : Room) : Prop := rmc.cells = mc ∧ rmc.slots = ms ∧ rmc.frames + 1 ≤ rm.frames ∧ 8 + (maxL + 11) + rmc.locals ≤ rm.locals
section
variable {φ : Fx} {g : Gl} {cc : ByteArray} {k9 n9 nL pc : Nat} {own : String} {rm : Room} {lv : List (Nat × Value)} {rest : List Value} {ws : va_W}
variable {y : MethodName} {bytes : ByteArray} {maxL ix mc ms q : Nat} {rmc : Room} {e : va_E} {post : va_W → Prop}
theorem a_vret (C : Cx φ g cc nL own rm) (R : Rn φ g k9 n9 post) (hd : decode cc pc = .ok (.return_, 1)) (hp : post ws) : Ga φ g k9 n9 nL pc lv [] ws := fun H locs ls hP hD hS hl => by
  unfold Wk2
  rw [R.2]
  exact W.vret C.1 C.2.1 R.1 (fun t ht hW => ⟨⟨_, rfl, hp, by rw [ht]; exact hP, hD⟩, hS.F ht⟩) hS.2.2 hd (hlocks := C.2.2.2.2.2.2.2.2.1)
theorem a_init (C : Cx φ g cc nL own rm) (hao : va_AO "StockPot$Sheet" (fs φ)) (hd : decode cc pc = .ok (.invokespecial ix, 3)) (hml : Cond.methodLink own ix y ∈ TB) (him : Cond.instanceMethod y ∈ TB) (hini : Cond.initialized y.cls ∈ TB) (hcd : Cond.code y bytes maxL none ∈ TB) (hyn : y.name = "<init>") (hyd : y.cls ≠ "java/lang/invoke/MethodHandle" ∧ y.cls ≠ "java/lang/invoke/VarHandle" ∧ (parseMethodDescriptor y.desc).map (fun d => d.parameters.length) = some 0) (hM : Cc g y bytes maxL rmc [.ref q] [(q, e)] mc ms post) (hf : FitN rmc mc ms maxL rm) (hc : k9 + mc ≤ rm.cells) (hs : n9 + ms ≤ rm.slots) (hcat : (rest.map fun v => v.category).sum ≤ 8)
    (k : ∀ w2 : va_W, post w2 → Ga φ g (k9 + mc) (n9 + ms) nL (pc + 3) lv rest (ws ++ w2)) : Ga φ g k9 n9 nL pc lv (.ref q :: rest) (ws ++ [(q, e)]) := fun H locs ls hP hD hS hl => by
  have hlast : [ws.length].map (fun i => (ws ++ [(q, e)])[i]?) = ([(q, e)] : va_W).map some := by simp
  have hPc := hP.sub [ws.length] (fm_map hlast)
  have hDc := hD.sub [ws.length] rfl hlast
  have hF := va_free hD hS C.2.2.2.2.2.2.1 [ws.length] hlast
  have hcw := cwI 0 C.2.2.2.2.1 (good_ws (l := []) (fun w hw => by simp at hw) hcd) rfl hf.1 hf.2.1 (C.2.2.2.2.1 _ hini) (C.2.2.2.2.1 _ hml) (C.2.2.2.2.1 _ him) hyn hyd (R := φ.1.2.2.2) (by rw [C.2.2.2.2.2.2.2.2.2]; exact ⟨hf.2.2.1, hf.2.2.2⟩)
  have hr := va_runI (H := H) (locs := locs) (cells := k9) (slots := n9) (g := F0 φ.2.1.2.1 pc ls (.ref q :: rest)) (below := φ.2.1.2.2.2) (meth := φ.2.2.1.1) (e := φ.1.2.2.1) (As := []) (rest := rest) ⟨C.1, C.2.1, C.2.2.1, C.2.2.2.1, C.2.2.2.2.1⟩ (hM φ.1.2.1 H.size) hcw ⟨pcn_blind, fun U hU hW => ⟨rfl, by rw [hU], by rw [hU]; exact hPc, va_K.moved hW.alike C.2.2.2.2.2.1, hDc.weaken (fun _ _ _ _ => trivial), C.2.2.2.2.2.2.2.1.to hS hU hW hF, va_AO.moved hW.alike hao⟩⟩ rfl rfl hl.1 rfl (lv_room hcat) hd ⟨by rw [C.2.2.2.2.2.2.2.2.2]; exact hc, by rw [C.2.2.2.2.2.2.2.2.2]; exact hs⟩
  intro T hT X
  obtain ⟨v, st₀, t, T', L, h0, X', hL, e1, e2, ⟨⟨w2, hv, hp, hP2, hD2⟩, hz, hk⟩, stp⟩ := hr T hT X
  cases hv
  rw [h0] at hz hk
  rw [← e1] at hP2 hz hk
  obtain ⟨hP3, hD3⟩ := join_new hP hD hk hF hP2 hD2
  obtain ⟨t2, a1, b1⟩ := k w2 hp T'.heap (locs ++ L) ls hP3 hD3 ⟨Nat.le_trans hS.1 hz, fun x h1 h2 => by rw [hk x (Nat.lt_of_lt_of_le h1 hS.1) (fun z => h2 (hF x z))]; exact hS.2.1 x h1 h2, fun x hx => by
      rcases List.mem_append.mp hx with h | h
      · exact hS.2.2 x h
      · exact hF _ (hL x h)⟩ hl T' rfl X'
  exact ⟨t2, stp t2 a1, b1⟩
end
section
variable {φ : Fx} {g : Gl} {cc : ByteArray} {k9 n9 nL pc : Nat} {own : String} {rm : Room} {lv : List (Nat × Value)} {st : List Value} {post : Option Value → va_W → Prop}
variable {y : MethodName} {Cn : String} {bytes : ByteArray} {maxL n ix : Nat} {ret : Option FieldType} {rmc : Room} {b : Nat} {As rest : List Value} {wc : va_W} {bs cs : List va_W}
theorem a_bafter {isC : List Nat} {st0 : List Value} {a : Array Value} {H : Heap} {locs : List Loc} {ls : Array Slot} (C : Cx φ g cc nL own rm) (hP : va_P g.1 vwCl (fl bs) H) (hD : va_D (fA φ) (fl bs)) (hS : va_S (fA φ) (fs φ).heap H locs) (hl : lv_has ls nL lv)
    (hr : va_Run φ.1.1 φ.1.2.1 φ.1.2.2.1 φ.1.2.2.2 φ.2.1.1 φ.2.1.2.1 φ.2.1.2.2.1 φ.2.1.2.2.2 φ.2.2.1.1 φ.2.2.1.2 H locs k9 n9 0 0 (F0 φ.2.1.2.1 pc ls st0) rest (Qct g (va_A (fl cs) H.size) (fl cs) post a) (va_A (fl cs) H.size))
    (hC : isC.map (fun i => bs[i]?) = cs.map some) (hnC : va_nd isC = true)
    (k : ∀ (r : Option Value) (w2 : va_W), post r w2 → ∃ ds : List va_W, w2 = fl ds ∧ ds.map (fun b => b.map Prod.fst) = cs.map (fun b => b.map Prod.fst) ∧ Ga φ g k9 n9 nL (pc + 3) lv (r.toList ++ rest) (fl (bput bs isC ds))) : Wk2 φ k9 n9 H locs pc ls st0 := by
  intro T hT X
  obtain ⟨v, st₀, t, T', L, h0, X', hL, e1, e2, ⟨⟨r, w2, hv, hp, ha, hP2⟩, hz, hk⟩, stp⟩ := hr T hT X
  cases hv
  rw [h0] at hz hk
  have hF := fl_free (fl_subD hC hnC hD) hS C.2.2.2.2.2.2.1
  rw [← e1] at hP2 hz hk
  obtain ⟨ds, rfl, had, hgo⟩ := k v w2 hp
  obtain ⟨hP3, hD3⟩ := b_frame hP hD hC hnC had hk hP2
  obtain ⟨t2, a1, b1⟩ := hgo T'.heap (locs ++ L) ls hP3 hD3 ⟨Nat.le_trans hS.1 hz, fun q h1 h2 => by rw [hk q (Nat.lt_of_lt_of_le h1 hS.1) (fun z => h2 (hF q z))]; exact hS.2.1 q h1 h2, fun q hq => by
      rcases List.mem_append.mp hq with h | h
      · exact hS.2.2 q h
      · exact hF _ (hL q h)⟩ hl T' rfl X'
  exact ⟨t2, stp t2 a1, b1⟩
theorem a_bV {ci : Nat} {fs : List Value} {cr : vw_C} (C : Cx φ g cc nL own rm) (hk9 : k9 ≤ rm.cells) (hn9 : n9 ≤ rm.slots) (hd : decode cc pc = .ok (.invokevirtual ix, 3)) (hml : Cond.methodLink own ix y ∈ TB) (M : MV y Cn bytes maxL ret n) (hM : Ct g y bytes maxL ret rmc (.ref b :: As) wc post) (hf : Fit rmc maxL rm) (hn : As.length = n) (hst : st = As.reverse ++ .ref b :: rest) (hcat : (rest.map fun v => v.category).sum ≤ 8)
    (hw : wc = fl cs) (q0 : Nat) (hb : wc[q0]? = some (b, .inr (ci, fs))) (hc : vwCl[ci]? = some cr) (hcn : cr.1 = Cn) (isC : List Nat) (hC : isC.map (fun i => bs[i]?) = cs.map some) (hnC : va_nd isC = true)
    (k : ∀ (r : Option Value) (w2 : va_W), post r w2 → ∃ ds : List va_W, w2 = fl ds ∧ ds.map (fun b => b.map Prod.fst) = cs.map (fun b => b.map Prod.fst) ∧ Ga φ g k9 n9 nL (pc + 3) lv (r.toList ++ rest) (fl (bput bs isC ds))) : Ga φ g k9 n9 nL pc lv st (fl bs) := fun H locs ls hP hD hS hl => by
  subst hw
  have hPc := fl_subP hC hP
  have hDc := fl_subD hC hnC hD
  have hF := fl_free hDc hS C.2.2.2.2.2.2.1
  have hcw : CallW φ.1.2.2.2 φ.2.1.1 φ.2.1.2.2.1 own Cn ix y bytes maxL ret (wsM y bytes maxL ret) rmc 0 0 n := cwV n C.2.2.2.2.1 (good_ws (l := [.methodLink own ix y, .instanceMethod y, .selects Cn y y, .initialized Cn]) (fun w hw => by
    simp only [List.mem_cons, List.not_mem_nil, or_false] at hw
    rcases hw with rfl | rfl | rfl | rfl
    · exact hml
    · exact M.1
    · exact M.2.1
    · exact M.2.2.1) M.2.2.2.1) rfl hf.1 hf.2.1 M.2.2.2.2 (by rw [C.2.2.2.2.2.2.2.2.2]; exact ⟨hf.2.2.1, hf.2.2.2⟩)
  have hrecv := va_recv C.2.2.2.2.2.1 hPc hc hb
  rw [hcn] at hrecv
  subst hst
  exact a_bafter C hP hD hS hl (va_runV (As := As) (rest := rest) (b := b) (C := Cn) ⟨C.1, C.2.1, C.2.2.1, C.2.2.2.1, C.2.2.2.2.1⟩ (hM _ H.size) hcw ⟨pct_blind, hrecv, fun U hU hW => ⟨rfl, by rw [hU], by rw [hU]; exact hPc, va_K.moved hW.alike C.2.2.2.2.2.1, hDc.weaken (fun _ _ _ _ => trivial), C.2.2.2.2.2.2.2.1.to hS hU hW hF⟩⟩ rfl hn hl.1 rfl (lv_room hcat) hd ⟨by rw [C.2.2.2.2.2.2.2.2.2]; exact hk9, by rw [C.2.2.2.2.2.2.2.2.2]; exact hn9⟩) hC hnC k
end
