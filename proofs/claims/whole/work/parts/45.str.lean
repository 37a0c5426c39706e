/-! String constants: rows, and the JDK's methods over them -/
section
variable {φ : Fx} {g : Gl} {cc : ByteArray} {nL pc : Nat} {own : String} {rm : Room} {lv : List (Nat × Value)} {st : List Value} {ws : va_W} {post : Option Value → va_W → Prop}
variable {y : MethodName} {bytes : ByteArray} {maxL n ix : Nat} {ret : Option FieldType} {rmc : Room} {As rest : List Value}
theorem g_ldcS {q i9 : Nat} (C : Cx φ g cc nL RX2 rm) (hd : decode cc pc = .ok (.ldc i9, 2)) (hq : q < 10) (hx : strIx.getD q 0 = i9) (k : Go φ g nL (pc + 2) lv (.ref (g.2.2.1 q) :: st) ws) : Go φ g nL pc lv st ws := fun H locs ls hP hD hS hl => by
  subst hx
  exact va_ldcS C.1 C.2.1 C.2.2.2.1 (C.2.2.2.2.2.2.2.1.2.1 q hq) hd (k H locs ls hP hD hS hl)
theorem g_getV {q : Nat} (C : Cx φ g cc nL RJ0 rm) (hd : decode cc pc = .ok (.getfield 9, 3)) (hq : q < 10) (k : Go φ g nL (pc + 3) lv (.ref (g.2.2.2 q) :: st) ws) : Go φ g nL pc lv (.ref (g.2.2.1 q) :: st) ws := fun H locs ls hP hD hS hl =>
  vk_getf C.1 C.2.1 (C.2.2.2.2.2.2.2.1.1.1 q hq).2.2.1 hS C.2.2.2.1 (C.2.2.2.2.1 _ fl_J0_9) (fun _ h => h) hd (k H locs ls hP hD hS hl)
theorem g_getC {q : Nat} (C : Cx φ g cc nL RJ0 rm) (hd : decode cc pc = .ok (.getfield 15, 3)) (hq : q < 10) (k : Go φ g nL (pc + 3) lv (.int (nI 0) :: st) ws) : Go φ g nL pc lv (.ref (g.2.2.1 q) :: st) ws := fun H locs ls hP hD hS hl =>
  vk_getf C.1 C.2.1 (C.2.2.2.2.2.2.2.1.1.1 q hq).2.1 hS C.2.2.2.1 (C.2.2.2.2.1 _ fl_J0_15) (fun _ h => h) hd (k H locs ls hP hD hS hl)
theorem g_compact (C : Cx φ g cc nL RJ0 rm) (hd : decode cc pc = .ok (.getstatic 38, 3)) (k : Go φ g nL (pc + 3) lv (.int (nI 1) :: st) ws) : Go φ g nL pc lv st ws := fun H locs ls hP hD hS hl =>
  va_gets C.1 C.2.1 C.2.2.2.2.2.2.2.1.2.2.1 hS C.2.2.2.1 (C.2.2.2.2.1 _ fl_J0_38) (fun _ h => h) hd (k H locs ls hP hD hS hl)
theorem g_sioobe (C : Cx φ g cc nL RJ0 rm) (hd : decode cc pc = .ok (.getstatic 1053, 3)) (k : ∀ v : Value, (v = .null ∨ ∃ t, v = .ref t) → Go φ g nL (pc + 3) lv (v :: st) ws) : Go φ g nL pc lv st ws := fun H locs ls hP hD hS hl => by
  rcases C.2.2.2.2.2.2.2.1.2.2.2 with h | ⟨t, h⟩
  · exact va_gets C.1 C.2.1 h hS C.2.2.2.1 (C.2.2.2.2.1 _ fl_J0_1053) (fun _ h => h) hd (k _ (Or.inl rfl) H locs ls hP hD hS hl)
  · exact va_gets C.1 C.2.1 h hS C.2.2.2.1 (C.2.2.2.2.1 _ fl_J0_1053) (fun _ h => h) hd (k _ (Or.inr ⟨t, rfl⟩) H locs ls hP hD hS hl)
theorem g_alenV {q : Nat} (C : Cx φ g cc nL own rm) (hd : decode cc pc = .ok (.arraylength, 1)) (hq : q < 10) (k : Go φ g nL (pc + 1) lv (.int (nI (strLen.getD q 0)) :: st) ws) : Go φ g nL pc lv (.ref (g.2.2.2 q) :: st) ws := fun H locs ls hP hD hS hl =>
  va_tlen C.1 C.2.1 (C.2.2.2.2.2.2.2.1.1.1 q hq).2.2.2 hS rfl hd (k H locs ls hP hD hS hl)
theorem g_baldV {q j : Nat} (C : Cx φ g cc nL own rm) (hd : decode cc pc = .ok (.baload, 1)) (hq : q < 10) (hj : j < strLen.getD q 0) (hn : strLen.getD q 0 < 2 ^ 31) (k : Go φ g nL (pc + 1) lv (.int ((strByt.getD q []).getD j 0) :: st) ws) : Go φ g nL pc lv (.int (nI j) :: .ref (g.2.2.2 q) :: st) ws := fun H locs ls hP hD hS hl =>
  va_tb C.1 C.2.1 (C.2.2.2.2.2.2.2.1.1.1 q hq).2.2.2 hS (vp_in_nI hj hn) (by rw [nI_clamp (by omega)]) hd (k H locs ls hP hD hS hl)
theorem g_callK {q : Nat} (C : Cx φ g cc nL own rm) (hd : decode cc pc = .ok (.invokevirtual ix, 3)) (hml : Cond.methodLink own ix y ∈ TB) (M : MV y RJ0 bytes maxL ret n) (hq : q < 10) (hM : Ct g y bytes maxL ret rmc (.ref (g.2.2.1 q) :: As) [] post) (hf : Fit rmc maxL rm) (hn : As.length = n) (hst : st = As.reverse ++ .ref (g.2.2.1 q) :: rest) (hcat : (rest.map fun v => v.category).sum ≤ 8)
    (k : ∀ (r : Option Value) (w2 : va_W), post r w2 → Go φ g nL (pc + 3) lv (r.toList ++ rest) ws) : Go φ g nL pc lv st ws := fun H locs ls hP hD hS hl => by
  have hF := va_free (wc := []) hD hS C.2.2.2.2.2.2.1 [] rfl
  have hcw : CallW φ.1.2.2.2 φ.2.1.1 φ.2.1.2.2.1 own RJ0 ix y bytes maxL ret (wsM y bytes maxL ret) rmc 0 0 n := cwV n C.2.2.2.2.1 (good_ws (l := [.methodLink own ix y, .instanceMethod y, .selects RJ0 y y, .initialized RJ0]) (fun w hw => by
    simp only [List.mem_cons, List.not_mem_nil, or_false] at hw
    rcases hw with rfl | rfl | rfl | rfl
    · exact hml
    · exact M.1
    · exact M.2.1
    · exact M.2.2.1) M.2.2.2.1) rfl hf.1 hf.2.1 M.2.2.2.2 (by rw [C.2.2.2.2.2.2.2.2.2]; exact ⟨hf.2.2.1, hf.2.2.2⟩)
  have hrecv := vk_recv C.2.2.2.2.2.2.2.1.1 hq hS
  subst hst
  exact g_after0 C hP hD hS hl (va_runV (As := As) (rest := rest) (b := g.2.2.1 q) (C := RJ0) ⟨C.1, C.2.1, C.2.2.1, C.2.2.2.1, C.2.2.2.2.1⟩ (hM _ H.size) hcw ⟨pct_blind, hrecv, fun U hU hW => ⟨rfl, by rw [hU], fun k q h => by simp at h, va_K.moved hW.alike C.2.2.2.2.2.1, ⟨fun i j p q h => by simp at h, fun k q h => by simp at h⟩, C.2.2.2.2.2.2.2.1.to hS hU hW hF⟩⟩ rfl hn hl.1 rfl (lv_room hcat) hd ⟨Nat.zero_le _, Nat.zero_le _⟩) k
theorem g_k0i {q : Nat} {v : Int32} (C : Cx φ g cc nL own rm) (hd : decode cc pc = .ok (.invokevirtual ix, 3)) (hml : Cond.methodLink own ix y ∈ TB) (M : MV y RJ0 bytes maxL ret n) (hq : q < 10) (hM : Ct g y bytes maxL ret rmc (.ref (g.2.2.1 q) :: As) [] (fun r w2 => r = some (.int v) ∧ w2 = [])) (hf : Fit rmc maxL rm) (hn : As.length = n) (hst : st = As.reverse ++ .ref (g.2.2.1 q) :: rest) (hcat : (rest.map fun v => v.category).sum ≤ 8)
    (k : Go φ g nL (pc + 3) lv (.int v :: rest) ws) : Go φ g nL pc lv st ws := g_callK C hd hml M hq hM hf hn hst hcat (fun r w2 h => by obtain ⟨rfl, rfl⟩ := h; exact k)
theorem g_s0n (C : Cx φ g cc nL own rm) (hd : decode cc pc = .ok (.invokestatic ix, 3)) (hml : Cond.methodLink own ix y ∈ TB) (M : MS y bytes maxL ret n) (hM : Ct g y bytes maxL ret rmc As [] (fun r w2 => r = none ∧ w2 = [])) (hf : Fit rmc maxL rm) (hn : As.length = n) (hst : st = As.reverse ++ rest) (hcat : (rest.map fun v => v.category).sum ≤ 8)
    (k : Go φ g nL (pc + 3) lv rest ws) : Go φ g nL pc lv st ws := g_callS0 C hd hml M hM hf hn hst hcat (fun r w2 h => by obtain ⟨rfl, rfl⟩ := h; exact k)
end
def strWd : List (List Nat) := [[112, 97, 114, 116], [99, 111, 111, 107], [102, 114, 117, 103, 97, 108], [103, 114, 97, 110, 100], [119, 97, 116, 101, 114, 121], [115, 116, 97, 116, 117, 116, 101], [98, 108, 105, 116, 122], [112, 117, 116, 115], [119, 101, 105, 103, 104, 116], [109, 101, 114, 105, 116]]
def strCn : List Nat := [525908, 114155, 220896300, 7931332, 773461593, 21073909381, 2500250, 546451, 777297172, 13814068]
def strC (q : Nat) : Int64 := lN (strCn.getD q 0)
theorem sC0 : strC 0 = 525908 := by decide +kernel
theorem sC1 : strC 1 = 114155 := by decide +kernel
theorem sC2 : strC 2 = 220896300 := by decide +kernel
theorem sC3 : strC 3 = 7931332 := by decide +kernel
theorem sC4 : strC 4 = 773461593 := by decide +kernel
theorem sC5 : strC 5 = 21073909381 := by decide +kernel
theorem sC6 : strC 6 = 2500250 := by decide +kernel
theorem sC7 : strC 7 = 546451 := by decide +kernel
theorem sC8 : strC 8 = 777297172 := by decide +kernel
theorem sC9 : strC 9 = 13814068 := by decide +kernel
theorem str_all : ∀ q, q < 10 → ((strWd.getD q []).length = strLen.getD q 0 ∧ codN (ltr (strWd.getD q [])) 0 (strWd.getD q []).length = strCn.getD q 0 ∧ 0 < strCn.getD q 0 ∧ strCn.getD q 0 ≤ 36028797018963967 ∧ strLen.getD q 0 < 8 ∧ nI (strLen.getD q 0) >>> (nI 0 &&& 31) = nI (strLen.getD q 0) ∧ 0 < strLen.getD q 0) := by decide +kernel
theorem str_let : ∀ q, q < 10 → ∀ j, j < strLen.getD q 0 → (isL (ltr (strWd.getD q []) j) ∧ (((strByt.getD q []).getD j 0 &&& nI 255).toUInt32 % 65536).toInt32 = nI (ltr (strWd.getD q []) j)) := by decide +kernel
theorem nar_c : ∀ x, x < 128 → (nI x).toUInt32.toUInt16.toUInt32.toInt32 = nI x := by decide +kernel
theorem nar_char {x : Nat} (h : x < 128) : narrow .char (.int (nI x)) = .int (nI x) := congrArg Value.int (nar_c x h)
theorem j_coder (g : Gl) (q : Nat) (hq : q < 10) : Ct g yJ0_coder_7d493 cJ0_coder_7d493 1 (some .byte) (rk 0 0) [.ref (g.2.2.1 q)] [] (fun r w2 => r = some (.int (nI 0)) ∧ w2 = []) := by
  refine ct_of (by decide) (Nat.le_of_ble_eq_true rfl) ?_
  intro φ C0 Rr
  have C : Cx φ g cJ0_coder_7d493 1 RJ0 (rk 0 0) := C0
  show Go φ g 1 0 [(0, .ref (g.2.2.1 q))] [] []
  refine g_compact (pc := 0) C dJ0_coder_7d493_0 ?_
  refine g_if_eqN (pc := 3) (tgt := 13) C dJ0_coder_7d493_3 (by decide) (by decide) (fun h => absurd h (by decide)) (fun _ => ?_)
  refine g_aload_n (pc := 6) C dJ0_coder_7d493_6 rfl ?_
  refine g_getC (pc := 7) C dJ0_coder_7d493_7 hq ?_
  refine g_goto (pc := 10) (tgt := 14) C dJ0_coder_7d493_10 (by decide) ?_
  exact g_zret C Rr dJ0_coder_7d493_14 rfl ⟨rfl, rfl⟩ rfl
theorem j_latin (g : Gl) (q : Nat) (hq : q < 10) : Ct g yJ0_isLatin1_aae02 cJ0_isLatin1_aae02 1 (some .boolean) (rk 0 0) [.ref (g.2.2.1 q)] [] (fun r w2 => r = some (.int (nI 1)) ∧ w2 = []) := by
  refine ct_of (by decide) (Nat.le_of_ble_eq_true rfl) ?_
  intro φ C0 Rr
  have C : Cx φ g cJ0_isLatin1_aae02 1 RJ0 (rk 0 0) := C0
  show Go φ g 1 0 [(0, .ref (g.2.2.1 q))] [] []
  refine g_compact (pc := 0) C dJ0_isLatin1_aae02_0 ?_
  refine g_if_eqN (pc := 3) (tgt := 17) C dJ0_isLatin1_aae02_3 (by decide) (by decide) (fun h => absurd h (by decide)) (fun _ => ?_)
  refine g_aload_n (pc := 6) C dJ0_isLatin1_aae02_6 rfl ?_
  refine g_getC (pc := 7) C dJ0_isLatin1_aae02_7 hq ?_
  refine g_if_neN (pc := 10) (tgt := 17) C dJ0_isLatin1_aae02_10 (by decide) (by decide) (fun h => absurd h (by decide)) (fun _ => ?_)
  refine g_iconst (pc := 13) (v := nI 1) C dJ0_isLatin1_aae02_13 (by decide) ?_
  refine g_goto (pc := 14) (tgt := 18) C dJ0_isLatin1_aae02_14 (by decide) ?_
  exact g_zret C Rr dJ0_isLatin1_aae02_18 rfl ⟨rfl, rfl⟩ rfl
theorem j_length (g : Gl) (q : Nat) (hq : q < 10) : Ct g yJ0_length_8abf5 cJ0_length_8abf5 1 (some .int) (rk 1 20) [.ref (g.2.2.1 q)] [] (fun r w2 => r = some (.int (nI (strLen.getD q 0))) ∧ w2 = []) := by
  refine ct_of (by decide) (Nat.le_of_ble_eq_true rfl) ?_
  intro φ C0 Rr
  have C : Cx φ g cJ0_length_8abf5 1 RJ0 (rk 1 20) := C0
  show Go φ g 1 0 [(0, .ref (g.2.2.1 q))] [] []
  refine g_aload_n (pc := 0) C dJ0_length_8abf5_0 rfl ?_
  refine g_getV (pc := 1) C dJ0_length_8abf5_1 hq ?_
  refine g_alenV (pc := 4) C dJ0_length_8abf5_4 hq ?_
  refine g_aload_n (pc := 5) C dJ0_length_8abf5_5 rfl ?_
  refine g_k0i (pc := 6) C dJ0_length_8abf5_6 ml_J0_335 mf_J0_coder_7d493 hq (j_coder g q hq) ⟨rfl, rfl, (Nat.le_of_ble_eq_true rfl), (Nat.le_of_ble_eq_true rfl)⟩ rfl rfl (Nat.le_of_ble_eq_true rfl) ?_
  refine g_ishr (pc := 9) C dJ0_length_8abf5_9 ?_
  refine g_top (y := nI (strLen.getD q 0)) (str_all q hq).2.2.2.2.2.1 ?_
  exact g_iret C Rr dJ0_length_8abf5_10 ⟨rfl, rfl⟩ rfl
theorem j_check3 (g : Gl) (j n : Nat) (v : Value) (hv : v = .null ∨ ∃ t, v = .ref t) (hj : j < n) (hn : n < 2 ^ 31) : Ct g yJ3_checkIndex_8e157 cJ3_checkIndex_8e157 3 (some .int) (rk 0 0) [.int (nI j), .int (nI n), v] [] (fun r w2 => r = some (.int (nI j)) ∧ w2 = []) := by
  have hlen : (lg_sl [.int (nI j), .int (nI n), v]).length ≤ 3 := by
    rcases hv with rfl | ⟨t, rfl⟩
    · exact Nat.le_of_ble_eq_true rfl
    · exact Nat.le_of_ble_eq_true rfl
  refine ct_of (by decide) hlen ?_
  intro φ C0 Rr
  have C : Cx φ g cJ3_checkIndex_8e157 3 RJ3 (rk 0 0) := C0
  show Go φ g 3 0 [(0, .int (nI j)), (1, .int (nI n)), (2, v)] [] []
  refine g_iload_n (pc := 0) C dJ3_checkIndex_8e157_0 rfl ?_
  refine g_if_ltN (pc := 1) (tgt := 9) C dJ3_checkIndex_8e157_1 (by decide) (by omega) (fun h => h.elim) (fun _ => ?_)
  refine g_iload_n (pc := 4) C dJ3_checkIndex_8e157_4 rfl ?_
  refine g_iload_n (pc := 5) C dJ3_checkIndex_8e157_5 rfl ?_
  refine g_icmp_ltN (pc := 6) (tgt := 16) C dJ3_checkIndex_8e157_6 (by decide) (by omega) hn (fun _ => ?_) (fun h => absurd h (by omega))
  refine g_iload_n (pc := 16) C dJ3_checkIndex_8e157_16 rfl ?_
  exact g_iret C Rr dJ3_checkIndex_8e157_17 ⟨rfl, rfl⟩ rfl
theorem j_check (g : Gl) (j n : Nat) (hj : j < n) (hn : n < 2 ^ 31) : Ct g yJ0_checkIndex_df160 cJ0_checkIndex_df160 2 none (rk 1 22) [.int (nI j), .int (nI n)] [] (fun r w2 => r = none ∧ w2 = []) := by
  refine ct_of (by decide) (Nat.le_of_ble_eq_true rfl) ?_
  intro φ C0 Rr
  have C : Cx φ g cJ0_checkIndex_df160 2 RJ0 (rk 1 22) := C0
  show Go φ g 2 0 [(0, .int (nI j)), (1, .int (nI n))] [] []
  refine g_iload_n (pc := 0) C dJ0_checkIndex_df160_0 rfl ?_
  refine g_iload_n (pc := 1) C dJ0_checkIndex_df160_1 rfl ?_
  refine g_sioobe (pc := 2) C dJ0_checkIndex_df160_2 (fun v hv => ?_)
  refine g_s0i (pc := 5) (As := [.int (nI j), .int (nI n), v]) (rest := []) C dJ0_checkIndex_df160_5 ml_J0_1059 mf_J3_checkIndex_8e157 (j_check3 g j n v hv hj hn) ⟨rfl, rfl, (Nat.le_of_ble_eq_true rfl), (Nat.le_of_ble_eq_true rfl)⟩ rfl rfl (Nat.le_of_ble_eq_true rfl) ?_
  refine g_pop (pc := 8) C dJ0_checkIndex_df160_8 rfl ?_
  exact g_vret C Rr dJ0_checkIndex_df160_9 ⟨rfl, rfl⟩ rfl
theorem j_char1 (g : Gl) (q j : Nat) (hq : q < 10) (hj : j < strLen.getD q 0) : Ct g yJ1_charAt_3b067 cJ1_charAt_3b067 2 (some .char) (rk 2 43) [.ref (g.2.2.2 q), .int (nI j)] [] (fun r w2 => r = some (.int (nI (ltr (strWd.getD q []) j))) ∧ w2 = []) := by
  have hs := str_all q hq
  have hn : strLen.getD q 0 < 2 ^ 31 := by omega
  have hl := str_let q hq j hj
  refine ct_of (by decide) (Nat.le_of_ble_eq_true rfl) ?_
  intro φ C0 Rr
  have C : Cx φ g cJ1_charAt_3b067 2 RJ1 (rk 2 43) := C0
  show Go φ g 2 0 [(0, .ref (g.2.2.2 q)), (1, .int (nI j))] [] []
  refine g_iload_n (pc := 0) C dJ1_charAt_3b067_0 rfl ?_
  refine g_aload_n (pc := 1) C dJ1_charAt_3b067_1 rfl ?_
  refine g_alenV (pc := 2) C dJ1_charAt_3b067_2 hq ?_
  refine g_s0n (pc := 3) (As := [.int (nI j), .int (nI (strLen.getD q 0))]) (rest := []) C dJ1_charAt_3b067_3 ml_J1_9 mf_J0_checkIndex_df160 (j_check g j (strLen.getD q 0) hj hn) ⟨rfl, rfl, (Nat.le_of_ble_eq_true rfl), (Nat.le_of_ble_eq_true rfl)⟩ rfl rfl (Nat.le_of_ble_eq_true rfl) ?_
  refine g_aload_n (pc := 6) C dJ1_charAt_3b067_6 rfl ?_
  refine g_iload_n (pc := 7) C dJ1_charAt_3b067_7 rfl ?_
  refine g_baldV (pc := 8) C dJ1_charAt_3b067_8 hq hj hn ?_
  refine g_sipush (pc := 9) (v := nI 255) C dJ1_charAt_3b067_9 (by decide) ?_
  refine g_iand (pc := 12) C dJ1_charAt_3b067_12 ?_
  refine g_i2c (pc := 13) C dJ1_charAt_3b067_13 ?_
  refine g_top (y := nI (ltr (strWd.getD q []) j)) hl.2 ?_
  exact g_zret C Rr dJ1_charAt_3b067_14 (nar_char (by have := hl.1; omega)) ⟨rfl, rfl⟩ rfl
theorem j_charAt (g : Gl) (q j : Nat) (hq : q < 10) (hj : j < strLen.getD q 0) : Ct g yJ0_charAt_5068e cJ0_charAt_5068e 2 (some .char) (rk 3 64) [.ref (g.2.2.1 q), .int (nI j)] [] (fun r w2 => r = some (.int (nI (ltr (strWd.getD q []) j))) ∧ w2 = []) := by
  have hl := str_let q hq j hj
  refine ct_of (by decide) (Nat.le_of_ble_eq_true rfl) ?_
  intro φ C0 Rr
  have C : Cx φ g cJ0_charAt_5068e 2 RJ0 (rk 3 64) := C0
  show Go φ g 2 0 [(0, .ref (g.2.2.1 q)), (1, .int (nI j))] [] []
  refine g_aload_n (pc := 0) C dJ0_charAt_5068e_0 rfl ?_
  refine g_k0i (pc := 1) C dJ0_charAt_5068e_1 ml_J0_492 mf_J0_isLatin1_aae02 hq (j_latin g q hq) ⟨rfl, rfl, (Nat.le_of_ble_eq_true rfl), (Nat.le_of_ble_eq_true rfl)⟩ rfl rfl (Nat.le_of_ble_eq_true rfl) ?_
  refine g_if_eqN (pc := 4) (tgt := 16) C dJ0_charAt_5068e_4 (by decide) (by decide) (fun h => absurd h (by decide)) (fun _ => ?_)
  refine g_aload_n (pc := 7) C dJ0_charAt_5068e_7 rfl ?_
  refine g_getV (pc := 8) C dJ0_charAt_5068e_8 hq ?_
  refine g_iload_n (pc := 11) C dJ0_charAt_5068e_11 rfl ?_
  refine g_s0i (pc := 12) (As := [.ref (g.2.2.2 q), .int (nI j)]) (rest := []) C dJ0_charAt_5068e_12 ml_J0_495 mf_J1_charAt_3b067 (j_char1 g q j hq hj) ⟨rfl, rfl, (Nat.le_of_ble_eq_true rfl), (Nat.le_of_ble_eq_true rfl)⟩ rfl rfl (Nat.le_of_ble_eq_true rfl) ?_
  exact g_zret C Rr dJ0_charAt_5068e_15 (nar_char (by have := hl.1; omega)) ⟨rfl, rfl⟩ rfl
/-! words of the tape -/
theorem cod_lt {tb : Nat → Nat} (h : ∀ j, tb j < 256) (k : Nat) : ∀ m, codN tb k m < 2 ^ 61
  | 0 => by rw [codN]; decide
  | m + 1 => by
    have ih := cod_lt h k m
    have := h (k + m)
    rw [codN]
    split
    · exact ih
    · omega
theorem wd_iff {tb : Nat → Nat} {tn fr q : Nat} (htb : ∀ j, tb j < 256) (hq : q < 10) : wdL tb tn fr (tkE tb tn fr) = strC q ↔ isW tb tn fr (tkE tb tn fr) (strWd.getD q []) := by
  obtain ⟨h1, h2, h3, h4, h5, -, h6⟩ := str_all q hq
  exact wrd_iff (strWd.getD q []) rfl h3 h4 h2 (fun i hi => by rw [Nat.zero_add]; exact (str_let q hq i (by omega)).1) (cod_lt htb fr)
theorem tkT_le (tb : Nat → Nat) (tn a : Nat) : tkT tb tn a ≤ 4 := by
  unfold tkT
  split
  · decide
  split
  · decide
  split
  · decide
  split <;> decide
theorem tkT1 {tb : Nat → Nat} {tn a : Nat} : tkT tb tn a = 1 ↔ (a < tn ∧ isL (tb a)) := by
  unfold tkT
  split
  · omega
  split
  · omega
  split
  · omega
  split <;> omega
theorem tkT0 {tb : Nat → Nat} {tn a : Nat} : tkT tb tn a = 0 ↔ tn ≤ a := by
  unfold tkT
  split
  · omega
  split
  · omega
  split
  · omega
  split <;> omega
theorem tkT2 {tb : Nat → Nat} {tn a : Nat} : tkT tb tn a = 2 ↔ (a < tn ∧ isD (tb a)) := by
  unfold tkT
  split
  · omega
  split
  · omega
  split
  · omega
  split <;> omega
theorem tkT3 {tb : Nat → Nat} {tn a : Nat} : tkT tb tn a = 3 ↔ (a < tn ∧ tb a = 59) := by
  unfold tkT
  split
  · omega
  split
  · omega
  split
  · omega
  split <;> omega
theorem num_min {tb : Nat → Nat} {k : Nat} : ∀ m, (∀ j, j < m → isD (tb (k + j))) → numV tb k m = min (refV tb k m) 10000
  | 0, _ => by rw [numV, refV]; decide
  | m + 1, h => by
    have hd := h m (by omega)
    rw [numV, refV, num_min m (fun j hj => h j (by omega))]
    split <;> omega
theorem tkV_d {tb : Nat → Nat} {tn a v : Nat} (h : a < tn ∧ isD (tb a)) : tkV tb tn a v = min (numP tb tn a) 10000 := by
  have hall := tk_dig (to := tkE tb tn a) rfl h
  have e : tkE tb tn a = endE (fun j => isD (tb j)) tn a := by rw [tkE, if_neg (by omega), if_neg (by omega), if_pos h.2]
  rw [tkV, if_neg (by omega), if_neg (by omega), if_pos h.2, ← e]
  exact num_min _ (fun j hj => hall _ (by omega) (by omega))
theorem tkV_ok {tb : Nat → Nat} {tn a v h : Nat} (hh : h ≤ 9999) : (tkT tb tn a = 2 ∧ tkV tb tn a v ≤ h) ↔ nOk tb tn a (tkE tb tn a) h := by
  constructor
  · intro z
    have z1 := tkT2.mp z.1
    have z2 := z.2
    rw [tkV_d z1] at z2
    exact ⟨z1, show numP tb tn a ≤ h by omega⟩
  · intro z
    refine ⟨tkT2.mpr z.1, ?_⟩
    have z2 : numP tb tn a ≤ h := z.2
    rw [tkV_d z.1]
    omega
theorem tkV_num {tb : Nat → Nat} {tn a v h : Nat} (hh : h ≤ 9999) (z : nOk tb tn a (tkE tb tn a) h) : tkV tb tn a v = numP tb tn a := by
  have z2 : numP tb tn a ≤ h := z.2
  rw [tkV_d z.1]
  omega
