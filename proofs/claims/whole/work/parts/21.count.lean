section
variable {φ : Fx} {g : Gl} {cc : ByteArray} {nL pc : Nat} {own : String} {rm : Room} {lv : List (Nat × Value)} {st : List Value} {ws : va_W}
theorem g_ldc_w {ix : Nat} {v v2 : Int32} (C : Cx φ g cc nL own rm) (hd : decode cc pc = .ok (.ldc_w ix, 3)) (hm : Cond.constant own ix v ∈ TB) (hv : v = v2) (k : Go φ g nL (pc + 3) lv (.int v2 :: st) ws) : Go φ g nL pc lv st ws := fun H locs ls hP hD hS hl => by subst hv; exact lv_ldcw C.1 C.2.1 C.2.2.2.1 (C.2.2.2.2.1 _ hm) hd (k H locs ls hP hD hS hl)
end
def bcE (x : Int32) : Int32 := (((((((x - (((x.toUInt32 >>> ((nI 1).toUInt32 &&& Int32.toUInt32 31)).toInt32) &&& (nI 1431655765))) &&& (nI 858993459)) + ((((x - (((x.toUInt32 >>> ((nI 1).toUInt32 &&& Int32.toUInt32 31)).toInt32) &&& (nI 1431655765))).toUInt32 >>> ((nI 2).toUInt32 &&& Int32.toUInt32 31)).toInt32) &&& (nI 858993459))) + (((((x - (((x.toUInt32 >>> ((nI 1).toUInt32 &&& Int32.toUInt32 31)).toInt32) &&& (nI 1431655765))) &&& (nI 858993459)) + ((((x - (((x.toUInt32 >>> ((nI 1).toUInt32 &&& Int32.toUInt32 31)).toInt32) &&& (nI 1431655765))).toUInt32 >>> ((nI 2).toUInt32 &&& Int32.toUInt32 31)).toInt32) &&& (nI 858993459))).toUInt32 >>> ((nI 4).toUInt32 &&& Int32.toUInt32 31)).toInt32)) &&& (nI 252645135)) + (((((((x - (((x.toUInt32 >>> ((nI 1).toUInt32 &&& Int32.toUInt32 31)).toInt32) &&& (nI 1431655765))) &&& (nI 858993459)) + ((((x - (((x.toUInt32 >>> ((nI 1).toUInt32 &&& Int32.toUInt32 31)).toInt32) &&& (nI 1431655765))).toUInt32 >>> ((nI 2).toUInt32 &&& Int32.toUInt32 31)).toInt32) &&& (nI 858993459))) + (((((x - (((x.toUInt32 >>> ((nI 1).toUInt32 &&& Int32.toUInt32 31)).toInt32) &&& (nI 1431655765))) &&& (nI 858993459)) + ((((x - (((x.toUInt32 >>> ((nI 1).toUInt32 &&& Int32.toUInt32 31)).toInt32) &&& (nI 1431655765))).toUInt32 >>> ((nI 2).toUInt32 &&& Int32.toUInt32 31)).toInt32) &&& (nI 858993459))).toUInt32 >>> ((nI 4).toUInt32 &&& Int32.toUInt32 31)).toInt32)) &&& (nI 252645135)).toUInt32 >>> ((nI 8).toUInt32 &&& Int32.toUInt32 31)).toInt32)) + ((((((((x - (((x.toUInt32 >>> ((nI 1).toUInt32 &&& Int32.toUInt32 31)).toInt32) &&& (nI 1431655765))) &&& (nI 858993459)) + ((((x - (((x.toUInt32 >>> ((nI 1).toUInt32 &&& Int32.toUInt32 31)).toInt32) &&& (nI 1431655765))).toUInt32 >>> ((nI 2).toUInt32 &&& Int32.toUInt32 31)).toInt32) &&& (nI 858993459))) + (((((x - (((x.toUInt32 >>> ((nI 1).toUInt32 &&& Int32.toUInt32 31)).toInt32) &&& (nI 1431655765))) &&& (nI 858993459)) + ((((x - (((x.toUInt32 >>> ((nI 1).toUInt32 &&& Int32.toUInt32 31)).toInt32) &&& (nI 1431655765))).toUInt32 >>> ((nI 2).toUInt32 &&& Int32.toUInt32 31)).toInt32) &&& (nI 858993459))).toUInt32 >>> ((nI 4).toUInt32 &&& Int32.toUInt32 31)).toInt32)) &&& (nI 252645135)) + (((((((x - (((x.toUInt32 >>> ((nI 1).toUInt32 &&& Int32.toUInt32 31)).toInt32) &&& (nI 1431655765))) &&& (nI 858993459)) + ((((x - (((x.toUInt32 >>> ((nI 1).toUInt32 &&& Int32.toUInt32 31)).toInt32) &&& (nI 1431655765))).toUInt32 >>> ((nI 2).toUInt32 &&& Int32.toUInt32 31)).toInt32) &&& (nI 858993459))) + (((((x - (((x.toUInt32 >>> ((nI 1).toUInt32 &&& Int32.toUInt32 31)).toInt32) &&& (nI 1431655765))) &&& (nI 858993459)) + ((((x - (((x.toUInt32 >>> ((nI 1).toUInt32 &&& Int32.toUInt32 31)).toInt32) &&& (nI 1431655765))).toUInt32 >>> ((nI 2).toUInt32 &&& Int32.toUInt32 31)).toInt32) &&& (nI 858993459))).toUInt32 >>> ((nI 4).toUInt32 &&& Int32.toUInt32 31)).toInt32)) &&& (nI 252645135)).toUInt32 >>> ((nI 8).toUInt32 &&& Int32.toUInt32 31)).toInt32)).toUInt32 >>> ((nI 16).toUInt32 &&& Int32.toUInt32 31)).toInt32)) &&& (nI 63)
def popN (s : Nat) : Nat → Nat
  | 0 => 0
  | p + 1 => popN s p + s / 2 ^ p % 2
theorem bc_pop0 : ∀ a : Nat, a < 64 → ∀ b : Nat, b < 64 → bcE (nI (64 * a + b)) = nI (popN (64 * a + b) 12) := by decide +kernel
theorem bc_pop (s : Nat) (h : s < 4096) : bcE (nI s) = nI (popN s 12) := by
  have := bc_pop0 (s / 64) (by omega) (s % 64) (by omega)
  rw [show 64 * (s / 64) + s % 64 = s by omega] at this
  exact this
theorem mask_bit (gr : Nat → Nat) {p : Nat} : ∀ n, p < n → maskN gr n / 2 ^ p % 2 = if 0 < gr p then 1 else 0
  | 0, h => absurd h (Nat.not_lt_zero p)
  | n + 1, h => by
    rw [maskN]
    rcases Nat.lt_or_ge p n with q | q
    · have ih := mask_bit gr n q
      have e : (2 : Nat) ^ n = 2 ^ p * (2 * 2 ^ (n - p - 1)) := by
        rw [← Nat.pow_succ', ← Nat.pow_add]
        congr 1
        omega
      split
      · rw [e, Nat.add_mul_div_left _ _ (Nat.two_pow_pos p), Nat.add_mul_mod_self_left]
        exact ih
      · exact ih
    · have e : p = n := by omega
      subst e
      have hlt := maskN_lt gr p
      split
      · rw [Nat.add_div_right _ (Nat.two_pow_pos p), Nat.div_eq_of_lt hlt]
      · rw [Nat.add_zero, Nat.div_eq_of_lt hlt]
theorem pop_zeros (gr : Nat → Nat) : ∀ n, n ≤ 12 → popN (maskN gr 12) n + zerosN gr n = n
  | 0, _ => rfl
  | n + 1, h => by
    have ih := pop_zeros gr n (by omega)
    rw [popN, zerosN, mask_bit gr 12 (by omega)]
    by_cases z : gr n = 0
    · rw [if_neg (by omega), if_pos z]; omega
    · rw [if_pos (by omega), if_neg z]; omega
theorem bc_mask (gr : Nat → Nat) : nI 12 - bcE (nI (maskN gr 12)) = nI (zerosN gr 12) := by
  have h := pop_zeros gr 12 (Nat.le_refl _)
  rw [bc_pop _ (maskN_lt gr 12), pk_sub (by omega)]
  congr 1
  omega
set_option maxHeartbeats 400000 in
set_option maxRecDepth 100000 in
theorem c_bitCount (g : Gl) (x : Int32)  : Ct g yJ6_bitCount_0f7a4 cJ6_bitCount_0f7a4 1 (some .int) (rk 0 0) [.int x] ([]) (fun r w2 => r = some (.int (bcE x)) ∧ w2 = []) := by
  refine ct_of (by decide) (Nat.le_of_ble_eq_true rfl) ?_
  intro φ C0 Rr
  have C : Cx φ g cJ6_bitCount_0f7a4 1 RJ6 (rk 0 0) := C0
  show Go φ g 1 0 [(0, .int x)] [] ([])
  refine g_iload_n (pc := 0) C dJ6_bitCount_0f7a4_0 rfl ?_
  refine g_iload_n (pc := 1) C dJ6_bitCount_0f7a4_1 rfl ?_
  refine g_iconst (pc := 2) (v := nI 1) C dJ6_bitCount_0f7a4_2 (by decide) ?_
  refine g_iushr (pc := 3) C dJ6_bitCount_0f7a4_3 ?_
  refine g_ldc_w (pc := 4) (v2 := nI 1431655765) C dJ6_bitCount_0f7a4_4 ck_J6_265 (by decide) ?_
  refine g_iand (pc := 7) C dJ6_bitCount_0f7a4_7 ?_
  refine g_isub (pc := 8) C dJ6_bitCount_0f7a4_8 ?_
  refine g_istore_n (pc := 9) (lv2 := [(0, .int (x - (((x.toUInt32 >>> ((nI 1).toUInt32 &&& Int32.toUInt32 31)).toInt32) &&& (nI 1431655765))))]) C dJ6_bitCount_0f7a4_9 rfl (Nat.le_of_ble_eq_true rfl) rfl ?_
  refine g_iload_n (pc := 10) C dJ6_bitCount_0f7a4_10 rfl ?_
  refine g_ldc_w (pc := 11) (v2 := nI 858993459) C dJ6_bitCount_0f7a4_11 ck_J6_266 (by decide) ?_
  refine g_iand (pc := 14) C dJ6_bitCount_0f7a4_14 ?_
  refine g_iload_n (pc := 15) C dJ6_bitCount_0f7a4_15 rfl ?_
  refine g_iconst (pc := 16) (v := nI 2) C dJ6_bitCount_0f7a4_16 (by decide) ?_
  refine g_iushr (pc := 17) C dJ6_bitCount_0f7a4_17 ?_
  refine g_ldc_w (pc := 18) (v2 := nI 858993459) C dJ6_bitCount_0f7a4_18 ck_J6_266 (by decide) ?_
  refine g_iand (pc := 21) C dJ6_bitCount_0f7a4_21 ?_
  refine g_iadd (pc := 22) C dJ6_bitCount_0f7a4_22 ?_
  refine g_istore_n (pc := 23) (lv2 := [(0, .int (((x - (((x.toUInt32 >>> ((nI 1).toUInt32 &&& Int32.toUInt32 31)).toInt32) &&& (nI 1431655765))) &&& (nI 858993459)) + ((((x - (((x.toUInt32 >>> ((nI 1).toUInt32 &&& Int32.toUInt32 31)).toInt32) &&& (nI 1431655765))).toUInt32 >>> ((nI 2).toUInt32 &&& Int32.toUInt32 31)).toInt32) &&& (nI 858993459))))]) C dJ6_bitCount_0f7a4_23 rfl (Nat.le_of_ble_eq_true rfl) rfl ?_
  refine g_iload_n (pc := 24) C dJ6_bitCount_0f7a4_24 rfl ?_
  refine g_iload_n (pc := 25) C dJ6_bitCount_0f7a4_25 rfl ?_
  refine g_iconst (pc := 26) (v := nI 4) C dJ6_bitCount_0f7a4_26 (by decide) ?_
  refine g_iushr (pc := 27) C dJ6_bitCount_0f7a4_27 ?_
  refine g_iadd (pc := 28) C dJ6_bitCount_0f7a4_28 ?_
  refine g_ldc_w (pc := 29) (v2 := nI 252645135) C dJ6_bitCount_0f7a4_29 ck_J6_267 (by decide) ?_
  refine g_iand (pc := 32) C dJ6_bitCount_0f7a4_32 ?_
  refine g_istore_n (pc := 33) (lv2 := [(0, .int (((((x - (((x.toUInt32 >>> ((nI 1).toUInt32 &&& Int32.toUInt32 31)).toInt32) &&& (nI 1431655765))) &&& (nI 858993459)) + ((((x - (((x.toUInt32 >>> ((nI 1).toUInt32 &&& Int32.toUInt32 31)).toInt32) &&& (nI 1431655765))).toUInt32 >>> ((nI 2).toUInt32 &&& Int32.toUInt32 31)).toInt32) &&& (nI 858993459))) + (((((x - (((x.toUInt32 >>> ((nI 1).toUInt32 &&& Int32.toUInt32 31)).toInt32) &&& (nI 1431655765))) &&& (nI 858993459)) + ((((x - (((x.toUInt32 >>> ((nI 1).toUInt32 &&& Int32.toUInt32 31)).toInt32) &&& (nI 1431655765))).toUInt32 >>> ((nI 2).toUInt32 &&& Int32.toUInt32 31)).toInt32) &&& (nI 858993459))).toUInt32 >>> ((nI 4).toUInt32 &&& Int32.toUInt32 31)).toInt32)) &&& (nI 252645135)))]) C dJ6_bitCount_0f7a4_33 rfl (Nat.le_of_ble_eq_true rfl) rfl ?_
  refine g_iload_n (pc := 34) C dJ6_bitCount_0f7a4_34 rfl ?_
  refine g_iload_n (pc := 35) C dJ6_bitCount_0f7a4_35 rfl ?_
  refine g_bipush (pc := 36) (v := nI 8) C dJ6_bitCount_0f7a4_36 (by decide) ?_
  refine g_iushr (pc := 38) C dJ6_bitCount_0f7a4_38 ?_
  refine g_iadd (pc := 39) C dJ6_bitCount_0f7a4_39 ?_
  refine g_istore_n (pc := 40) (lv2 := [(0, .int ((((((x - (((x.toUInt32 >>> ((nI 1).toUInt32 &&& Int32.toUInt32 31)).toInt32) &&& (nI 1431655765))) &&& (nI 858993459)) + ((((x - (((x.toUInt32 >>> ((nI 1).toUInt32 &&& Int32.toUInt32 31)).toInt32) &&& (nI 1431655765))).toUInt32 >>> ((nI 2).toUInt32 &&& Int32.toUInt32 31)).toInt32) &&& (nI 858993459))) + (((((x - (((x.toUInt32 >>> ((nI 1).toUInt32 &&& Int32.toUInt32 31)).toInt32) &&& (nI 1431655765))) &&& (nI 858993459)) + ((((x - (((x.toUInt32 >>> ((nI 1).toUInt32 &&& Int32.toUInt32 31)).toInt32) &&& (nI 1431655765))).toUInt32 >>> ((nI 2).toUInt32 &&& Int32.toUInt32 31)).toInt32) &&& (nI 858993459))).toUInt32 >>> ((nI 4).toUInt32 &&& Int32.toUInt32 31)).toInt32)) &&& (nI 252645135)) + (((((((x - (((x.toUInt32 >>> ((nI 1).toUInt32 &&& Int32.toUInt32 31)).toInt32) &&& (nI 1431655765))) &&& (nI 858993459)) + ((((x - (((x.toUInt32 >>> ((nI 1).toUInt32 &&& Int32.toUInt32 31)).toInt32) &&& (nI 1431655765))).toUInt32 >>> ((nI 2).toUInt32 &&& Int32.toUInt32 31)).toInt32) &&& (nI 858993459))) + (((((x - (((x.toUInt32 >>> ((nI 1).toUInt32 &&& Int32.toUInt32 31)).toInt32) &&& (nI 1431655765))) &&& (nI 858993459)) + ((((x - (((x.toUInt32 >>> ((nI 1).toUInt32 &&& Int32.toUInt32 31)).toInt32) &&& (nI 1431655765))).toUInt32 >>> ((nI 2).toUInt32 &&& Int32.toUInt32 31)).toInt32) &&& (nI 858993459))).toUInt32 >>> ((nI 4).toUInt32 &&& Int32.toUInt32 31)).toInt32)) &&& (nI 252645135)).toUInt32 >>> ((nI 8).toUInt32 &&& Int32.toUInt32 31)).toInt32)))]) C dJ6_bitCount_0f7a4_40 rfl (Nat.le_of_ble_eq_true rfl) rfl ?_
  refine g_iload_n (pc := 41) C dJ6_bitCount_0f7a4_41 rfl ?_
  refine g_iload_n (pc := 42) C dJ6_bitCount_0f7a4_42 rfl ?_
  refine g_bipush (pc := 43) (v := nI 16) C dJ6_bitCount_0f7a4_43 (by decide) ?_
  refine g_iushr (pc := 45) C dJ6_bitCount_0f7a4_45 ?_
  refine g_iadd (pc := 46) C dJ6_bitCount_0f7a4_46 ?_
  refine g_istore_n (pc := 47) (lv2 := [(0, .int (((((((x - (((x.toUInt32 >>> ((nI 1).toUInt32 &&& Int32.toUInt32 31)).toInt32) &&& (nI 1431655765))) &&& (nI 858993459)) + ((((x - (((x.toUInt32 >>> ((nI 1).toUInt32 &&& Int32.toUInt32 31)).toInt32) &&& (nI 1431655765))).toUInt32 >>> ((nI 2).toUInt32 &&& Int32.toUInt32 31)).toInt32) &&& (nI 858993459))) + (((((x - (((x.toUInt32 >>> ((nI 1).toUInt32 &&& Int32.toUInt32 31)).toInt32) &&& (nI 1431655765))) &&& (nI 858993459)) + ((((x - (((x.toUInt32 >>> ((nI 1).toUInt32 &&& Int32.toUInt32 31)).toInt32) &&& (nI 1431655765))).toUInt32 >>> ((nI 2).toUInt32 &&& Int32.toUInt32 31)).toInt32) &&& (nI 858993459))).toUInt32 >>> ((nI 4).toUInt32 &&& Int32.toUInt32 31)).toInt32)) &&& (nI 252645135)) + (((((((x - (((x.toUInt32 >>> ((nI 1).toUInt32 &&& Int32.toUInt32 31)).toInt32) &&& (nI 1431655765))) &&& (nI 858993459)) + ((((x - (((x.toUInt32 >>> ((nI 1).toUInt32 &&& Int32.toUInt32 31)).toInt32) &&& (nI 1431655765))).toUInt32 >>> ((nI 2).toUInt32 &&& Int32.toUInt32 31)).toInt32) &&& (nI 858993459))) + (((((x - (((x.toUInt32 >>> ((nI 1).toUInt32 &&& Int32.toUInt32 31)).toInt32) &&& (nI 1431655765))) &&& (nI 858993459)) + ((((x - (((x.toUInt32 >>> ((nI 1).toUInt32 &&& Int32.toUInt32 31)).toInt32) &&& (nI 1431655765))).toUInt32 >>> ((nI 2).toUInt32 &&& Int32.toUInt32 31)).toInt32) &&& (nI 858993459))).toUInt32 >>> ((nI 4).toUInt32 &&& Int32.toUInt32 31)).toInt32)) &&& (nI 252645135)).toUInt32 >>> ((nI 8).toUInt32 &&& Int32.toUInt32 31)).toInt32)) + ((((((((x - (((x.toUInt32 >>> ((nI 1).toUInt32 &&& Int32.toUInt32 31)).toInt32) &&& (nI 1431655765))) &&& (nI 858993459)) + ((((x - (((x.toUInt32 >>> ((nI 1).toUInt32 &&& Int32.toUInt32 31)).toInt32) &&& (nI 1431655765))).toUInt32 >>> ((nI 2).toUInt32 &&& Int32.toUInt32 31)).toInt32) &&& (nI 858993459))) + (((((x - (((x.toUInt32 >>> ((nI 1).toUInt32 &&& Int32.toUInt32 31)).toInt32) &&& (nI 1431655765))) &&& (nI 858993459)) + ((((x - (((x.toUInt32 >>> ((nI 1).toUInt32 &&& Int32.toUInt32 31)).toInt32) &&& (nI 1431655765))).toUInt32 >>> ((nI 2).toUInt32 &&& Int32.toUInt32 31)).toInt32) &&& (nI 858993459))).toUInt32 >>> ((nI 4).toUInt32 &&& Int32.toUInt32 31)).toInt32)) &&& (nI 252645135)) + (((((((x - (((x.toUInt32 >>> ((nI 1).toUInt32 &&& Int32.toUInt32 31)).toInt32) &&& (nI 1431655765))) &&& (nI 858993459)) + ((((x - (((x.toUInt32 >>> ((nI 1).toUInt32 &&& Int32.toUInt32 31)).toInt32) &&& (nI 1431655765))).toUInt32 >>> ((nI 2).toUInt32 &&& Int32.toUInt32 31)).toInt32) &&& (nI 858993459))) + (((((x - (((x.toUInt32 >>> ((nI 1).toUInt32 &&& Int32.toUInt32 31)).toInt32) &&& (nI 1431655765))) &&& (nI 858993459)) + ((((x - (((x.toUInt32 >>> ((nI 1).toUInt32 &&& Int32.toUInt32 31)).toInt32) &&& (nI 1431655765))).toUInt32 >>> ((nI 2).toUInt32 &&& Int32.toUInt32 31)).toInt32) &&& (nI 858993459))).toUInt32 >>> ((nI 4).toUInt32 &&& Int32.toUInt32 31)).toInt32)) &&& (nI 252645135)).toUInt32 >>> ((nI 8).toUInt32 &&& Int32.toUInt32 31)).toInt32)).toUInt32 >>> ((nI 16).toUInt32 &&& Int32.toUInt32 31)).toInt32)))]) C dJ6_bitCount_0f7a4_47 rfl (Nat.le_of_ble_eq_true rfl) rfl ?_
  refine g_iload_n (pc := 48) C dJ6_bitCount_0f7a4_48 rfl ?_
  refine g_bipush (pc := 49) (v := nI 63) C dJ6_bitCount_0f7a4_49 (by decide) ?_
  refine g_iand (pc := 51) C dJ6_bitCount_0f7a4_51 ?_
  exact g_iret C Rr dJ6_bitCount_0f7a4_52 ⟨rfl, rfl⟩ rfl
set_option maxHeartbeats 400000 in
set_option maxRecDepth 100000 in
theorem x_count (g : Gl) (A : Ac) (X : Xs) (J : Jc) (w : Int32) (hX : InvX X) (hJ : OkJ X J) : Ct g yX3_count cX3_count 2 (some .int) (rk 1 22) [.ref (A.1 0), .int w] (spX g A X J) (fun r w2 => ∃ J2, OkJ (f_count X w).2 J2 ∧ r = some (.int (f_count X w).1) ∧ w2 = spX g A (f_count X w).2 J2) := by
  obtain ⟨ao, ap, ak, at', au, ae, a0, a1, a2, a3, ay⟩ := A
  obtain ⟨⟨mn, yr, gr, kd, pt, wt, mr⟩, ⟨ks, kp⟩, ⟨tb, tn⟩, ⟨wd, sz, nm⟩, tl⟩ := X
  obtain ⟨la, ⟨⟨kmn, kyr, kgr, kkd, kpt, kwt, kmr⟩, kla⟩, ⟨⟨tmn, tyr, tgr, tkd, tpt, twt, tmr⟩, tla⟩, ⟨pl, tk, sr, vl⟩⟩ := J
  obtain ⟨hB, hy, hkp, htb, htn, hwd, hsz⟩ := id hX
  obtain ⟨-, hTle, hgr, hkd, hpt, hwt, hmr, hyr, hmn⟩ := id hB
  refine ct_of (by decide) (Nat.le_of_ble_eq_true rfl) ?_
  intro φ C0 Rr
  have C : Cx φ g cX3_count 2 RX3 (rk 1 22) := C0
  show Go φ g 2 0 [(0, .ref (ao 0)), (1, .int w)] [] (fl [spO g ao ap ak at' au ae ay kp, potV g ap gr la kd pt wt mr (sumN gr 12) yr mn, potV g ak kgr kla kkd kpt kwt kmr (sumN kgr 12) kyr kmn, potV g at' tgr tla tkd tpt twt tmr (sumN tgr 12) tyr tmn, tpV g au (tbB tb) tn pl tk sr vl, shA g ae a0 a1 a2 a3, shV g a0 (nm 0) (wd 0) (sz 0), shV g a1 (nm 1) (wd 1) (sz 1), shV g a2 (nm 2) (wd 2) (sz 2), shV g a3 (nm 3) (wd 3) (sz 3), arr7 g ay tl])
  refine g_iload_n (pc := 0) C dX3_count_0 rfl ?_
  by_cases c1 : w = nI 0
  · subst c1
    refine g_tableIn (pc := 1) (off := 31) (tgt := 32) C dX3_count_1 (by decide) (by decide) (by decide) (by decide) ?_
    refine g_aload_n (pc := 32) C dX3_count_32 rfl ?_
    refine g_get3 (pc := 33) C dX3_count_33 0 rfl 0 (by decide) fl_X3_10 rfl ?_
    refine g_get0 (pc := 36) C dX3_count_36 1 rfl 8 (by decide) fl_X3_148 rfl ?_
    have hf : f_count ((mn, yr, gr, kd, pt, wt, mr), (ks, kp), (tb, tn), (wd, sz, nm), tl) (nI 0) = ((nI mn), ((mn, yr, gr, kd, pt, wt, mr), (ks, kp), (tb, tn), (wd, sz, nm), tl)) := by simp [f_count, fnd, ix_nI (show 0 < 2 ^ 31 by decide)]
    exact g_iret C Rr dX3_count_39 ⟨(la, ((kmn, kyr, kgr, kkd, kpt, kwt, kmr), kla), ((tmn, tyr, tgr, tkd, tpt, twt, tmr), tla), (pl, tk, sr, vl)), by rw [hf]; exact (fun h => hJ h), by rw [hf], by rw [hf]; rfl⟩ (spX_ad g (ao, ap, ak, at', au, ae, a0, a1, a2, a3, ay) ((mn, yr, gr, kd, pt, wt, mr), (ks, kp), (tb, tn), (wd, sz, nm), tl) ((mn, yr, gr, kd, pt, wt, mr), (ks, kp), (tb, tn), (wd, sz, nm), tl) (la, ((kmn, kyr, kgr, kkd, kpt, kwt, kmr), kla), ((tmn, tyr, tgr, tkd, tpt, twt, tmr), tla), (pl, tk, sr, vl)) (la, ((kmn, kyr, kgr, kkd, kpt, kwt, kmr), kla), ((tmn, tyr, tgr, tkd, tpt, twt, tmr), tla), (pl, tk, sr, vl)))
  by_cases c2 : w = nI 1
  · subst c2
    refine g_tableIn (pc := 1) (off := 39) (tgt := 40) C dX3_count_1 (by decide) (by decide) (by decide) (by decide) ?_
    refine g_aload_n (pc := 40) C dX3_count_40 rfl ?_
    refine g_get3 (pc := 41) C dX3_count_41 0 rfl 3 (by decide) fl_X3_25 rfl ?_
    refine g_get2 (pc := 44) C dX3_count_44 22 rfl 1 (by decide) fl_X3_157 rfl ?_
    have hf : f_count ((mn, yr, gr, kd, pt, wt, mr), (ks, kp), (tb, tn), (wd, sz, nm), tl) (nI 1) = ((nI tn), ((mn, yr, gr, kd, pt, wt, mr), (ks, kp), (tb, tn), (wd, sz, nm), tl)) := by simp [f_count, fnd, c1, ix_nI (show 1 < 2 ^ 31 by decide)]
    exact g_iret C Rr dX3_count_47 ⟨(la, ((kmn, kyr, kgr, kkd, kpt, kwt, kmr), kla), ((tmn, tyr, tgr, tkd, tpt, twt, tmr), tla), (pl, tk, sr, vl)), by rw [hf]; exact (fun h => hJ h), by rw [hf], by rw [hf]; rfl⟩ (spX_ad g (ao, ap, ak, at', au, ae, a0, a1, a2, a3, ay) ((mn, yr, gr, kd, pt, wt, mr), (ks, kp), (tb, tn), (wd, sz, nm), tl) ((mn, yr, gr, kd, pt, wt, mr), (ks, kp), (tb, tn), (wd, sz, nm), tl) (la, ((kmn, kyr, kgr, kkd, kpt, kwt, kmr), kla), ((tmn, tyr, tgr, tkd, tpt, twt, tmr), tla), (pl, tk, sr, vl)) (la, ((kmn, kyr, kgr, kkd, kpt, kwt, kmr), kla), ((tmn, tyr, tgr, tkd, tpt, twt, tmr), tla), (pl, tk, sr, vl)))
  by_cases c3 : w = nI 2
  · subst c3
    refine g_tableIn (pc := 1) (off := 47) (tgt := 48) C dX3_count_1 (by decide) (by decide) (by decide) (by decide) ?_
    refine g_aload_n (pc := 48) C dX3_count_48 rfl ?_
    refine g_get3 (pc := 49) C dX3_count_49 0 rfl 0 (by decide) fl_X3_10 rfl ?_
    refine g_bxi (pc := 52) (cs := [potV g ap gr la kd pt wt mr (sumN gr 12) yr mn]) (ds := [potV g ap gr la kd pt wt mr (sumN gr 12) yr mn]) (bs2 := [spO g ao ap ak at' au ae ay kp, potV g ap gr la kd pt wt mr (sumN gr 12) yr mn, potV g ak kgr kla kkd kpt kwt kmr (sumN kgr 12) kyr kmn, potV g at' tgr tla tkd tpt twt tmr (sumN tgr 12) tyr tmn, tpV g au (tbB tb) tn pl tk sr vl, shA g ae a0 a1 a2 a3, shV g a0 (nm 0) (wd 0) (sz 0), shV g a1 (nm 1) (wd 1) (sz 1), shV g a2 (nm 2) (wd 2) (sz 2), shV g a3 (nm 3) (wd 3) (sz 3), arr7 g ay tl]) C dX3_count_52 ml_X3_217 mf_X0_weightOfAll (c_weightOfAll g ap gr la kd pt wt mr (sumN gr 12) yr mn hB) ⟨rfl, rfl, (Nat.le_of_ble_eq_true rfl), (Nat.le_of_ble_eq_true rfl)⟩ rfl rfl (Nat.le_of_ble_eq_true rfl) (fl1 _) (fl1 _) 0 rfl rfl rfl [1] rfl rfl rfl rfl ?_
    have hf : f_count ((mn, yr, gr, kd, pt, wt, mr), (ks, kp), (tb, tn), (wd, sz, nm), tl) (nI 2) = ((nI (sumN wt mn)), ((mn, yr, gr, kd, pt, wt, mr), (ks, kp), (tb, tn), (wd, sz, nm), tl)) := by simp [f_count, fnd, c1, c2, ix_nI (show 2 < 2 ^ 31 by decide)]
    exact g_iret C Rr dX3_count_55 ⟨(la, ((kmn, kyr, kgr, kkd, kpt, kwt, kmr), kla), ((tmn, tyr, tgr, tkd, tpt, twt, tmr), tla), (pl, tk, sr, vl)), by rw [hf]; exact (fun h => hJ h), by rw [hf], by rw [hf]; rfl⟩ (spX_ad g (ao, ap, ak, at', au, ae, a0, a1, a2, a3, ay) ((mn, yr, gr, kd, pt, wt, mr), (ks, kp), (tb, tn), (wd, sz, nm), tl) ((mn, yr, gr, kd, pt, wt, mr), (ks, kp), (tb, tn), (wd, sz, nm), tl) (la, ((kmn, kyr, kgr, kkd, kpt, kwt, kmr), kla), ((tmn, tyr, tgr, tkd, tpt, twt, tmr), tla), (pl, tk, sr, vl)) (la, ((kmn, kyr, kgr, kkd, kpt, kwt, kmr), kla), ((tmn, tyr, tgr, tkd, tpt, twt, tmr), tla), (pl, tk, sr, vl)))
  by_cases c4 : w = nI 3
  · subst c4
    refine g_tableIn (pc := 1) (off := 55) (tgt := 56) C dX3_count_1 (by decide) (by decide) (by decide) (by decide) ?_
    refine g_bipush (pc := 56) (v := nI 12) C dX3_count_56 (by decide) ?_
    refine g_aload_n (pc := 58) C dX3_count_58 rfl ?_
    refine g_get3 (pc := 59) C dX3_count_59 0 rfl 0 (by decide) fl_X3_10 rfl ?_
    refine g_bxi (pc := 62) (cs := [potV g ap gr la kd pt wt mr (sumN gr 12) yr mn]) (ds := [potV g ap gr la kd pt wt mr (sumN gr 12) yr mn]) (bs2 := [spO g ao ap ak at' au ae ay kp, potV g ap gr la kd pt wt mr (sumN gr 12) yr mn, potV g ak kgr kla kkd kpt kwt kmr (sumN kgr 12) kyr kmn, potV g at' tgr tla tkd tpt twt tmr (sumN tgr 12) tyr tmn, tpV g au (tbB tb) tn pl tk sr vl, shA g ae a0 a1 a2 a3, shV g a0 (nm 0) (wd 0) (sz 0), shV g a1 (nm 1) (wd 1) (sz 1), shV g a2 (nm 2) (wd 2) (sz 2), shV g a3 (nm 3) (wd 3) (sz 3), arr7 g ay tl]) C dX3_count_62 ml_X3_136 mf_X0_partsThere (c_partsThere g ap gr la kd pt wt mr (sumN gr 12) yr mn hB) ⟨rfl, rfl, (Nat.le_of_ble_eq_true rfl), (Nat.le_of_ble_eq_true rfl)⟩ rfl rfl (Nat.le_of_ble_eq_true rfl) (fl1 _) (fl1 _) 0 rfl rfl rfl [1] rfl rfl rfl rfl ?_
    refine g_s0i (pc := 65) C dX3_count_65 ml_X3_220 mf_J6_bitCount_0f7a4 (c_bitCount g (nI (maskN gr 12))) ⟨rfl, rfl, (Nat.le_of_ble_eq_true rfl), (Nat.le_of_ble_eq_true rfl)⟩ rfl rfl (Nat.le_of_ble_eq_true rfl) ?_
    refine g_isub (pc := 68) C dX3_count_68 ?_
    refine g_top (y := nI (zerosN gr 12)) (bc_mask gr) ?_
    have hf : f_count ((mn, yr, gr, kd, pt, wt, mr), (ks, kp), (tb, tn), (wd, sz, nm), tl) (nI 3) = ((nI (zerosN gr 12)), ((mn, yr, gr, kd, pt, wt, mr), (ks, kp), (tb, tn), (wd, sz, nm), tl)) := by simp [f_count, fnd, c1, c2, c3, ix_nI (show 3 < 2 ^ 31 by decide)]
    exact g_iret C Rr dX3_count_69 ⟨(la, ((kmn, kyr, kgr, kkd, kpt, kwt, kmr), kla), ((tmn, tyr, tgr, tkd, tpt, twt, tmr), tla), (pl, tk, sr, vl)), by rw [hf]; exact (fun h => hJ h), by rw [hf], by rw [hf]; rfl⟩ (spX_ad g (ao, ap, ak, at', au, ae, a0, a1, a2, a3, ay) ((mn, yr, gr, kd, pt, wt, mr), (ks, kp), (tb, tn), (wd, sz, nm), tl) ((mn, yr, gr, kd, pt, wt, mr), (ks, kp), (tb, tn), (wd, sz, nm), tl) (la, ((kmn, kyr, kgr, kkd, kpt, kwt, kmr), kla), ((tmn, tyr, tgr, tkd, tpt, twt, tmr), tla), (pl, tk, sr, vl)) (la, ((kmn, kyr, kgr, kkd, kpt, kwt, kmr), kla), ((tmn, tyr, tgr, tkd, tpt, twt, tmr), tla), (pl, tk, sr, vl)))
  refine g_tableOut (pc := 1) (tgt := 70) C dX3_count_1 (by have := sw_ne c1 (by decide); have := sw_ne c2 (by decide); have := sw_ne c3 (by decide); have := sw_ne c4 (by decide); omega) (by decide) ?_
  refine g_aload_n (pc := 70) C dX3_count_70 rfl ?_
  refine g_iconst (pc := 71) (v := nI 0) C dX3_count_71 (by decide) ?_
  refine g_bxi (pc := 72) (cs := [spO g ao ap ak at' au ae ay kp, arr7 g ay tl]) (ds := [spO g ao ap ak at' au ae ay kp, arr7 g ay (updN tl 0 (tl 0 + 1))]) (bs2 := [spO g ao ap ak at' au ae ay kp, potV g ap gr la kd pt wt mr (sumN gr 12) yr mn, potV g ak kgr kla kkd kpt kwt kmr (sumN kgr 12) kyr kmn, potV g at' tgr tla tkd tpt twt tmr (sumN tgr 12) tyr tmn, tpV g au (tbB tb) tn pl tk sr vl, shA g ae a0 a1 a2 a3, shV g a0 (nm 0) (wd 0) (sz 0), shV g a1 (nm 1) (wd 1) (sz 1), shV g a2 (nm 2) (wd 2) (sz 2), shV g a3 (nm 3) (wd 3) (sz 3), arr7 g ay (updN tl 0 (tl 0 + 1))]) C dX3_count_72 ml_X3_47 mf_X3_finding (c_finding g ao ap ak at' au ae ay kp tl 0 (by decide)) ⟨rfl, rfl, (Nat.le_of_ble_eq_true rfl), (Nat.le_of_ble_eq_true rfl)⟩ rfl rfl (Nat.le_of_ble_eq_true rfl) rfl rfl 0 rfl rfl rfl [0, 10] rfl rfl rfl rfl ?_
  have hf : f_count ((mn, yr, gr, kd, pt, wt, mr), (ks, kp), (tb, tn), (wd, sz, nm), tl) w = ((fd 0), ((mn, yr, gr, kd, pt, wt, mr), (ks, kp), (tb, tn), (wd, sz, nm), updN tl 0 (tl 0 + 1))) := by simp [f_count, fnd, c1, c2, c3, c4]
  exact g_iret C Rr dX3_count_75 ⟨(la, ((kmn, kyr, kgr, kkd, kpt, kwt, kmr), kla), ((tmn, tyr, tgr, tkd, tpt, twt, tmr), tla), (pl, tk, sr, vl)), by rw [hf]; exact (fun h => hJ h), by rw [hf], by rw [hf]; rfl⟩ (spX_ad g (ao, ap, ak, at', au, ae, a0, a1, a2, a3, ay) ((mn, yr, gr, kd, pt, wt, mr), (ks, kp), (tb, tn), (wd, sz, nm), updN tl 0 (tl 0 + 1)) ((mn, yr, gr, kd, pt, wt, mr), (ks, kp), (tb, tn), (wd, sz, nm), tl) (la, ((kmn, kyr, kgr, kkd, kpt, kwt, kmr), kla), ((tmn, tyr, tgr, tkd, tpt, twt, tmr), tla), (pl, tk, sr, vl)) (la, ((kmn, kyr, kgr, kkd, kpt, kwt, kmr), kla), ((tmn, tyr, tgr, tkd, tpt, twt, tmr), tla), (pl, tk, sr, vl)))
