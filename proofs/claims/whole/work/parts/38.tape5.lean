/-- the letters as digits to the base 32, held where it stands once it is very great -/
def codN (tb : Nat → Nat) (k : Nat) : Nat → Nat
  | 0 => 0
  | m + 1 => if 36028797018963967 < codN tb k m then codN tb k m else 32 * codN tb k m + (tb (k + m) - 96)
def wdL (tp : Nat → Nat) (tn fr to : Nat) : Int64 := if fr < tn ∧ isL (tp fr) then lN (codN tp fr (to - fr)) else 0
theorem lN_int {v : Nat} (h : v < 2 ^ 61) : (lN v).toInt = (v : Int) := by
  show (Int64.ofNat v).toInt = _
  exact Int64.toInt_ofNat_of_lt (by omega)
theorem wd_le {v : Nat} (h : v < 2 ^ 61) (c : lN v ≤ 36028797018963967) : v ≤ 36028797018963967 := by
  have := Int64.le_iff_toInt_le.mp c
  rw [lN_int h] at this
  have h9 : (36028797018963967 : Int64).toInt = 36028797018963967 := rfl
  omega
theorem wd_gt {v : Nat} (h : v < 2 ^ 61) (c : 36028797018963967 < lN v) : 36028797018963967 < v := by
  have := Int64.lt_iff_toInt_lt.mp c
  rw [lN_int h] at this
  have h9 : (36028797018963967 : Int64).toInt = 36028797018963967 := rfl
  omega
theorem nI_64 {d : Nat} (h : d < 2 ^ 31) : (nI d).toInt64 = lN d := by
  apply Int64.toInt_inj.mp
  rw [Int32.toInt_toInt64, nI_toInt h, lN_int (by omega)]
theorem wd_add {v d : Nat} (h : d < 2 ^ 31) : (32 : Int64) * lN v + (nI d).toInt64 = lN (32 * v + d) := by
  rw [nI_64 h]
  show Int64.ofNat 32 * Int64.ofNat v + Int64.ofNat d = Int64.ofNat (32 * v + d)
  rw [Int64.ofNat_add, Int64.ofNat_mul]
set_option maxHeartbeats 400000 in
set_option maxRecDepth 100000 in
theorem m_word (g : Gl) (a : Nat → Nat) (s : Nat → Nat) (ks : Nat → Nat) (os : Nat → Nat) (sd : Nat → Nat) (sts : Nat → Nat) (kp : Nat) (tk : Nat → Nat) (tp : Nat → Nat) (tn : Nat) (fr : Nat) (to : Nat) (vl : Nat) (bo : Nat → Nat) (so : Nat → Nat) (nm : Nat → Int64) (mv : Nat → Int64) (htb : ∀ j, tp j < 256) (htn : tn ≤ 120) (hft : fr ≤ tn) (htok : to = tkE tp tn fr) (hto : to ≤ tn) : Ct g yX4_word cX4_word 4 (some .long) (rk 2 45) [.ref (a 0)] (mdV g a s ks os sd sts kp tk tp tn fr to vl 0 bo so nm mv) (fun r w2 => r = some (.long (wdL tp tn fr to)) ∧ w2 = (mdV g a s ks os sd sts kp tk tp tn fr to vl 0 bo so nm mv)) := by
  refine ct_of (by decide) (Nat.le_of_ble_eq_true rfl) ?_
  intro φ C0 Rr
  have C : Cx φ g cX4_word 4 RX4 (rk 2 45) := C0
  show Go φ g 4 0 [(0, .ref (a 0))] [] (mdV g a s ks os sd sts kp tk tp tn fr to vl 0 bo so nm mv)
  have hlf := tk_le htok hft
  by_cases c1 : fr < tn ∧ isL (tp fr)
  · have hall := tk_let htok c1
    refine g_lconst (pc := 0) (v := 0) C dX4_word_0 (by decide) ?_
    refine g_lstore_n (pc := 1) (lv2 := [(0, .ref (a 0)), (1, .long 0)]) C dX4_word_1 rfl (Nat.le_of_ble_eq_true rfl) rfl ?_
    refine g_aload_n (pc := 2) C dX4_word_2 rfl ?_
    refine g_get4 (pc := 3) C dX4_word_3 0 rfl 9 (by decide) fl_X4_199 rfl ?_
    refine g_istore_n (pc := 6) (lv2 := [(0, .ref (a 0)), (1, .long 0), (3, .int (nI fr))]) C dX4_word_6 rfl (Nat.le_of_ble_eq_true rfl) rfl ?_
    refine g_loop1 (n := to) (fun (i : Nat) (v : Nat) => fr ≤ i ∧ v = codN tp fr (i - fr) ∧ v < 2 ^ 61) (fun (i : Nat) (v : Nat) => [(0, .ref (a 0)), (1, .long (lN v)), (3, .int (nI i))]) (fun (i : Nat) (v : Nat) => (mdV g a s ks os sd sts kp tk tp tn fr to vl 0 bo so nm mv)) ?_ fr 0 (by omega) ⟨Nat.le_refl _, by rw [Nat.sub_self]; rfl, by decide⟩
    intro i v hi_i hv_i ih_i
    show Go φ g 4 7 [(0, .ref (a 0)), (1, .long (lN v)), (3, .int (nI i))] [] (mdV g a s ks os sd sts kp tk tp tn fr to vl 0 bo so nm mv)
    have hv_i : fr ≤ i ∧ v = codN tp fr (i - fr) ∧ v < 2 ^ 61 := hv_i
    have hvb := hv_i.2.2
    refine g_iload_n (pc := 7) C dX4_word_7 rfl ?_
    refine g_aload_n (pc := 8) C dX4_word_8 rfl ?_
    refine g_get4 (pc := 9) C dX4_word_9 0 rfl 10 (by decide) fl_X4_196 rfl ?_
    refine g_icmp_geN (pc := 12) (tgt := 50) C dX4_word_12 (by decide) (by omega) (by omega) (fun c2 => ?_) (fun c2 => ?_)
    · refine g_aload_n (pc := 50) C dX4_word_50 rfl ?_
      refine g_get4 (pc := 51) C dX4_word_51 0 rfl 12 (by decide) fl_X4_211 rfl ?_
      refine g_if_neN (pc := 54) (tgt := 71) C dX4_word_54 (by decide) (by decide) (fun h => absurd h (by decide)) (fun _ => ?_)
      refine g_aload_n (pc := 57) C dX4_word_57 rfl ?_
      refine g_aload_n (pc := 58) C dX4_word_58 rfl ?_
      refine g_get4 (pc := 59) C dX4_word_59 0 rfl 9 (by decide) fl_X4_199 rfl ?_
      refine g_vxi (pc := 62) (ws2 := (mdV g a s ks os sd sts kp tk tp tn fr to vl 0 bo so nm mv)) C dX4_word_62 ml_X4_202 mf_X4_byteAt (m_byteAt g a s ks os sd sts kp tk tp tn fr to vl 0 bo so nm mv fr htn (by omega)) ⟨rfl, rfl, (Nat.le_of_ble_eq_true rfl), (Nat.le_of_ble_eq_true rfl)⟩ rfl rfl (Nat.le_of_ble_eq_true rfl) 0 rfl rfl rfl [0, 1, 2, 3, 4, 5, 6, 7, 8, 9, 10, 11] [] [0, 1, 2, 3, 4, 5, 6, 7, 8, 9, 10, 11] rfl rfl rfl rfl (by decide) rfl rfl ?_
      refine g_s0i (pc := 65) C dX4_word_65 ml_X4_205 mf_X4_isLetter (m_isLetter g (btA tp tn fr)) ⟨rfl, rfl, (Nat.le_of_ble_eq_true rfl), (Nat.le_of_ble_eq_true rfl)⟩ rfl rfl (Nat.le_of_ble_eq_true rfl) ?_
      refine g_top (y := nI 1) (bI_t (P := inR (btA tp tn fr) 97 122 = true) ((bt_in (lo := 97) (hi := 122) (htb fr)).mpr c1)) ?_
      refine g_if_neN (pc := 68) (tgt := 75) C dX4_word_68 (by decide) (by decide) (fun _ => ?_) (fun h => absurd h (by decide))
      refine g_lload_n (pc := 75) C dX4_word_75 rfl ?_
      exact g_lret C Rr dX4_word_76 ⟨by rw [wdL, if_pos c1, hv_i.2.1, show i = to by omega], rfl⟩ rfl
    · refine g_lload_n (pc := 15) C dX4_word_15 rfl ?_
      refine g_ldc2 (pc := 16) C dX4_word_16 ckl_X4_218 rfl ?_
      refine g_lcmp (pc := 19) C dX4_word_19 ?_
      refine g_if_leL (pc := 20) (tgt := 27) C dX4_word_20 (by decide) (fun c5 => ?_) (fun c5 => ?_)
      · refine g_ldc2 (pc := 27) C dX4_word_27 ckl_X4_220 rfl ?_
        refine g_lload_n (pc := 30) C dX4_word_30 rfl ?_
        refine g_lmul (pc := 31) C dX4_word_31 ?_
        have hdl : 97 ≤ tp i ∧ tp i ≤ 122 := hall i (by omega) (by omega)
        refine g_aload_n (pc := 32) C dX4_word_32 rfl ?_
        refine g_get4 (pc := 33) C dX4_word_33 0 rfl 7 (by decide) fl_X4_28 rfl ?_
        refine g_iload_n (pc := 36) C dX4_word_36 rfl ?_
        refine g_ialdM (pc := 37) C dX4_word_37 7 rfl rfl (by omega) (by decide) ?_
        refine g_bipush (pc := 38) (v := nI 96) C dX4_word_38 (by decide) ?_
        refine g_isub (pc := 40) C dX4_word_40 ?_
        refine g_top (y := nI (tp i - 96)) (pk_sub (by omega)) ?_
        refine g_i2l (pc := 41) C dX4_word_41 ?_
        refine g_ladd (pc := 42) C dX4_word_42 ?_
        refine g_topL (y := (lN (32 * v + (tp i - 96)))) (wd_add (by omega)) ?_
        refine g_lstore_n (pc := 43) (lv2 := [(0, .ref (a 0)), (1, .long (lN (32 * v + (tp i - 96)))), (3, .int (nI i))]) C dX4_word_43 rfl (Nat.le_of_ble_eq_true rfl) rfl ?_
        refine g_iinc (pc := 44) (v := (nI (i + 1))) (lv2 := [(0, .ref (a 0)), (1, .long (lN (32 * v + (tp i - 96)))), (3, .int (nI (i + 1)))]) C dX4_word_44 rfl (nI_1 _) (Nat.le_of_ble_eq_true rfl) rfl ?_
        refine g_goto (pc := 47) (tgt := 7) C dX4_word_47 (by decide) ?_
        exact ih_i _ (by omega) ⟨by omega, by rw [show i + 1 - fr = (i - fr) + 1 by omega, codN, ← hv_i.2.1, if_neg (Nat.not_lt.mpr (wd_le hvb c5)), show fr + (i - fr) = i by omega], by have := wd_le hvb c5; omega⟩
      · refine g_lload_n (pc := 23) C dX4_word_23 rfl ?_
        refine g_goto (pc := 24) (tgt := 43) C dX4_word_24 (by decide) ?_
        refine g_lstore_n (pc := 43) (lv2 := [(0, .ref (a 0)), (1, .long (lN v)), (3, .int (nI i))]) C dX4_word_43 rfl (Nat.le_of_ble_eq_true rfl) rfl ?_
        refine g_iinc (pc := 44) (v := (nI (i + 1))) (lv2 := [(0, .ref (a 0)), (1, .long (lN v)), (3, .int (nI (i + 1)))]) C dX4_word_44 rfl (nI_1 _) (Nat.le_of_ble_eq_true rfl) rfl ?_
        refine g_goto (pc := 47) (tgt := 7) C dX4_word_47 (by decide) ?_
        exact ih_i _ (by omega) ⟨by omega, by rw [show i + 1 - fr = (i - fr) + 1 by omega, codN, ← hv_i.2.1, if_pos (wd_gt hvb c5)], hvb⟩
  · refine g_lconst (pc := 0) (v := 0) C dX4_word_0 (by decide) ?_
    refine g_lstore_n (pc := 1) (lv2 := [(0, .ref (a 0)), (1, .long 0)]) C dX4_word_1 rfl (Nat.le_of_ble_eq_true rfl) rfl ?_
    refine g_aload_n (pc := 2) C dX4_word_2 rfl ?_
    refine g_get4 (pc := 3) C dX4_word_3 0 rfl 9 (by decide) fl_X4_199 rfl ?_
    refine g_istore_n (pc := 6) (lv2 := [(0, .ref (a 0)), (1, .long 0), (3, .int (nI fr))]) C dX4_word_6 rfl (Nat.le_of_ble_eq_true rfl) rfl ?_
    refine g_loop1 (n := to) (fun (i : Nat) (v : Int64) => True) (fun (i : Nat) (v : Int64) => [(0, .ref (a 0)), (1, .long v), (3, .int (nI i))]) (fun (i : Nat) (v : Int64) => (mdV g a s ks os sd sts kp tk tp tn fr to vl 0 bo so nm mv)) ?_ fr 0 (by omega) trivial
    intro i v hi_i hv_i ih_i
    show Go φ g 4 7 [(0, .ref (a 0)), (1, .long v), (3, .int (nI i))] [] (mdV g a s ks os sd sts kp tk tp tn fr to vl 0 bo so nm mv)
    refine g_iload_n (pc := 7) C dX4_word_7 rfl ?_
    refine g_aload_n (pc := 8) C dX4_word_8 rfl ?_
    refine g_get4 (pc := 9) C dX4_word_9 0 rfl 10 (by decide) fl_X4_196 rfl ?_
    refine g_icmp_geN (pc := 12) (tgt := 50) C dX4_word_12 (by decide) (by omega) (by omega) (fun c6 => ?_) (fun c6 => ?_)
    · refine g_aload_n (pc := 50) C dX4_word_50 rfl ?_
      refine g_get4 (pc := 51) C dX4_word_51 0 rfl 12 (by decide) fl_X4_211 rfl ?_
      refine g_if_neN (pc := 54) (tgt := 71) C dX4_word_54 (by decide) (by decide) (fun h => absurd h (by decide)) (fun _ => ?_)
      refine g_aload_n (pc := 57) C dX4_word_57 rfl ?_
      refine g_aload_n (pc := 58) C dX4_word_58 rfl ?_
      refine g_get4 (pc := 59) C dX4_word_59 0 rfl 9 (by decide) fl_X4_199 rfl ?_
      refine g_vxi (pc := 62) (ws2 := (mdV g a s ks os sd sts kp tk tp tn fr to vl 0 bo so nm mv)) C dX4_word_62 ml_X4_202 mf_X4_byteAt (m_byteAt g a s ks os sd sts kp tk tp tn fr to vl 0 bo so nm mv fr htn (by omega)) ⟨rfl, rfl, (Nat.le_of_ble_eq_true rfl), (Nat.le_of_ble_eq_true rfl)⟩ rfl rfl (Nat.le_of_ble_eq_true rfl) 0 rfl rfl rfl [0, 1, 2, 3, 4, 5, 6, 7, 8, 9, 10, 11] [] [0, 1, 2, 3, 4, 5, 6, 7, 8, 9, 10, 11] rfl rfl rfl rfl (by decide) rfl rfl ?_
      refine g_s0i (pc := 65) C dX4_word_65 ml_X4_205 mf_X4_isLetter (m_isLetter g (btA tp tn fr)) ⟨rfl, rfl, (Nat.le_of_ble_eq_true rfl), (Nat.le_of_ble_eq_true rfl)⟩ rfl rfl (Nat.le_of_ble_eq_true rfl) ?_
      refine g_top (y := nI 0) (bI_f (P := inR (btA tp tn fr) 97 122 = true) (fun q => c1 ((bt_in (lo := 97) (hi := 122) (htb fr)).mp q))) ?_
      refine g_if_neN (pc := 68) (tgt := 75) C dX4_word_68 (by decide) (by decide) (fun h => absurd h (by decide)) (fun _ => ?_)
      refine g_lconst (pc := 71) (v := 0) C dX4_word_71 (by decide) ?_
      refine g_goto (pc := 72) (tgt := 76) C dX4_word_72 (by decide) ?_
      exact g_lret C Rr dX4_word_76 ⟨by rw [wdL, if_neg c1], rfl⟩ rfl
    · refine g_lload_n (pc := 15) C dX4_word_15 rfl ?_
      refine g_ldc2 (pc := 16) C dX4_word_16 ckl_X4_218 rfl ?_
      refine g_lcmp (pc := 19) C dX4_word_19 ?_
      refine g_if_leL (pc := 20) (tgt := 27) C dX4_word_20 (by decide) (fun c9 => ?_) (fun c9 => ?_)
      · refine g_ldc2 (pc := 27) C dX4_word_27 ckl_X4_220 rfl ?_
        refine g_lload_n (pc := 30) C dX4_word_30 rfl ?_
        refine g_lmul (pc := 31) C dX4_word_31 ?_
        refine g_aload_n (pc := 32) C dX4_word_32 rfl ?_
        refine g_get4 (pc := 33) C dX4_word_33 0 rfl 7 (by decide) fl_X4_28 rfl ?_
        refine g_iload_n (pc := 36) C dX4_word_36 rfl ?_
        refine g_ialdM (pc := 37) C dX4_word_37 7 rfl rfl (by omega) (by decide) ?_
        refine g_bipush (pc := 38) (v := nI 96) C dX4_word_38 (by decide) ?_
        refine g_isub (pc := 40) C dX4_word_40 ?_
        refine g_top (y := ((nI (tp i)) - (nI 96))) rfl ?_
        refine g_i2l (pc := 41) C dX4_word_41 ?_
        refine g_ladd (pc := 42) C dX4_word_42 ?_
        refine g_topL (y := (((32) * v) + ((((nI (tp i)) - (nI 96))).toInt64))) rfl ?_
        refine g_lstore_n (pc := 43) (lv2 := [(0, .ref (a 0)), (1, .long (((32) * v) + ((((nI (tp i)) - (nI 96))).toInt64))), (3, .int (nI i))]) C dX4_word_43 rfl (Nat.le_of_ble_eq_true rfl) rfl ?_
        refine g_iinc (pc := 44) (v := (nI (i + 1))) (lv2 := [(0, .ref (a 0)), (1, .long (((32) * v) + ((((nI (tp i)) - (nI 96))).toInt64))), (3, .int (nI (i + 1)))]) C dX4_word_44 rfl (nI_1 _) (Nat.le_of_ble_eq_true rfl) rfl ?_
        refine g_goto (pc := 47) (tgt := 7) C dX4_word_47 (by decide) ?_
        exact ih_i _ (by omega) trivial
      · refine g_lload_n (pc := 23) C dX4_word_23 rfl ?_
        refine g_goto (pc := 24) (tgt := 43) C dX4_word_24 (by decide) ?_
        refine g_lstore_n (pc := 43) (lv2 := [(0, .ref (a 0)), (1, .long v), (3, .int (nI i))]) C dX4_word_43 rfl (Nat.le_of_ble_eq_true rfl) rfl ?_
        refine g_iinc (pc := 44) (v := (nI (i + 1))) (lv2 := [(0, .ref (a 0)), (1, .long v), (3, .int (nI (i + 1)))]) C dX4_word_44 rfl (nI_1 _) (Nat.le_of_ble_eq_true rfl) rfl ?_
        refine g_goto (pc := 47) (tgt := 7) C dX4_word_47 (by decide) ?_
        exact ih_i _ (by omega) trivial
