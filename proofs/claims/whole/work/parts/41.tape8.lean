set_option maxHeartbeats 400000 in
set_option maxRecDepth 100000 in
theorem m_wordD (g : Gl) (a : Nat → Nat) (s : Nat → Nat) (ks : Nat → Nat) (os : Nat → Nat) (sd : Nat → Nat) (sts : Nat → Nat) (kp : Nat) (tk : Nat → Nat) (tp : Nat → Nat) (tn : Nat) (fr : Nat) (to : Nat) (vl : Nat) (bo : Nat → Nat) (so : Nat → Nat) (nm : Nat → Int64) (mv : Nat → Int64) (htb : ∀ j, tp j < 256) (htn : tn ≤ 120) (hto : to ≤ tn) (hlf : fr ≤ to) : Ct g yX4_word cX4_word 4 (some .long) (rk 0 0) [.ref (a 0)] (mdV g a s ks os sd sts kp tk tp tn fr to vl 1 bo so nm mv) (fun r w2 => r = some (.long 0) ∧ w2 = (mdV g a s ks os sd sts kp tk tp tn fr to vl 1 bo so nm mv)) := by
  refine ct_of (by decide) (Nat.le_of_ble_eq_true rfl) ?_
  intro φ C0 Rr
  have C : Cx φ g cX4_word 4 RX4 (rk 0 0) := C0
  show Go φ g 4 0 [(0, .ref (a 0))] [] (mdV g a s ks os sd sts kp tk tp tn fr to vl 1 bo so nm mv)
  refine g_lconst (pc := 0) (v := 0) C dX4_word_0 (by decide) ?_
  refine g_lstore_n (pc := 1) (lv2 := [(0, .ref (a 0)), (1, .long 0)]) C dX4_word_1 rfl (Nat.le_of_ble_eq_true rfl) rfl ?_
  refine g_aload_n (pc := 2) C dX4_word_2 rfl ?_
  refine g_get4 (pc := 3) C dX4_word_3 0 rfl 9 (by decide) fl_X4_199 rfl ?_
  refine g_istore_n (pc := 6) (lv2 := [(0, .ref (a 0)), (1, .long 0), (3, .int (nI fr))]) C dX4_word_6 rfl (Nat.le_of_ble_eq_true rfl) rfl ?_
  refine g_loop1 (n := to) (fun (i : Nat) (v : Int64) => True) (fun (i : Nat) (v : Int64) => [(0, .ref (a 0)), (1, .long v), (3, .int (nI i))]) (fun (i : Nat) (v : Int64) => (mdV g a s ks os sd sts kp tk tp tn fr to vl 1 bo so nm mv)) ?_ fr 0 (by omega) trivial
  intro i v hi_i hv_i ih_i
  show Go φ g 4 7 [(0, .ref (a 0)), (1, .long v), (3, .int (nI i))] [] (mdV g a s ks os sd sts kp tk tp tn fr to vl 1 bo so nm mv)
  refine g_iload_n (pc := 7) C dX4_word_7 rfl ?_
  refine g_aload_n (pc := 8) C dX4_word_8 rfl ?_
  refine g_get4 (pc := 9) C dX4_word_9 0 rfl 10 (by decide) fl_X4_196 rfl ?_
  refine g_icmp_geN (pc := 12) (tgt := 50) C dX4_word_12 (by decide) (by omega) (by omega) (fun c1 => ?_) (fun c1 => ?_)
  · refine g_aload_n (pc := 50) C dX4_word_50 rfl ?_
    refine g_get4 (pc := 51) C dX4_word_51 0 rfl 12 (by decide) fl_X4_211 rfl ?_
    refine g_if_neN (pc := 54) (tgt := 71) C dX4_word_54 (by decide) (by decide) (fun _ => ?_) (fun h => absurd h (by decide))
    refine g_lconst (pc := 71) (v := 0) C dX4_word_71 (by decide) ?_
    refine g_goto (pc := 72) (tgt := 76) C dX4_word_72 (by decide) ?_
    exact g_lret C Rr dX4_word_76 ⟨rfl, rfl⟩ rfl
  · refine g_lload_n (pc := 15) C dX4_word_15 rfl ?_
    refine g_ldc2 (pc := 16) C dX4_word_16 ckl_X4_218 rfl ?_
    refine g_lcmp (pc := 19) C dX4_word_19 ?_
    refine g_if_leL (pc := 20) (tgt := 27) C dX4_word_20 (by decide) (fun c3 => ?_) (fun c3 => ?_)
    · refine g_ldc2 (pc := 27) C dX4_word_27 ckl_X4_220 rfl ?_
      refine g_lload_n (pc := 30) C dX4_word_30 rfl ?_
      refine g_lmul (pc := 31) C dX4_word_31 ?_
      refine g_aload_n (pc := 32) C dX4_word_32 rfl ?_
      refine g_get4 (pc := 33) C dX4_word_33 0 rfl 7 (by decide) fl_X4_28 rfl ?_
      refine g_iload_n (pc := 36) C dX4_word_36 rfl ?_
      refine g_ialdM (pc := 37) C dX4_word_37 7 rfl rfl (by omega) (by decide) ?_
      refine g_bipush (pc := 38) (v := nI 96) C dX4_word_38 (by decide) ?_
      refine g_isub (pc := 40) C dX4_word_40 ?_
      refine g_i2l (pc := 41) C dX4_word_41 ?_
      refine g_ladd (pc := 42) C dX4_word_42 ?_
      refine g_lstore_n (pc := 43) (lv2 := [(0, .ref (a 0)), (1, .long (((32) * v) + ((((nI (tp i)) - (nI 96))).toInt64))), (3, .int (nI i))]) C dX4_word_43 rfl (Nat.le_of_ble_eq_true rfl) rfl ?_
      refine g_iinc (pc := 44) (v := (nI (i + 1))) (lv2 := [(0, .ref (a 0)), (1, .long (((32) * v) + ((((nI (tp i)) - (nI 96))).toInt64))), (3, .int (nI (i + 1)))]) C dX4_word_44 rfl (nI_1 _) (Nat.le_of_ble_eq_true rfl) rfl ?_
      refine g_goto (pc := 47) (tgt := 7) C dX4_word_47 (by decide) ?_
      exact ih_i _ (by omega) trivial
    · refine g_lload_n (pc := 23) C dX4_word_23 rfl ?_
      refine g_goto (pc := 24) (tgt := 43) C dX4_word_24 (by decide) ?_
      refine g_lstore_n (pc := 43) (lv2 := [(0, .ref (a 0)), (1, .long v), (3, .int (nI i))]) C dX4_word_43 rfl (Nat.le_of_ble_eq_true rfl) rfl ?_
      refine g_iinc (pc := 44) (v := (nI (i + 1))) (lv2 := [(0, .ref (a 0)), (1, .long v), (3, .int (nI (i + 1)))]) C dX4_word_44 rfl (nI_1 _) (Nat.le_of_ble_eq_true rfl) rfl ?_
      refine g_goto (pc := 47) (tgt := 7) C dX4_word_47 (by decide) ?_
      exact ih_i _ (by omega) trivial
set_option maxHeartbeats 400000 in
set_option maxRecDepth 100000 in
theorem m_piD (g : Gl) (a : Nat → Nat) (s : Nat → Nat) (ks : Nat → Nat) (os : Nat → Nat) (sd : Nat → Nat) (sts : Nat → Nat) (kp : Nat) (tk : Nat → Nat) (tp : Nat → Nat) (tn : Nat) (fr : Nat) (to : Nat) (vl : Nat) (bo : Nat → Nat) (so : Nat → Nat) (nm : Nat → Int64) (mv : Nat → Int64) (w : Int64) (x : Int32) (y : Int32) (htb : ∀ j, tp j < 256) (htn : tn ≤ 120) (hto : to ≤ tn) (hlf : fr ≤ to) (hw : ¬ (0 : Int64) = w) : Ct g yX4_partItem cX4_partItem 5 none (rk 1 23) [.ref (a 0), .long w, .int x, .int y] (mdV g a s ks os sd sts kp tk tp tn fr to vl 1 bo so nm mv) (fun r w2 => r = none ∧ w2 = (mdV g a s ks os sd sts kp tk tp tn fr to vl 1 bo so nm mv)) := by
  refine ct_of (by decide) (Nat.le_of_ble_eq_true rfl) ?_
  intro φ C0 Rr
  have C : Cx φ g cX4_partItem 5 RX4 (rk 1 23) := C0
  show Go φ g 5 0 [(0, .ref (a 0)), (1, .long w), (3, .int x), (4, .int y)] [] (mdV g a s ks os sd sts kp tk tp tn fr to vl 1 bo so nm mv)
  refine g_aload_n (pc := 0) C dX4_partItem_0 rfl ?_
  refine g_vxl (pc := 1) (ws2 := (mdV g a s ks os sd sts kp tk tp tn fr to vl 1 bo so nm mv)) C dX4_partItem_1 ml_X4_229 mf_X4_word (m_wordD g a s ks os sd sts kp tk tp tn fr to vl bo so nm mv htb htn (by omega) (by omega)) ⟨rfl, rfl, (Nat.le_of_ble_eq_true rfl), (Nat.le_of_ble_eq_true rfl)⟩ rfl rfl (Nat.le_of_ble_eq_true rfl) 0 rfl rfl rfl [0, 1, 2, 3, 4, 5, 6, 7, 8, 9, 10, 11] [] [0, 1, 2, 3, 4, 5, 6, 7, 8, 9, 10, 11] rfl rfl rfl rfl (by decide) rfl rfl ?_
  refine g_lload_n (pc := 4) C dX4_partItem_4 rfl ?_
  refine g_lcmp (pc := 5) C dX4_partItem_5 ?_
  refine g_if_neL (pc := 6) (tgt := 47) C dX4_partItem_6 (by decide) (fun c1 => ?_) (fun c1 => ?_)
  · exact g_vret C Rr dX4_partItem_47 ⟨rfl, rfl⟩ rfl
  · exact absurd c1 hw
