set_option maxHeartbeats 400000 in
set_option maxRecDepth 100000 in
theorem n_feed (g : Gl) (a : Nat → Nat) (X : Xs) (J : Jm) (b : Int32) (n : Int32) (hX : InvX X) (hJ : OkM X J) : Ct g yX4_feed cX4_feed 4 (some .int) (rk 1 25) [.ref (a 0), .int b, .int n] (mdX g a X J) (fun r w2 => ∃ J2, OkM (f_feed X b n).2 J2 ∧ r = some (.int (f_feed X b n).1) ∧ w2 = mdX g a (f_feed X b n).2 J2) := by
  obtain ⟨⟨mn, yr, gr, kd, pt, wt, mr⟩, ⟨⟨kmn, kyr, kgr, kkd, kpt, kwt, kmr⟩, kp⟩, ⟨tb, tn⟩, ⟨wd, sz, nm⟩, tl⟩ := X
  obtain ⟨kc, os, sd, tk, fr, to, vl, wr, mv⟩ := J
  obtain ⟨hB, hy, hkp, htb, htn, hwd, hsz⟩ := id hX
  obtain ⟨-, hTle, hgr, hkd, hpt, hwt, hmr, hyr, hmn⟩ := id hB
  refine ct_of (by decide) (Nat.le_of_ble_eq_true rfl) ?_
  intro φ C0 Rr
  have C : Cx φ g cX4_feed 4 RX4 (rk 1 25) := C0
  show Go φ g 4 0 [(0, .ref (a 0)), (1, .int b), (2, .int n)] [] (mdV g a (sF mn yr gr kd pt wt mr) kc os sd tl kp tk tb tn fr to vl wr wd sz (flat nm) mv)
  refine g_iload_n (pc := 0) C dX4_feed_0 rfl ?_
  refine g_i2l (pc := 1) C dX4_feed_1 ?_
  refine g_lconst (pc := 2) (v := 1) C dX4_feed_2 (by decide) ?_
  refine g_ldc2 (pc := 3) C dX4_feed_3 ckl_X4_182 rfl ?_
  refine g_s0i (pc := 6) C dX4_feed_6 ml_X4_47 mf_X4_in (m_in g ((n).toInt64) 1 (4)) ⟨rfl, rfl, (Nat.le_of_ble_eq_true rfl), (Nat.le_of_ble_eq_true rfl)⟩ rfl rfl (Nat.le_of_ble_eq_true rfl) ?_
  refine g_top (y := bI (inR n 1 4 = true)) (bI_iff (w64.trans inR_iff.symm)) ?_
  refine g_if_neB (pc := 9) (tgt := 19) C dX4_feed_9 (by decide) (fun c1 => ?_) (fun c1 => ?_)
  · obtain ⟨n_, hl_n, hu_n, rfl⟩ := inR_nat (lo := 1) (hi := 4) c1
    refine g_aload_n (pc := 19) C dX4_feed_19 rfl ?_
    refine g_get4 (pc := 20) C dX4_feed_20 0 rfl 8 (by decide) fl_X4_184 rfl ?_
    refine g_iload_n (pc := 23) C dX4_feed_23 rfl ?_
    refine g_iaddN (pc := 24) C dX4_feed_24 ?_
    refine g_bipush (pc := 25) (v := nI 120) C dX4_feed_25 (by decide) ?_
    refine g_icmp_leN (pc := 27) (tgt := 37) C dX4_feed_27 (by decide) (by omega) (by omega) (fun c2 => ?_) (fun c2 => ?_)
    · rcases (show n_ = 1 ∨ n_ = 2 ∨ n_ = 3 ∨ n_ = 4 by omega) with rfl | rfl | rfl | rfl
      · refine g_iload_n (pc := 37) C dX4_feed_37 rfl ?_
        refine g_iconst (pc := 38) (v := nI 1) C dX4_feed_38 (by decide) ?_
        refine g_isubN (pc := 39) C dX4_feed_39 (by decide) ?_
        refine g_top (y := nI 0) rfl ?_
        refine g_istore_n (pc := 40) (lv2 := [(0, .ref (a 0)), (1, .int b), (2, .int (nI 1)), (3, .int (nI 0))]) C dX4_feed_40 rfl (Nat.le_of_ble_eq_true rfl) rfl ?_
        refine g_iload_n (pc := 41) C dX4_feed_41 rfl ?_
        refine g_if_ltN (pc := 42) (tgt := 80) C dX4_feed_42 (by decide) (by decide) (fun h => absurd h (by decide)) (fun _ => ?_)
        refine g_aload_n (pc := 45) C dX4_feed_45 rfl ?_
        refine g_get4 (pc := 46) C dX4_feed_46 0 rfl 7 (by decide) fl_X4_28 rfl ?_
        refine g_aload_n (pc := 49) C dX4_feed_49 rfl ?_
        refine g_get4 (pc := 50) C dX4_feed_50 0 rfl 8 (by decide) fl_X4_184 rfl ?_
        refine g_iload_n (pc := 53) C dX4_feed_53 rfl ?_
        refine g_bipush (pc := 54) (v := nI 8) C dX4_feed_54 (by decide) ?_
        refine g_iload_n (pc := 56) C dX4_feed_56 rfl ?_
        refine g_imulN (pc := 57) C dX4_feed_57 ?_
        refine g_top (y := nI 0) rfl ?_
        refine g_ishr (pc := 58) C dX4_feed_58 ?_
        refine g_sipush (pc := 59) (v := nI 255) C dX4_feed_59 (by decide) ?_
        refine g_iand (pc := 62) C dX4_feed_62 ?_
        refine g_top (y := nI (byt (b >>> (nI 0 &&& 31)))) (byt_and _) ?_
        refine g_iastM (pc := 63) (ws2 := (mdV g a (sF mn yr gr kd pt wt mr) kc os sd tl kp tk (updN tb tn (byt (b >>> (nI 0 &&& 31)))) tn fr to vl wr wd sz (flat nm) mv)) C dX4_feed_63 7 rfl rfl (by omega) (by decide) rfl ?_
        refine g_aload_n (pc := 64) C dX4_feed_64 rfl ?_
        refine g_dup (pc := 65) C dX4_feed_65 rfl ?_
        refine g_get4 (pc := 66) C dX4_feed_66 0 rfl 8 (by decide) fl_X4_184 rfl ?_
        refine g_iconst (pc := 69) (v := nI 1) C dX4_feed_69 (by decide) ?_
        refine g_iaddN (pc := 70) C dX4_feed_70 ?_
        refine g_put4 (pc := 71) (ws2 := (mdV g a (sF mn yr gr kd pt wt mr) kc os sd tl kp tk (updN tb tn (byt (b >>> (nI 0 &&& 31)))) (tn + 1) fr to vl wr wd sz (flat nm) mv)) C dX4_feed_71 0 rfl 8 (by decide) fl_X4_184 rfl rfl rfl (Nat.le_of_ble_eq_true rfl) rfl ?_
        refine g_iinc (pc := 74) (v := (-1)) (lv2 := [(0, .ref (a 0)), (1, .int b), (2, .int (nI 1)), (3, .int (-1))]) C dX4_feed_74 rfl (by decide) (Nat.le_of_ble_eq_true rfl) rfl ?_
        refine g_goto (pc := 77) (tgt := 41) C dX4_feed_77 (by decide) ?_
        refine g_iload_n (pc := 41) C dX4_feed_41 rfl ?_
        refine g_if_lt (pc := 42) (tgt := 80) C dX4_feed_42 (by decide) (fun _ => ?_) (fun h => absurd (by decide) h)
        refine g_aload_n (pc := 80) C dX4_feed_80 rfl ?_
        refine g_get4 (pc := 81) C dX4_feed_81 0 rfl 8 (by decide) fl_X4_184 rfl ?_
        have hf : f_feed ((mn, yr, gr, kd, pt, wt, mr), ((kmn, kyr, kgr, kkd, kpt, kwt, kmr), kp), (tb, tn), (wd, sz, nm), tl) b (nI 1) = ((nI (tn + 1)), ((mn, yr, gr, kd, pt, wt, mr), ((kmn, kyr, kgr, kkd, kpt, kwt, kmr), kp), (updN tb tn (byt (b >>> (nI 0 &&& 31))), tn + 1), (wd, sz, nm), tl)) := by simp only [f_feed, c1, ix_nI (show 1 < 2 ^ 31 by decide), if_true, ix_nI (show 1 < 2 ^ 31 by decide), if_pos c2]; rfl
        exact g_iret C Rr dX4_feed_84 ⟨(kc, os, sd, tk, fr, to, vl, wr, mv), by rw [hf]; exact hJ, by rw [hf], by rw [hf]; rfl⟩ rfl
      · refine g_iload_n (pc := 37) C dX4_feed_37 rfl ?_
        refine g_iconst (pc := 38) (v := nI 1) C dX4_feed_38 (by decide) ?_
        refine g_isubN (pc := 39) C dX4_feed_39 (by decide) ?_
        refine g_top (y := nI 1) rfl ?_
        refine g_istore_n (pc := 40) (lv2 := [(0, .ref (a 0)), (1, .int b), (2, .int (nI 2)), (3, .int (nI 1))]) C dX4_feed_40 rfl (Nat.le_of_ble_eq_true rfl) rfl ?_
        refine g_iload_n (pc := 41) C dX4_feed_41 rfl ?_
        refine g_if_ltN (pc := 42) (tgt := 80) C dX4_feed_42 (by decide) (by decide) (fun h => absurd h (by decide)) (fun _ => ?_)
        refine g_aload_n (pc := 45) C dX4_feed_45 rfl ?_
        refine g_get4 (pc := 46) C dX4_feed_46 0 rfl 7 (by decide) fl_X4_28 rfl ?_
        refine g_aload_n (pc := 49) C dX4_feed_49 rfl ?_
        refine g_get4 (pc := 50) C dX4_feed_50 0 rfl 8 (by decide) fl_X4_184 rfl ?_
        refine g_iload_n (pc := 53) C dX4_feed_53 rfl ?_
        refine g_bipush (pc := 54) (v := nI 8) C dX4_feed_54 (by decide) ?_
        refine g_iload_n (pc := 56) C dX4_feed_56 rfl ?_
        refine g_imulN (pc := 57) C dX4_feed_57 ?_
        refine g_top (y := nI 8) rfl ?_
        refine g_ishr (pc := 58) C dX4_feed_58 ?_
        refine g_sipush (pc := 59) (v := nI 255) C dX4_feed_59 (by decide) ?_
        refine g_iand (pc := 62) C dX4_feed_62 ?_
        refine g_top (y := nI (byt (b >>> (nI 8 &&& 31)))) (byt_and _) ?_
        refine g_iastM (pc := 63) (ws2 := (mdV g a (sF mn yr gr kd pt wt mr) kc os sd tl kp tk (updN tb tn (byt (b >>> (nI 8 &&& 31)))) tn fr to vl wr wd sz (flat nm) mv)) C dX4_feed_63 7 rfl rfl (by omega) (by decide) rfl ?_
        refine g_aload_n (pc := 64) C dX4_feed_64 rfl ?_
        refine g_dup (pc := 65) C dX4_feed_65 rfl ?_
        refine g_get4 (pc := 66) C dX4_feed_66 0 rfl 8 (by decide) fl_X4_184 rfl ?_
        refine g_iconst (pc := 69) (v := nI 1) C dX4_feed_69 (by decide) ?_
        refine g_iaddN (pc := 70) C dX4_feed_70 ?_
        refine g_put4 (pc := 71) (ws2 := (mdV g a (sF mn yr gr kd pt wt mr) kc os sd tl kp tk (updN tb tn (byt (b >>> (nI 8 &&& 31)))) (tn + 1) fr to vl wr wd sz (flat nm) mv)) C dX4_feed_71 0 rfl 8 (by decide) fl_X4_184 rfl rfl rfl (Nat.le_of_ble_eq_true rfl) rfl ?_
        refine g_iinc (pc := 74) (v := (nI 0)) (lv2 := [(0, .ref (a 0)), (1, .int b), (2, .int (nI 2)), (3, .int (nI 0))]) C dX4_feed_74 rfl (by decide) (Nat.le_of_ble_eq_true rfl) rfl ?_
        refine g_goto (pc := 77) (tgt := 41) C dX4_feed_77 (by decide) ?_
        refine g_iload_n (pc := 41) C dX4_feed_41 rfl ?_
        refine g_if_ltN (pc := 42) (tgt := 80) C dX4_feed_42 (by decide) (by decide) (fun h => absurd h (by decide)) (fun _ => ?_)
        refine g_aload_n (pc := 45) C dX4_feed_45 rfl ?_
        refine g_get4 (pc := 46) C dX4_feed_46 0 rfl 7 (by decide) fl_X4_28 rfl ?_
        refine g_aload_n (pc := 49) C dX4_feed_49 rfl ?_
        refine g_get4 (pc := 50) C dX4_feed_50 0 rfl 8 (by decide) fl_X4_184 rfl ?_
        refine g_iload_n (pc := 53) C dX4_feed_53 rfl ?_
        refine g_bipush (pc := 54) (v := nI 8) C dX4_feed_54 (by decide) ?_
        refine g_iload_n (pc := 56) C dX4_feed_56 rfl ?_
        refine g_imulN (pc := 57) C dX4_feed_57 ?_
        refine g_top (y := nI 0) rfl ?_
        refine g_ishr (pc := 58) C dX4_feed_58 ?_
        refine g_sipush (pc := 59) (v := nI 255) C dX4_feed_59 (by decide) ?_
        refine g_iand (pc := 62) C dX4_feed_62 ?_
        refine g_top (y := nI (byt (b >>> (nI 0 &&& 31)))) (byt_and _) ?_
        refine g_iastM (pc := 63) (ws2 := (mdV g a (sF mn yr gr kd pt wt mr) kc os sd tl kp tk (updN (updN tb tn (byt (b >>> (nI 8 &&& 31)))) (tn + 1) (byt (b >>> (nI 0 &&& 31)))) (tn + 1) fr to vl wr wd sz (flat nm) mv)) C dX4_feed_63 7 rfl rfl (by omega) (by decide) rfl ?_
        refine g_aload_n (pc := 64) C dX4_feed_64 rfl ?_
        refine g_dup (pc := 65) C dX4_feed_65 rfl ?_
        refine g_get4 (pc := 66) C dX4_feed_66 0 rfl 8 (by decide) fl_X4_184 rfl ?_
        refine g_iconst (pc := 69) (v := nI 1) C dX4_feed_69 (by decide) ?_
        refine g_iaddN (pc := 70) C dX4_feed_70 ?_
        refine g_put4 (pc := 71) (ws2 := (mdV g a (sF mn yr gr kd pt wt mr) kc os sd tl kp tk (updN (updN tb tn (byt (b >>> (nI 8 &&& 31)))) (tn + 1) (byt (b >>> (nI 0 &&& 31)))) ((tn + 1) + 1) fr to vl wr wd sz (flat nm) mv)) C dX4_feed_71 0 rfl 8 (by decide) fl_X4_184 rfl rfl rfl (Nat.le_of_ble_eq_true rfl) rfl ?_
        refine g_iinc (pc := 74) (v := (-1)) (lv2 := [(0, .ref (a 0)), (1, .int b), (2, .int (nI 2)), (3, .int (-1))]) C dX4_feed_74 rfl (by decide) (Nat.le_of_ble_eq_true rfl) rfl ?_
        refine g_goto (pc := 77) (tgt := 41) C dX4_feed_77 (by decide) ?_
        refine g_iload_n (pc := 41) C dX4_feed_41 rfl ?_
        refine g_if_lt (pc := 42) (tgt := 80) C dX4_feed_42 (by decide) (fun _ => ?_) (fun h => absurd (by decide) h)
        refine g_aload_n (pc := 80) C dX4_feed_80 rfl ?_
        refine g_get4 (pc := 81) C dX4_feed_81 0 rfl 8 (by decide) fl_X4_184 rfl ?_
        have hf : f_feed ((mn, yr, gr, kd, pt, wt, mr), ((kmn, kyr, kgr, kkd, kpt, kwt, kmr), kp), (tb, tn), (wd, sz, nm), tl) b (nI 2) = ((nI ((tn + 1) + 1)), ((mn, yr, gr, kd, pt, wt, mr), ((kmn, kyr, kgr, kkd, kpt, kwt, kmr), kp), (updN (updN tb tn (byt (b >>> (nI 8 &&& 31)))) (tn + 1) (byt (b >>> (nI 0 &&& 31))), (tn + 1) + 1), (wd, sz, nm), tl)) := by simp only [f_feed, c1, ix_nI (show 2 < 2 ^ 31 by decide), if_true, ix_nI (show 2 < 2 ^ 31 by decide), if_pos c2]; rfl
        exact g_iret C Rr dX4_feed_84 ⟨(kc, os, sd, tk, fr, to, vl, wr, mv), by rw [hf]; exact hJ, by rw [hf], by rw [hf]; rfl⟩ rfl
      · refine g_iload_n (pc := 37) C dX4_feed_37 rfl ?_
        refine g_iconst (pc := 38) (v := nI 1) C dX4_feed_38 (by decide) ?_
        refine g_isubN (pc := 39) C dX4_feed_39 (by decide) ?_
        refine g_top (y := nI 2) rfl ?_
        refine g_istore_n (pc := 40) (lv2 := [(0, .ref (a 0)), (1, .int b), (2, .int (nI 3)), (3, .int (nI 2))]) C dX4_feed_40 rfl (Nat.le_of_ble_eq_true rfl) rfl ?_
        refine g_iload_n (pc := 41) C dX4_feed_41 rfl ?_
        refine g_if_ltN (pc := 42) (tgt := 80) C dX4_feed_42 (by decide) (by decide) (fun h => absurd h (by decide)) (fun _ => ?_)
        refine g_aload_n (pc := 45) C dX4_feed_45 rfl ?_
        refine g_get4 (pc := 46) C dX4_feed_46 0 rfl 7 (by decide) fl_X4_28 rfl ?_
        refine g_aload_n (pc := 49) C dX4_feed_49 rfl ?_
        refine g_get4 (pc := 50) C dX4_feed_50 0 rfl 8 (by decide) fl_X4_184 rfl ?_
        refine g_iload_n (pc := 53) C dX4_feed_53 rfl ?_
        refine g_bipush (pc := 54) (v := nI 8) C dX4_feed_54 (by decide) ?_
        refine g_iload_n (pc := 56) C dX4_feed_56 rfl ?_
        refine g_imulN (pc := 57) C dX4_feed_57 ?_
        refine g_top (y := nI 16) rfl ?_
        refine g_ishr (pc := 58) C dX4_feed_58 ?_
        refine g_sipush (pc := 59) (v := nI 255) C dX4_feed_59 (by decide) ?_
        refine g_iand (pc := 62) C dX4_feed_62 ?_
        refine g_top (y := nI (byt (b >>> (nI 16 &&& 31)))) (byt_and _) ?_
        refine g_iastM (pc := 63) (ws2 := (mdV g a (sF mn yr gr kd pt wt mr) kc os sd tl kp tk (updN tb tn (byt (b >>> (nI 16 &&& 31)))) tn fr to vl wr wd sz (flat nm) mv)) C dX4_feed_63 7 rfl rfl (by omega) (by decide) rfl ?_
        refine g_aload_n (pc := 64) C dX4_feed_64 rfl ?_
        refine g_dup (pc := 65) C dX4_feed_65 rfl ?_
        refine g_get4 (pc := 66) C dX4_feed_66 0 rfl 8 (by decide) fl_X4_184 rfl ?_
        refine g_iconst (pc := 69) (v := nI 1) C dX4_feed_69 (by decide) ?_
        refine g_iaddN (pc := 70) C dX4_feed_70 ?_
        refine g_put4 (pc := 71) (ws2 := (mdV g a (sF mn yr gr kd pt wt mr) kc os sd tl kp tk (updN tb tn (byt (b >>> (nI 16 &&& 31)))) (tn + 1) fr to vl wr wd sz (flat nm) mv)) C dX4_feed_71 0 rfl 8 (by decide) fl_X4_184 rfl rfl rfl (Nat.le_of_ble_eq_true rfl) rfl ?_
        refine g_iinc (pc := 74) (v := (nI 1)) (lv2 := [(0, .ref (a 0)), (1, .int b), (2, .int (nI 3)), (3, .int (nI 1))]) C dX4_feed_74 rfl (by decide) (Nat.le_of_ble_eq_true rfl) rfl ?_
        refine g_goto (pc := 77) (tgt := 41) C dX4_feed_77 (by decide) ?_
        refine g_iload_n (pc := 41) C dX4_feed_41 rfl ?_
        refine g_if_ltN (pc := 42) (tgt := 80) C dX4_feed_42 (by decide) (by decide) (fun h => absurd h (by decide)) (fun _ => ?_)
        refine g_aload_n (pc := 45) C dX4_feed_45 rfl ?_
        refine g_get4 (pc := 46) C dX4_feed_46 0 rfl 7 (by decide) fl_X4_28 rfl ?_
        refine g_aload_n (pc := 49) C dX4_feed_49 rfl ?_
        refine g_get4 (pc := 50) C dX4_feed_50 0 rfl 8 (by decide) fl_X4_184 rfl ?_
        refine g_iload_n (pc := 53) C dX4_feed_53 rfl ?_
        refine g_bipush (pc := 54) (v := nI 8) C dX4_feed_54 (by decide) ?_
        refine g_iload_n (pc := 56) C dX4_feed_56 rfl ?_
        refine g_imulN (pc := 57) C dX4_feed_57 ?_
        refine g_top (y := nI 8) rfl ?_
        refine g_ishr (pc := 58) C dX4_feed_58 ?_
        refine g_sipush (pc := 59) (v := nI 255) C dX4_feed_59 (by decide) ?_
        refine g_iand (pc := 62) C dX4_feed_62 ?_
        refine g_top (y := nI (byt (b >>> (nI 8 &&& 31)))) (byt_and _) ?_
        refine g_iastM (pc := 63) (ws2 := (mdV g a (sF mn yr gr kd pt wt mr) kc os sd tl kp tk (updN (updN tb tn (byt (b >>> (nI 16 &&& 31)))) (tn + 1) (byt (b >>> (nI 8 &&& 31)))) (tn + 1) fr to vl wr wd sz (flat nm) mv)) C dX4_feed_63 7 rfl rfl (by omega) (by decide) rfl ?_
        refine g_aload_n (pc := 64) C dX4_feed_64 rfl ?_
        refine g_dup (pc := 65) C dX4_feed_65 rfl ?_
        refine g_get4 (pc := 66) C dX4_feed_66 0 rfl 8 (by decide) fl_X4_184 rfl ?_
        refine g_iconst (pc := 69) (v := nI 1) C dX4_feed_69 (by decide) ?_
        refine g_iaddN (pc := 70) C dX4_feed_70 ?_
        refine g_put4 (pc := 71) (ws2 := (mdV g a (sF mn yr gr kd pt wt mr) kc os sd tl kp tk (updN (updN tb tn (byt (b >>> (nI 16 &&& 31)))) (tn + 1) (byt (b >>> (nI 8 &&& 31)))) ((tn + 1) + 1) fr to vl wr wd sz (flat nm) mv)) C dX4_feed_71 0 rfl 8 (by decide) fl_X4_184 rfl rfl rfl (Nat.le_of_ble_eq_true rfl) rfl ?_
        refine g_iinc (pc := 74) (v := (nI 0)) (lv2 := [(0, .ref (a 0)), (1, .int b), (2, .int (nI 3)), (3, .int (nI 0))]) C dX4_feed_74 rfl (by decide) (Nat.le_of_ble_eq_true rfl) rfl ?_
        refine g_goto (pc := 77) (tgt := 41) C dX4_feed_77 (by decide) ?_
        refine g_iload_n (pc := 41) C dX4_feed_41 rfl ?_
        refine g_if_ltN (pc := 42) (tgt := 80) C dX4_feed_42 (by decide) (by decide) (fun h => absurd h (by decide)) (fun _ => ?_)
        refine g_aload_n (pc := 45) C dX4_feed_45 rfl ?_
        refine g_get4 (pc := 46) C dX4_feed_46 0 rfl 7 (by decide) fl_X4_28 rfl ?_
        refine g_aload_n (pc := 49) C dX4_feed_49 rfl ?_
        refine g_get4 (pc := 50) C dX4_feed_50 0 rfl 8 (by decide) fl_X4_184 rfl ?_
        refine g_iload_n (pc := 53) C dX4_feed_53 rfl ?_
        refine g_bipush (pc := 54) (v := nI 8) C dX4_feed_54 (by decide) ?_
        refine g_iload_n (pc := 56) C dX4_feed_56 rfl ?_
        refine g_imulN (pc := 57) C dX4_feed_57 ?_
        refine g_top (y := nI 0) rfl ?_
        refine g_ishr (pc := 58) C dX4_feed_58 ?_
        refine g_sipush (pc := 59) (v := nI 255) C dX4_feed_59 (by decide) ?_
        refine g_iand (pc := 62) C dX4_feed_62 ?_
        refine g_top (y := nI (byt (b >>> (nI 0 &&& 31)))) (byt_and _) ?_
        refine g_iastM (pc := 63) (ws2 := (mdV g a (sF mn yr gr kd pt wt mr) kc os sd tl kp tk (updN (updN (updN tb tn (byt (b >>> (nI 16 &&& 31)))) (tn + 1) (byt (b >>> (nI 8 &&& 31)))) ((tn + 1) + 1) (byt (b >>> (nI 0 &&& 31)))) ((tn + 1) + 1) fr to vl wr wd sz (flat nm) mv)) C dX4_feed_63 7 rfl rfl (by omega) (by decide) rfl ?_
        refine g_aload_n (pc := 64) C dX4_feed_64 rfl ?_
        refine g_dup (pc := 65) C dX4_feed_65 rfl ?_
        refine g_get4 (pc := 66) C dX4_feed_66 0 rfl 8 (by decide) fl_X4_184 rfl ?_
        refine g_iconst (pc := 69) (v := nI 1) C dX4_feed_69 (by decide) ?_
        refine g_iaddN (pc := 70) C dX4_feed_70 ?_
        refine g_put4 (pc := 71) (ws2 := (mdV g a (sF mn yr gr kd pt wt mr) kc os sd tl kp tk (updN (updN (updN tb tn (byt (b >>> (nI 16 &&& 31)))) (tn + 1) (byt (b >>> (nI 8 &&& 31)))) ((tn + 1) + 1) (byt (b >>> (nI 0 &&& 31)))) (((tn + 1) + 1) + 1) fr to vl wr wd sz (flat nm) mv)) C dX4_feed_71 0 rfl 8 (by decide) fl_X4_184 rfl rfl rfl (Nat.le_of_ble_eq_true rfl) rfl ?_
        refine g_iinc (pc := 74) (v := (-1)) (lv2 := [(0, .ref (a 0)), (1, .int b), (2, .int (nI 3)), (3, .int (-1))]) C dX4_feed_74 rfl (by decide) (Nat.le_of_ble_eq_true rfl) rfl ?_
        refine g_goto (pc := 77) (tgt := 41) C dX4_feed_77 (by decide) ?_
        refine g_iload_n (pc := 41) C dX4_feed_41 rfl ?_
        refine g_if_lt (pc := 42) (tgt := 80) C dX4_feed_42 (by decide) (fun _ => ?_) (fun h => absurd (by decide) h)
        refine g_aload_n (pc := 80) C dX4_feed_80 rfl ?_
        refine g_get4 (pc := 81) C dX4_feed_81 0 rfl 8 (by decide) fl_X4_184 rfl ?_
        have hf : f_feed ((mn, yr, gr, kd, pt, wt, mr), ((kmn, kyr, kgr, kkd, kpt, kwt, kmr), kp), (tb, tn), (wd, sz, nm), tl) b (nI 3) = ((nI (((tn + 1) + 1) + 1)), ((mn, yr, gr, kd, pt, wt, mr), ((kmn, kyr, kgr, kkd, kpt, kwt, kmr), kp), (updN (updN (updN tb tn (byt (b >>> (nI 16 &&& 31)))) (tn + 1) (byt (b >>> (nI 8 &&& 31)))) ((tn + 1) + 1) (byt (b >>> (nI 0 &&& 31))), ((tn + 1) + 1) + 1), (wd, sz, nm), tl)) := by simp only [f_feed, c1, ix_nI (show 3 < 2 ^ 31 by decide), if_true, ix_nI (show 3 < 2 ^ 31 by decide), if_pos c2]; rfl
        exact g_iret C Rr dX4_feed_84 ⟨(kc, os, sd, tk, fr, to, vl, wr, mv), by rw [hf]; exact hJ, by rw [hf], by rw [hf]; rfl⟩ rfl
      · refine g_iload_n (pc := 37) C dX4_feed_37 rfl ?_
        refine g_iconst (pc := 38) (v := nI 1) C dX4_feed_38 (by decide) ?_
        refine g_isubN (pc := 39) C dX4_feed_39 (by decide) ?_
        refine g_top (y := nI 3) rfl ?_
        refine g_istore_n (pc := 40) (lv2 := [(0, .ref (a 0)), (1, .int b), (2, .int (nI 4)), (3, .int (nI 3))]) C dX4_feed_40 rfl (Nat.le_of_ble_eq_true rfl) rfl ?_
        refine g_iload_n (pc := 41) C dX4_feed_41 rfl ?_
        refine g_if_ltN (pc := 42) (tgt := 80) C dX4_feed_42 (by decide) (by decide) (fun h => absurd h (by decide)) (fun _ => ?_)
        refine g_aload_n (pc := 45) C dX4_feed_45 rfl ?_
        refine g_get4 (pc := 46) C dX4_feed_46 0 rfl 7 (by decide) fl_X4_28 rfl ?_
        refine g_aload_n (pc := 49) C dX4_feed_49 rfl ?_
        refine g_get4 (pc := 50) C dX4_feed_50 0 rfl 8 (by decide) fl_X4_184 rfl ?_
        refine g_iload_n (pc := 53) C dX4_feed_53 rfl ?_
        refine g_bipush (pc := 54) (v := nI 8) C dX4_feed_54 (by decide) ?_
        refine g_iload_n (pc := 56) C dX4_feed_56 rfl ?_
        refine g_imulN (pc := 57) C dX4_feed_57 ?_
        refine g_top (y := nI 24) rfl ?_
        refine g_ishr (pc := 58) C dX4_feed_58 ?_
        refine g_sipush (pc := 59) (v := nI 255) C dX4_feed_59 (by decide) ?_
        refine g_iand (pc := 62) C dX4_feed_62 ?_
        refine g_top (y := nI (byt (b >>> (nI 24 &&& 31)))) (byt_and _) ?_
        refine g_iastM (pc := 63) (ws2 := (mdV g a (sF mn yr gr kd pt wt mr) kc os sd tl kp tk (updN tb tn (byt (b >>> (nI 24 &&& 31)))) tn fr to vl wr wd sz (flat nm) mv)) C dX4_feed_63 7 rfl rfl (by omega) (by decide) rfl ?_
        refine g_aload_n (pc := 64) C dX4_feed_64 rfl ?_
        refine g_dup (pc := 65) C dX4_feed_65 rfl ?_
        refine g_get4 (pc := 66) C dX4_feed_66 0 rfl 8 (by decide) fl_X4_184 rfl ?_
        refine g_iconst (pc := 69) (v := nI 1) C dX4_feed_69 (by decide) ?_
        refine g_iaddN (pc := 70) C dX4_feed_70 ?_
        refine g_put4 (pc := 71) (ws2 := (mdV g a (sF mn yr gr kd pt wt mr) kc os sd tl kp tk (updN tb tn (byt (b >>> (nI 24 &&& 31)))) (tn + 1) fr to vl wr wd sz (flat nm) mv)) C dX4_feed_71 0 rfl 8 (by decide) fl_X4_184 rfl rfl rfl (Nat.le_of_ble_eq_true rfl) rfl ?_
        refine g_iinc (pc := 74) (v := (nI 2)) (lv2 := [(0, .ref (a 0)), (1, .int b), (2, .int (nI 4)), (3, .int (nI 2))]) C dX4_feed_74 rfl (by decide) (Nat.le_of_ble_eq_true rfl) rfl ?_
        refine g_goto (pc := 77) (tgt := 41) C dX4_feed_77 (by decide) ?_
        refine g_iload_n (pc := 41) C dX4_feed_41 rfl ?_
        refine g_if_ltN (pc := 42) (tgt := 80) C dX4_feed_42 (by decide) (by decide) (fun h => absurd h (by decide)) (fun _ => ?_)
        refine g_aload_n (pc := 45) C dX4_feed_45 rfl ?_
        refine g_get4 (pc := 46) C dX4_feed_46 0 rfl 7 (by decide) fl_X4_28 rfl ?_
        refine g_aload_n (pc := 49) C dX4_feed_49 rfl ?_
        refine g_get4 (pc := 50) C dX4_feed_50 0 rfl 8 (by decide) fl_X4_184 rfl ?_
        refine g_iload_n (pc := 53) C dX4_feed_53 rfl ?_
        refine g_bipush (pc := 54) (v := nI 8) C dX4_feed_54 (by decide) ?_
        refine g_iload_n (pc := 56) C dX4_feed_56 rfl ?_
        refine g_imulN (pc := 57) C dX4_feed_57 ?_
        refine g_top (y := nI 16) rfl ?_
        refine g_ishr (pc := 58) C dX4_feed_58 ?_
        refine g_sipush (pc := 59) (v := nI 255) C dX4_feed_59 (by decide) ?_
        refine g_iand (pc := 62) C dX4_feed_62 ?_
        refine g_top (y := nI (byt (b >>> (nI 16 &&& 31)))) (byt_and _) ?_
        refine g_iastM (pc := 63) (ws2 := (mdV g a (sF mn yr gr kd pt wt mr) kc os sd tl kp tk (updN (updN tb tn (byt (b >>> (nI 24 &&& 31)))) (tn + 1) (byt (b >>> (nI 16 &&& 31)))) (tn + 1) fr to vl wr wd sz (flat nm) mv)) C dX4_feed_63 7 rfl rfl (by omega) (by decide) rfl ?_
        refine g_aload_n (pc := 64) C dX4_feed_64 rfl ?_
        refine g_dup (pc := 65) C dX4_feed_65 rfl ?_
        refine g_get4 (pc := 66) C dX4_feed_66 0 rfl 8 (by decide) fl_X4_184 rfl ?_
        refine g_iconst (pc := 69) (v := nI 1) C dX4_feed_69 (by decide) ?_
        refine g_iaddN (pc := 70) C dX4_feed_70 ?_
        refine g_put4 (pc := 71) (ws2 := (mdV g a (sF mn yr gr kd pt wt mr) kc os sd tl kp tk (updN (updN tb tn (byt (b >>> (nI 24 &&& 31)))) (tn + 1) (byt (b >>> (nI 16 &&& 31)))) ((tn + 1) + 1) fr to vl wr wd sz (flat nm) mv)) C dX4_feed_71 0 rfl 8 (by decide) fl_X4_184 rfl rfl rfl (Nat.le_of_ble_eq_true rfl) rfl ?_
        refine g_iinc (pc := 74) (v := (nI 1)) (lv2 := [(0, .ref (a 0)), (1, .int b), (2, .int (nI 4)), (3, .int (nI 1))]) C dX4_feed_74 rfl (by decide) (Nat.le_of_ble_eq_true rfl) rfl ?_
        refine g_goto (pc := 77) (tgt := 41) C dX4_feed_77 (by decide) ?_
        refine g_iload_n (pc := 41) C dX4_feed_41 rfl ?_
        refine g_if_ltN (pc := 42) (tgt := 80) C dX4_feed_42 (by decide) (by decide) (fun h => absurd h (by decide)) (fun _ => ?_)
        refine g_aload_n (pc := 45) C dX4_feed_45 rfl ?_
        refine g_get4 (pc := 46) C dX4_feed_46 0 rfl 7 (by decide) fl_X4_28 rfl ?_
        refine g_aload_n (pc := 49) C dX4_feed_49 rfl ?_
        refine g_get4 (pc := 50) C dX4_feed_50 0 rfl 8 (by decide) fl_X4_184 rfl ?_
        refine g_iload_n (pc := 53) C dX4_feed_53 rfl ?_
        refine g_bipush (pc := 54) (v := nI 8) C dX4_feed_54 (by decide) ?_
        refine g_iload_n (pc := 56) C dX4_feed_56 rfl ?_
        refine g_imulN (pc := 57) C dX4_feed_57 ?_
        refine g_top (y := nI 8) rfl ?_
        refine g_ishr (pc := 58) C dX4_feed_58 ?_
        refine g_sipush (pc := 59) (v := nI 255) C dX4_feed_59 (by decide) ?_
        refine g_iand (pc := 62) C dX4_feed_62 ?_
        refine g_top (y := nI (byt (b >>> (nI 8 &&& 31)))) (byt_and _) ?_
        refine g_iastM (pc := 63) (ws2 := (mdV g a (sF mn yr gr kd pt wt mr) kc os sd tl kp tk (updN (updN (updN tb tn (byt (b >>> (nI 24 &&& 31)))) (tn + 1) (byt (b >>> (nI 16 &&& 31)))) ((tn + 1) + 1) (byt (b >>> (nI 8 &&& 31)))) ((tn + 1) + 1) fr to vl wr wd sz (flat nm) mv)) C dX4_feed_63 7 rfl rfl (by omega) (by decide) rfl ?_
        refine g_aload_n (pc := 64) C dX4_feed_64 rfl ?_
        refine g_dup (pc := 65) C dX4_feed_65 rfl ?_
        refine g_get4 (pc := 66) C dX4_feed_66 0 rfl 8 (by decide) fl_X4_184 rfl ?_
        refine g_iconst (pc := 69) (v := nI 1) C dX4_feed_69 (by decide) ?_
        refine g_iaddN (pc := 70) C dX4_feed_70 ?_
        refine g_put4 (pc := 71) (ws2 := (mdV g a (sF mn yr gr kd pt wt mr) kc os sd tl kp tk (updN (updN (updN tb tn (byt (b >>> (nI 24 &&& 31)))) (tn + 1) (byt (b >>> (nI 16 &&& 31)))) ((tn + 1) + 1) (byt (b >>> (nI 8 &&& 31)))) (((tn + 1) + 1) + 1) fr to vl wr wd sz (flat nm) mv)) C dX4_feed_71 0 rfl 8 (by decide) fl_X4_184 rfl rfl rfl (Nat.le_of_ble_eq_true rfl) rfl ?_
        refine g_iinc (pc := 74) (v := (nI 0)) (lv2 := [(0, .ref (a 0)), (1, .int b), (2, .int (nI 4)), (3, .int (nI 0))]) C dX4_feed_74 rfl (by decide) (Nat.le_of_ble_eq_true rfl) rfl ?_
        refine g_goto (pc := 77) (tgt := 41) C dX4_feed_77 (by decide) ?_
        refine g_iload_n (pc := 41) C dX4_feed_41 rfl ?_
        refine g_if_ltN (pc := 42) (tgt := 80) C dX4_feed_42 (by decide) (by decide) (fun h => absurd h (by decide)) (fun _ => ?_)
        refine g_aload_n (pc := 45) C dX4_feed_45 rfl ?_
        refine g_get4 (pc := 46) C dX4_feed_46 0 rfl 7 (by decide) fl_X4_28 rfl ?_
        refine g_aload_n (pc := 49) C dX4_feed_49 rfl ?_
        refine g_get4 (pc := 50) C dX4_feed_50 0 rfl 8 (by decide) fl_X4_184 rfl ?_
        refine g_iload_n (pc := 53) C dX4_feed_53 rfl ?_
        refine g_bipush (pc := 54) (v := nI 8) C dX4_feed_54 (by decide) ?_
        refine g_iload_n (pc := 56) C dX4_feed_56 rfl ?_
        refine g_imulN (pc := 57) C dX4_feed_57 ?_
        refine g_top (y := nI 0) rfl ?_
        refine g_ishr (pc := 58) C dX4_feed_58 ?_
        refine g_sipush (pc := 59) (v := nI 255) C dX4_feed_59 (by decide) ?_
        refine g_iand (pc := 62) C dX4_feed_62 ?_
        refine g_top (y := nI (byt (b >>> (nI 0 &&& 31)))) (byt_and _) ?_
        refine g_iastM (pc := 63) (ws2 := (mdV g a (sF mn yr gr kd pt wt mr) kc os sd tl kp tk (updN (updN (updN (updN tb tn (byt (b >>> (nI 24 &&& 31)))) (tn + 1) (byt (b >>> (nI 16 &&& 31)))) ((tn + 1) + 1) (byt (b >>> (nI 8 &&& 31)))) (((tn + 1) + 1) + 1) (byt (b >>> (nI 0 &&& 31)))) (((tn + 1) + 1) + 1) fr to vl wr wd sz (flat nm) mv)) C dX4_feed_63 7 rfl rfl (by omega) (by decide) rfl ?_
        refine g_aload_n (pc := 64) C dX4_feed_64 rfl ?_
        refine g_dup (pc := 65) C dX4_feed_65 rfl ?_
        refine g_get4 (pc := 66) C dX4_feed_66 0 rfl 8 (by decide) fl_X4_184 rfl ?_
        refine g_iconst (pc := 69) (v := nI 1) C dX4_feed_69 (by decide) ?_
        refine g_iaddN (pc := 70) C dX4_feed_70 ?_
        refine g_put4 (pc := 71) (ws2 := (mdV g a (sF mn yr gr kd pt wt mr) kc os sd tl kp tk (updN (updN (updN (updN tb tn (byt (b >>> (nI 24 &&& 31)))) (tn + 1) (byt (b >>> (nI 16 &&& 31)))) ((tn + 1) + 1) (byt (b >>> (nI 8 &&& 31)))) (((tn + 1) + 1) + 1) (byt (b >>> (nI 0 &&& 31)))) ((((tn + 1) + 1) + 1) + 1) fr to vl wr wd sz (flat nm) mv)) C dX4_feed_71 0 rfl 8 (by decide) fl_X4_184 rfl rfl rfl (Nat.le_of_ble_eq_true rfl) rfl ?_
        refine g_iinc (pc := 74) (v := (-1)) (lv2 := [(0, .ref (a 0)), (1, .int b), (2, .int (nI 4)), (3, .int (-1))]) C dX4_feed_74 rfl (by decide) (Nat.le_of_ble_eq_true rfl) rfl ?_
        refine g_goto (pc := 77) (tgt := 41) C dX4_feed_77 (by decide) ?_
        refine g_iload_n (pc := 41) C dX4_feed_41 rfl ?_
        refine g_if_lt (pc := 42) (tgt := 80) C dX4_feed_42 (by decide) (fun _ => ?_) (fun h => absurd (by decide) h)
        refine g_aload_n (pc := 80) C dX4_feed_80 rfl ?_
        refine g_get4 (pc := 81) C dX4_feed_81 0 rfl 8 (by decide) fl_X4_184 rfl ?_
        have hf : f_feed ((mn, yr, gr, kd, pt, wt, mr), ((kmn, kyr, kgr, kkd, kpt, kwt, kmr), kp), (tb, tn), (wd, sz, nm), tl) b (nI 4) = ((nI ((((tn + 1) + 1) + 1) + 1)), ((mn, yr, gr, kd, pt, wt, mr), ((kmn, kyr, kgr, kkd, kpt, kwt, kmr), kp), (updN (updN (updN (updN tb tn (byt (b >>> (nI 24 &&& 31)))) (tn + 1) (byt (b >>> (nI 16 &&& 31)))) ((tn + 1) + 1) (byt (b >>> (nI 8 &&& 31)))) (((tn + 1) + 1) + 1) (byt (b >>> (nI 0 &&& 31))), (((tn + 1) + 1) + 1) + 1), (wd, sz, nm), tl)) := by simp only [f_feed, c1, ix_nI (show 4 < 2 ^ 31 by decide), if_true, ix_nI (show 4 < 2 ^ 31 by decide), if_pos c2]; rfl
        exact g_iret C Rr dX4_feed_84 ⟨(kc, os, sd, tk, fr, to, vl, wr, mv), by rw [hf]; exact hJ, by rw [hf], by rw [hf]; rfl⟩ rfl
    · refine g_aload_n (pc := 30) C dX4_feed_30 rfl ?_
      refine g_ldc (pc := 31) C dX4_feed_31 ck_X4_75 rfl ?_
      refine g_vxi (pc := 33) (ws2 := (mdV g a (sF mn yr gr kd pt wt mr) kc os sd (updN tl 1 (tl 1 + 1)) kp tk tb tn fr to vl wr wd sz (flat nm) mv)) C dX4_feed_33 ml_X4_64 mf_X4_finds (m_finds g a (sF mn yr gr kd pt wt mr) kc os sd tl kp tk tb tn fr to vl wr wd sz (flat nm) mv 1 (by decide)) ⟨rfl, rfl, (Nat.le_of_ble_eq_true rfl), (Nat.le_of_ble_eq_true rfl)⟩ rfl rfl (Nat.le_of_ble_eq_true rfl) 0 rfl rfl rfl [0, 1, 2, 3, 4, 5, 6, 7, 8, 9, 10, 11] [] [0, 1, 2, 3, 4, 5, 6, 7, 8, 9, 10, 11] rfl rfl rfl rfl (by decide) rfl rfl ?_
      have hf : f_feed ((mn, yr, gr, kd, pt, wt, mr), ((kmn, kyr, kgr, kkd, kpt, kwt, kmr), kp), (tb, tn), (wd, sz, nm), tl) b (nI n_) = ((fd 1), ((mn, yr, gr, kd, pt, wt, mr), ((kmn, kyr, kgr, kkd, kpt, kwt, kmr), kp), (tb, tn), (wd, sz, nm), updN tl 1 (tl 1 + 1))) := by simp [f_feed, fnd, c1, c2, Nat.not_le.mpr c2, ix_nI (show n_ < 2 ^ 31 by omega)]
      exact g_iret C Rr dX4_feed_36 ⟨(kc, os, sd, tk, fr, to, vl, wr, mv), by rw [hf]; exact hJ, by rw [hf], by rw [hf]; rfl⟩ rfl
  · refine g_aload_n (pc := 12) C dX4_feed_12 rfl ?_
    refine g_ldc (pc := 13) C dX4_feed_13 ck_X4_44 rfl ?_
    refine g_vxi (pc := 15) (ws2 := (mdV g a (sF mn yr gr kd pt wt mr) kc os sd (updN tl 0 (tl 0 + 1)) kp tk tb tn fr to vl wr wd sz (flat nm) mv)) C dX4_feed_15 ml_X4_64 mf_X4_finds (m_finds g a (sF mn yr gr kd pt wt mr) kc os sd tl kp tk tb tn fr to vl wr wd sz (flat nm) mv 0 (by decide)) ⟨rfl, rfl, (Nat.le_of_ble_eq_true rfl), (Nat.le_of_ble_eq_true rfl)⟩ rfl rfl (Nat.le_of_ble_eq_true rfl) 0 rfl rfl rfl [0, 1, 2, 3, 4, 5, 6, 7, 8, 9, 10, 11] [] [0, 1, 2, 3, 4, 5, 6, 7, 8, 9, 10, 11] rfl rfl rfl rfl (by decide) rfl rfl ?_
    have hf : f_feed ((mn, yr, gr, kd, pt, wt, mr), ((kmn, kyr, kgr, kkd, kpt, kwt, kmr), kp), (tb, tn), (wd, sz, nm), tl) b n = ((fd 0), ((mn, yr, gr, kd, pt, wt, mr), ((kmn, kyr, kgr, kkd, kpt, kwt, kmr), kp), (tb, tn), (wd, sz, nm), updN tl 0 (tl 0 + 1))) := by simp [f_feed, fnd, c1]
    exact g_iret C Rr dX4_feed_18 ⟨(kc, os, sd, tk, fr, to, vl, wr, mv), by rw [hf]; exact hJ, by rw [hf], by rw [hf]; rfl⟩ rfl
set_option maxHeartbeats 400000 in
set_option maxRecDepth 100000 in
theorem c_append (g : Gl) (au : Nat → Nat) (tn : Nat) (pl : Nat) (tk : Nat) (sr : Nat) (vl : Nat) (tb : Nat → Nat) (v : Nat) (hv : v < 256) (ht : tn < 120) : Ct g yX2_append cX2_append 2 none (rk 0 0) [.ref (au 0), .int (sb_b v)] (tpV g au (tbB tb) tn pl tk sr vl) (fun r w2 => r = none ∧ w2 = (tpV g au (tbB (updN tb tn v)) (tn + 1) pl tk sr vl)) := by
  refine ct_of (by decide) (Nat.le_of_ble_eq_true rfl) ?_
  intro φ C0 Rr
  have C : Cx φ g cX2_append 2 RX2 (rk 0 0) := C0
  show Go φ g 2 0 [(0, .ref (au 0)), (1, .int (sb_b v))] [] (tpV g au (tbB tb) tn pl tk sr vl)
  refine g_aload_n (pc := 0) C dX2_append_0 rfl ?_
  refine g_get2 (pc := 1) C dX2_append_1 0 rfl 1 (by decide) fl_X2_15 rfl ?_
  refine g_bipush (pc := 4) (v := nI 120) C dX2_append_4 (by decide) ?_
  refine g_icmp_geN (pc := 6) (tgt := 29) C dX2_append_6 (by decide) (by omega) (by omega) (fun c1 => ?_) (fun c1 => ?_)
  · exact absurd c1 (by omega)
  · refine g_aload_n (pc := 9) C dX2_append_9 rfl ?_
    refine g_get2 (pc := 10) C dX2_append_10 0 rfl 0 (by decide) fl_X2_9 rfl ?_
    refine g_aload_n (pc := 13) C dX2_append_13 rfl ?_
    refine g_get2 (pc := 14) C dX2_append_14 0 rfl 1 (by decide) fl_X2_15 rfl ?_
    refine g_iload_n (pc := 17) C dX2_append_17 rfl ?_
    refine g_bastN (pc := 18) (ws2 := (tpV g au (upd (tbB tb) tn (vp_nar .byte (sb_b v))) tn pl tk sr vl)) C dX2_append_18 1 rfl rfl (by omega) (by decide) rfl ?_
    refine g_ws (ws := (tpV g au (upd (tbB tb) tn (vp_nar .byte (sb_b v))) tn pl tk sr vl)) (ws2 := (tpV g au (tbB (updN tb tn v)) tn pl tk sr vl)) (by rw [tbB_upd hv]) ?_
    refine g_aload_n (pc := 19) C dX2_append_19 rfl ?_
    refine g_dup (pc := 20) C dX2_append_20 rfl ?_
    refine g_get2 (pc := 21) C dX2_append_21 0 rfl 1 (by decide) fl_X2_15 rfl ?_
    refine g_iconst (pc := 24) (v := nI 1) C dX2_append_24 (by decide) ?_
    refine g_iaddN (pc := 25) C dX2_append_25 ?_
    refine g_put2 (pc := 26) (ws2 := (tpV g au (tbB (updN tb tn v)) (tn + 1) pl tk sr vl)) C dX2_append_26 0 rfl 1 (by decide) fl_X2_15 rfl rfl rfl (Nat.le_of_ble_eq_true rfl) rfl ?_
    exact g_vret C Rr dX2_append_29 ⟨rfl, rfl⟩ rfl
set_option maxHeartbeats 400000 in
set_option maxRecDepth 100000 in
theorem x_feed (g : Gl) (A : Ac) (X : Xs) (J : Jc) (b : Int32) (n : Int32) (hX : InvX X) (hJ : OkJ X J) : Ct g yX3_feed cX3_feed 4 (some .int) (rk 1 22) [.ref (A.1 0), .int b, .int n] (spX g A X J) (fun r w2 => ∃ J2, OkJ (f_feed X b n).2 J2 ∧ r = some (.int (f_feed X b n).1) ∧ w2 = spX g A (f_feed X b n).2 J2) := by
  obtain ⟨ao, ap, ak, at', au, ae, a0, a1, a2, a3, ay⟩ := A
  obtain ⟨⟨mn, yr, gr, kd, pt, wt, mr⟩, ⟨ks, kp⟩, ⟨tb, tn⟩, ⟨wd, sz, nm⟩, tl⟩ := X
  obtain ⟨la, ⟨⟨kmn, kyr, kgr, kkd, kpt, kwt, kmr⟩, kla⟩, ⟨⟨tmn, tyr, tgr, tkd, tpt, twt, tmr⟩, tla⟩, ⟨pl, tk, sr, vl⟩⟩ := J
  obtain ⟨hB, hy, hkp, htb, htn, hwd, hsz⟩ := id hX
  obtain ⟨-, hTle, hgr, hkd, hpt, hwt, hmr, hyr, hmn⟩ := id hB
  refine ct_of (by decide) (Nat.le_of_ble_eq_true rfl) ?_
  intro φ C0 Rr
  have C : Cx φ g cX3_feed 4 RX3 (rk 1 22) := C0
  show Go φ g 4 0 [(0, .ref (ao 0)), (1, .int b), (2, .int n)] [] (fl [spO g ao ap ak at' au ae ay kp, potV g ap gr la kd pt wt mr (sumN gr 12) yr mn, potV g ak kgr kla kkd kpt kwt kmr (sumN kgr 12) kyr kmn, potV g at' tgr tla tkd tpt twt tmr (sumN tgr 12) tyr tmn, tpV g au (tbB tb) tn pl tk sr vl, shA g ae a0 a1 a2 a3, shV g a0 (nm 0) (wd 0) (sz 0), shV g a1 (nm 1) (wd 1) (sz 1), shV g a2 (nm 2) (wd 2) (sz 2), shV g a3 (nm 3) (wd 3) (sz 3), arr7 g ay tl])
  refine g_iload_n (pc := 0) C dX3_feed_0 rfl ?_
  refine g_iconst (pc := 1) (v := nI 1) C dX3_feed_1 (by decide) ?_
  refine g_iconst (pc := 2) (v := nI 4) C dX3_feed_2 (by decide) ?_
  refine g_s0i (pc := 3) C dX3_feed_3 ml_X3_52 mf_X3_isWithin (c_isWithin g n (nI 1) (nI 4)) ⟨rfl, rfl, (Nat.le_of_ble_eq_true rfl), (Nat.le_of_ble_eq_true rfl)⟩ rfl rfl (Nat.le_of_ble_eq_true rfl) ?_
  refine g_top (y := bI (inR n 1 4 = true)) (bI_iff (isW_iff (by decide) (by decide))) ?_
  refine g_if_neB (pc := 6) (tgt := 15) C dX3_feed_6 (by decide) (fun c1 => ?_) (fun c1 => ?_)
  · obtain ⟨n_, hl_n, hu_n, rfl⟩ := inR_nat (lo := 1) (hi := 4) c1
    refine g_aload_n (pc := 15) C dX3_feed_15 rfl ?_
    refine g_get3 (pc := 16) C dX3_feed_16 0 rfl 3 (by decide) fl_X3_25 rfl ?_
    refine g_get2 (pc := 19) C dX3_feed_19 22 rfl 1 (by decide) fl_X3_157 rfl ?_
    refine g_iload_n (pc := 22) C dX3_feed_22 rfl ?_
    refine g_iaddN (pc := 23) C dX3_feed_23 ?_
    refine g_bipush (pc := 24) (v := nI 120) C dX3_feed_24 (by decide) ?_
    refine g_icmp_leN (pc := 26) (tgt := 35) C dX3_feed_26 (by decide) (by omega) (by omega) (fun c2 => ?_) (fun c2 => ?_)
    · rcases (show n_ = 1 ∨ n_ = 2 ∨ n_ = 3 ∨ n_ = 4 by omega) with rfl | rfl | rfl | rfl
      · refine g_iload_n (pc := 35) C dX3_feed_35 rfl ?_
        refine g_iconst (pc := 36) (v := nI 1) C dX3_feed_36 (by decide) ?_
        refine g_isubN (pc := 37) C dX3_feed_37 (by decide) ?_
        refine g_top (y := nI 0) rfl ?_
        refine g_istore_n (pc := 38) (lv2 := [(0, .ref (ao 0)), (1, .int b), (2, .int (nI 1)), (3, .int (nI 0))]) C dX3_feed_38 rfl (Nat.le_of_ble_eq_true rfl) rfl ?_
        refine g_iload_n (pc := 39) C dX3_feed_39 rfl ?_
        refine g_if_ltN (pc := 40) (tgt := 63) C dX3_feed_40 (by decide) (by decide) (fun h => absurd h (by decide)) (fun _ => ?_)
        refine g_aload_n (pc := 43) C dX3_feed_43 rfl ?_
        refine g_get3 (pc := 44) C dX3_feed_44 0 rfl 3 (by decide) fl_X3_25 rfl ?_
        refine g_iload_n (pc := 47) C dX3_feed_47 rfl ?_
        refine g_bipush (pc := 48) (v := nI 8) C dX3_feed_48 (by decide) ?_
        refine g_iload_n (pc := 50) C dX3_feed_50 rfl ?_
        refine g_imulN (pc := 51) C dX3_feed_51 ?_
        refine g_top (y := nI 0) rfl ?_
        refine g_ishr (pc := 52) C dX3_feed_52 ?_
        refine g_i2b (pc := 53) C dX3_feed_53 ?_
        refine g_top (y := (sb_b (byt (b >>> (nI 0 &&& 31))))) (byt_b _) ?_
        refine g_bxn (pc := 54) (cs := [tpV g au (tbB tb) tn pl tk sr vl]) (ds := [tpV g au (tbB (updN tb tn (byt (b >>> (nI 0 &&& 31))))) (tn + 1) pl tk sr vl]) (bs2 := [spO g ao ap ak at' au ae ay kp, potV g ap gr la kd pt wt mr (sumN gr 12) yr mn, potV g ak kgr kla kkd kpt kwt kmr (sumN kgr 12) kyr kmn, potV g at' tgr tla tkd tpt twt tmr (sumN tgr 12) tyr tmn, tpV g au (tbB (updN tb tn (byt (b >>> (nI 0 &&& 31))))) (tn + 1) pl tk sr vl, shA g ae a0 a1 a2 a3, shV g a0 (nm 0) (wd 0) (sz 0), shV g a1 (nm 1) (wd 1) (sz 1), shV g a2 (nm 2) (wd 2) (sz 2), shV g a3 (nm 3) (wd 3) (sz 3), arr7 g ay tl]) C dX3_feed_54 ml_X3_160 mf_X2_append (c_append g au tn pl tk sr vl tb (byt (b >>> (nI 0 &&& 31))) (byt_lt _) (by omega)) ⟨rfl, rfl, (Nat.le_of_ble_eq_true rfl), (Nat.le_of_ble_eq_true rfl)⟩ rfl rfl (Nat.le_of_ble_eq_true rfl) (fl1 _) (fl1 _) 0 rfl rfl rfl [4] rfl rfl rfl rfl ?_
        refine g_iinc (pc := 57) (v := (-1)) (lv2 := [(0, .ref (ao 0)), (1, .int b), (2, .int (nI 1)), (3, .int (-1))]) C dX3_feed_57 rfl (by decide) (Nat.le_of_ble_eq_true rfl) rfl ?_
        refine g_goto (pc := 60) (tgt := 39) C dX3_feed_60 (by decide) ?_
        refine g_iload_n (pc := 39) C dX3_feed_39 rfl ?_
        refine g_if_lt (pc := 40) (tgt := 63) C dX3_feed_40 (by decide) (fun _ => ?_) (fun h => absurd (by decide) h)
        refine g_aload_n (pc := 63) C dX3_feed_63 rfl ?_
        refine g_get3 (pc := 64) C dX3_feed_64 0 rfl 3 (by decide) fl_X3_25 rfl ?_
        refine g_get2 (pc := 67) C dX3_feed_67 22 rfl 1 (by decide) fl_X3_157 rfl ?_
        have hf : f_feed ((mn, yr, gr, kd, pt, wt, mr), (ks, kp), (tb, tn), (wd, sz, nm), tl) b (nI 1) = ((nI (tn + 1)), ((mn, yr, gr, kd, pt, wt, mr), (ks, kp), ((updN tb tn (byt (b >>> (nI 0 &&& 31)))), tn + 1), (wd, sz, nm), tl)) := by simp only [f_feed, c1, ix_nI (show 1 < 2 ^ 31 by decide), if_true, ix_nI (show 1 < 2 ^ 31 by decide), if_pos c2]; rfl
        exact g_iret C Rr dX3_feed_70 ⟨(la, ((kmn, kyr, kgr, kkd, kpt, kwt, kmr), kla), ((tmn, tyr, tgr, tkd, tpt, twt, tmr), tla), (pl, tk, sr, vl)), by rw [hf]; exact (fun h => hJ h), by rw [hf], by rw [hf]; rfl⟩ (spX_ad g (ao, ap, ak, at', au, ae, a0, a1, a2, a3, ay) ((mn, yr, gr, kd, pt, wt, mr), (ks, kp), ((updN tb tn (byt (b >>> (nI 0 &&& 31)))), tn + 1), (wd, sz, nm), tl) ((mn, yr, gr, kd, pt, wt, mr), (ks, kp), (tb, tn), (wd, sz, nm), tl) (la, ((kmn, kyr, kgr, kkd, kpt, kwt, kmr), kla), ((tmn, tyr, tgr, tkd, tpt, twt, tmr), tla), (pl, tk, sr, vl)) (la, ((kmn, kyr, kgr, kkd, kpt, kwt, kmr), kla), ((tmn, tyr, tgr, tkd, tpt, twt, tmr), tla), (pl, tk, sr, vl)))
      · refine g_iload_n (pc := 35) C dX3_feed_35 rfl ?_
        refine g_iconst (pc := 36) (v := nI 1) C dX3_feed_36 (by decide) ?_
        refine g_isubN (pc := 37) C dX3_feed_37 (by decide) ?_
        refine g_top (y := nI 1) rfl ?_
        refine g_istore_n (pc := 38) (lv2 := [(0, .ref (ao 0)), (1, .int b), (2, .int (nI 2)), (3, .int (nI 1))]) C dX3_feed_38 rfl (Nat.le_of_ble_eq_true rfl) rfl ?_
        refine g_iload_n (pc := 39) C dX3_feed_39 rfl ?_
        refine g_if_ltN (pc := 40) (tgt := 63) C dX3_feed_40 (by decide) (by decide) (fun h => absurd h (by decide)) (fun _ => ?_)
        refine g_aload_n (pc := 43) C dX3_feed_43 rfl ?_
        refine g_get3 (pc := 44) C dX3_feed_44 0 rfl 3 (by decide) fl_X3_25 rfl ?_
        refine g_iload_n (pc := 47) C dX3_feed_47 rfl ?_
        refine g_bipush (pc := 48) (v := nI 8) C dX3_feed_48 (by decide) ?_
        refine g_iload_n (pc := 50) C dX3_feed_50 rfl ?_
        refine g_imulN (pc := 51) C dX3_feed_51 ?_
        refine g_top (y := nI 8) rfl ?_
        refine g_ishr (pc := 52) C dX3_feed_52 ?_
        refine g_i2b (pc := 53) C dX3_feed_53 ?_
        refine g_top (y := (sb_b (byt (b >>> (nI 8 &&& 31))))) (byt_b _) ?_
        refine g_bxn (pc := 54) (cs := [tpV g au (tbB tb) tn pl tk sr vl]) (ds := [tpV g au (tbB (updN tb tn (byt (b >>> (nI 8 &&& 31))))) (tn + 1) pl tk sr vl]) (bs2 := [spO g ao ap ak at' au ae ay kp, potV g ap gr la kd pt wt mr (sumN gr 12) yr mn, potV g ak kgr kla kkd kpt kwt kmr (sumN kgr 12) kyr kmn, potV g at' tgr tla tkd tpt twt tmr (sumN tgr 12) tyr tmn, tpV g au (tbB (updN tb tn (byt (b >>> (nI 8 &&& 31))))) (tn + 1) pl tk sr vl, shA g ae a0 a1 a2 a3, shV g a0 (nm 0) (wd 0) (sz 0), shV g a1 (nm 1) (wd 1) (sz 1), shV g a2 (nm 2) (wd 2) (sz 2), shV g a3 (nm 3) (wd 3) (sz 3), arr7 g ay tl]) C dX3_feed_54 ml_X3_160 mf_X2_append (c_append g au tn pl tk sr vl tb (byt (b >>> (nI 8 &&& 31))) (byt_lt _) (by omega)) ⟨rfl, rfl, (Nat.le_of_ble_eq_true rfl), (Nat.le_of_ble_eq_true rfl)⟩ rfl rfl (Nat.le_of_ble_eq_true rfl) (fl1 _) (fl1 _) 0 rfl rfl rfl [4] rfl rfl rfl rfl ?_
        refine g_iinc (pc := 57) (v := (nI 0)) (lv2 := [(0, .ref (ao 0)), (1, .int b), (2, .int (nI 2)), (3, .int (nI 0))]) C dX3_feed_57 rfl (by decide) (Nat.le_of_ble_eq_true rfl) rfl ?_
        refine g_goto (pc := 60) (tgt := 39) C dX3_feed_60 (by decide) ?_
        refine g_iload_n (pc := 39) C dX3_feed_39 rfl ?_
        refine g_if_ltN (pc := 40) (tgt := 63) C dX3_feed_40 (by decide) (by decide) (fun h => absurd h (by decide)) (fun _ => ?_)
        refine g_aload_n (pc := 43) C dX3_feed_43 rfl ?_
        refine g_get3 (pc := 44) C dX3_feed_44 0 rfl 3 (by decide) fl_X3_25 rfl ?_
        refine g_iload_n (pc := 47) C dX3_feed_47 rfl ?_
        refine g_bipush (pc := 48) (v := nI 8) C dX3_feed_48 (by decide) ?_
        refine g_iload_n (pc := 50) C dX3_feed_50 rfl ?_
        refine g_imulN (pc := 51) C dX3_feed_51 ?_
        refine g_top (y := nI 0) rfl ?_
        refine g_ishr (pc := 52) C dX3_feed_52 ?_
        refine g_i2b (pc := 53) C dX3_feed_53 ?_
        refine g_top (y := (sb_b (byt (b >>> (nI 0 &&& 31))))) (byt_b _) ?_
        refine g_bxn (pc := 54) (cs := [tpV g au (tbB (updN tb tn (byt (b >>> (nI 8 &&& 31))))) (tn + 1) pl tk sr vl]) (ds := [tpV g au (tbB (updN (updN tb tn (byt (b >>> (nI 8 &&& 31)))) (tn + 1) (byt (b >>> (nI 0 &&& 31))))) ((tn + 1) + 1) pl tk sr vl]) (bs2 := [spO g ao ap ak at' au ae ay kp, potV g ap gr la kd pt wt mr (sumN gr 12) yr mn, potV g ak kgr kla kkd kpt kwt kmr (sumN kgr 12) kyr kmn, potV g at' tgr tla tkd tpt twt tmr (sumN tgr 12) tyr tmn, tpV g au (tbB (updN (updN tb tn (byt (b >>> (nI 8 &&& 31)))) (tn + 1) (byt (b >>> (nI 0 &&& 31))))) ((tn + 1) + 1) pl tk sr vl, shA g ae a0 a1 a2 a3, shV g a0 (nm 0) (wd 0) (sz 0), shV g a1 (nm 1) (wd 1) (sz 1), shV g a2 (nm 2) (wd 2) (sz 2), shV g a3 (nm 3) (wd 3) (sz 3), arr7 g ay tl]) C dX3_feed_54 ml_X3_160 mf_X2_append (c_append g au (tn + 1) pl tk sr vl (updN tb tn (byt (b >>> (nI 8 &&& 31)))) (byt (b >>> (nI 0 &&& 31))) (byt_lt _) (by omega)) ⟨rfl, rfl, (Nat.le_of_ble_eq_true rfl), (Nat.le_of_ble_eq_true rfl)⟩ rfl rfl (Nat.le_of_ble_eq_true rfl) (fl1 _) (fl1 _) 0 rfl rfl rfl [4] rfl rfl rfl rfl ?_
        refine g_iinc (pc := 57) (v := (-1)) (lv2 := [(0, .ref (ao 0)), (1, .int b), (2, .int (nI 2)), (3, .int (-1))]) C dX3_feed_57 rfl (by decide) (Nat.le_of_ble_eq_true rfl) rfl ?_
        refine g_goto (pc := 60) (tgt := 39) C dX3_feed_60 (by decide) ?_
        refine g_iload_n (pc := 39) C dX3_feed_39 rfl ?_
        refine g_if_lt (pc := 40) (tgt := 63) C dX3_feed_40 (by decide) (fun _ => ?_) (fun h => absurd (by decide) h)
        refine g_aload_n (pc := 63) C dX3_feed_63 rfl ?_
        refine g_get3 (pc := 64) C dX3_feed_64 0 rfl 3 (by decide) fl_X3_25 rfl ?_
        refine g_get2 (pc := 67) C dX3_feed_67 22 rfl 1 (by decide) fl_X3_157 rfl ?_
        have hf : f_feed ((mn, yr, gr, kd, pt, wt, mr), (ks, kp), (tb, tn), (wd, sz, nm), tl) b (nI 2) = ((nI ((tn + 1) + 1)), ((mn, yr, gr, kd, pt, wt, mr), (ks, kp), ((updN (updN tb tn (byt (b >>> (nI 8 &&& 31)))) (tn + 1) (byt (b >>> (nI 0 &&& 31)))), (tn + 1) + 1), (wd, sz, nm), tl)) := by simp only [f_feed, c1, ix_nI (show 2 < 2 ^ 31 by decide), if_true, ix_nI (show 2 < 2 ^ 31 by decide), if_pos c2]; rfl
        exact g_iret C Rr dX3_feed_70 ⟨(la, ((kmn, kyr, kgr, kkd, kpt, kwt, kmr), kla), ((tmn, tyr, tgr, tkd, tpt, twt, tmr), tla), (pl, tk, sr, vl)), by rw [hf]; exact (fun h => hJ h), by rw [hf], by rw [hf]; rfl⟩ (spX_ad g (ao, ap, ak, at', au, ae, a0, a1, a2, a3, ay) ((mn, yr, gr, kd, pt, wt, mr), (ks, kp), ((updN (updN tb tn (byt (b >>> (nI 8 &&& 31)))) (tn + 1) (byt (b >>> (nI 0 &&& 31)))), (tn + 1) + 1), (wd, sz, nm), tl) ((mn, yr, gr, kd, pt, wt, mr), (ks, kp), (tb, tn), (wd, sz, nm), tl) (la, ((kmn, kyr, kgr, kkd, kpt, kwt, kmr), kla), ((tmn, tyr, tgr, tkd, tpt, twt, tmr), tla), (pl, tk, sr, vl)) (la, ((kmn, kyr, kgr, kkd, kpt, kwt, kmr), kla), ((tmn, tyr, tgr, tkd, tpt, twt, tmr), tla), (pl, tk, sr, vl)))
      · refine g_iload_n (pc := 35) C dX3_feed_35 rfl ?_
        refine g_iconst (pc := 36) (v := nI 1) C dX3_feed_36 (by decide) ?_
        refine g_isubN (pc := 37) C dX3_feed_37 (by decide) ?_
        refine g_top (y := nI 2) rfl ?_
        refine g_istore_n (pc := 38) (lv2 := [(0, .ref (ao 0)), (1, .int b), (2, .int (nI 3)), (3, .int (nI 2))]) C dX3_feed_38 rfl (Nat.le_of_ble_eq_true rfl) rfl ?_
        refine g_iload_n (pc := 39) C dX3_feed_39 rfl ?_
        refine g_if_ltN (pc := 40) (tgt := 63) C dX3_feed_40 (by decide) (by decide) (fun h => absurd h (by decide)) (fun _ => ?_)
        refine g_aload_n (pc := 43) C dX3_feed_43 rfl ?_
        refine g_get3 (pc := 44) C dX3_feed_44 0 rfl 3 (by decide) fl_X3_25 rfl ?_
        refine g_iload_n (pc := 47) C dX3_feed_47 rfl ?_
        refine g_bipush (pc := 48) (v := nI 8) C dX3_feed_48 (by decide) ?_
        refine g_iload_n (pc := 50) C dX3_feed_50 rfl ?_
        refine g_imulN (pc := 51) C dX3_feed_51 ?_
        refine g_top (y := nI 16) rfl ?_
        refine g_ishr (pc := 52) C dX3_feed_52 ?_
        refine g_i2b (pc := 53) C dX3_feed_53 ?_
        refine g_top (y := (sb_b (byt (b >>> (nI 16 &&& 31))))) (byt_b _) ?_
        refine g_bxn (pc := 54) (cs := [tpV g au (tbB tb) tn pl tk sr vl]) (ds := [tpV g au (tbB (updN tb tn (byt (b >>> (nI 16 &&& 31))))) (tn + 1) pl tk sr vl]) (bs2 := [spO g ao ap ak at' au ae ay kp, potV g ap gr la kd pt wt mr (sumN gr 12) yr mn, potV g ak kgr kla kkd kpt kwt kmr (sumN kgr 12) kyr kmn, potV g at' tgr tla tkd tpt twt tmr (sumN tgr 12) tyr tmn, tpV g au (tbB (updN tb tn (byt (b >>> (nI 16 &&& 31))))) (tn + 1) pl tk sr vl, shA g ae a0 a1 a2 a3, shV g a0 (nm 0) (wd 0) (sz 0), shV g a1 (nm 1) (wd 1) (sz 1), shV g a2 (nm 2) (wd 2) (sz 2), shV g a3 (nm 3) (wd 3) (sz 3), arr7 g ay tl]) C dX3_feed_54 ml_X3_160 mf_X2_append (c_append g au tn pl tk sr vl tb (byt (b >>> (nI 16 &&& 31))) (byt_lt _) (by omega)) ⟨rfl, rfl, (Nat.le_of_ble_eq_true rfl), (Nat.le_of_ble_eq_true rfl)⟩ rfl rfl (Nat.le_of_ble_eq_true rfl) (fl1 _) (fl1 _) 0 rfl rfl rfl [4] rfl rfl rfl rfl ?_
        refine g_iinc (pc := 57) (v := (nI 1)) (lv2 := [(0, .ref (ao 0)), (1, .int b), (2, .int (nI 3)), (3, .int (nI 1))]) C dX3_feed_57 rfl (by decide) (Nat.le_of_ble_eq_true rfl) rfl ?_
        refine g_goto (pc := 60) (tgt := 39) C dX3_feed_60 (by decide) ?_
        refine g_iload_n (pc := 39) C dX3_feed_39 rfl ?_
        refine g_if_ltN (pc := 40) (tgt := 63) C dX3_feed_40 (by decide) (by decide) (fun h => absurd h (by decide)) (fun _ => ?_)
        refine g_aload_n (pc := 43) C dX3_feed_43 rfl ?_
        refine g_get3 (pc := 44) C dX3_feed_44 0 rfl 3 (by decide) fl_X3_25 rfl ?_
        refine g_iload_n (pc := 47) C dX3_feed_47 rfl ?_
        refine g_bipush (pc := 48) (v := nI 8) C dX3_feed_48 (by decide) ?_
        refine g_iload_n (pc := 50) C dX3_feed_50 rfl ?_
        refine g_imulN (pc := 51) C dX3_feed_51 ?_
        refine g_top (y := nI 8) rfl ?_
        refine g_ishr (pc := 52) C dX3_feed_52 ?_
        refine g_i2b (pc := 53) C dX3_feed_53 ?_
        refine g_top (y := (sb_b (byt (b >>> (nI 8 &&& 31))))) (byt_b _) ?_
        refine g_bxn (pc := 54) (cs := [tpV g au (tbB (updN tb tn (byt (b >>> (nI 16 &&& 31))))) (tn + 1) pl tk sr vl]) (ds := [tpV g au (tbB (updN (updN tb tn (byt (b >>> (nI 16 &&& 31)))) (tn + 1) (byt (b >>> (nI 8 &&& 31))))) ((tn + 1) + 1) pl tk sr vl]) (bs2 := [spO g ao ap ak at' au ae ay kp, potV g ap gr la kd pt wt mr (sumN gr 12) yr mn, potV g ak kgr kla kkd kpt kwt kmr (sumN kgr 12) kyr kmn, potV g at' tgr tla tkd tpt twt tmr (sumN tgr 12) tyr tmn, tpV g au (tbB (updN (updN tb tn (byt (b >>> (nI 16 &&& 31)))) (tn + 1) (byt (b >>> (nI 8 &&& 31))))) ((tn + 1) + 1) pl tk sr vl, shA g ae a0 a1 a2 a3, shV g a0 (nm 0) (wd 0) (sz 0), shV g a1 (nm 1) (wd 1) (sz 1), shV g a2 (nm 2) (wd 2) (sz 2), shV g a3 (nm 3) (wd 3) (sz 3), arr7 g ay tl]) C dX3_feed_54 ml_X3_160 mf_X2_append (c_append g au (tn + 1) pl tk sr vl (updN tb tn (byt (b >>> (nI 16 &&& 31)))) (byt (b >>> (nI 8 &&& 31))) (byt_lt _) (by omega)) ⟨rfl, rfl, (Nat.le_of_ble_eq_true rfl), (Nat.le_of_ble_eq_true rfl)⟩ rfl rfl (Nat.le_of_ble_eq_true rfl) (fl1 _) (fl1 _) 0 rfl rfl rfl [4] rfl rfl rfl rfl ?_
        refine g_iinc (pc := 57) (v := (nI 0)) (lv2 := [(0, .ref (ao 0)), (1, .int b), (2, .int (nI 3)), (3, .int (nI 0))]) C dX3_feed_57 rfl (by decide) (Nat.le_of_ble_eq_true rfl) rfl ?_
        refine g_goto (pc := 60) (tgt := 39) C dX3_feed_60 (by decide) ?_
        refine g_iload_n (pc := 39) C dX3_feed_39 rfl ?_
        refine g_if_ltN (pc := 40) (tgt := 63) C dX3_feed_40 (by decide) (by decide) (fun h => absurd h (by decide)) (fun _ => ?_)
        refine g_aload_n (pc := 43) C dX3_feed_43 rfl ?_
        refine g_get3 (pc := 44) C dX3_feed_44 0 rfl 3 (by decide) fl_X3_25 rfl ?_
        refine g_iload_n (pc := 47) C dX3_feed_47 rfl ?_
        refine g_bipush (pc := 48) (v := nI 8) C dX3_feed_48 (by decide) ?_
        refine g_iload_n (pc := 50) C dX3_feed_50 rfl ?_
        refine g_imulN (pc := 51) C dX3_feed_51 ?_
        refine g_top (y := nI 0) rfl ?_
        refine g_ishr (pc := 52) C dX3_feed_52 ?_
        refine g_i2b (pc := 53) C dX3_feed_53 ?_
        refine g_top (y := (sb_b (byt (b >>> (nI 0 &&& 31))))) (byt_b _) ?_
        refine g_bxn (pc := 54) (cs := [tpV g au (tbB (updN (updN tb tn (byt (b >>> (nI 16 &&& 31)))) (tn + 1) (byt (b >>> (nI 8 &&& 31))))) ((tn + 1) + 1) pl tk sr vl]) (ds := [tpV g au (tbB (updN (updN (updN tb tn (byt (b >>> (nI 16 &&& 31)))) (tn + 1) (byt (b >>> (nI 8 &&& 31)))) ((tn + 1) + 1) (byt (b >>> (nI 0 &&& 31))))) (((tn + 1) + 1) + 1) pl tk sr vl]) (bs2 := [spO g ao ap ak at' au ae ay kp, potV g ap gr la kd pt wt mr (sumN gr 12) yr mn, potV g ak kgr kla kkd kpt kwt kmr (sumN kgr 12) kyr kmn, potV g at' tgr tla tkd tpt twt tmr (sumN tgr 12) tyr tmn, tpV g au (tbB (updN (updN (updN tb tn (byt (b >>> (nI 16 &&& 31)))) (tn + 1) (byt (b >>> (nI 8 &&& 31)))) ((tn + 1) + 1) (byt (b >>> (nI 0 &&& 31))))) (((tn + 1) + 1) + 1) pl tk sr vl, shA g ae a0 a1 a2 a3, shV g a0 (nm 0) (wd 0) (sz 0), shV g a1 (nm 1) (wd 1) (sz 1), shV g a2 (nm 2) (wd 2) (sz 2), shV g a3 (nm 3) (wd 3) (sz 3), arr7 g ay tl]) C dX3_feed_54 ml_X3_160 mf_X2_append (c_append g au ((tn + 1) + 1) pl tk sr vl (updN (updN tb tn (byt (b >>> (nI 16 &&& 31)))) (tn + 1) (byt (b >>> (nI 8 &&& 31)))) (byt (b >>> (nI 0 &&& 31))) (byt_lt _) (by omega)) ⟨rfl, rfl, (Nat.le_of_ble_eq_true rfl), (Nat.le_of_ble_eq_true rfl)⟩ rfl rfl (Nat.le_of_ble_eq_true rfl) (fl1 _) (fl1 _) 0 rfl rfl rfl [4] rfl rfl rfl rfl ?_
        refine g_iinc (pc := 57) (v := (-1)) (lv2 := [(0, .ref (ao 0)), (1, .int b), (2, .int (nI 3)), (3, .int (-1))]) C dX3_feed_57 rfl (by decide) (Nat.le_of_ble_eq_true rfl) rfl ?_
        refine g_goto (pc := 60) (tgt := 39) C dX3_feed_60 (by decide) ?_
        refine g_iload_n (pc := 39) C dX3_feed_39 rfl ?_
        refine g_if_lt (pc := 40) (tgt := 63) C dX3_feed_40 (by decide) (fun _ => ?_) (fun h => absurd (by decide) h)
        refine g_aload_n (pc := 63) C dX3_feed_63 rfl ?_
        refine g_get3 (pc := 64) C dX3_feed_64 0 rfl 3 (by decide) fl_X3_25 rfl ?_
        refine g_get2 (pc := 67) C dX3_feed_67 22 rfl 1 (by decide) fl_X3_157 rfl ?_
        have hf : f_feed ((mn, yr, gr, kd, pt, wt, mr), (ks, kp), (tb, tn), (wd, sz, nm), tl) b (nI 3) = ((nI (((tn + 1) + 1) + 1)), ((mn, yr, gr, kd, pt, wt, mr), (ks, kp), ((updN (updN (updN tb tn (byt (b >>> (nI 16 &&& 31)))) (tn + 1) (byt (b >>> (nI 8 &&& 31)))) ((tn + 1) + 1) (byt (b >>> (nI 0 &&& 31)))), ((tn + 1) + 1) + 1), (wd, sz, nm), tl)) := by simp only [f_feed, c1, ix_nI (show 3 < 2 ^ 31 by decide), if_true, ix_nI (show 3 < 2 ^ 31 by decide), if_pos c2]; rfl
        exact g_iret C Rr dX3_feed_70 ⟨(la, ((kmn, kyr, kgr, kkd, kpt, kwt, kmr), kla), ((tmn, tyr, tgr, tkd, tpt, twt, tmr), tla), (pl, tk, sr, vl)), by rw [hf]; exact (fun h => hJ h), by rw [hf], by rw [hf]; rfl⟩ (spX_ad g (ao, ap, ak, at', au, ae, a0, a1, a2, a3, ay) ((mn, yr, gr, kd, pt, wt, mr), (ks, kp), ((updN (updN (updN tb tn (byt (b >>> (nI 16 &&& 31)))) (tn + 1) (byt (b >>> (nI 8 &&& 31)))) ((tn + 1) + 1) (byt (b >>> (nI 0 &&& 31)))), ((tn + 1) + 1) + 1), (wd, sz, nm), tl) ((mn, yr, gr, kd, pt, wt, mr), (ks, kp), (tb, tn), (wd, sz, nm), tl) (la, ((kmn, kyr, kgr, kkd, kpt, kwt, kmr), kla), ((tmn, tyr, tgr, tkd, tpt, twt, tmr), tla), (pl, tk, sr, vl)) (la, ((kmn, kyr, kgr, kkd, kpt, kwt, kmr), kla), ((tmn, tyr, tgr, tkd, tpt, twt, tmr), tla), (pl, tk, sr, vl)))
      · refine g_iload_n (pc := 35) C dX3_feed_35 rfl ?_
        refine g_iconst (pc := 36) (v := nI 1) C dX3_feed_36 (by decide) ?_
        refine g_isubN (pc := 37) C dX3_feed_37 (by decide) ?_
        refine g_top (y := nI 3) rfl ?_
        refine g_istore_n (pc := 38) (lv2 := [(0, .ref (ao 0)), (1, .int b), (2, .int (nI 4)), (3, .int (nI 3))]) C dX3_feed_38 rfl (Nat.le_of_ble_eq_true rfl) rfl ?_
        refine g_iload_n (pc := 39) C dX3_feed_39 rfl ?_
        refine g_if_ltN (pc := 40) (tgt := 63) C dX3_feed_40 (by decide) (by decide) (fun h => absurd h (by decide)) (fun _ => ?_)
        refine g_aload_n (pc := 43) C dX3_feed_43 rfl ?_
        refine g_get3 (pc := 44) C dX3_feed_44 0 rfl 3 (by decide) fl_X3_25 rfl ?_
        refine g_iload_n (pc := 47) C dX3_feed_47 rfl ?_
        refine g_bipush (pc := 48) (v := nI 8) C dX3_feed_48 (by decide) ?_
        refine g_iload_n (pc := 50) C dX3_feed_50 rfl ?_
        refine g_imulN (pc := 51) C dX3_feed_51 ?_
        refine g_top (y := nI 24) rfl ?_
        refine g_ishr (pc := 52) C dX3_feed_52 ?_
        refine g_i2b (pc := 53) C dX3_feed_53 ?_
        refine g_top (y := (sb_b (byt (b >>> (nI 24 &&& 31))))) (byt_b _) ?_
        refine g_bxn (pc := 54) (cs := [tpV g au (tbB tb) tn pl tk sr vl]) (ds := [tpV g au (tbB (updN tb tn (byt (b >>> (nI 24 &&& 31))))) (tn + 1) pl tk sr vl]) (bs2 := [spO g ao ap ak at' au ae ay kp, potV g ap gr la kd pt wt mr (sumN gr 12) yr mn, potV g ak kgr kla kkd kpt kwt kmr (sumN kgr 12) kyr kmn, potV g at' tgr tla tkd tpt twt tmr (sumN tgr 12) tyr tmn, tpV g au (tbB (updN tb tn (byt (b >>> (nI 24 &&& 31))))) (tn + 1) pl tk sr vl, shA g ae a0 a1 a2 a3, shV g a0 (nm 0) (wd 0) (sz 0), shV g a1 (nm 1) (wd 1) (sz 1), shV g a2 (nm 2) (wd 2) (sz 2), shV g a3 (nm 3) (wd 3) (sz 3), arr7 g ay tl]) C dX3_feed_54 ml_X3_160 mf_X2_append (c_append g au tn pl tk sr vl tb (byt (b >>> (nI 24 &&& 31))) (byt_lt _) (by omega)) ⟨rfl, rfl, (Nat.le_of_ble_eq_true rfl), (Nat.le_of_ble_eq_true rfl)⟩ rfl rfl (Nat.le_of_ble_eq_true rfl) (fl1 _) (fl1 _) 0 rfl rfl rfl [4] rfl rfl rfl rfl ?_
        refine g_iinc (pc := 57) (v := (nI 2)) (lv2 := [(0, .ref (ao 0)), (1, .int b), (2, .int (nI 4)), (3, .int (nI 2))]) C dX3_feed_57 rfl (by decide) (Nat.le_of_ble_eq_true rfl) rfl ?_
        refine g_goto (pc := 60) (tgt := 39) C dX3_feed_60 (by decide) ?_
        refine g_iload_n (pc := 39) C dX3_feed_39 rfl ?_
        refine g_if_ltN (pc := 40) (tgt := 63) C dX3_feed_40 (by decide) (by decide) (fun h => absurd h (by decide)) (fun _ => ?_)
        refine g_aload_n (pc := 43) C dX3_feed_43 rfl ?_
        refine g_get3 (pc := 44) C dX3_feed_44 0 rfl 3 (by decide) fl_X3_25 rfl ?_
        refine g_iload_n (pc := 47) C dX3_feed_47 rfl ?_
        refine g_bipush (pc := 48) (v := nI 8) C dX3_feed_48 (by decide) ?_
        refine g_iload_n (pc := 50) C dX3_feed_50 rfl ?_
        refine g_imulN (pc := 51) C dX3_feed_51 ?_
        refine g_top (y := nI 16) rfl ?_
        refine g_ishr (pc := 52) C dX3_feed_52 ?_
        refine g_i2b (pc := 53) C dX3_feed_53 ?_
        refine g_top (y := (sb_b (byt (b >>> (nI 16 &&& 31))))) (byt_b _) ?_
        refine g_bxn (pc := 54) (cs := [tpV g au (tbB (updN tb tn (byt (b >>> (nI 24 &&& 31))))) (tn + 1) pl tk sr vl]) (ds := [tpV g au (tbB (updN (updN tb tn (byt (b >>> (nI 24 &&& 31)))) (tn + 1) (byt (b >>> (nI 16 &&& 31))))) ((tn + 1) + 1) pl tk sr vl]) (bs2 := [spO g ao ap ak at' au ae ay kp, potV g ap gr la kd pt wt mr (sumN gr 12) yr mn, potV g ak kgr kla kkd kpt kwt kmr (sumN kgr 12) kyr kmn, potV g at' tgr tla tkd tpt twt tmr (sumN tgr 12) tyr tmn, tpV g au (tbB (updN (updN tb tn (byt (b >>> (nI 24 &&& 31)))) (tn + 1) (byt (b >>> (nI 16 &&& 31))))) ((tn + 1) + 1) pl tk sr vl, shA g ae a0 a1 a2 a3, shV g a0 (nm 0) (wd 0) (sz 0), shV g a1 (nm 1) (wd 1) (sz 1), shV g a2 (nm 2) (wd 2) (sz 2), shV g a3 (nm 3) (wd 3) (sz 3), arr7 g ay tl]) C dX3_feed_54 ml_X3_160 mf_X2_append (c_append g au (tn + 1) pl tk sr vl (updN tb tn (byt (b >>> (nI 24 &&& 31)))) (byt (b >>> (nI 16 &&& 31))) (byt_lt _) (by omega)) ⟨rfl, rfl, (Nat.le_of_ble_eq_true rfl), (Nat.le_of_ble_eq_true rfl)⟩ rfl rfl (Nat.le_of_ble_eq_true rfl) (fl1 _) (fl1 _) 0 rfl rfl rfl [4] rfl rfl rfl rfl ?_
        refine g_iinc (pc := 57) (v := (nI 1)) (lv2 := [(0, .ref (ao 0)), (1, .int b), (2, .int (nI 4)), (3, .int (nI 1))]) C dX3_feed_57 rfl (by decide) (Nat.le_of_ble_eq_true rfl) rfl ?_
        refine g_goto (pc := 60) (tgt := 39) C dX3_feed_60 (by decide) ?_
        refine g_iload_n (pc := 39) C dX3_feed_39 rfl ?_
        refine g_if_ltN (pc := 40) (tgt := 63) C dX3_feed_40 (by decide) (by decide) (fun h => absurd h (by decide)) (fun _ => ?_)
        refine g_aload_n (pc := 43) C dX3_feed_43 rfl ?_
        refine g_get3 (pc := 44) C dX3_feed_44 0 rfl 3 (by decide) fl_X3_25 rfl ?_
        refine g_iload_n (pc := 47) C dX3_feed_47 rfl ?_
        refine g_bipush (pc := 48) (v := nI 8) C dX3_feed_48 (by decide) ?_
        refine g_iload_n (pc := 50) C dX3_feed_50 rfl ?_
        refine g_imulN (pc := 51) C dX3_feed_51 ?_
        refine g_top (y := nI 8) rfl ?_
        refine g_ishr (pc := 52) C dX3_feed_52 ?_
        refine g_i2b (pc := 53) C dX3_feed_53 ?_
        refine g_top (y := (sb_b (byt (b >>> (nI 8 &&& 31))))) (byt_b _) ?_
        refine g_bxn (pc := 54) (cs := [tpV g au (tbB (updN (updN tb tn (byt (b >>> (nI 24 &&& 31)))) (tn + 1) (byt (b >>> (nI 16 &&& 31))))) ((tn + 1) + 1) pl tk sr vl]) (ds := [tpV g au (tbB (updN (updN (updN tb tn (byt (b >>> (nI 24 &&& 31)))) (tn + 1) (byt (b >>> (nI 16 &&& 31)))) ((tn + 1) + 1) (byt (b >>> (nI 8 &&& 31))))) (((tn + 1) + 1) + 1) pl tk sr vl]) (bs2 := [spO g ao ap ak at' au ae ay kp, potV g ap gr la kd pt wt mr (sumN gr 12) yr mn, potV g ak kgr kla kkd kpt kwt kmr (sumN kgr 12) kyr kmn, potV g at' tgr tla tkd tpt twt tmr (sumN tgr 12) tyr tmn, tpV g au (tbB (updN (updN (updN tb tn (byt (b >>> (nI 24 &&& 31)))) (tn + 1) (byt (b >>> (nI 16 &&& 31)))) ((tn + 1) + 1) (byt (b >>> (nI 8 &&& 31))))) (((tn + 1) + 1) + 1) pl tk sr vl, shA g ae a0 a1 a2 a3, shV g a0 (nm 0) (wd 0) (sz 0), shV g a1 (nm 1) (wd 1) (sz 1), shV g a2 (nm 2) (wd 2) (sz 2), shV g a3 (nm 3) (wd 3) (sz 3), arr7 g ay tl]) C dX3_feed_54 ml_X3_160 mf_X2_append (c_append g au ((tn + 1) + 1) pl tk sr vl (updN (updN tb tn (byt (b >>> (nI 24 &&& 31)))) (tn + 1) (byt (b >>> (nI 16 &&& 31)))) (byt (b >>> (nI 8 &&& 31))) (byt_lt _) (by omega)) ⟨rfl, rfl, (Nat.le_of_ble_eq_true rfl), (Nat.le_of_ble_eq_true rfl)⟩ rfl rfl (Nat.le_of_ble_eq_true rfl) (fl1 _) (fl1 _) 0 rfl rfl rfl [4] rfl rfl rfl rfl ?_
        refine g_iinc (pc := 57) (v := (nI 0)) (lv2 := [(0, .ref (ao 0)), (1, .int b), (2, .int (nI 4)), (3, .int (nI 0))]) C dX3_feed_57 rfl (by decide) (Nat.le_of_ble_eq_true rfl) rfl ?_
        refine g_goto (pc := 60) (tgt := 39) C dX3_feed_60 (by decide) ?_
        refine g_iload_n (pc := 39) C dX3_feed_39 rfl ?_
        refine g_if_ltN (pc := 40) (tgt := 63) C dX3_feed_40 (by decide) (by decide) (fun h => absurd h (by decide)) (fun _ => ?_)
        refine g_aload_n (pc := 43) C dX3_feed_43 rfl ?_
        refine g_get3 (pc := 44) C dX3_feed_44 0 rfl 3 (by decide) fl_X3_25 rfl ?_
        refine g_iload_n (pc := 47) C dX3_feed_47 rfl ?_
        refine g_bipush (pc := 48) (v := nI 8) C dX3_feed_48 (by decide) ?_
        refine g_iload_n (pc := 50) C dX3_feed_50 rfl ?_
        refine g_imulN (pc := 51) C dX3_feed_51 ?_
        refine g_top (y := nI 0) rfl ?_
        refine g_ishr (pc := 52) C dX3_feed_52 ?_
        refine g_i2b (pc := 53) C dX3_feed_53 ?_
        refine g_top (y := (sb_b (byt (b >>> (nI 0 &&& 31))))) (byt_b _) ?_
        refine g_bxn (pc := 54) (cs := [tpV g au (tbB (updN (updN (updN tb tn (byt (b >>> (nI 24 &&& 31)))) (tn + 1) (byt (b >>> (nI 16 &&& 31)))) ((tn + 1) + 1) (byt (b >>> (nI 8 &&& 31))))) (((tn + 1) + 1) + 1) pl tk sr vl]) (ds := [tpV g au (tbB (updN (updN (updN (updN tb tn (byt (b >>> (nI 24 &&& 31)))) (tn + 1) (byt (b >>> (nI 16 &&& 31)))) ((tn + 1) + 1) (byt (b >>> (nI 8 &&& 31)))) (((tn + 1) + 1) + 1) (byt (b >>> (nI 0 &&& 31))))) ((((tn + 1) + 1) + 1) + 1) pl tk sr vl]) (bs2 := [spO g ao ap ak at' au ae ay kp, potV g ap gr la kd pt wt mr (sumN gr 12) yr mn, potV g ak kgr kla kkd kpt kwt kmr (sumN kgr 12) kyr kmn, potV g at' tgr tla tkd tpt twt tmr (sumN tgr 12) tyr tmn, tpV g au (tbB (updN (updN (updN (updN tb tn (byt (b >>> (nI 24 &&& 31)))) (tn + 1) (byt (b >>> (nI 16 &&& 31)))) ((tn + 1) + 1) (byt (b >>> (nI 8 &&& 31)))) (((tn + 1) + 1) + 1) (byt (b >>> (nI 0 &&& 31))))) ((((tn + 1) + 1) + 1) + 1) pl tk sr vl, shA g ae a0 a1 a2 a3, shV g a0 (nm 0) (wd 0) (sz 0), shV g a1 (nm 1) (wd 1) (sz 1), shV g a2 (nm 2) (wd 2) (sz 2), shV g a3 (nm 3) (wd 3) (sz 3), arr7 g ay tl]) C dX3_feed_54 ml_X3_160 mf_X2_append (c_append g au (((tn + 1) + 1) + 1) pl tk sr vl (updN (updN (updN tb tn (byt (b >>> (nI 24 &&& 31)))) (tn + 1) (byt (b >>> (nI 16 &&& 31)))) ((tn + 1) + 1) (byt (b >>> (nI 8 &&& 31)))) (byt (b >>> (nI 0 &&& 31))) (byt_lt _) (by omega)) ⟨rfl, rfl, (Nat.le_of_ble_eq_true rfl), (Nat.le_of_ble_eq_true rfl)⟩ rfl rfl (Nat.le_of_ble_eq_true rfl) (fl1 _) (fl1 _) 0 rfl rfl rfl [4] rfl rfl rfl rfl ?_
        refine g_iinc (pc := 57) (v := (-1)) (lv2 := [(0, .ref (ao 0)), (1, .int b), (2, .int (nI 4)), (3, .int (-1))]) C dX3_feed_57 rfl (by decide) (Nat.le_of_ble_eq_true rfl) rfl ?_
        refine g_goto (pc := 60) (tgt := 39) C dX3_feed_60 (by decide) ?_
        refine g_iload_n (pc := 39) C dX3_feed_39 rfl ?_
        refine g_if_lt (pc := 40) (tgt := 63) C dX3_feed_40 (by decide) (fun _ => ?_) (fun h => absurd (by decide) h)
        refine g_aload_n (pc := 63) C dX3_feed_63 rfl ?_
        refine g_get3 (pc := 64) C dX3_feed_64 0 rfl 3 (by decide) fl_X3_25 rfl ?_
        refine g_get2 (pc := 67) C dX3_feed_67 22 rfl 1 (by decide) fl_X3_157 rfl ?_
        have hf : f_feed ((mn, yr, gr, kd, pt, wt, mr), (ks, kp), (tb, tn), (wd, sz, nm), tl) b (nI 4) = ((nI ((((tn + 1) + 1) + 1) + 1)), ((mn, yr, gr, kd, pt, wt, mr), (ks, kp), ((updN (updN (updN (updN tb tn (byt (b >>> (nI 24 &&& 31)))) (tn + 1) (byt (b >>> (nI 16 &&& 31)))) ((tn + 1) + 1) (byt (b >>> (nI 8 &&& 31)))) (((tn + 1) + 1) + 1) (byt (b >>> (nI 0 &&& 31)))), (((tn + 1) + 1) + 1) + 1), (wd, sz, nm), tl)) := by simp only [f_feed, c1, ix_nI (show 4 < 2 ^ 31 by decide), if_true, ix_nI (show 4 < 2 ^ 31 by decide), if_pos c2]; rfl
        exact g_iret C Rr dX3_feed_70 ⟨(la, ((kmn, kyr, kgr, kkd, kpt, kwt, kmr), kla), ((tmn, tyr, tgr, tkd, tpt, twt, tmr), tla), (pl, tk, sr, vl)), by rw [hf]; exact (fun h => hJ h), by rw [hf], by rw [hf]; rfl⟩ (spX_ad g (ao, ap, ak, at', au, ae, a0, a1, a2, a3, ay) ((mn, yr, gr, kd, pt, wt, mr), (ks, kp), ((updN (updN (updN (updN tb tn (byt (b >>> (nI 24 &&& 31)))) (tn + 1) (byt (b >>> (nI 16 &&& 31)))) ((tn + 1) + 1) (byt (b >>> (nI 8 &&& 31)))) (((tn + 1) + 1) + 1) (byt (b >>> (nI 0 &&& 31)))), (((tn + 1) + 1) + 1) + 1), (wd, sz, nm), tl) ((mn, yr, gr, kd, pt, wt, mr), (ks, kp), (tb, tn), (wd, sz, nm), tl) (la, ((kmn, kyr, kgr, kkd, kpt, kwt, kmr), kla), ((tmn, tyr, tgr, tkd, tpt, twt, tmr), tla), (pl, tk, sr, vl)) (la, ((kmn, kyr, kgr, kkd, kpt, kwt, kmr), kla), ((tmn, tyr, tgr, tkd, tpt, twt, tmr), tla), (pl, tk, sr, vl)))
    · refine g_aload_n (pc := 29) C dX3_feed_29 rfl ?_
      refine g_iconst (pc := 30) (v := nI 1) C dX3_feed_30 (by decide) ?_
      refine g_bxi (pc := 31) (cs := [spO g ao ap ak at' au ae ay kp, arr7 g ay tl]) (ds := [spO g ao ap ak at' au ae ay kp, arr7 g ay (updN tl 1 (tl 1 + 1))]) (bs2 := [spO g ao ap ak at' au ae ay kp, potV g ap gr la kd pt wt mr (sumN gr 12) yr mn, potV g ak kgr kla kkd kpt kwt kmr (sumN kgr 12) kyr kmn, potV g at' tgr tla tkd tpt twt tmr (sumN tgr 12) tyr tmn, tpV g au (tbB tb) tn pl tk sr vl, shA g ae a0 a1 a2 a3, shV g a0 (nm 0) (wd 0) (sz 0), shV g a1 (nm 1) (wd 1) (sz 1), shV g a2 (nm 2) (wd 2) (sz 2), shV g a3 (nm 3) (wd 3) (sz 3), arr7 g ay (updN tl 1 (tl 1 + 1))]) C dX3_feed_31 ml_X3_47 mf_X3_finding (c_finding g ao ap ak at' au ae ay kp tl 1 (by decide)) ⟨rfl, rfl, (Nat.le_of_ble_eq_true rfl), (Nat.le_of_ble_eq_true rfl)⟩ rfl rfl (Nat.le_of_ble_eq_true rfl) rfl rfl 0 rfl rfl rfl [0, 10] rfl rfl rfl rfl ?_
      have hf : f_feed ((mn, yr, gr, kd, pt, wt, mr), (ks, kp), (tb, tn), (wd, sz, nm), tl) b (nI n_) = ((fd 1), ((mn, yr, gr, kd, pt, wt, mr), (ks, kp), (tb, tn), (wd, sz, nm), updN tl 1 (tl 1 + 1))) := by simp [f_feed, fnd, c1, c2, Nat.not_le.mpr c2, ix_nI (show n_ < 2 ^ 31 by omega)]
      exact g_iret C Rr dX3_feed_34 ⟨(la, ((kmn, kyr, kgr, kkd, kpt, kwt, kmr), kla), ((tmn, tyr, tgr, tkd, tpt, twt, tmr), tla), (pl, tk, sr, vl)), by rw [hf]; exact (fun h => hJ h), by rw [hf], by rw [hf]; rfl⟩ (spX_ad g (ao, ap, ak, at', au, ae, a0, a1, a2, a3, ay) ((mn, yr, gr, kd, pt, wt, mr), (ks, kp), (tb, tn), (wd, sz, nm), updN tl 1 (tl 1 + 1)) ((mn, yr, gr, kd, pt, wt, mr), (ks, kp), (tb, tn), (wd, sz, nm), tl) (la, ((kmn, kyr, kgr, kkd, kpt, kwt, kmr), kla), ((tmn, tyr, tgr, tkd, tpt, twt, tmr), tla), (pl, tk, sr, vl)) (la, ((kmn, kyr, kgr, kkd, kpt, kwt, kmr), kla), ((tmn, tyr, tgr, tkd, tpt, twt, tmr), tla), (pl, tk, sr, vl)))
  · refine g_aload_n (pc := 9) C dX3_feed_9 rfl ?_
    refine g_iconst (pc := 10) (v := nI 0) C dX3_feed_10 (by decide) ?_
    refine g_bxi (pc := 11) (cs := [spO g ao ap ak at' au ae ay kp, arr7 g ay tl]) (ds := [spO g ao ap ak at' au ae ay kp, arr7 g ay (updN tl 0 (tl 0 + 1))]) (bs2 := [spO g ao ap ak at' au ae ay kp, potV g ap gr la kd pt wt mr (sumN gr 12) yr mn, potV g ak kgr kla kkd kpt kwt kmr (sumN kgr 12) kyr kmn, potV g at' tgr tla tkd tpt twt tmr (sumN tgr 12) tyr tmn, tpV g au (tbB tb) tn pl tk sr vl, shA g ae a0 a1 a2 a3, shV g a0 (nm 0) (wd 0) (sz 0), shV g a1 (nm 1) (wd 1) (sz 1), shV g a2 (nm 2) (wd 2) (sz 2), shV g a3 (nm 3) (wd 3) (sz 3), arr7 g ay (updN tl 0 (tl 0 + 1))]) C dX3_feed_11 ml_X3_47 mf_X3_finding (c_finding g ao ap ak at' au ae ay kp tl 0 (by decide)) ⟨rfl, rfl, (Nat.le_of_ble_eq_true rfl), (Nat.le_of_ble_eq_true rfl)⟩ rfl rfl (Nat.le_of_ble_eq_true rfl) rfl rfl 0 rfl rfl rfl [0, 10] rfl rfl rfl rfl ?_
    have hf : f_feed ((mn, yr, gr, kd, pt, wt, mr), (ks, kp), (tb, tn), (wd, sz, nm), tl) b n = ((fd 0), ((mn, yr, gr, kd, pt, wt, mr), (ks, kp), (tb, tn), (wd, sz, nm), updN tl 0 (tl 0 + 1))) := by simp [f_feed, fnd, c1]
    exact g_iret C Rr dX3_feed_14 ⟨(la, ((kmn, kyr, kgr, kkd, kpt, kwt, kmr), kla), ((tmn, tyr, tgr, tkd, tpt, twt, tmr), tla), (pl, tk, sr, vl)), by rw [hf]; exact (fun h => hJ h), by rw [hf], by rw [hf]; rfl⟩ (spX_ad g (ao, ap, ak, at', au, ae, a0, a1, a2, a3, ay) ((mn, yr, gr, kd, pt, wt, mr), (ks, kp), (tb, tn), (wd, sz, nm), updN tl 0 (tl 0 + 1)) ((mn, yr, gr, kd, pt, wt, mr), (ks, kp), (tb, tn), (wd, sz, nm), tl) (la, ((kmn, kyr, kgr, kkd, kpt, kwt, kmr), kla), ((tmn, tyr, tgr, tkd, tpt, twt, tmr), tla), (pl, tk, sr, vl)) (la, ((kmn, kyr, kgr, kkd, kpt, kwt, kmr), kla), ((tmn, tyr, tgr, tkd, tpt, twt, tmr), tla), (pl, tk, sr, vl)))
