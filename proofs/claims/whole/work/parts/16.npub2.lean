theorem inR_m1 {v : Int32} (h : inR v (-1) 6 = true) : v = -1 ∨ ∃ j : Nat, j ≤ 6 ∧ v = nI j := by
  replace h := inR_iff.mp h
  have h3 := Int32.toInt_lt v
  by_cases q : v.toInt = -1
  · left
    apply Int32.toInt_inj.mp
    rw [q]
    decide
  · refine Or.inr ⟨v.toInt.toNat, by omega, ?_⟩
    apply Int32.toInt_inj.mp
    rw [nI_toInt (by omega)]
    omega
theorem m1_ne {j : Nat} (h : j < 2 ^ 31) : ¬ nI j = -1 := fun e => by
  have := congrArg Int32.toInt e
  rw [nI_toInt h] at this
  have h2 : (-1 : Int32).toInt = -1 := by decide
  omega
set_option maxHeartbeats 400000 in
set_option maxRecDepth 100000 in
theorem m_weights (g : Gl) (a : Nat → Nat) (ks : Nat → Nat) (os : Nat → Nat) (sd : Nat → Nat) (sts : Nat → Nat) (kp : Nat) (tk : Nat → Nat) (tp : Nat → Nat) (tn : Nat) (fr : Nat) (to : Nat) (vl : Nat) (wr : Nat) (bo : Nat → Nat) (so : Nat → Nat) (nm : Nat → Int64) (mv : Nat → Int64) (mn : Nat) (yr : Nat) (gr : Nat → Nat) (kd : Nat → Nat) (pt : Nat → Nat) (wt : Nat → Nat) (mr : Nat → Nat) (hB : PB gr kd pt wt mr (sumN gr 12) yr mn) : Ct g yX4_weights cX4_weights 3 (some .int) (rk 2 43) [.ref (a 0)] (mdV g a (sF mn yr gr kd pt wt mr) ks os sd sts kp tk tp tn fr to vl wr bo so nm mv) (fun r w2 => r = some (.int (nI (sumN wt mn))) ∧ w2 = (mdV g a (sF mn yr gr kd pt wt mr) ks os sd sts kp tk tp tn fr to vl wr bo so nm mv)) := by
  refine ct_of (by decide) (Nat.le_of_ble_eq_true rfl) ?_
  intro φ C0 Rr
  have C : Cx φ g cX4_weights 3 RX4 (rk 2 43) := C0
  show Go φ g 3 0 [(0, .ref (a 0))] [] (mdV g a (sF mn yr gr kd pt wt mr) ks os sd sts kp tk tp tn fr to vl wr bo so nm mv)
  obtain ⟨-, hTle, hgr, hkd, hpt, hwt, hmr, hyr, hmn⟩ := id hB
  refine g_iconst (pc := 0) (v := nI 0) C dX4_weights_0 (by decide) ?_
  refine g_istore_n (pc := 1) (lv2 := [(0, .ref (a 0)), (1, .int (nI 0))]) C dX4_weights_1 rfl (Nat.le_of_ble_eq_true rfl) rfl ?_
  refine g_iconst (pc := 2) (v := nI 0) C dX4_weights_2 (by decide) ?_
  refine g_istore_n (pc := 3) (lv2 := [(0, .ref (a 0)), (1, .int (nI 0)), (2, .int (nI 0))]) C dX4_weights_3 rfl (Nat.le_of_ble_eq_true rfl) rfl ?_
  refine g_loop0 (n := mn) (fun i => True) (fun i => [(0, .ref (a 0)), (1, .int (nI (sumN wt i))), (2, .int (nI i))]) (fun i => (mdV g a (sF mn yr gr kd pt wt mr) ks os sd sts kp tk tp tn fr to vl wr bo so nm mv)) ?_ 0 (by omega) trivial
  intro i hi_i hv_i ih_i
  show Go φ g 3 4 [(0, .ref (a 0)), (1, .int (nI (sumN wt i))), (2, .int (nI i))] [] (mdV g a (sF mn yr gr kd pt wt mr) ks os sd sts kp tk tp tn fr to vl wr bo so nm mv)
  refine g_iload_n (pc := 4) C dX4_weights_4 rfl ?_
  refine g_aload_n (pc := 5) C dX4_weights_5 rfl ?_
  refine g_get4 (pc := 6) C dX4_weights_6 0 rfl 0 (by decide) fl_X4_7 rfl ?_
  refine g_iconst (pc := 9) (v := nI 0) C dX4_weights_9 (by decide) ?_
  refine g_ialdM (pc := 10) C dX4_weights_10 1 rfl rfl (by omega) (by decide) ?_
  refine g_top (congrArg nI sF_r0) ?_
  refine g_icmp_geN (pc := 11) (tgt := 29) C dX4_weights_11 (by decide) (by omega) (by omega) (fun c1 => ?_) (fun c1 => ?_)
  · refine g_iload_n (pc := 29) C dX4_weights_29 rfl ?_
    exact g_iret C Rr dX4_weights_30 ⟨by rw [show i = mn by omega], rfl⟩ rfl
  · refine g_iload_n (pc := 14) C dX4_weights_14 rfl ?_
    refine g_aload_n (pc := 15) C dX4_weights_15 rfl ?_
    refine g_iload_n (pc := 16) C dX4_weights_16 rfl ?_
    refine g_iconst (pc := 17) (v := nI 2) C dX4_weights_17 (by decide) ?_
    refine g_vxi (pc := 18) (ws2 := (mdV g a (sF mn yr gr kd pt wt mr) ks os sd sts kp tk tp tn fr to vl wr bo so nm mv)) C dX4_weights_18 ml_X4_102 mf_X4_its (m_its g a ks os sd sts kp tk tp tn fr to vl wr bo so nm mv mn yr gr kd pt wt mr i 2 (by omega) (by omega)) ⟨rfl, rfl, (Nat.le_of_ble_eq_true rfl), (Nat.le_of_ble_eq_true rfl)⟩ rfl rfl (Nat.le_of_ble_eq_true rfl) 0 rfl rfl rfl [0, 1, 2, 3, 4, 5, 6, 7, 8, 9, 10, 11] [] [0, 1, 2, 3, 4, 5, 6, 7, 8, 9, 10, 11] rfl rfl rfl rfl (by decide) rfl rfl ?_
    refine g_top (y := nI (wt i)) rfl ?_
    have b2 := hwt i
    refine g_iaddN (pc := 21) C dX4_weights_21 ?_
    refine g_istore_n (pc := 22) (lv2 := [(0, .ref (a 0)), (1, .int (nI ((sumN wt i) + (wt i)))), (2, .int (nI i))]) C dX4_weights_22 rfl (Nat.le_of_ble_eq_true rfl) rfl ?_
    refine g_iinc (pc := 23) (v := (nI (i + 1))) (lv2 := [(0, .ref (a 0)), (1, .int (nI ((sumN wt i) + (wt i)))), (2, .int (nI (i + 1)))]) C dX4_weights_23 rfl (nI_1 _) (Nat.le_of_ble_eq_true rfl) rfl ?_
    refine g_goto (pc := 26) (tgt := 4) C dX4_weights_26 (by decide) ?_
    exact ih_i (by omega) trivial
set_option maxHeartbeats 400000 in
set_option maxRecDepth 100000 in
theorem m_missing (g : Gl) (a : Nat → Nat) (ks : Nat → Nat) (os : Nat → Nat) (sd : Nat → Nat) (sts : Nat → Nat) (kp : Nat) (tk : Nat → Nat) (tp : Nat → Nat) (tn : Nat) (fr : Nat) (to : Nat) (vl : Nat) (wr : Nat) (bo : Nat → Nat) (so : Nat → Nat) (nm : Nat → Int64) (mv : Nat → Int64) (mn : Nat) (yr : Nat) (gr : Nat → Nat) (kd : Nat → Nat) (pt : Nat → Nat) (wt : Nat → Nat) (mr : Nat → Nat) (hB : PB gr kd pt wt mr (sumN gr 12) yr mn) : Ct g yX4_missing cX4_missing 3 (some .int) (rk 0 0) [.ref (a 0)] (mdV g a (sF mn yr gr kd pt wt mr) ks os sd sts kp tk tp tn fr to vl wr bo so nm mv) (fun r w2 => r = some (.int (nI (zerosN gr 12))) ∧ w2 = (mdV g a (sF mn yr gr kd pt wt mr) ks os sd sts kp tk tp tn fr to vl wr bo so nm mv)) := by
  refine ct_of (by decide) (Nat.le_of_ble_eq_true rfl) ?_
  intro φ C0 Rr
  have C : Cx φ g cX4_missing 3 RX4 (rk 0 0) := C0
  show Go φ g 3 0 [(0, .ref (a 0))] [] (mdV g a (sF mn yr gr kd pt wt mr) ks os sd sts kp tk tp tn fr to vl wr bo so nm mv)
  obtain ⟨-, hTle, hgr, hkd, hpt, hwt, hmr, hyr, hmn⟩ := id hB
  refine g_iconst (pc := 0) (v := nI 0) C dX4_missing_0 (by decide) ?_
  refine g_istore_n (pc := 1) (lv2 := [(0, .ref (a 0)), (1, .int (nI 0))]) C dX4_missing_1 rfl (Nat.le_of_ble_eq_true rfl) rfl ?_
  refine g_iconst (pc := 2) (v := nI 0) C dX4_missing_2 (by decide) ?_
  refine g_istore_n (pc := 3) (lv2 := [(0, .ref (a 0)), (1, .int (nI 0)), (2, .int (nI 0))]) C dX4_missing_3 rfl (Nat.le_of_ble_eq_true rfl) rfl ?_
  refine g_loop1 (n := 12) (fun i x => x = zerosN gr i) (fun i x => [(0, .ref (a 0)), (1, .int (nI x)), (2, .int (nI i))]) (fun i x => (mdV g a (sF mn yr gr kd pt wt mr) ks os sd sts kp tk tp tn fr to vl wr bo so nm mv)) ?_ 0 0 (by omega) rfl
  intro i x hi_i hv_i ih_i
  show Go φ g 3 4 [(0, .ref (a 0)), (1, .int (nI x)), (2, .int (nI i))] [] (mdV g a (sF mn yr gr kd pt wt mr) ks os sd sts kp tk tp tn fr to vl wr bo so nm mv)
  have hv_i : x = zerosN gr i := hv_i
  refine g_iload_n (pc := 4) C dX4_missing_4 rfl ?_
  refine g_bipush (pc := 5) (v := nI 12) C dX4_missing_5 (by decide) ?_
  refine g_icmp_geN (pc := 7) (tgt := 35) C dX4_missing_7 (by decide) (by omega) (by omega) (fun c1 => ?_) (fun c1 => ?_)
  · refine g_iload_n (pc := 35) C dX4_missing_35 rfl ?_
    exact g_iret C Rr dX4_missing_36 ⟨by rw [hv_i, show i = 12 by omega], rfl⟩ rfl
  · refine g_iload_n (pc := 10) C dX4_missing_10 rfl ?_
    refine g_aload_n (pc := 11) C dX4_missing_11 rfl ?_
    refine g_get4 (pc := 12) C dX4_missing_12 0 rfl 0 (by decide) fl_X4_7 rfl ?_
    refine g_iconst (pc := 15) (v := nI 2) C dX4_missing_15 (by decide) ?_
    refine g_iload_n (pc := 16) C dX4_missing_16 rfl ?_
    refine g_iaddN (pc := 17) C dX4_missing_17 ?_
    refine g_ialdM (pc := 18) C dX4_missing_18 1 rfl rfl (by omega) (by decide) ?_
    refine g_top (congrArg nI (sF_rg (by omega))) ?_
    have b2 := hgr i
    refine g_if_neN (pc := 19) (tgt := 26) C dX4_missing_19 (by decide) (by omega) (fun c3 => ?_) (fun c3 => ?_)
    · refine g_iconst (pc := 26) (v := nI 0) C dX4_missing_26 (by decide) ?_
      refine g_iaddN (pc := 27) C dX4_missing_27 ?_
      refine g_istore_n (pc := 28) (lv2 := [(0, .ref (a 0)), (1, .int (nI (x + 0))), (2, .int (nI i))]) C dX4_missing_28 rfl (Nat.le_of_ble_eq_true rfl) rfl ?_
      refine g_iinc (pc := 29) (v := (nI (i + 1))) (lv2 := [(0, .ref (a 0)), (1, .int (nI (x + 0))), (2, .int (nI (i + 1)))]) C dX4_missing_29 rfl (nI_1 _) (Nat.le_of_ble_eq_true rfl) rfl ?_
      refine g_goto (pc := 32) (tgt := 4) C dX4_missing_32 (by decide) ?_
      exact ih_i _ (by omega) (by rw [zerosN, ← hv_i, if_neg c3])
    · refine g_iconst (pc := 22) (v := nI 1) C dX4_missing_22 (by decide) ?_
      refine g_goto (pc := 23) (tgt := 27) C dX4_missing_23 (by decide) ?_
      refine g_iaddN (pc := 27) C dX4_missing_27 ?_
      refine g_istore_n (pc := 28) (lv2 := [(0, .ref (a 0)), (1, .int (nI (x + 1))), (2, .int (nI i))]) C dX4_missing_28 rfl (Nat.le_of_ble_eq_true rfl) rfl ?_
      refine g_iinc (pc := 29) (v := (nI (i + 1))) (lv2 := [(0, .ref (a 0)), (1, .int (nI (x + 1))), (2, .int (nI (i + 1)))]) C dX4_missing_29 rfl (nI_1 _) (Nat.le_of_ble_eq_true rfl) rfl ?_
      refine g_goto (pc := 32) (tgt := 4) C dX4_missing_32 (by decide) ?_
      exact ih_i _ (by omega) (by rw [zerosN, ← hv_i, if_pos c3])
set_option maxHeartbeats 400000 in
set_option maxRecDepth 100000 in
theorem n_of (g : Gl) (a : Nat → Nat) (X : Xs) (J : Jm) (c : Int32) (w : Int32) (hX : InvX X) (hJ : OkM X J) : Ct g yX4_of cX4_of 3 (some .int) (rk 4 87) [.ref (a 0), .int c, .int w] (mdX g a X J) (fun r w2 => ∃ J2, OkM (f_of X c w).2 J2 ∧ r = some (.int (f_of X c w).1) ∧ w2 = mdX g a (f_of X c w).2 J2) := by
  obtain ⟨⟨mn, yr, gr, kd, pt, wt, mr⟩, ⟨⟨kmn, kyr, kgr, kkd, kpt, kwt, kmr⟩, kp⟩, ⟨tb, tn⟩, ⟨wd, sz, nm⟩, tl⟩ := X
  obtain ⟨kc, os, sd, tk, fr, to, vl, wr, mv⟩ := J
  obtain ⟨hB, hy, hkp, htb, htn, hwd, hsz⟩ := id hX
  obtain ⟨-, hTle, hgr, hkd, hpt, hwt, hmr, hyr, hmn⟩ := id hB
  refine ct_of (by decide) (Nat.le_of_ble_eq_true rfl) ?_
  intro φ C0 Rr
  have C : Cx φ g cX4_of 3 RX4 (rk 4 87) := C0
  show Go φ g 3 0 [(0, .ref (a 0)), (1, .int c), (2, .int w)] [] (mdV g a (sF mn yr gr kd pt wt mr) kc os sd tl kp tk tb tn fr to vl wr wd sz (flat nm) mv)
  refine g_aload_n (pc := 0) C dX4_of_0 rfl ?_
  refine g_iload_n (pc := 1) C dX4_of_1 rfl ?_
  refine g_vxi (pc := 2) (ws2 := (mdV g a (sF mn yr gr kd pt wt mr) kc os sd tl kp tk tb tn fr to vl wr wd sz (flat nm) mv)) C dX4_of_2 ml_X4_51 mf_X4_isCook (m_isCook g a kc os sd tl kp tk tb tn fr to vl wr wd sz (flat nm) mv mn yr gr kd pt wt mr c hB) ⟨rfl, rfl, (Nat.le_of_ble_eq_true rfl), (Nat.le_of_ble_eq_true rfl)⟩ rfl rfl (Nat.le_of_ble_eq_true rfl) 0 rfl rfl rfl [0, 1, 2, 3, 4, 5, 6, 7, 8, 9, 10, 11] [] [0, 1, 2, 3, 4, 5, 6, 7, 8, 9, 10, 11] rfl rfl rfl rfl (by decide) rfl rfl ?_
  refine g_if_eqB (pc := 5) (tgt := 20) C dX4_of_5 (by decide) (fun c1 => ?_) (fun c1 => ?_)
  · refine g_aload_n (pc := 20) C dX4_of_20 rfl ?_
    refine g_ldc (pc := 21) C dX4_of_21 ck_X4_44 rfl ?_
    refine g_vxi (pc := 23) (ws2 := (mdV g a (sF mn yr gr kd pt wt mr) kc os sd (updN tl 0 (tl 0 + 1)) kp tk tb tn fr to vl wr wd sz (flat nm) mv)) C dX4_of_23 ml_X4_64 mf_X4_finds (m_finds g a (sF mn yr gr kd pt wt mr) kc os sd tl kp tk tb tn fr to vl wr wd sz (flat nm) mv 0 (by decide)) ⟨rfl, rfl, (Nat.le_of_ble_eq_true rfl), (Nat.le_of_ble_eq_true rfl)⟩ rfl rfl (Nat.le_of_ble_eq_true rfl) 0 rfl rfl rfl [0, 1, 2, 3, 4, 5, 6, 7, 8, 9, 10, 11] [] [0, 1, 2, 3, 4, 5, 6, 7, 8, 9, 10, 11] rfl rfl rfl rfl (by decide) rfl rfl ?_
    have hf : f_of ((mn, yr, gr, kd, pt, wt, mr), ((kmn, kyr, kgr, kkd, kpt, kwt, kmr), kp), (tb, tn), (wd, sz, nm), tl) c w = ((fd 0), ((mn, yr, gr, kd, pt, wt, mr), ((kmn, kyr, kgr, kkd, kpt, kwt, kmr), kp), (tb, tn), (wd, sz, nm), updN tl 0 (tl 0 + 1))) := by first | (simp [f_of, ofN, fnd, c1]; done) | (simp [f_of, fnd, ]; simp [ofN, c1, NOFACT]; done) | (simp [f_of, fnd, c1]; simp [ofN, c1, NOFACT, NOFACT])
    exact g_iret C Rr dX4_of_26 ⟨(kc, os, sd, tk, fr, to, vl, wr, mv), by rw [hf]; exact hJ, by rw [hf], by rw [hf]; rfl⟩ rfl
  · obtain ⟨c_, hu_c, rfl⟩ := inR_cook c1
    have hc8 : c_ < 8 := by omega
    refine g_iload_n (pc := 8) C dX4_of_8 rfl ?_
    refine g_i2l (pc := 9) C dX4_of_9 ?_
    refine g_lconst (pc := 10) (v := 0) C dX4_of_10 (by decide) ?_
    refine g_ldc2 (pc := 11) C dX4_of_11 ckl_X4_111 rfl ?_
    refine g_s0i (pc := 14) C dX4_of_14 ml_X4_47 mf_X4_in (m_in g ((w).toInt64) 0 (6)) ⟨rfl, rfl, (Nat.le_of_ble_eq_true rfl), (Nat.le_of_ble_eq_true rfl)⟩ rfl rfl (Nat.le_of_ble_eq_true rfl) ?_
    refine g_top (y := bI (inR w 0 6 = true)) (bI_iff (w64.trans inR_iff.symm)) ?_
    refine g_if_neB (pc := 17) (tgt := 27) C dX4_of_17 (by decide) (fun c2 => ?_) (fun c2 => ?_)
    · obtain ⟨w_, hl_w, hu_w, rfl⟩ := inR_nat (lo := 0) (hi := 6) c2
      refine g_iload_n (pc := 27) C dX4_of_27 rfl ?_
      by_cases c3 : w_ = 4
      · refine g_top (congrArg nI c3) (g_tableIn (pc := 28) (off := 28) (tgt := 56) C dX4_of_28 (by decide) (by decide) (by decide) (by decide) ?_)
        refine g_aload_n (pc := 56) C dX4_of_56 rfl ?_
        refine g_iload_n (pc := 57) C dX4_of_57 rfl ?_
        refine g_vxi (pc := 58) (ws2 := (mdV g a (sF mn yr gr kd pt wt mr) kc os sd tl kp tk tb tn fr to vl wr wd sz (flat nm) mv)) C dX4_of_58 ml_X4_113 mf_X4_takesOf (m_takesOf g a kc os sd tl kp tk tb tn fr to vl wr wd sz (flat nm) mv mn yr gr kd pt wt mr c_ hB (by omega)) ⟨rfl, rfl, (Nat.le_of_ble_eq_true rfl), (Nat.le_of_ble_eq_true rfl)⟩ rfl rfl (Nat.le_of_ble_eq_true rfl) 0 rfl rfl rfl [0, 1, 2, 3, 4, 5, 6, 7, 8, 9, 10, 11] [] [0, 1, 2, 3, 4, 5, 6, 7, 8, 9, 10, 11] rfl rfl rfl rfl (by decide) rfl rfl ?_
        have hf : f_of ((mn, yr, gr, kd, pt, wt, mr), ((kmn, kyr, kgr, kkd, kpt, kwt, kmr), kp), (tb, tn), (wd, sz, nm), tl) (nI c_) (nI w_) = ((nI (min (wantsN kd wt yr c_) (sumN gr 12))), ((mn, yr, gr, kd, pt, wt, mr), ((kmn, kyr, kgr, kkd, kpt, kwt, kmr), kp), (tb, tn), (wd, sz, nm), tl)) := by first | (simp [f_of, ofN, fnd, c1, c2, c3, ix_nI (show c_ < 2 ^ 31 by omega), ix_nI (show w_ < 2 ^ 31 by omega)]; done) | (simp [f_of, fnd, c1, c2, ix_nI (show c_ < 2 ^ 31 by omega), ix_nI (show w_ < 2 ^ 31 by omega)]; simp [ofN, c3, c2]; done) | (simp [f_of, fnd, c1, c2, c3, ix_nI (show c_ < 2 ^ 31 by omega), ix_nI (show w_ < 2 ^ 31 by omega)]; simp [ofN, c3, c2, c1])
        exact g_iret C Rr dX4_of_61 ⟨(kc, os, sd, tk, fr, to, vl, wr, mv), by rw [hf]; exact hJ, by rw [hf], by rw [hf]; rfl⟩ rfl
      by_cases c4 : w_ = 5
      · refine g_top (congrArg nI c4) (g_tableIn (pc := 28) (off := 34) (tgt := 62) C dX4_of_28 (by decide) (by decide) (by decide) (by decide) ?_)
        refine g_aload_n (pc := 62) C dX4_of_62 rfl ?_
        refine g_iload_n (pc := 63) C dX4_of_63 rfl ?_
        refine g_aload_n (pc := 64) C dX4_of_64 rfl ?_
        refine g_iload_n (pc := 65) C dX4_of_65 rfl ?_
        refine g_vxi (pc := 66) (ws2 := (mdV g a (sF mn yr gr kd pt wt mr) kc os sd tl kp tk tb tn fr to vl wr wd sz (flat nm) mv)) C dX4_of_66 ml_X4_113 mf_X4_takesOf (m_takesOf g a kc os sd tl kp tk tb tn fr to vl wr wd sz (flat nm) mv mn yr gr kd pt wt mr c_ hB (by omega)) ⟨rfl, rfl, (Nat.le_of_ble_eq_true rfl), (Nat.le_of_ble_eq_true rfl)⟩ rfl rfl (Nat.le_of_ble_eq_true rfl) 0 rfl rfl rfl [0, 1, 2, 3, 4, 5, 6, 7, 8, 9, 10, 11] [] [0, 1, 2, 3, 4, 5, 6, 7, 8, 9, 10, 11] rfl rfl rfl rfl (by decide) rfl rfl ?_
        refine g_vxi (pc := 69) (ws2 := (mdV g a (sF mn yr gr kd pt wt mr) kc os sd tl kp tk tb tn fr to vl wr wd sz (flat nm) mv)) C dX4_of_69 ml_X4_116 mf_X4_putsOf (m_putsOf g a kc os sd tl kp tk tb tn fr to vl wr wd sz (flat nm) mv mn yr gr kd pt wt mr c_ (min (wantsN kd wt yr c_) (sumN gr 12)) hB (by omega) (by omega)) ⟨rfl, rfl, (Nat.le_of_ble_eq_true rfl), (Nat.le_of_ble_eq_true rfl)⟩ rfl rfl (Nat.le_of_ble_eq_true rfl) 0 rfl rfl rfl [0, 1, 2, 3, 4, 5, 6, 7, 8, 9, 10, 11] [] [0, 1, 2, 3, 4, 5, 6, 7, 8, 9, 10, 11] rfl rfl rfl rfl (by decide) rfl rfl ?_
        have hf : f_of ((mn, yr, gr, kd, pt, wt, mr), ((kmn, kyr, kgr, kkd, kpt, kwt, kmr), kp), (tb, tn), (wd, sz, nm), tl) (nI c_) (nI w_) = ((nI (putsN kd mr c_ (min (wantsN kd wt yr c_) (sumN gr 12)))), ((mn, yr, gr, kd, pt, wt, mr), ((kmn, kyr, kgr, kkd, kpt, kwt, kmr), kp), (tb, tn), (wd, sz, nm), tl)) := by first | (simp [f_of, ofN, fnd, c1, c2, c3, c4, ix_nI (show c_ < 2 ^ 31 by omega), ix_nI (show w_ < 2 ^ 31 by omega)]; done) | (simp [f_of, fnd, c1, c2, c3, ix_nI (show c_ < 2 ^ 31 by omega), ix_nI (show w_ < 2 ^ 31 by omega)]; simp [ofN, c4, c3]; done) | (simp [f_of, fnd, c1, c2, c3, c4, ix_nI (show c_ < 2 ^ 31 by omega), ix_nI (show w_ < 2 ^ 31 by omega)]; simp [ofN, c4, c3, c2])
        exact g_iret C Rr dX4_of_72 ⟨(kc, os, sd, tk, fr, to, vl, wr, mv), by rw [hf]; exact hJ, by rw [hf], by rw [hf]; rfl⟩ rfl
      by_cases c5 : w_ = 6
      · refine g_top (congrArg nI c5) (g_tableIn (pc := 28) (off := 45) (tgt := 73) C dX4_of_28 (by decide) (by decide) (by decide) (by decide) ?_)
        refine g_aload_n (pc := 73) C dX4_of_73 rfl ?_
        refine g_iload_n (pc := 74) C dX4_of_74 rfl ?_
        refine g_vxi (pc := 75) (ws2 := (mdV g a (sF mn yr gr kd pt wt mr) kc os sd tl kp tk tb tn fr to vl wr wd sz (flat nm) mv)) C dX4_of_75 ml_X4_119 mf_X4_whatOf (m_whatOf g a kc os sd tl kp tk tb tn fr to vl wr wd sz (flat nm) mv mn yr gr kd pt wt mr c_ hB (by omega)) ⟨rfl, rfl, (Nat.le_of_ble_eq_true rfl), (Nat.le_of_ble_eq_true rfl)⟩ rfl rfl (Nat.le_of_ble_eq_true rfl) 0 rfl rfl rfl [0, 1, 2, 3, 4, 5, 6, 7, 8, 9, 10, 11] [] [0, 1, 2, 3, 4, 5, 6, 7, 8, 9, 10, 11] rfl rfl rfl rfl (by decide) rfl rfl ?_
        have hf : f_of ((mn, yr, gr, kd, pt, wt, mr), ((kmn, kyr, kgr, kkd, kpt, kwt, kmr), kp), (tb, tn), (wd, sz, nm), tl) (nI c_) (nI w_) = ((nI (whatN kd pt (sumN gr 12) yr c_)), ((mn, yr, gr, kd, pt, wt, mr), ((kmn, kyr, kgr, kkd, kpt, kwt, kmr), kp), (tb, tn), (wd, sz, nm), tl)) := by first | (simp [f_of, ofN, fnd, c1, c2, c3, c4, c5, ix_nI (show c_ < 2 ^ 31 by omega), ix_nI (show w_ < 2 ^ 31 by omega)]; done) | (simp [f_of, fnd, c1, c2, c3, c4, ix_nI (show c_ < 2 ^ 31 by omega), ix_nI (show w_ < 2 ^ 31 by omega)]; simp [ofN, c5, c4]; done) | (simp [f_of, fnd, c1, c2, c3, c4, c5, ix_nI (show c_ < 2 ^ 31 by omega), ix_nI (show w_ < 2 ^ 31 by omega)]; simp [ofN, c5, c4, c3])
        exact g_iret C Rr dX4_of_78 ⟨(kc, os, sd, tk, fr, to, vl, wr, mv), by rw [hf]; exact hJ, by rw [hf], by rw [hf]; rfl⟩ rfl
      refine g_tableOut (pc := 28) (tgt := 79) C dX4_of_28 (by rw [nI_toInt (by omega)]; omega) (by decide) ?_
      refine g_aload_n (pc := 79) C dX4_of_79 rfl ?_
      refine g_iload_n (pc := 80) C dX4_of_80 rfl ?_
      refine g_iload_n (pc := 81) C dX4_of_81 rfl ?_
      refine g_vxi (pc := 82) (ws2 := (mdV g a (sF mn yr gr kd pt wt mr) kc os sd tl kp tk tb tn fr to vl wr wd sz (flat nm) mv)) C dX4_of_82 ml_X4_102 mf_X4_its (m_its g a kc os sd tl kp tk tb tn fr to vl wr wd sz (flat nm) mv mn yr gr kd pt wt mr c_ w_ (by omega) (by omega)) ⟨rfl, rfl, (Nat.le_of_ble_eq_true rfl), (Nat.le_of_ble_eq_true rfl)⟩ rfl rfl (Nat.le_of_ble_eq_true rfl) 0 rfl rfl rfl [0, 1, 2, 3, 4, 5, 6, 7, 8, 9, 10, 11] [] [0, 1, 2, 3, 4, 5, 6, 7, 8, 9, 10, 11] rfl rfl rfl rfl (by decide) rfl rfl ?_
      have hf : f_of ((mn, yr, gr, kd, pt, wt, mr), ((kmn, kyr, kgr, kkd, kpt, kwt, kmr), kp), (tb, tn), (wd, sz, nm), tl) (nI c_) (nI w_) = ((nI (itF kd pt wt mr c_ w_)), ((mn, yr, gr, kd, pt, wt, mr), ((kmn, kyr, kgr, kkd, kpt, kwt, kmr), kp), (tb, tn), (wd, sz, nm), tl)) := by first | (simp [f_of, ofN, fnd, c1, c2, c3, c4, c5, ix_nI (show c_ < 2 ^ 31 by omega), ix_nI (show w_ < 2 ^ 31 by omega)]; done) | (simp [f_of, fnd, c1, c2, c3, c4, ix_nI (show c_ < 2 ^ 31 by omega), ix_nI (show w_ < 2 ^ 31 by omega)]; simp [ofN, c5, c4]; done) | (simp [f_of, fnd, c1, c2, c3, c4, c5, ix_nI (show c_ < 2 ^ 31 by omega), ix_nI (show w_ < 2 ^ 31 by omega)]; simp [ofN, c5, c4, c3])
      exact g_iret C Rr dX4_of_85 ⟨(kc, os, sd, tk, fr, to, vl, wr, mv), by rw [hf]; exact hJ, by rw [hf], by rw [hf]; rfl⟩ rfl
    · refine g_aload_n (pc := 20) C dX4_of_20 rfl ?_
      refine g_ldc (pc := 21) C dX4_of_21 ck_X4_44 rfl ?_
      refine g_vxi (pc := 23) (ws2 := (mdV g a (sF mn yr gr kd pt wt mr) kc os sd (updN tl 0 (tl 0 + 1)) kp tk tb tn fr to vl wr wd sz (flat nm) mv)) C dX4_of_23 ml_X4_64 mf_X4_finds (m_finds g a (sF mn yr gr kd pt wt mr) kc os sd tl kp tk tb tn fr to vl wr wd sz (flat nm) mv 0 (by decide)) ⟨rfl, rfl, (Nat.le_of_ble_eq_true rfl), (Nat.le_of_ble_eq_true rfl)⟩ rfl rfl (Nat.le_of_ble_eq_true rfl) 0 rfl rfl rfl [0, 1, 2, 3, 4, 5, 6, 7, 8, 9, 10, 11] [] [0, 1, 2, 3, 4, 5, 6, 7, 8, 9, 10, 11] rfl rfl rfl rfl (by decide) rfl rfl ?_
      have hf : f_of ((mn, yr, gr, kd, pt, wt, mr), ((kmn, kyr, kgr, kkd, kpt, kwt, kmr), kp), (tb, tn), (wd, sz, nm), tl) (nI c_) w = ((fd 0), ((mn, yr, gr, kd, pt, wt, mr), ((kmn, kyr, kgr, kkd, kpt, kwt, kmr), kp), (tb, tn), (wd, sz, nm), updN tl 0 (tl 0 + 1))) := by first | (simp [f_of, ofN, fnd, c1, c2, ix_nI (show c_ < 2 ^ 31 by omega)]; done) | (simp [f_of, fnd, c1, ix_nI (show c_ < 2 ^ 31 by omega)]; simp [ofN, c2, c1]; done) | (simp [f_of, fnd, c1, c2, ix_nI (show c_ < 2 ^ 31 by omega)]; simp [ofN, c2, c1, NOFACT])
      exact g_iret C Rr dX4_of_26 ⟨(kc, os, sd, tk, fr, to, vl, wr, mv), by rw [hf]; exact hJ, by rw [hf], by rw [hf]; rfl⟩ rfl
set_option maxHeartbeats 400000 in
set_option maxRecDepth 100000 in
theorem n_set (g : Gl) (a : Nat → Nat) (X : Xs) (J : Jm) (c : Int32) (w : Int32) (v : Int32) (hX : InvX X) (hJ : OkM X J) : Ct g yX4_set cX4_set 5 (some .int) (rk 2 46) [.ref (a 0), .int c, .int w, .int v] (mdX g a X J) (fun r w2 => ∃ J2, OkM (f_set X c w v).2 J2 ∧ r = some (.int (f_set X c w v).1) ∧ w2 = mdX g a (f_set X c w v).2 J2) := by
  obtain ⟨⟨mn, yr, gr, kd, pt, wt, mr⟩, ⟨⟨kmn, kyr, kgr, kkd, kpt, kwt, kmr⟩, kp⟩, ⟨tb, tn⟩, ⟨wd, sz, nm⟩, tl⟩ := X
  obtain ⟨kc, os, sd, tk, fr, to, vl, wr, mv⟩ := J
  obtain ⟨hB, hy, hkp, htb, htn, hwd, hsz⟩ := id hX
  obtain ⟨-, hTle, hgr, hkd, hpt, hwt, hmr, hyr, hmn⟩ := id hB
  refine ct_of (by decide) (Nat.le_of_ble_eq_true rfl) ?_
  intro φ C0 Rr
  have C : Cx φ g cX4_set 5 RX4 (rk 2 46) := C0
  show Go φ g 5 0 [(0, .ref (a 0)), (1, .int c), (2, .int w), (3, .int v)] [] (mdV g a (sF mn yr gr kd pt wt mr) kc os sd tl kp tk tb tn fr to vl wr wd sz (flat nm) mv)
  refine g_iload_n (pc := 0) C dX4_set_0 rfl ?_
  refine g_i2l (pc := 1) C dX4_set_1 ?_
  refine g_lconst (pc := 2) (v := 1) C dX4_set_2 (by decide) ?_
  refine g_ldc2 (pc := 3) C dX4_set_3 ckl_X4_122 rfl ?_
  refine g_s0i (pc := 6) C dX4_set_6 ml_X4_47 mf_X4_in (m_in g ((w).toInt64) 1 (3)) ⟨rfl, rfl, (Nat.le_of_ble_eq_true rfl), (Nat.le_of_ble_eq_true rfl)⟩ rfl rfl (Nat.le_of_ble_eq_true rfl) ?_
  refine g_top (y := bI (inR w 1 3 = true)) (bI_iff (w64.trans inR_iff.symm)) ?_
  refine g_if_eqB (pc := 9) (tgt := 50) C dX4_set_9 (by decide) (fun c1 => ?_) (fun c1 => ?_)
  · refine g_iconst (pc := 50) (v := nI 0) C dX4_set_50 (by decide) ?_
    refine g_istore (pc := 51) (lv2 := [(0, .ref (a 0)), (1, .int c), (2, .int w), (3, .int v), (4, .int (nI 0))]) C dX4_set_51 (Nat.le_of_ble_eq_true rfl) rfl ?_
    refine g_aload_n (pc := 53) C dX4_set_53 rfl ?_
    refine g_iload_n (pc := 54) C dX4_set_54 rfl ?_
    refine g_vxi (pc := 55) (ws2 := (mdV g a (sF mn yr gr kd pt wt mr) kc os sd tl kp tk tb tn fr to vl wr wd sz (flat nm) mv)) C dX4_set_55 ml_X4_51 mf_X4_isCook (m_isCook g a kc os sd tl kp tk tb tn fr to vl wr wd sz (flat nm) mv mn yr gr kd pt wt mr c hB) ⟨rfl, rfl, (Nat.le_of_ble_eq_true rfl), (Nat.le_of_ble_eq_true rfl)⟩ rfl rfl (Nat.le_of_ble_eq_true rfl) 0 rfl rfl rfl [0, 1, 2, 3, 4, 5, 6, 7, 8, 9, 10, 11] [] [0, 1, 2, 3, 4, 5, 6, 7, 8, 9, 10, 11] rfl rfl rfl rfl (by decide) rfl rfl ?_
    refine g_if_eqB (pc := 58) (tgt := 79) C dX4_set_58 (by decide) (fun c2 => ?_) (fun c2 => ?_)
    · refine g_aload_n (pc := 79) C dX4_set_79 rfl ?_
      refine g_ldc (pc := 80) C dX4_set_80 ck_X4_44 rfl ?_
      refine g_vxi (pc := 82) (ws2 := (mdV g a (sF mn yr gr kd pt wt mr) kc os sd (updN tl 0 (tl 0 + 1)) kp tk tb tn fr to vl wr wd sz (flat nm) mv)) C dX4_set_82 ml_X4_64 mf_X4_finds (m_finds g a (sF mn yr gr kd pt wt mr) kc os sd tl kp tk tb tn fr to vl wr wd sz (flat nm) mv 0 (by decide)) ⟨rfl, rfl, (Nat.le_of_ble_eq_true rfl), (Nat.le_of_ble_eq_true rfl)⟩ rfl rfl (Nat.le_of_ble_eq_true rfl) 0 rfl rfl rfl [0, 1, 2, 3, 4, 5, 6, 7, 8, 9, 10, 11] [] [0, 1, 2, 3, 4, 5, 6, 7, 8, 9, 10, 11] rfl rfl rfl rfl (by decide) rfl rfl ?_
      have hf : f_set ((mn, yr, gr, kd, pt, wt, mr), ((kmn, kyr, kgr, kkd, kpt, kwt, kmr), kp), (tb, tn), (wd, sz, nm), tl) c w v = ((fd 0), ((mn, yr, gr, kd, pt, wt, mr), ((kmn, kyr, kgr, kkd, kpt, kwt, kmr), kp), (tb, tn), (wd, sz, nm), updN tl 0 (tl 0 + 1))) := by simp [f_set, fnd, itF, c1, c2]
      exact g_iret C Rr dX4_set_85 ⟨(kc, os, sd, tk, fr, to, vl, wr, mv), by rw [hf]; exact hJ, by rw [hf], by rw [hf]; rfl⟩ rfl
    · obtain ⟨c_, hu_c, rfl⟩ := inR_cook c2
      have hc8 : c_ < 8 := by omega
      refine g_iload (pc := 61) C dX4_set_61 rfl ?_
      refine g_if_eqN (pc := 63) (tgt := 79) C dX4_set_63 (by decide) (by decide) (fun _ => ?_) (fun h => absurd h (by decide))
      refine g_aload_n (pc := 79) C dX4_set_79 rfl ?_
      refine g_ldc (pc := 80) C dX4_set_80 ck_X4_44 rfl ?_
      refine g_vxi (pc := 82) (ws2 := (mdV g a (sF mn yr gr kd pt wt mr) kc os sd (updN tl 0 (tl 0 + 1)) kp tk tb tn fr to vl wr wd sz (flat nm) mv)) C dX4_set_82 ml_X4_64 mf_X4_finds (m_finds g a (sF mn yr gr kd pt wt mr) kc os sd tl kp tk tb tn fr to vl wr wd sz (flat nm) mv 0 (by decide)) ⟨rfl, rfl, (Nat.le_of_ble_eq_true rfl), (Nat.le_of_ble_eq_true rfl)⟩ rfl rfl (Nat.le_of_ble_eq_true rfl) 0 rfl rfl rfl [0, 1, 2, 3, 4, 5, 6, 7, 8, 9, 10, 11] [] [0, 1, 2, 3, 4, 5, 6, 7, 8, 9, 10, 11] rfl rfl rfl rfl (by decide) rfl rfl ?_
      have hf : f_set ((mn, yr, gr, kd, pt, wt, mr), ((kmn, kyr, kgr, kkd, kpt, kwt, kmr), kp), (tb, tn), (wd, sz, nm), tl) (nI c_) w v = ((fd 0), ((mn, yr, gr, kd, pt, wt, mr), ((kmn, kyr, kgr, kkd, kpt, kwt, kmr), kp), (tb, tn), (wd, sz, nm), updN tl 0 (tl 0 + 1))) := by simp [f_set, fnd, itF, c1, c2, ix_nI (show c_ < 2 ^ 31 by omega)]
      exact g_iret C Rr dX4_set_85 ⟨(kc, os, sd, tk, fr, to, vl, wr, mv), by rw [hf]; exact hJ, by rw [hf], by rw [hf]; rfl⟩ rfl
  · obtain ⟨w_, hl_w, hu_w, rfl⟩ := inR_nat (lo := 1) (hi := 3) c1
    refine g_iload_n (pc := 12) C dX4_set_12 rfl ?_
    refine g_i2l (pc := 13) C dX4_set_13 ?_
    refine g_lconst (pc := 14) (v := 0) C dX4_set_14 (by decide) ?_
    refine g_iload_n (pc := 15) C dX4_set_15 rfl ?_
    refine g_iconst (pc := 16) (v := nI 1) C dX4_set_16 (by decide) ?_
    refine g_icmp_neN (pc := 17) (tgt := 26) C dX4_set_17 (by decide) (by omega) (by omega) (fun c4 => ?_) (fun c4 => ?_)
    · refine g_iload_n (pc := 26) C dX4_set_26 rfl ?_
      refine g_iconst (pc := 27) (v := nI 2) C dX4_set_27 (by decide) ?_
      refine g_icmp_neN (pc := 28) (tgt := 37) C dX4_set_28 (by decide) (by omega) (by omega) (fun c5 => ?_) (fun c5 => ?_)
      · obtain rfl : w_ = 3 := by omega
        refine g_ldc2 (pc := 37) C dX4_set_37 ckl_X4_124 rfl ?_
        refine g_s0i (pc := 40) C dX4_set_40 ml_X4_47 mf_X4_in (m_in g ((v).toInt64) 0 (9)) ⟨rfl, rfl, (Nat.le_of_ble_eq_true rfl), (Nat.le_of_ble_eq_true rfl)⟩ rfl rfl (Nat.le_of_ble_eq_true rfl) ?_
        refine g_top (y := bI (inR v 0 9 = true)) (bI_iff (w64.trans inR_iff.symm)) ?_
        refine g_if_eqB (pc := 43) (tgt := 50) C dX4_set_43 (by decide) (fun c6 => ?_) (fun c6 => ?_)
        · refine g_iconst (pc := 50) (v := nI 0) C dX4_set_50 (by decide) ?_
          refine g_istore (pc := 51) (lv2 := [(0, .ref (a 0)), (1, .int c), (2, .int (nI 3)), (3, .int v), (4, .int (nI 0))]) C dX4_set_51 (Nat.le_of_ble_eq_true rfl) rfl ?_
          refine g_aload_n (pc := 53) C dX4_set_53 rfl ?_
          refine g_iload_n (pc := 54) C dX4_set_54 rfl ?_
          refine g_vxi (pc := 55) (ws2 := (mdV g a (sF mn yr gr kd pt wt mr) kc os sd tl kp tk tb tn fr to vl wr wd sz (flat nm) mv)) C dX4_set_55 ml_X4_51 mf_X4_isCook (m_isCook g a kc os sd tl kp tk tb tn fr to vl wr wd sz (flat nm) mv mn yr gr kd pt wt mr c hB) ⟨rfl, rfl, (Nat.le_of_ble_eq_true rfl), (Nat.le_of_ble_eq_true rfl)⟩ rfl rfl (Nat.le_of_ble_eq_true rfl) 0 rfl rfl rfl [0, 1, 2, 3, 4, 5, 6, 7, 8, 9, 10, 11] [] [0, 1, 2, 3, 4, 5, 6, 7, 8, 9, 10, 11] rfl rfl rfl rfl (by decide) rfl rfl ?_
          refine g_if_eqB (pc := 58) (tgt := 79) C dX4_set_58 (by decide) (fun c7 => ?_) (fun c7 => ?_)
          · refine g_aload_n (pc := 79) C dX4_set_79 rfl ?_
            refine g_ldc (pc := 80) C dX4_set_80 ck_X4_44 rfl ?_
            refine g_vxi (pc := 82) (ws2 := (mdV g a (sF mn yr gr kd pt wt mr) kc os sd (updN tl 0 (tl 0 + 1)) kp tk tb tn fr to vl wr wd sz (flat nm) mv)) C dX4_set_82 ml_X4_64 mf_X4_finds (m_finds g a (sF mn yr gr kd pt wt mr) kc os sd tl kp tk tb tn fr to vl wr wd sz (flat nm) mv 0 (by decide)) ⟨rfl, rfl, (Nat.le_of_ble_eq_true rfl), (Nat.le_of_ble_eq_true rfl)⟩ rfl rfl (Nat.le_of_ble_eq_true rfl) 0 rfl rfl rfl [0, 1, 2, 3, 4, 5, 6, 7, 8, 9, 10, 11] [] [0, 1, 2, 3, 4, 5, 6, 7, 8, 9, 10, 11] rfl rfl rfl rfl (by decide) rfl rfl ?_
            have hf : f_set ((mn, yr, gr, kd, pt, wt, mr), ((kmn, kyr, kgr, kkd, kpt, kwt, kmr), kp), (tb, tn), (wd, sz, nm), tl) c (nI 3) v = ((fd 0), ((mn, yr, gr, kd, pt, wt, mr), ((kmn, kyr, kgr, kkd, kpt, kwt, kmr), kp), (tb, tn), (wd, sz, nm), updN tl 0 (tl 0 + 1))) := by simp [f_set, fnd, itF, c1, c6, c7, ix_nI (show 3 < 2 ^ 31 by decide)]
            exact g_iret C Rr dX4_set_85 ⟨(kc, os, sd, tk, fr, to, vl, wr, mv), by rw [hf]; exact hJ, by rw [hf], by rw [hf]; rfl⟩ rfl
          · obtain ⟨c_, hu_c, rfl⟩ := inR_cook c7
            have hc8 : c_ < 8 := by omega
            refine g_iload (pc := 61) C dX4_set_61 rfl ?_
            refine g_if_eqN (pc := 63) (tgt := 79) C dX4_set_63 (by decide) (by decide) (fun _ => ?_) (fun h => absurd h (by decide))
            refine g_aload_n (pc := 79) C dX4_set_79 rfl ?_
            refine g_ldc (pc := 80) C dX4_set_80 ck_X4_44 rfl ?_
            refine g_vxi (pc := 82) (ws2 := (mdV g a (sF mn yr gr kd pt wt mr) kc os sd (updN tl 0 (tl 0 + 1)) kp tk tb tn fr to vl wr wd sz (flat nm) mv)) C dX4_set_82 ml_X4_64 mf_X4_finds (m_finds g a (sF mn yr gr kd pt wt mr) kc os sd tl kp tk tb tn fr to vl wr wd sz (flat nm) mv 0 (by decide)) ⟨rfl, rfl, (Nat.le_of_ble_eq_true rfl), (Nat.le_of_ble_eq_true rfl)⟩ rfl rfl (Nat.le_of_ble_eq_true rfl) 0 rfl rfl rfl [0, 1, 2, 3, 4, 5, 6, 7, 8, 9, 10, 11] [] [0, 1, 2, 3, 4, 5, 6, 7, 8, 9, 10, 11] rfl rfl rfl rfl (by decide) rfl rfl ?_
            have hf : f_set ((mn, yr, gr, kd, pt, wt, mr), ((kmn, kyr, kgr, kkd, kpt, kwt, kmr), kp), (tb, tn), (wd, sz, nm), tl) (nI c_) (nI 3) v = ((fd 0), ((mn, yr, gr, kd, pt, wt, mr), ((kmn, kyr, kgr, kkd, kpt, kwt, kmr), kp), (tb, tn), (wd, sz, nm), updN tl 0 (tl 0 + 1))) := by simp [f_set, fnd, itF, c1, c6, c7, ix_nI (show c_ < 2 ^ 31 by omega), ix_nI (show 3 < 2 ^ 31 by decide)]
            exact g_iret C Rr dX4_set_85 ⟨(kc, os, sd, tk, fr, to, vl, wr, mv), by rw [hf]; exact hJ, by rw [hf], by rw [hf]; rfl⟩ rfl
        · obtain ⟨v_, hl_v, hu_v, rfl⟩ := inR_nat (lo := 0) (hi := 9) c6
          refine g_iconst (pc := 46) (v := nI 1) C dX4_set_46 (by decide) ?_
          refine g_goto (pc := 47) (tgt := 51) C dX4_set_47 (by decide) ?_
          refine g_istore (pc := 51) (lv2 := [(0, .ref (a 0)), (1, .int c), (2, .int (nI 3)), (3, .int (nI v_)), (4, .int (nI 1))]) C dX4_set_51 (Nat.le_of_ble_eq_true rfl) rfl ?_
          refine g_aload_n (pc := 53) C dX4_set_53 rfl ?_
          refine g_iload_n (pc := 54) C dX4_set_54 rfl ?_
          refine g_vxi (pc := 55) (ws2 := (mdV g a (sF mn yr gr kd pt wt mr) kc os sd tl kp tk tb tn fr to vl wr wd sz (flat nm) mv)) C dX4_set_55 ml_X4_51 mf_X4_isCook (m_isCook g a kc os sd tl kp tk tb tn fr to vl wr wd sz (flat nm) mv mn yr gr kd pt wt mr c hB) ⟨rfl, rfl, (Nat.le_of_ble_eq_true rfl), (Nat.le_of_ble_eq_true rfl)⟩ rfl rfl (Nat.le_of_ble_eq_true rfl) 0 rfl rfl rfl [0, 1, 2, 3, 4, 5, 6, 7, 8, 9, 10, 11] [] [0, 1, 2, 3, 4, 5, 6, 7, 8, 9, 10, 11] rfl rfl rfl rfl (by decide) rfl rfl ?_
          refine g_if_eqB (pc := 58) (tgt := 79) C dX4_set_58 (by decide) (fun c9 => ?_) (fun c9 => ?_)
          · refine g_aload_n (pc := 79) C dX4_set_79 rfl ?_
            refine g_ldc (pc := 80) C dX4_set_80 ck_X4_44 rfl ?_
            refine g_vxi (pc := 82) (ws2 := (mdV g a (sF mn yr gr kd pt wt mr) kc os sd (updN tl 0 (tl 0 + 1)) kp tk tb tn fr to vl wr wd sz (flat nm) mv)) C dX4_set_82 ml_X4_64 mf_X4_finds (m_finds g a (sF mn yr gr kd pt wt mr) kc os sd tl kp tk tb tn fr to vl wr wd sz (flat nm) mv 0 (by decide)) ⟨rfl, rfl, (Nat.le_of_ble_eq_true rfl), (Nat.le_of_ble_eq_true rfl)⟩ rfl rfl (Nat.le_of_ble_eq_true rfl) 0 rfl rfl rfl [0, 1, 2, 3, 4, 5, 6, 7, 8, 9, 10, 11] [] [0, 1, 2, 3, 4, 5, 6, 7, 8, 9, 10, 11] rfl rfl rfl rfl (by decide) rfl rfl ?_
            have hf : f_set ((mn, yr, gr, kd, pt, wt, mr), ((kmn, kyr, kgr, kkd, kpt, kwt, kmr), kp), (tb, tn), (wd, sz, nm), tl) c (nI 3) (nI v_) = ((fd 0), ((mn, yr, gr, kd, pt, wt, mr), ((kmn, kyr, kgr, kkd, kpt, kwt, kmr), kp), (tb, tn), (wd, sz, nm), updN tl 0 (tl 0 + 1))) := by simp [f_set, fnd, itF, c1, c6, c9, ix_nI (show v_ < 2 ^ 31 by omega), ix_nI (show 3 < 2 ^ 31 by decide)]
            exact g_iret C Rr dX4_set_85 ⟨(kc, os, sd, tk, fr, to, vl, wr, mv), by rw [hf]; exact hJ, by rw [hf], by rw [hf]; rfl⟩ rfl
          · obtain ⟨c_, hu_c, rfl⟩ := inR_cook c9
            have hc8 : c_ < 8 := by omega
            refine g_iload (pc := 61) C dX4_set_61 rfl ?_
            refine g_if_eqN (pc := 63) (tgt := 79) C dX4_set_63 (by decide) (by decide) (fun h => absurd h (by decide)) (fun _ => ?_)
            refine g_aload_n (pc := 66) C dX4_set_66 rfl ?_
            refine g_iload_n (pc := 67) C dX4_set_67 rfl ?_
            refine g_iload_n (pc := 68) C dX4_set_68 rfl ?_
            refine g_s0i (pc := 69) C dX4_set_69 ml_X4_57 mf_X4_spotOf (m_spotOf g c_ 3) ⟨rfl, rfl, (Nat.le_of_ble_eq_true rfl), (Nat.le_of_ble_eq_true rfl)⟩ rfl rfl (Nat.le_of_ble_eq_true rfl) ?_
            refine g_iload_n (pc := 72) C dX4_set_72 rfl ?_
            refine g_vxi (pc := 73) (ws2 := (mdV g a (updN (sF mn yr gr kd pt wt mr) (14 + 4 * c_ + 3) v_) kc os sd tl kp tk tb tn fr to vl wr wd sz (flat nm) mv)) C dX4_set_73 ml_X4_76 mf_X4_becomes (m_becomes g a (sF mn yr gr kd pt wt mr) kc os sd tl kp tk tb tn fr to vl wr wd sz (flat nm) mv (14 + 4 * c_ + 3) v_ (by omega)) ⟨rfl, rfl, (Nat.le_of_ble_eq_true rfl), (Nat.le_of_ble_eq_true rfl)⟩ rfl rfl (Nat.le_of_ble_eq_true rfl) 0 rfl rfl rfl [0, 1, 2, 3, 4, 5, 6, 7, 8, 9, 10, 11] [] [0, 1, 2, 3, 4, 5, 6, 7, 8, 9, 10, 11] rfl rfl rfl rfl (by decide) rfl rfl ?_
            refine g_ws (ws := (mdV g a (updN (sF mn yr gr kd pt wt mr) (14 + 4 * c_ + 3) v_) kc os sd tl kp tk tb tn fr to vl wr wd sz (flat nm) mv)) (ws2 := (mdV g a (sF mn yr gr kd pt wt (updN mr c_ v_)) kc os sd tl kp tk tb tn fr to vl wr wd sz (flat nm) mv)) (by rw [sF_wm]) ?_
            refine g_top (y := nI (mr c_)) (congrArg nI sF_rm) ?_
            have b11 := hmr c_
            refine g_goto (pc := 76) (tgt := 85) C dX4_set_76 (by decide) ?_
            have hf : f_set ((mn, yr, gr, kd, pt, wt, mr), ((kmn, kyr, kgr, kkd, kpt, kwt, kmr), kp), (tb, tn), (wd, sz, nm), tl) (nI c_) (nI 3) (nI v_) = ((nI (mr c_)), ((mn, yr, gr, kd, pt, wt, (updN mr c_ v_)), ((kmn, kyr, kgr, kkd, kpt, kwt, kmr), kp), (tb, tn), (wd, sz, nm), tl)) := by simp [f_set, fnd, itF, c1, c6, c9, ix_nI (show v_ < 2 ^ 31 by omega), ix_nI (show c_ < 2 ^ 31 by omega), ix_nI (show 3 < 2 ^ 31 by decide)]
            exact g_iret C Rr dX4_set_85 ⟨(kc, os, sd, tk, fr, to, vl, wr, mv), by rw [hf]; exact hJ, by rw [hf], by rw [hf]; rfl⟩ rfl
      · subst c5
        refine g_ldc2 (pc := 31) C dX4_set_31 ckl_X4_82 rfl ?_
        refine g_goto (pc := 34) (tgt := 40) C dX4_set_34 (by decide) ?_
        refine g_s0i (pc := 40) C dX4_set_40 ml_X4_47 mf_X4_in (m_in g ((v).toInt64) 0 (999)) ⟨rfl, rfl, (Nat.le_of_ble_eq_true rfl), (Nat.le_of_ble_eq_true rfl)⟩ rfl rfl (Nat.le_of_ble_eq_true rfl) ?_
        refine g_top (y := bI (inR v 0 999 = true)) (bI_iff (w64.trans inR_iff.symm)) ?_
        refine g_if_eqB (pc := 43) (tgt := 50) C dX4_set_43 (by decide) (fun c12 => ?_) (fun c12 => ?_)
        · refine g_iconst (pc := 50) (v := nI 0) C dX4_set_50 (by decide) ?_
          refine g_istore (pc := 51) (lv2 := [(0, .ref (a 0)), (1, .int c), (2, .int (nI 2)), (3, .int v), (4, .int (nI 0))]) C dX4_set_51 (Nat.le_of_ble_eq_true rfl) rfl ?_
          refine g_aload_n (pc := 53) C dX4_set_53 rfl ?_
          refine g_iload_n (pc := 54) C dX4_set_54 rfl ?_
          refine g_vxi (pc := 55) (ws2 := (mdV g a (sF mn yr gr kd pt wt mr) kc os sd tl kp tk tb tn fr to vl wr wd sz (flat nm) mv)) C dX4_set_55 ml_X4_51 mf_X4_isCook (m_isCook g a kc os sd tl kp tk tb tn fr to vl wr wd sz (flat nm) mv mn yr gr kd pt wt mr c hB) ⟨rfl, rfl, (Nat.le_of_ble_eq_true rfl), (Nat.le_of_ble_eq_true rfl)⟩ rfl rfl (Nat.le_of_ble_eq_true rfl) 0 rfl rfl rfl [0, 1, 2, 3, 4, 5, 6, 7, 8, 9, 10, 11] [] [0, 1, 2, 3, 4, 5, 6, 7, 8, 9, 10, 11] rfl rfl rfl rfl (by decide) rfl rfl ?_
          refine g_if_eqB (pc := 58) (tgt := 79) C dX4_set_58 (by decide) (fun c13 => ?_) (fun c13 => ?_)
          · refine g_aload_n (pc := 79) C dX4_set_79 rfl ?_
            refine g_ldc (pc := 80) C dX4_set_80 ck_X4_44 rfl ?_
            refine g_vxi (pc := 82) (ws2 := (mdV g a (sF mn yr gr kd pt wt mr) kc os sd (updN tl 0 (tl 0 + 1)) kp tk tb tn fr to vl wr wd sz (flat nm) mv)) C dX4_set_82 ml_X4_64 mf_X4_finds (m_finds g a (sF mn yr gr kd pt wt mr) kc os sd tl kp tk tb tn fr to vl wr wd sz (flat nm) mv 0 (by decide)) ⟨rfl, rfl, (Nat.le_of_ble_eq_true rfl), (Nat.le_of_ble_eq_true rfl)⟩ rfl rfl (Nat.le_of_ble_eq_true rfl) 0 rfl rfl rfl [0, 1, 2, 3, 4, 5, 6, 7, 8, 9, 10, 11] [] [0, 1, 2, 3, 4, 5, 6, 7, 8, 9, 10, 11] rfl rfl rfl rfl (by decide) rfl rfl ?_
            have hf : f_set ((mn, yr, gr, kd, pt, wt, mr), ((kmn, kyr, kgr, kkd, kpt, kwt, kmr), kp), (tb, tn), (wd, sz, nm), tl) c (nI 2) v = ((fd 0), ((mn, yr, gr, kd, pt, wt, mr), ((kmn, kyr, kgr, kkd, kpt, kwt, kmr), kp), (tb, tn), (wd, sz, nm), updN tl 0 (tl 0 + 1))) := by simp [f_set, fnd, itF, c1, c4, c12, c13, ix_nI (show 2 < 2 ^ 31 by decide)]
            exact g_iret C Rr dX4_set_85 ⟨(kc, os, sd, tk, fr, to, vl, wr, mv), by rw [hf]; exact hJ, by rw [hf], by rw [hf]; rfl⟩ rfl
          · obtain ⟨c_, hu_c, rfl⟩ := inR_cook c13
            have hc8 : c_ < 8 := by omega
            refine g_iload (pc := 61) C dX4_set_61 rfl ?_
            refine g_if_eqN (pc := 63) (tgt := 79) C dX4_set_63 (by decide) (by decide) (fun _ => ?_) (fun h => absurd h (by decide))
            refine g_aload_n (pc := 79) C dX4_set_79 rfl ?_
            refine g_ldc (pc := 80) C dX4_set_80 ck_X4_44 rfl ?_
            refine g_vxi (pc := 82) (ws2 := (mdV g a (sF mn yr gr kd pt wt mr) kc os sd (updN tl 0 (tl 0 + 1)) kp tk tb tn fr to vl wr wd sz (flat nm) mv)) C dX4_set_82 ml_X4_64 mf_X4_finds (m_finds g a (sF mn yr gr kd pt wt mr) kc os sd tl kp tk tb tn fr to vl wr wd sz (flat nm) mv 0 (by decide)) ⟨rfl, rfl, (Nat.le_of_ble_eq_true rfl), (Nat.le_of_ble_eq_true rfl)⟩ rfl rfl (Nat.le_of_ble_eq_true rfl) 0 rfl rfl rfl [0, 1, 2, 3, 4, 5, 6, 7, 8, 9, 10, 11] [] [0, 1, 2, 3, 4, 5, 6, 7, 8, 9, 10, 11] rfl rfl rfl rfl (by decide) rfl rfl ?_
            have hf : f_set ((mn, yr, gr, kd, pt, wt, mr), ((kmn, kyr, kgr, kkd, kpt, kwt, kmr), kp), (tb, tn), (wd, sz, nm), tl) (nI c_) (nI 2) v = ((fd 0), ((mn, yr, gr, kd, pt, wt, mr), ((kmn, kyr, kgr, kkd, kpt, kwt, kmr), kp), (tb, tn), (wd, sz, nm), updN tl 0 (tl 0 + 1))) := by simp [f_set, fnd, itF, c1, c4, c12, c13, ix_nI (show c_ < 2 ^ 31 by omega), ix_nI (show 2 < 2 ^ 31 by decide)]
            exact g_iret C Rr dX4_set_85 ⟨(kc, os, sd, tk, fr, to, vl, wr, mv), by rw [hf]; exact hJ, by rw [hf], by rw [hf]; rfl⟩ rfl
        · obtain ⟨v_, hl_v, hu_v, rfl⟩ := inR_nat (lo := 0) (hi := 999) c12
          refine g_iconst (pc := 46) (v := nI 1) C dX4_set_46 (by decide) ?_
          refine g_goto (pc := 47) (tgt := 51) C dX4_set_47 (by decide) ?_
          refine g_istore (pc := 51) (lv2 := [(0, .ref (a 0)), (1, .int c), (2, .int (nI 2)), (3, .int (nI v_)), (4, .int (nI 1))]) C dX4_set_51 (Nat.le_of_ble_eq_true rfl) rfl ?_
          refine g_aload_n (pc := 53) C dX4_set_53 rfl ?_
          refine g_iload_n (pc := 54) C dX4_set_54 rfl ?_
          refine g_vxi (pc := 55) (ws2 := (mdV g a (sF mn yr gr kd pt wt mr) kc os sd tl kp tk tb tn fr to vl wr wd sz (flat nm) mv)) C dX4_set_55 ml_X4_51 mf_X4_isCook (m_isCook g a kc os sd tl kp tk tb tn fr to vl wr wd sz (flat nm) mv mn yr gr kd pt wt mr c hB) ⟨rfl, rfl, (Nat.le_of_ble_eq_true rfl), (Nat.le_of_ble_eq_true rfl)⟩ rfl rfl (Nat.le_of_ble_eq_true rfl) 0 rfl rfl rfl [0, 1, 2, 3, 4, 5, 6, 7, 8, 9, 10, 11] [] [0, 1, 2, 3, 4, 5, 6, 7, 8, 9, 10, 11] rfl rfl rfl rfl (by decide) rfl rfl ?_
          refine g_if_eqB (pc := 58) (tgt := 79) C dX4_set_58 (by decide) (fun c15 => ?_) (fun c15 => ?_)
          · refine g_aload_n (pc := 79) C dX4_set_79 rfl ?_
            refine g_ldc (pc := 80) C dX4_set_80 ck_X4_44 rfl ?_
            refine g_vxi (pc := 82) (ws2 := (mdV g a (sF mn yr gr kd pt wt mr) kc os sd (updN tl 0 (tl 0 + 1)) kp tk tb tn fr to vl wr wd sz (flat nm) mv)) C dX4_set_82 ml_X4_64 mf_X4_finds (m_finds g a (sF mn yr gr kd pt wt mr) kc os sd tl kp tk tb tn fr to vl wr wd sz (flat nm) mv 0 (by decide)) ⟨rfl, rfl, (Nat.le_of_ble_eq_true rfl), (Nat.le_of_ble_eq_true rfl)⟩ rfl rfl (Nat.le_of_ble_eq_true rfl) 0 rfl rfl rfl [0, 1, 2, 3, 4, 5, 6, 7, 8, 9, 10, 11] [] [0, 1, 2, 3, 4, 5, 6, 7, 8, 9, 10, 11] rfl rfl rfl rfl (by decide) rfl rfl ?_
            have hf : f_set ((mn, yr, gr, kd, pt, wt, mr), ((kmn, kyr, kgr, kkd, kpt, kwt, kmr), kp), (tb, tn), (wd, sz, nm), tl) c (nI 2) (nI v_) = ((fd 0), ((mn, yr, gr, kd, pt, wt, mr), ((kmn, kyr, kgr, kkd, kpt, kwt, kmr), kp), (tb, tn), (wd, sz, nm), updN tl 0 (tl 0 + 1))) := by simp [f_set, fnd, itF, c1, c4, c12, c15, ix_nI (show v_ < 2 ^ 31 by omega), ix_nI (show 2 < 2 ^ 31 by decide)]
            exact g_iret C Rr dX4_set_85 ⟨(kc, os, sd, tk, fr, to, vl, wr, mv), by rw [hf]; exact hJ, by rw [hf], by rw [hf]; rfl⟩ rfl
          · obtain ⟨c_, hu_c, rfl⟩ := inR_cook c15
            have hc8 : c_ < 8 := by omega
            refine g_iload (pc := 61) C dX4_set_61 rfl ?_
            refine g_if_eqN (pc := 63) (tgt := 79) C dX4_set_63 (by decide) (by decide) (fun h => absurd h (by decide)) (fun _ => ?_)
            refine g_aload_n (pc := 66) C dX4_set_66 rfl ?_
            refine g_iload_n (pc := 67) C dX4_set_67 rfl ?_
            refine g_iload_n (pc := 68) C dX4_set_68 rfl ?_
            refine g_s0i (pc := 69) C dX4_set_69 ml_X4_57 mf_X4_spotOf (m_spotOf g c_ 2) ⟨rfl, rfl, (Nat.le_of_ble_eq_true rfl), (Nat.le_of_ble_eq_true rfl)⟩ rfl rfl (Nat.le_of_ble_eq_true rfl) ?_
            refine g_iload_n (pc := 72) C dX4_set_72 rfl ?_
            refine g_vxi (pc := 73) (ws2 := (mdV g a (updN (sF mn yr gr kd pt wt mr) (14 + 4 * c_ + 2) v_) kc os sd tl kp tk tb tn fr to vl wr wd sz (flat nm) mv)) C dX4_set_73 ml_X4_76 mf_X4_becomes (m_becomes g a (sF mn yr gr kd pt wt mr) kc os sd tl kp tk tb tn fr to vl wr wd sz (flat nm) mv (14 + 4 * c_ + 2) v_ (by omega)) ⟨rfl, rfl, (Nat.le_of_ble_eq_true rfl), (Nat.le_of_ble_eq_true rfl)⟩ rfl rfl (Nat.le_of_ble_eq_true rfl) 0 rfl rfl rfl [0, 1, 2, 3, 4, 5, 6, 7, 8, 9, 10, 11] [] [0, 1, 2, 3, 4, 5, 6, 7, 8, 9, 10, 11] rfl rfl rfl rfl (by decide) rfl rfl ?_
            refine g_ws (ws := (mdV g a (updN (sF mn yr gr kd pt wt mr) (14 + 4 * c_ + 2) v_) kc os sd tl kp tk tb tn fr to vl wr wd sz (flat nm) mv)) (ws2 := (mdV g a (sF mn yr gr kd pt (updN wt c_ v_) mr) kc os sd tl kp tk tb tn fr to vl wr wd sz (flat nm) mv)) (by rw [sF_ww]) ?_
            refine g_top (y := nI (wt c_)) (congrArg nI sF_rw) ?_
            have b17 := hwt c_
            refine g_goto (pc := 76) (tgt := 85) C dX4_set_76 (by decide) ?_
            have hf : f_set ((mn, yr, gr, kd, pt, wt, mr), ((kmn, kyr, kgr, kkd, kpt, kwt, kmr), kp), (tb, tn), (wd, sz, nm), tl) (nI c_) (nI 2) (nI v_) = ((nI (wt c_)), ((mn, yr, gr, kd, pt, (updN wt c_ v_), mr), ((kmn, kyr, kgr, kkd, kpt, kwt, kmr), kp), (tb, tn), (wd, sz, nm), tl)) := by simp [f_set, fnd, itF, c1, c4, c12, c15, ix_nI (show v_ < 2 ^ 31 by omega), ix_nI (show c_ < 2 ^ 31 by omega), ix_nI (show 2 < 2 ^ 31 by decide)]
            exact g_iret C Rr dX4_set_85 ⟨(kc, os, sd, tk, fr, to, vl, wr, mv), by rw [hf]; exact hJ, by rw [hf], by rw [hf]; rfl⟩ rfl
    · subst c4
      refine g_ldc2 (pc := 20) C dX4_set_20 ckl_X4_45 rfl ?_
      refine g_goto (pc := 23) (tgt := 40) C dX4_set_23 (by decide) ?_
      refine g_s0i (pc := 40) C dX4_set_40 ml_X4_47 mf_X4_in (m_in g ((v).toInt64) 0 (11)) ⟨rfl, rfl, (Nat.le_of_ble_eq_true rfl), (Nat.le_of_ble_eq_true rfl)⟩ rfl rfl (Nat.le_of_ble_eq_true rfl) ?_
      refine g_top (y := bI (inR v 0 11 = true)) (bI_iff (w64.trans inR_iff.symm)) ?_
      refine g_if_eqB (pc := 43) (tgt := 50) C dX4_set_43 (by decide) (fun c18 => ?_) (fun c18 => ?_)
      · refine g_iconst (pc := 50) (v := nI 0) C dX4_set_50 (by decide) ?_
        refine g_istore (pc := 51) (lv2 := [(0, .ref (a 0)), (1, .int c), (2, .int (nI 1)), (3, .int v), (4, .int (nI 0))]) C dX4_set_51 (Nat.le_of_ble_eq_true rfl) rfl ?_
        refine g_aload_n (pc := 53) C dX4_set_53 rfl ?_
        refine g_iload_n (pc := 54) C dX4_set_54 rfl ?_
        refine g_vxi (pc := 55) (ws2 := (mdV g a (sF mn yr gr kd pt wt mr) kc os sd tl kp tk tb tn fr to vl wr wd sz (flat nm) mv)) C dX4_set_55 ml_X4_51 mf_X4_isCook (m_isCook g a kc os sd tl kp tk tb tn fr to vl wr wd sz (flat nm) mv mn yr gr kd pt wt mr c hB) ⟨rfl, rfl, (Nat.le_of_ble_eq_true rfl), (Nat.le_of_ble_eq_true rfl)⟩ rfl rfl (Nat.le_of_ble_eq_true rfl) 0 rfl rfl rfl [0, 1, 2, 3, 4, 5, 6, 7, 8, 9, 10, 11] [] [0, 1, 2, 3, 4, 5, 6, 7, 8, 9, 10, 11] rfl rfl rfl rfl (by decide) rfl rfl ?_
        refine g_if_eqB (pc := 58) (tgt := 79) C dX4_set_58 (by decide) (fun c19 => ?_) (fun c19 => ?_)
        · refine g_aload_n (pc := 79) C dX4_set_79 rfl ?_
          refine g_ldc (pc := 80) C dX4_set_80 ck_X4_44 rfl ?_
          refine g_vxi (pc := 82) (ws2 := (mdV g a (sF mn yr gr kd pt wt mr) kc os sd (updN tl 0 (tl 0 + 1)) kp tk tb tn fr to vl wr wd sz (flat nm) mv)) C dX4_set_82 ml_X4_64 mf_X4_finds (m_finds g a (sF mn yr gr kd pt wt mr) kc os sd tl kp tk tb tn fr to vl wr wd sz (flat nm) mv 0 (by decide)) ⟨rfl, rfl, (Nat.le_of_ble_eq_true rfl), (Nat.le_of_ble_eq_true rfl)⟩ rfl rfl (Nat.le_of_ble_eq_true rfl) 0 rfl rfl rfl [0, 1, 2, 3, 4, 5, 6, 7, 8, 9, 10, 11] [] [0, 1, 2, 3, 4, 5, 6, 7, 8, 9, 10, 11] rfl rfl rfl rfl (by decide) rfl rfl ?_
          have hf : f_set ((mn, yr, gr, kd, pt, wt, mr), ((kmn, kyr, kgr, kkd, kpt, kwt, kmr), kp), (tb, tn), (wd, sz, nm), tl) c (nI 1) v = ((fd 0), ((mn, yr, gr, kd, pt, wt, mr), ((kmn, kyr, kgr, kkd, kpt, kwt, kmr), kp), (tb, tn), (wd, sz, nm), updN tl 0 (tl 0 + 1))) := by simp [f_set, fnd, itF, c1, c18, c19, ix_nI (show 1 < 2 ^ 31 by decide)]
          exact g_iret C Rr dX4_set_85 ⟨(kc, os, sd, tk, fr, to, vl, wr, mv), by rw [hf]; exact hJ, by rw [hf], by rw [hf]; rfl⟩ rfl
        · obtain ⟨c_, hu_c, rfl⟩ := inR_cook c19
          have hc8 : c_ < 8 := by omega
          refine g_iload (pc := 61) C dX4_set_61 rfl ?_
          refine g_if_eqN (pc := 63) (tgt := 79) C dX4_set_63 (by decide) (by decide) (fun _ => ?_) (fun h => absurd h (by decide))
          refine g_aload_n (pc := 79) C dX4_set_79 rfl ?_
          refine g_ldc (pc := 80) C dX4_set_80 ck_X4_44 rfl ?_
          refine g_vxi (pc := 82) (ws2 := (mdV g a (sF mn yr gr kd pt wt mr) kc os sd (updN tl 0 (tl 0 + 1)) kp tk tb tn fr to vl wr wd sz (flat nm) mv)) C dX4_set_82 ml_X4_64 mf_X4_finds (m_finds g a (sF mn yr gr kd pt wt mr) kc os sd tl kp tk tb tn fr to vl wr wd sz (flat nm) mv 0 (by decide)) ⟨rfl, rfl, (Nat.le_of_ble_eq_true rfl), (Nat.le_of_ble_eq_true rfl)⟩ rfl rfl (Nat.le_of_ble_eq_true rfl) 0 rfl rfl rfl [0, 1, 2, 3, 4, 5, 6, 7, 8, 9, 10, 11] [] [0, 1, 2, 3, 4, 5, 6, 7, 8, 9, 10, 11] rfl rfl rfl rfl (by decide) rfl rfl ?_
          have hf : f_set ((mn, yr, gr, kd, pt, wt, mr), ((kmn, kyr, kgr, kkd, kpt, kwt, kmr), kp), (tb, tn), (wd, sz, nm), tl) (nI c_) (nI 1) v = ((fd 0), ((mn, yr, gr, kd, pt, wt, mr), ((kmn, kyr, kgr, kkd, kpt, kwt, kmr), kp), (tb, tn), (wd, sz, nm), updN tl 0 (tl 0 + 1))) := by simp [f_set, fnd, itF, c1, c18, c19, ix_nI (show c_ < 2 ^ 31 by omega), ix_nI (show 1 < 2 ^ 31 by decide)]
          exact g_iret C Rr dX4_set_85 ⟨(kc, os, sd, tk, fr, to, vl, wr, mv), by rw [hf]; exact hJ, by rw [hf], by rw [hf]; rfl⟩ rfl
      · obtain ⟨v_, hl_v, hu_v, rfl⟩ := inR_nat (lo := 0) (hi := 11) c18
        refine g_iconst (pc := 46) (v := nI 1) C dX4_set_46 (by decide) ?_
        refine g_goto (pc := 47) (tgt := 51) C dX4_set_47 (by decide) ?_
        refine g_istore (pc := 51) (lv2 := [(0, .ref (a 0)), (1, .int c), (2, .int (nI 1)), (3, .int (nI v_)), (4, .int (nI 1))]) C dX4_set_51 (Nat.le_of_ble_eq_true rfl) rfl ?_
        refine g_aload_n (pc := 53) C dX4_set_53 rfl ?_
        refine g_iload_n (pc := 54) C dX4_set_54 rfl ?_
        refine g_vxi (pc := 55) (ws2 := (mdV g a (sF mn yr gr kd pt wt mr) kc os sd tl kp tk tb tn fr to vl wr wd sz (flat nm) mv)) C dX4_set_55 ml_X4_51 mf_X4_isCook (m_isCook g a kc os sd tl kp tk tb tn fr to vl wr wd sz (flat nm) mv mn yr gr kd pt wt mr c hB) ⟨rfl, rfl, (Nat.le_of_ble_eq_true rfl), (Nat.le_of_ble_eq_true rfl)⟩ rfl rfl (Nat.le_of_ble_eq_true rfl) 0 rfl rfl rfl [0, 1, 2, 3, 4, 5, 6, 7, 8, 9, 10, 11] [] [0, 1, 2, 3, 4, 5, 6, 7, 8, 9, 10, 11] rfl rfl rfl rfl (by decide) rfl rfl ?_
        refine g_if_eqB (pc := 58) (tgt := 79) C dX4_set_58 (by decide) (fun c21 => ?_) (fun c21 => ?_)
        · refine g_aload_n (pc := 79) C dX4_set_79 rfl ?_
          refine g_ldc (pc := 80) C dX4_set_80 ck_X4_44 rfl ?_
          refine g_vxi (pc := 82) (ws2 := (mdV g a (sF mn yr gr kd pt wt mr) kc os sd (updN tl 0 (tl 0 + 1)) kp tk tb tn fr to vl wr wd sz (flat nm) mv)) C dX4_set_82 ml_X4_64 mf_X4_finds (m_finds g a (sF mn yr gr kd pt wt mr) kc os sd tl kp tk tb tn fr to vl wr wd sz (flat nm) mv 0 (by decide)) ⟨rfl, rfl, (Nat.le_of_ble_eq_true rfl), (Nat.le_of_ble_eq_true rfl)⟩ rfl rfl (Nat.le_of_ble_eq_true rfl) 0 rfl rfl rfl [0, 1, 2, 3, 4, 5, 6, 7, 8, 9, 10, 11] [] [0, 1, 2, 3, 4, 5, 6, 7, 8, 9, 10, 11] rfl rfl rfl rfl (by decide) rfl rfl ?_
          have hf : f_set ((mn, yr, gr, kd, pt, wt, mr), ((kmn, kyr, kgr, kkd, kpt, kwt, kmr), kp), (tb, tn), (wd, sz, nm), tl) c (nI 1) (nI v_) = ((fd 0), ((mn, yr, gr, kd, pt, wt, mr), ((kmn, kyr, kgr, kkd, kpt, kwt, kmr), kp), (tb, tn), (wd, sz, nm), updN tl 0 (tl 0 + 1))) := by simp [f_set, fnd, itF, c1, c18, c21, ix_nI (show v_ < 2 ^ 31 by omega), ix_nI (show 1 < 2 ^ 31 by decide)]
          exact g_iret C Rr dX4_set_85 ⟨(kc, os, sd, tk, fr, to, vl, wr, mv), by rw [hf]; exact hJ, by rw [hf], by rw [hf]; rfl⟩ rfl
        · obtain ⟨c_, hu_c, rfl⟩ := inR_cook c21
          have hc8 : c_ < 8 := by omega
          refine g_iload (pc := 61) C dX4_set_61 rfl ?_
          refine g_if_eqN (pc := 63) (tgt := 79) C dX4_set_63 (by decide) (by decide) (fun h => absurd h (by decide)) (fun _ => ?_)
          refine g_aload_n (pc := 66) C dX4_set_66 rfl ?_
          refine g_iload_n (pc := 67) C dX4_set_67 rfl ?_
          refine g_iload_n (pc := 68) C dX4_set_68 rfl ?_
          refine g_s0i (pc := 69) C dX4_set_69 ml_X4_57 mf_X4_spotOf (m_spotOf g c_ 1) ⟨rfl, rfl, (Nat.le_of_ble_eq_true rfl), (Nat.le_of_ble_eq_true rfl)⟩ rfl rfl (Nat.le_of_ble_eq_true rfl) ?_
          refine g_iload_n (pc := 72) C dX4_set_72 rfl ?_
          refine g_vxi (pc := 73) (ws2 := (mdV g a (updN (sF mn yr gr kd pt wt mr) (14 + 4 * c_ + 1) v_) kc os sd tl kp tk tb tn fr to vl wr wd sz (flat nm) mv)) C dX4_set_73 ml_X4_76 mf_X4_becomes (m_becomes g a (sF mn yr gr kd pt wt mr) kc os sd tl kp tk tb tn fr to vl wr wd sz (flat nm) mv (14 + 4 * c_ + 1) v_ (by omega)) ⟨rfl, rfl, (Nat.le_of_ble_eq_true rfl), (Nat.le_of_ble_eq_true rfl)⟩ rfl rfl (Nat.le_of_ble_eq_true rfl) 0 rfl rfl rfl [0, 1, 2, 3, 4, 5, 6, 7, 8, 9, 10, 11] [] [0, 1, 2, 3, 4, 5, 6, 7, 8, 9, 10, 11] rfl rfl rfl rfl (by decide) rfl rfl ?_
          refine g_ws (ws := (mdV g a (updN (sF mn yr gr kd pt wt mr) (14 + 4 * c_ + 1) v_) kc os sd tl kp tk tb tn fr to vl wr wd sz (flat nm) mv)) (ws2 := (mdV g a (sF mn yr gr kd (updN pt c_ v_) wt mr) kc os sd tl kp tk tb tn fr to vl wr wd sz (flat nm) mv)) (by rw [sF_wp]) ?_
          refine g_top (y := nI (pt c_)) (congrArg nI sF_rp) ?_
          have b23 := hpt c_
          refine g_goto (pc := 76) (tgt := 85) C dX4_set_76 (by decide) ?_
          have hf : f_set ((mn, yr, gr, kd, pt, wt, mr), ((kmn, kyr, kgr, kkd, kpt, kwt, kmr), kp), (tb, tn), (wd, sz, nm), tl) (nI c_) (nI 1) (nI v_) = ((nI (pt c_)), ((mn, yr, gr, kd, (updN pt c_ v_), wt, mr), ((kmn, kyr, kgr, kkd, kpt, kwt, kmr), kp), (tb, tn), (wd, sz, nm), tl)) := by simp [f_set, fnd, itF, c1, c18, c21, ix_nI (show v_ < 2 ^ 31 by omega), ix_nI (show c_ < 2 ^ 31 by omega), ix_nI (show 1 < 2 ^ 31 by decide)]
          exact g_iret C Rr dX4_set_85 ⟨(kc, os, sd, tk, fr, to, vl, wr, mv), by rw [hf]; exact hJ, by rw [hf], by rw [hf]; rfl⟩ rfl
set_option maxHeartbeats 400000 in
set_option maxRecDepth 100000 in
theorem n_now (g : Gl) (a : Nat → Nat) (X : Xs) (J : Jm) (w : Int32) (hX : InvX X) (hJ : OkM X J) : Ct g yX4_now cX4_now 2 (some .int) (rk 3 64) [.ref (a 0), .int w] (mdX g a X J) (fun r w2 => ∃ J2, OkM (f_now X w).2 J2 ∧ r = some (.int (f_now X w).1) ∧ w2 = mdX g a (f_now X w).2 J2) := by
  obtain ⟨⟨mn, yr, gr, kd, pt, wt, mr⟩, ⟨⟨kmn, kyr, kgr, kkd, kpt, kwt, kmr⟩, kp⟩, ⟨tb, tn⟩, ⟨wd, sz, nm⟩, tl⟩ := X
  obtain ⟨kc, os, sd, tk, fr, to, vl, wr, mv⟩ := J
  obtain ⟨hB, hy, hkp, htb, htn, hwd, hsz⟩ := id hX
  obtain ⟨-, hTle, hgr, hkd, hpt, hwt, hmr, hyr, hmn⟩ := id hB
  refine ct_of (by decide) (Nat.le_of_ble_eq_true rfl) ?_
  intro φ C0 Rr
  have C : Cx φ g cX4_now 2 RX4 (rk 3 64) := C0
  show Go φ g 2 0 [(0, .ref (a 0)), (1, .int w)] [] (mdV g a (sF mn yr gr kd pt wt mr) kc os sd tl kp tk tb tn fr to vl wr wd sz (flat nm) mv)
  refine g_iload_n (pc := 0) C dX4_now_0 rfl ?_
  by_cases c1 : w = nI 0
  · subst c1
    refine g_tableIn (pc := 1) (off := 39) (tgt := 40) C dX4_now_1 (by decide) (by decide) (by decide) (by decide) ?_
    refine g_aload_n (pc := 40) C dX4_now_40 rfl ?_
    refine g_get4 (pc := 41) C dX4_now_41 0 rfl 0 (by decide) fl_X4_7 rfl ?_
    refine g_iconst (pc := 44) (v := nI 1) C dX4_now_44 (by decide) ?_
    refine g_ialdM (pc := 45) C dX4_now_45 1 rfl rfl (by omega) (by decide) ?_
    refine g_top (congrArg nI sF_r1) ?_
    have hf : f_now ((mn, yr, gr, kd, pt, wt, mr), ((kmn, kyr, kgr, kkd, kpt, kwt, kmr), kp), (tb, tn), (wd, sz, nm), tl) (nI 0) = ((nI yr), ((mn, yr, gr, kd, pt, wt, mr), ((kmn, kyr, kgr, kkd, kpt, kwt, kmr), kp), (tb, tn), (wd, sz, nm), tl)) := by simp [f_now, fnd, ix_nI (show 0 < 2 ^ 31 by decide)]
    exact g_iret C Rr dX4_now_46 ⟨(kc, os, sd, tk, fr, to, vl, wr, mv), by rw [hf]; exact hJ, by rw [hf], by rw [hf]; rfl⟩ rfl
  by_cases c2 : w = nI 1
  · subst c2
    refine g_tableIn (pc := 1) (off := 46) (tgt := 47) C dX4_now_1 (by decide) (by decide) (by decide) (by decide) ?_
    refine g_aload_n (pc := 47) C dX4_now_47 rfl ?_
    refine g_vxi (pc := 48) (ws2 := (mdV g a (sF mn yr gr kd pt wt mr) kc os sd tl kp tk tb tn fr to vl wr wd sz (flat nm) mv)) C dX4_now_48 ml_X4_70 mf_X4_all (m_all g a kc os sd tl kp tk tb tn fr to vl wr wd sz (flat nm) mv mn yr gr kd pt wt mr) ⟨rfl, rfl, (Nat.le_of_ble_eq_true rfl), (Nat.le_of_ble_eq_true rfl)⟩ rfl rfl (Nat.le_of_ble_eq_true rfl) 0 rfl rfl rfl [0, 1, 2, 3, 4, 5, 6, 7, 8, 9, 10, 11] [] [0, 1, 2, 3, 4, 5, 6, 7, 8, 9, 10, 11] rfl rfl rfl rfl (by decide) rfl rfl ?_
    have hf : f_now ((mn, yr, gr, kd, pt, wt, mr), ((kmn, kyr, kgr, kkd, kpt, kwt, kmr), kp), (tb, tn), (wd, sz, nm), tl) (nI 1) = ((nI (sumN gr 12)), ((mn, yr, gr, kd, pt, wt, mr), ((kmn, kyr, kgr, kkd, kpt, kwt, kmr), kp), (tb, tn), (wd, sz, nm), tl)) := by simp [f_now, fnd, c1, ix_nI (show 1 < 2 ^ 31 by decide)]
    exact g_iret C Rr dX4_now_51 ⟨(kc, os, sd, tk, fr, to, vl, wr, mv), by rw [hf]; exact hJ, by rw [hf], by rw [hf]; rfl⟩ rfl
  by_cases c3 : w = nI 2
  · subst c3
    refine g_tableIn (pc := 1) (off := 51) (tgt := 52) C dX4_now_1 (by decide) (by decide) (by decide) (by decide) ?_
    refine g_aload_n (pc := 52) C dX4_now_52 rfl ?_
    refine g_get4 (pc := 53) C dX4_now_53 0 rfl 0 (by decide) fl_X4_7 rfl ?_
    refine g_iconst (pc := 56) (v := nI 0) C dX4_now_56 (by decide) ?_
    refine g_ialdM (pc := 57) C dX4_now_57 1 rfl rfl (by omega) (by decide) ?_
    refine g_top (congrArg nI sF_r0) ?_
    refine g_if_neN (pc := 58) (tgt := 65) C dX4_now_58 (by decide) (by omega) (fun c4 => ?_) (fun c4 => ?_)
    · refine g_aload_n (pc := 65) C dX4_now_65 rfl ?_
      refine g_get4 (pc := 66) C dX4_now_66 0 rfl 0 (by decide) fl_X4_7 rfl ?_
      refine g_iconst (pc := 69) (v := nI 1) C dX4_now_69 (by decide) ?_
      refine g_ialdM (pc := 70) C dX4_now_70 1 rfl rfl (by omega) (by decide) ?_
      refine g_top (congrArg nI sF_r1) ?_
      refine g_aload_n (pc := 71) C dX4_now_71 rfl ?_
      refine g_get4 (pc := 72) C dX4_now_72 0 rfl 0 (by decide) fl_X4_7 rfl ?_
      refine g_iconst (pc := 75) (v := nI 0) C dX4_now_75 (by decide) ?_
      refine g_ialdM (pc := 76) C dX4_now_76 1 rfl rfl (by omega) (by decide) ?_
      refine g_top (congrArg nI sF_r0) ?_
      refine g_iremN (pc := 77) C dX4_now_77 (by omega) (by omega) (by omega) ?_
      have hf : f_now ((mn, yr, gr, kd, pt, wt, mr), ((kmn, kyr, kgr, kkd, kpt, kwt, kmr), kp), (tb, tn), (wd, sz, nm), tl) (nI 2) = ((nI (yr % mn)), ((mn, yr, gr, kd, pt, wt, mr), ((kmn, kyr, kgr, kkd, kpt, kwt, kmr), kp), (tb, tn), (wd, sz, nm), tl)) := by simp [f_now, fnd, c1, c2, c4, ix_nI (show 2 < 2 ^ 31 by decide)]
      exact g_iret C Rr dX4_now_78 ⟨(kc, os, sd, tk, fr, to, vl, wr, mv), by rw [hf]; exact hJ, by rw [hf], by rw [hf]; rfl⟩ rfl
    · refine g_iconst (pc := 61) (v := -1) C dX4_now_61 (by decide) ?_
      refine g_goto (pc := 62) (tgt := 78) C dX4_now_62 (by decide) ?_
      have hf : f_now ((mn, yr, gr, kd, pt, wt, mr), ((kmn, kyr, kgr, kkd, kpt, kwt, kmr), kp), (tb, tn), (wd, sz, nm), tl) (nI 2) = ((-1), ((mn, yr, gr, kd, pt, wt, mr), ((kmn, kyr, kgr, kkd, kpt, kwt, kmr), kp), (tb, tn), (wd, sz, nm), tl)) := by simp [f_now, fnd, c1, c2, c4, ix_nI (show 2 < 2 ^ 31 by decide)]
      exact g_iret C Rr dX4_now_78 ⟨(kc, os, sd, tk, fr, to, vl, wr, mv), by rw [hf]; exact hJ, by rw [hf], by rw [hf]; rfl⟩ rfl
  by_cases c5 : w = nI 3
  · subst c5
    refine g_tableIn (pc := 1) (off := 78) (tgt := 79) C dX4_now_1 (by decide) (by decide) (by decide) (by decide) ?_
    refine g_aload_n (pc := 79) C dX4_now_79 rfl ?_
    refine g_vxi (pc := 80) (ws2 := (mdV g a (sF mn yr gr kd pt wt mr) kc os sd tl kp tk tb tn fr to vl wr wd sz (flat nm) mv)) C dX4_now_80 ml_X4_148 mf_X4_present (m_present g a kc os sd tl kp tk tb tn fr to vl wr wd sz (flat nm) mv mn yr gr kd pt wt mr hB) ⟨rfl, rfl, (Nat.le_of_ble_eq_true rfl), (Nat.le_of_ble_eq_true rfl)⟩ rfl rfl (Nat.le_of_ble_eq_true rfl) 0 rfl rfl rfl [0, 1, 2, 3, 4, 5, 6, 7, 8, 9, 10, 11] [] [0, 1, 2, 3, 4, 5, 6, 7, 8, 9, 10, 11] rfl rfl rfl rfl (by decide) rfl rfl ?_
    have hf : f_now ((mn, yr, gr, kd, pt, wt, mr), ((kmn, kyr, kgr, kkd, kpt, kwt, kmr), kp), (tb, tn), (wd, sz, nm), tl) (nI 3) = ((nI (maskN gr 12)), ((mn, yr, gr, kd, pt, wt, mr), ((kmn, kyr, kgr, kkd, kpt, kwt, kmr), kp), (tb, tn), (wd, sz, nm), tl)) := by simp [f_now, fnd, c1, c2, c3, ix_nI (show 3 < 2 ^ 31 by decide)]
    exact g_iret C Rr dX4_now_83 ⟨(kc, os, sd, tk, fr, to, vl, wr, mv), by rw [hf]; exact hJ, by rw [hf], by rw [hf]; rfl⟩ rfl
  by_cases c6 : w = nI 4
  · subst c6
    refine g_tableIn (pc := 1) (off := 83) (tgt := 84) C dX4_now_1 (by decide) (by decide) (by decide) (by decide) ?_
    refine g_aload_n (pc := 84) C dX4_now_84 rfl ?_
    refine g_vxi (pc := 85) (ws2 := (mdV g a (sF mn yr gr kd pt wt mr) kc os sd tl kp tk tb tn fr to vl wr wd sz (flat nm) mv)) C dX4_now_85 ml_X4_151 mf_X4_isVague (m_isVague g a kc os sd tl kp tk tb tn fr to vl wr wd sz (flat nm) mv mn yr gr kd pt wt mr hB) ⟨rfl, rfl, (Nat.le_of_ble_eq_true rfl), (Nat.le_of_ble_eq_true rfl)⟩ rfl rfl (Nat.le_of_ble_eq_true rfl) 0 rfl rfl rfl [0, 1, 2, 3, 4, 5, 6, 7, 8, 9, 10, 11] [] [0, 1, 2, 3, 4, 5, 6, 7, 8, 9, 10, 11] rfl rfl rfl rfl (by decide) rfl rfl ?_
    refine g_if_eqB (pc := 88) (tgt := 95) C dX4_now_88 (by decide) (fun c7 => ?_) (fun c7 => ?_)
    · refine g_iconst (pc := 95) (v := nI 0) C dX4_now_95 (by decide) ?_
      have hf : f_now ((mn, yr, gr, kd, pt, wt, mr), ((kmn, kyr, kgr, kkd, kpt, kwt, kmr), kp), (tb, tn), (wd, sz, nm), tl) (nI 4) = ((nI 0), ((mn, yr, gr, kd, pt, wt, mr), ((kmn, kyr, kgr, kkd, kpt, kwt, kmr), kp), (tb, tn), (wd, sz, nm), tl)) := by simp [f_now, fnd, c1, c2, c3, c5, c7, ix_nI (show 4 < 2 ^ 31 by decide)]
      exact g_iret C Rr dX4_now_96 ⟨(kc, os, sd, tk, fr, to, vl, wr, mv), by rw [hf]; exact hJ, by rw [hf], by rw [hf]; rfl⟩ rfl
    · refine g_iconst (pc := 91) (v := nI 1) C dX4_now_91 (by decide) ?_
      refine g_goto (pc := 92) (tgt := 96) C dX4_now_92 (by decide) ?_
      have hf : f_now ((mn, yr, gr, kd, pt, wt, mr), ((kmn, kyr, kgr, kkd, kpt, kwt, kmr), kp), (tb, tn), (wd, sz, nm), tl) (nI 4) = ((nI 1), ((mn, yr, gr, kd, pt, wt, mr), ((kmn, kyr, kgr, kkd, kpt, kwt, kmr), kp), (tb, tn), (wd, sz, nm), tl)) := by simp [f_now, fnd, c1, c2, c3, c5, c7, ix_nI (show 4 < 2 ^ 31 by decide)]
      exact g_iret C Rr dX4_now_96 ⟨(kc, os, sd, tk, fr, to, vl, wr, mv), by rw [hf]; exact hJ, by rw [hf], by rw [hf]; rfl⟩ rfl
  by_cases c8 : w = nI 5
  · subst c8
    refine g_tableIn (pc := 1) (off := 96) (tgt := 97) C dX4_now_1 (by decide) (by decide) (by decide) (by decide) ?_
    refine g_aload_n (pc := 97) C dX4_now_97 rfl ?_
    refine g_vxi (pc := 98) (ws2 := (mdV g a (sF mn yr gr kd pt wt mr) kc os sd tl kp tk tb tn fr to vl wr wd sz (flat nm) mv)) C dX4_now_98 ml_X4_155 mf_X4_mostPart (m_mostPart g a kc os sd tl kp tk tb tn fr to vl wr wd sz (flat nm) mv mn yr gr kd pt wt mr hB) ⟨rfl, rfl, (Nat.le_of_ble_eq_true rfl), (Nat.le_of_ble_eq_true rfl)⟩ rfl rfl (Nat.le_of_ble_eq_true rfl) 0 rfl rfl rfl [0, 1, 2, 3, 4, 5, 6, 7, 8, 9, 10, 11] [] [0, 1, 2, 3, 4, 5, 6, 7, 8, 9, 10, 11] rfl rfl rfl rfl (by decide) rfl rfl ?_
    have hf : f_now ((mn, yr, gr, kd, pt, wt, mr), ((kmn, kyr, kgr, kkd, kpt, kwt, kmr), kp), (tb, tn), (wd, sz, nm), tl) (nI 5) = ((nI (mostN gr 12)), ((mn, yr, gr, kd, pt, wt, mr), ((kmn, kyr, kgr, kkd, kpt, kwt, kmr), kp), (tb, tn), (wd, sz, nm), tl)) := by simp [f_now, fnd, c1, c2, c3, c5, c6, ix_nI (show 5 < 2 ^ 31 by decide)]
    exact g_iret C Rr dX4_now_101 ⟨(kc, os, sd, tk, fr, to, vl, wr, mv), by rw [hf]; exact hJ, by rw [hf], by rw [hf]; rfl⟩ rfl
  refine g_tableOut (pc := 1) (tgt := 102) C dX4_now_1 (by have := sw_ne c1 (by decide); have := sw_ne c2 (by decide); have := sw_ne c3 (by decide); have := sw_ne c5 (by decide); have := sw_ne c6 (by decide); have := sw_ne c8 (by decide); omega) (by decide) ?_
  refine g_aload_n (pc := 102) C dX4_now_102 rfl ?_
  refine g_ldc (pc := 103) C dX4_now_103 ck_X4_44 rfl ?_
  refine g_vxi (pc := 105) (ws2 := (mdV g a (sF mn yr gr kd pt wt mr) kc os sd (updN tl 0 (tl 0 + 1)) kp tk tb tn fr to vl wr wd sz (flat nm) mv)) C dX4_now_105 ml_X4_64 mf_X4_finds (m_finds g a (sF mn yr gr kd pt wt mr) kc os sd tl kp tk tb tn fr to vl wr wd sz (flat nm) mv 0 (by decide)) ⟨rfl, rfl, (Nat.le_of_ble_eq_true rfl), (Nat.le_of_ble_eq_true rfl)⟩ rfl rfl (Nat.le_of_ble_eq_true rfl) 0 rfl rfl rfl [0, 1, 2, 3, 4, 5, 6, 7, 8, 9, 10, 11] [] [0, 1, 2, 3, 4, 5, 6, 7, 8, 9, 10, 11] rfl rfl rfl rfl (by decide) rfl rfl ?_
  have hf : f_now ((mn, yr, gr, kd, pt, wt, mr), ((kmn, kyr, kgr, kkd, kpt, kwt, kmr), kp), (tb, tn), (wd, sz, nm), tl) w = ((fd 0), ((mn, yr, gr, kd, pt, wt, mr), ((kmn, kyr, kgr, kkd, kpt, kwt, kmr), kp), (tb, tn), (wd, sz, nm), updN tl 0 (tl 0 + 1))) := by simp [f_now, fnd, c1, c2, c3, c5, c6, c8]
  exact g_iret C Rr dX4_now_108 ⟨(kc, os, sd, tk, fr, to, vl, wr, mv), by rw [hf]; exact hJ, by rw [hf], by rw [hf]; rfl⟩ rfl
set_option maxHeartbeats 400000 in
set_option maxRecDepth 100000 in
theorem n_vague (g : Gl) (a : Nat → Nat) (X : Xs) (J : Jm) (hX : InvX X) (hJ : OkM X J) : Ct g yX4_vague cX4_vague 1 (some .int) (rk 5 116) [.ref (a 0)] (mdX g a X J) (fun r w2 => ∃ J2, OkM (f_vague X).2 J2 ∧ r = some (.int (f_vague X).1) ∧ w2 = mdX g a (f_vague X).2 J2) := by
  obtain ⟨⟨mn, yr, gr, kd, pt, wt, mr⟩, ⟨⟨kmn, kyr, kgr, kkd, kpt, kwt, kmr⟩, kp⟩, ⟨tb, tn⟩, ⟨wd, sz, nm⟩, tl⟩ := X
  obtain ⟨kc, os, sd, tk, fr, to, vl, wr, mv⟩ := J
  obtain ⟨hB, hy, hkp, htb, htn, hwd, hsz⟩ := id hX
  obtain ⟨-, hTle, hgr, hkd, hpt, hwt, hmr, hyr, hmn⟩ := id hB
  refine ct_of (by decide) (Nat.le_of_ble_eq_true rfl) ?_
  intro φ C0 Rr
  have C : Cx φ g cX4_vague 1 RX4 (rk 5 116) := C0
  show Go φ g 1 0 [(0, .ref (a 0))] [] (mdV g a (sF mn yr gr kd pt wt mr) kc os sd tl kp tk tb tn fr to vl wr wd sz (flat nm) mv)
  refine g_aload_n (pc := 0) C dX4_vague_0 rfl ?_
  refine g_iconst (pc := 1) (v := nI 0) C dX4_vague_1 (by decide) ?_
  refine g_iconst (pc := 2) (v := nI 0) C dX4_vague_2 (by decide) ?_
  refine g_iconst (pc := 3) (v := nI 0) C dX4_vague_3 (by decide) ?_
  refine g_rV (pc := 4) (rest := []) C dX4_vague_4 ml_X4_163 mf_X4_firstSo (m_firstSo g a kc os sd tl kp tk tb tn fr to vl wr wd sz (flat nm) mv mn yr gr kd pt wt mr 0 0 0 hB (by omega) (by omega) (by omega) (by omega)) ⟨rfl, rfl, (Nat.le_of_ble_eq_true rfl), (Nat.le_of_ble_eq_true rfl)⟩ rfl rfl (Nat.le_of_ble_eq_true rfl) 0 rfl rfl rfl [0, 1, 2, 3, 4, 5, 6, 7, 8, 9, 10, 11] [] rfl rfl rfl rfl (by decide) ?_
  intro r9 w9 h9
  obtain ⟨f_1, rfl, rfl⟩ := h9
  refine g_sub (ws2 := (mdV g a (sF mn yr gr kd pt wt mr) kc os (sF mn yr gr kd pt wt mr) (if fsN kd pt wt mr mn gr yr 0 0 0 < 201 then tl else updN tl 3 (tl 3 + 1)) kp f_1 tb tn fr to vl wr wd sz (flat nm) mv)) [0, 1, 2, 3, 4, 5, 6, 7, 8, 9, 10, 11] rfl rfl ?_
  show Go φ g 1 7 [(0, .ref (a 0))] [.int (if fsN kd pt wt mr mn gr yr 0 0 0 < 201 then nI (fsN kd pt wt mr mn gr yr 0 0 0) else fd 3)] (mdV g a (sF mn yr gr kd pt wt mr) kc os (sF mn yr gr kd pt wt mr) (if fsN kd pt wt mr mn gr yr 0 0 0 < 201 then tl else updN tl 3 (tl 3 + 1)) kp f_1 tb tn fr to vl wr wd sz (flat nm) mv)
  have hf : f_vague ((mn, yr, gr, kd, pt, wt, mr), ((kmn, kyr, kgr, kkd, kpt, kwt, kmr), kp), (tb, tn), (wd, sz, nm), tl) = ((if fsN kd pt wt mr mn gr yr 0 0 0 < 201 then nI (fsN kd pt wt mr mn gr yr 0 0 0) else fd 3), ((mn, yr, gr, kd, pt, wt, mr), ((kmn, kyr, kgr, kkd, kpt, kwt, kmr), kp), (tb, tn), (wd, sz, nm), if fsN kd pt wt mr mn gr yr 0 0 0 < 201 then tl else updN tl 3 (tl 3 + 1))) := by simp only [f_vague, f_first, fnd]; split <;> rfl
  exact g_iret C Rr dX4_vague_7 ⟨(kc, os, sF mn yr gr kd pt wt mr, f_1, fr, to, vl, wr, mv), by rw [hf]; exact hJ, by rw [hf], by rw [hf]; rfl⟩ rfl
set_option maxHeartbeats 400000 in
set_option maxRecDepth 100000 in
theorem n_gone (g : Gl) (a : Nat → Nat) (X : Xs) (J : Jm) (p : Int32) (v : Int32) (hX : InvX X) (hJ : OkM X J) : Ct g yX4_gone cX4_gone 3 (some .int) (rk 5 116) [.ref (a 0), .int p, .int v] (mdX g a X J) (fun r w2 => ∃ J2, OkM (f_gone X p v).2 J2 ∧ r = some (.int (f_gone X p v).1) ∧ w2 = mdX g a (f_gone X p v).2 J2) := by
  obtain ⟨⟨mn, yr, gr, kd, pt, wt, mr⟩, ⟨⟨kmn, kyr, kgr, kkd, kpt, kwt, kmr⟩, kp⟩, ⟨tb, tn⟩, ⟨wd, sz, nm⟩, tl⟩ := X
  obtain ⟨kc, os, sd, tk, fr, to, vl, wr, mv⟩ := J
  obtain ⟨hB, hy, hkp, htb, htn, hwd, hsz⟩ := id hX
  obtain ⟨-, hTle, hgr, hkd, hpt, hwt, hmr, hyr, hmn⟩ := id hB
  refine ct_of (by decide) (Nat.le_of_ble_eq_true rfl) ?_
  intro φ C0 Rr
  have C : Cx φ g cX4_gone 3 RX4 (rk 5 116) := C0
  show Go φ g 3 0 [(0, .ref (a 0)), (1, .int p), (2, .int v)] [] (mdV g a (sF mn yr gr kd pt wt mr) kc os sd tl kp tk tb tn fr to vl wr wd sz (flat nm) mv)
  refine g_iload_n (pc := 0) C dX4_gone_0 rfl ?_
  refine g_s0i (pc := 1) C dX4_gone_1 ml_X4_61 mf_X4_isPart (m_isPart g p) ⟨rfl, rfl, (Nat.le_of_ble_eq_true rfl), (Nat.le_of_ble_eq_true rfl)⟩ rfl rfl (Nat.le_of_ble_eq_true rfl) ?_
  refine g_if_eqB (pc := 4) (tgt := 29) C dX4_gone_4 (by decide) (fun c1 => ?_) (fun c1 => ?_)
  · refine g_aload_n (pc := 29) C dX4_gone_29 rfl ?_
    refine g_ldc (pc := 30) C dX4_gone_30 ck_X4_44 rfl ?_
    refine g_vxi (pc := 32) (ws2 := (mdV g a (sF mn yr gr kd pt wt mr) kc os sd (updN tl 0 (tl 0 + 1)) kp tk tb tn fr to vl wr wd sz (flat nm) mv)) C dX4_gone_32 ml_X4_64 mf_X4_finds (m_finds g a (sF mn yr gr kd pt wt mr) kc os sd tl kp tk tb tn fr to vl wr wd sz (flat nm) mv 0 (by decide)) ⟨rfl, rfl, (Nat.le_of_ble_eq_true rfl), (Nat.le_of_ble_eq_true rfl)⟩ rfl rfl (Nat.le_of_ble_eq_true rfl) 0 rfl rfl rfl [0, 1, 2, 3, 4, 5, 6, 7, 8, 9, 10, 11] [] [0, 1, 2, 3, 4, 5, 6, 7, 8, 9, 10, 11] rfl rfl rfl rfl (by decide) rfl rfl ?_
    have hf : f_gone ((mn, yr, gr, kd, pt, wt, mr), ((kmn, kyr, kgr, kkd, kpt, kwt, kmr), kp), (tb, tn), (wd, sz, nm), tl) p v = ((fd 0), ((mn, yr, gr, kd, pt, wt, mr), ((kmn, kyr, kgr, kkd, kpt, kwt, kmr), kp), (tb, tn), (wd, sz, nm), updN tl 0 (tl 0 + 1))) := by first | (simp [f_gone, fnd, c1]; done) | (rw [f_gone, NOFACT, c1, ix_nI (show p_ < 2 ^ 31 by omega), ix_nI (show v_ < 2 ^ 31 by omega)]; simp only [f_first, fnd, Bool.and_self, if_true]; split <;> rfl)
    exact g_iret C Rr dX4_gone_35 ⟨(kc, os, sd, tk, fr, to, vl, wr, mv), by rw [hf]; exact hJ, by rw [hf], by rw [hf]; rfl⟩ rfl
  · obtain ⟨p_, hl_p, hu_p, rfl⟩ := inR_nat (lo := 0) (hi := 11) c1
    refine g_iload_n (pc := 7) C dX4_gone_7 rfl ?_
    refine g_i2l (pc := 8) C dX4_gone_8 ?_
    refine g_lconst (pc := 9) (v := 0) C dX4_gone_9 (by decide) ?_
    refine g_ldc2 (pc := 10) C dX4_gone_10 ckl_X4_68 rfl ?_
    refine g_s0i (pc := 13) C dX4_gone_13 ml_X4_47 mf_X4_in (m_in g ((v).toInt64) 0 (99999)) ⟨rfl, rfl, (Nat.le_of_ble_eq_true rfl), (Nat.le_of_ble_eq_true rfl)⟩ rfl rfl (Nat.le_of_ble_eq_true rfl) ?_
    refine g_top (y := bI (inR v 0 99999 = true)) (bI_iff (w64.trans inR_iff.symm)) ?_
    refine g_if_eqB (pc := 16) (tgt := 29) C dX4_gone_16 (by decide) (fun c2 => ?_) (fun c2 => ?_)
    · refine g_aload_n (pc := 29) C dX4_gone_29 rfl ?_
      refine g_ldc (pc := 30) C dX4_gone_30 ck_X4_44 rfl ?_
      refine g_vxi (pc := 32) (ws2 := (mdV g a (sF mn yr gr kd pt wt mr) kc os sd (updN tl 0 (tl 0 + 1)) kp tk tb tn fr to vl wr wd sz (flat nm) mv)) C dX4_gone_32 ml_X4_64 mf_X4_finds (m_finds g a (sF mn yr gr kd pt wt mr) kc os sd tl kp tk tb tn fr to vl wr wd sz (flat nm) mv 0 (by decide)) ⟨rfl, rfl, (Nat.le_of_ble_eq_true rfl), (Nat.le_of_ble_eq_true rfl)⟩ rfl rfl (Nat.le_of_ble_eq_true rfl) 0 rfl rfl rfl [0, 1, 2, 3, 4, 5, 6, 7, 8, 9, 10, 11] [] [0, 1, 2, 3, 4, 5, 6, 7, 8, 9, 10, 11] rfl rfl rfl rfl (by decide) rfl rfl ?_
      have hf : f_gone ((mn, yr, gr, kd, pt, wt, mr), ((kmn, kyr, kgr, kkd, kpt, kwt, kmr), kp), (tb, tn), (wd, sz, nm), tl) (nI p_) v = ((fd 0), ((mn, yr, gr, kd, pt, wt, mr), ((kmn, kyr, kgr, kkd, kpt, kwt, kmr), kp), (tb, tn), (wd, sz, nm), updN tl 0 (tl 0 + 1))) := by first | (simp [f_gone, fnd, c1, c2, ix_nI (show p_ < 2 ^ 31 by omega)]; done) | (rw [f_gone, c1, c2, ix_nI (show p_ < 2 ^ 31 by omega), ix_nI (show v_ < 2 ^ 31 by omega)]; simp only [f_first, fnd, Bool.and_self, if_true]; split <;> rfl)
      exact g_iret C Rr dX4_gone_35 ⟨(kc, os, sd, tk, fr, to, vl, wr, mv), by rw [hf]; exact hJ, by rw [hf], by rw [hf]; rfl⟩ rfl
    · obtain ⟨v_, hl_v, hu_v, rfl⟩ := inR_nat (lo := 0) (hi := 99999) c2
      refine g_aload_n (pc := 19) C dX4_gone_19 rfl ?_
      refine g_iconst (pc := 20) (v := nI 1) C dX4_gone_20 (by decide) ?_
      refine g_iload_n (pc := 21) C dX4_gone_21 rfl ?_
      refine g_iload_n (pc := 22) C dX4_gone_22 rfl ?_
      refine g_rV (pc := 23) (rest := []) C dX4_gone_23 ml_X4_163 mf_X4_firstSo (m_firstSo g a kc os sd tl kp tk tb tn fr to vl wr wd sz (flat nm) mv mn yr gr kd pt wt mr 1 p_ v_ hB (by omega) (by omega) (by omega) (by omega)) ⟨rfl, rfl, (Nat.le_of_ble_eq_true rfl), (Nat.le_of_ble_eq_true rfl)⟩ rfl rfl (Nat.le_of_ble_eq_true rfl) 0 rfl rfl rfl [0, 1, 2, 3, 4, 5, 6, 7, 8, 9, 10, 11] [] rfl rfl rfl rfl (by decide) ?_
      intro r9 w9 h9
      obtain ⟨f_3, rfl, rfl⟩ := h9
      refine g_sub (ws2 := (mdV g a (sF mn yr gr kd pt wt mr) kc os (sF mn yr gr kd pt wt mr) (if fsN kd pt wt mr mn gr yr 1 p_ v_ < 201 then tl else updN tl 3 (tl 3 + 1)) kp f_3 tb tn fr to vl wr wd sz (flat nm) mv)) [0, 1, 2, 3, 4, 5, 6, 7, 8, 9, 10, 11] rfl rfl ?_
      show Go φ g 3 26 [(0, .ref (a 0)), (1, .int (nI p_)), (2, .int (nI v_))] [.int (if fsN kd pt wt mr mn gr yr 1 p_ v_ < 201 then nI (fsN kd pt wt mr mn gr yr 1 p_ v_) else fd 3)] (mdV g a (sF mn yr gr kd pt wt mr) kc os (sF mn yr gr kd pt wt mr) (if fsN kd pt wt mr mn gr yr 1 p_ v_ < 201 then tl else updN tl 3 (tl 3 + 1)) kp f_3 tb tn fr to vl wr wd sz (flat nm) mv)
      refine g_goto (pc := 26) (tgt := 35) C dX4_gone_26 (by decide) ?_
      have hf : f_gone ((mn, yr, gr, kd, pt, wt, mr), ((kmn, kyr, kgr, kkd, kpt, kwt, kmr), kp), (tb, tn), (wd, sz, nm), tl) (nI p_) (nI v_) = ((if fsN kd pt wt mr mn gr yr 1 p_ v_ < 201 then nI (fsN kd pt wt mr mn gr yr 1 p_ v_) else fd 3), ((mn, yr, gr, kd, pt, wt, mr), ((kmn, kyr, kgr, kkd, kpt, kwt, kmr), kp), (tb, tn), (wd, sz, nm), if fsN kd pt wt mr mn gr yr 1 p_ v_ < 201 then tl else updN tl 3 (tl 3 + 1))) := by first | (simp [f_gone, fnd, c1, c2, ix_nI (show p_ < 2 ^ 31 by omega), ix_nI (show v_ < 2 ^ 31 by omega)]; done) | (rw [f_gone, c1, c2, ix_nI (show p_ < 2 ^ 31 by omega), ix_nI (show v_ < 2 ^ 31 by omega)]; simp only [f_first, fnd, Bool.and_self, if_true]; split <;> rfl)
      exact g_iret C Rr dX4_gone_35 ⟨(kc, os, sF mn yr gr kd pt wt mr, f_3, fr, to, vl, wr, mv), by rw [hf]; exact hJ, by rw [hf], by rw [hf]; rfl⟩ rfl
set_option maxHeartbeats 400000 in
set_option maxRecDepth 100000 in
theorem n_strong (g : Gl) (a : Nat → Nat) (X : Xs) (J : Jm) (p : Int32) (v : Int32) (hX : InvX X) (hJ : OkM X J) : Ct g yX4_strong cX4_strong 3 (some .int) (rk 5 116) [.ref (a 0), .int p, .int v] (mdX g a X J) (fun r w2 => ∃ J2, OkM (f_strong X p v).2 J2 ∧ r = some (.int (f_strong X p v).1) ∧ w2 = mdX g a (f_strong X p v).2 J2) := by
  obtain ⟨⟨mn, yr, gr, kd, pt, wt, mr⟩, ⟨⟨kmn, kyr, kgr, kkd, kpt, kwt, kmr⟩, kp⟩, ⟨tb, tn⟩, ⟨wd, sz, nm⟩, tl⟩ := X
  obtain ⟨kc, os, sd, tk, fr, to, vl, wr, mv⟩ := J
  obtain ⟨hB, hy, hkp, htb, htn, hwd, hsz⟩ := id hX
  obtain ⟨-, hTle, hgr, hkd, hpt, hwt, hmr, hyr, hmn⟩ := id hB
  refine ct_of (by decide) (Nat.le_of_ble_eq_true rfl) ?_
  intro φ C0 Rr
  have C : Cx φ g cX4_strong 3 RX4 (rk 5 116) := C0
  show Go φ g 3 0 [(0, .ref (a 0)), (1, .int p), (2, .int v)] [] (mdV g a (sF mn yr gr kd pt wt mr) kc os sd tl kp tk tb tn fr to vl wr wd sz (flat nm) mv)
  refine g_iload_n (pc := 0) C dX4_strong_0 rfl ?_
  refine g_s0i (pc := 1) C dX4_strong_1 ml_X4_61 mf_X4_isPart (m_isPart g p) ⟨rfl, rfl, (Nat.le_of_ble_eq_true rfl), (Nat.le_of_ble_eq_true rfl)⟩ rfl rfl (Nat.le_of_ble_eq_true rfl) ?_
  refine g_if_eqB (pc := 4) (tgt := 29) C dX4_strong_4 (by decide) (fun c1 => ?_) (fun c1 => ?_)
  · refine g_aload_n (pc := 29) C dX4_strong_29 rfl ?_
    refine g_ldc (pc := 30) C dX4_strong_30 ck_X4_44 rfl ?_
    refine g_vxi (pc := 32) (ws2 := (mdV g a (sF mn yr gr kd pt wt mr) kc os sd (updN tl 0 (tl 0 + 1)) kp tk tb tn fr to vl wr wd sz (flat nm) mv)) C dX4_strong_32 ml_X4_64 mf_X4_finds (m_finds g a (sF mn yr gr kd pt wt mr) kc os sd tl kp tk tb tn fr to vl wr wd sz (flat nm) mv 0 (by decide)) ⟨rfl, rfl, (Nat.le_of_ble_eq_true rfl), (Nat.le_of_ble_eq_true rfl)⟩ rfl rfl (Nat.le_of_ble_eq_true rfl) 0 rfl rfl rfl [0, 1, 2, 3, 4, 5, 6, 7, 8, 9, 10, 11] [] [0, 1, 2, 3, 4, 5, 6, 7, 8, 9, 10, 11] rfl rfl rfl rfl (by decide) rfl rfl ?_
    have hf : f_strong ((mn, yr, gr, kd, pt, wt, mr), ((kmn, kyr, kgr, kkd, kpt, kwt, kmr), kp), (tb, tn), (wd, sz, nm), tl) p v = ((fd 0), ((mn, yr, gr, kd, pt, wt, mr), ((kmn, kyr, kgr, kkd, kpt, kwt, kmr), kp), (tb, tn), (wd, sz, nm), updN tl 0 (tl 0 + 1))) := by first | (simp [f_strong, fnd, c1]; done) | (rw [f_strong, NOFACT, c1, ix_nI (show p_ < 2 ^ 31 by omega), ix_nI (show v_ < 2 ^ 31 by omega)]; simp only [f_first, fnd, Bool.and_self, if_true]; split <;> rfl)
    exact g_iret C Rr dX4_strong_35 ⟨(kc, os, sd, tk, fr, to, vl, wr, mv), by rw [hf]; exact hJ, by rw [hf], by rw [hf]; rfl⟩ rfl
  · obtain ⟨p_, hl_p, hu_p, rfl⟩ := inR_nat (lo := 0) (hi := 11) c1
    refine g_iload_n (pc := 7) C dX4_strong_7 rfl ?_
    refine g_i2l (pc := 8) C dX4_strong_8 ?_
    refine g_lconst (pc := 9) (v := 0) C dX4_strong_9 (by decide) ?_
    refine g_ldc2 (pc := 10) C dX4_strong_10 ckl_X4_167 rfl ?_
    refine g_s0i (pc := 13) C dX4_strong_13 ml_X4_47 mf_X4_in (m_in g ((v).toInt64) 0 (1000)) ⟨rfl, rfl, (Nat.le_of_ble_eq_true rfl), (Nat.le_of_ble_eq_true rfl)⟩ rfl rfl (Nat.le_of_ble_eq_true rfl) ?_
    refine g_top (y := bI (inR v 0 1000 = true)) (bI_iff (w64.trans inR_iff.symm)) ?_
    refine g_if_eqB (pc := 16) (tgt := 29) C dX4_strong_16 (by decide) (fun c2 => ?_) (fun c2 => ?_)
    · refine g_aload_n (pc := 29) C dX4_strong_29 rfl ?_
      refine g_ldc (pc := 30) C dX4_strong_30 ck_X4_44 rfl ?_
      refine g_vxi (pc := 32) (ws2 := (mdV g a (sF mn yr gr kd pt wt mr) kc os sd (updN tl 0 (tl 0 + 1)) kp tk tb tn fr to vl wr wd sz (flat nm) mv)) C dX4_strong_32 ml_X4_64 mf_X4_finds (m_finds g a (sF mn yr gr kd pt wt mr) kc os sd tl kp tk tb tn fr to vl wr wd sz (flat nm) mv 0 (by decide)) ⟨rfl, rfl, (Nat.le_of_ble_eq_true rfl), (Nat.le_of_ble_eq_true rfl)⟩ rfl rfl (Nat.le_of_ble_eq_true rfl) 0 rfl rfl rfl [0, 1, 2, 3, 4, 5, 6, 7, 8, 9, 10, 11] [] [0, 1, 2, 3, 4, 5, 6, 7, 8, 9, 10, 11] rfl rfl rfl rfl (by decide) rfl rfl ?_
      have hf : f_strong ((mn, yr, gr, kd, pt, wt, mr), ((kmn, kyr, kgr, kkd, kpt, kwt, kmr), kp), (tb, tn), (wd, sz, nm), tl) (nI p_) v = ((fd 0), ((mn, yr, gr, kd, pt, wt, mr), ((kmn, kyr, kgr, kkd, kpt, kwt, kmr), kp), (tb, tn), (wd, sz, nm), updN tl 0 (tl 0 + 1))) := by first | (simp [f_strong, fnd, c1, c2, ix_nI (show p_ < 2 ^ 31 by omega)]; done) | (rw [f_strong, c1, c2, ix_nI (show p_ < 2 ^ 31 by omega), ix_nI (show v_ < 2 ^ 31 by omega)]; simp only [f_first, fnd, Bool.and_self, if_true]; split <;> rfl)
      exact g_iret C Rr dX4_strong_35 ⟨(kc, os, sd, tk, fr, to, vl, wr, mv), by rw [hf]; exact hJ, by rw [hf], by rw [hf]; rfl⟩ rfl
    · obtain ⟨v_, hl_v, hu_v, rfl⟩ := inR_nat (lo := 0) (hi := 1000) c2
      refine g_aload_n (pc := 19) C dX4_strong_19 rfl ?_
      refine g_iconst (pc := 20) (v := nI 2) C dX4_strong_20 (by decide) ?_
      refine g_iload_n (pc := 21) C dX4_strong_21 rfl ?_
      refine g_iload_n (pc := 22) C dX4_strong_22 rfl ?_
      refine g_rV (pc := 23) (rest := []) C dX4_strong_23 ml_X4_163 mf_X4_firstSo (m_firstSo g a kc os sd tl kp tk tb tn fr to vl wr wd sz (flat nm) mv mn yr gr kd pt wt mr 2 p_ v_ hB (by omega) (by omega) (by omega) (by omega)) ⟨rfl, rfl, (Nat.le_of_ble_eq_true rfl), (Nat.le_of_ble_eq_true rfl)⟩ rfl rfl (Nat.le_of_ble_eq_true rfl) 0 rfl rfl rfl [0, 1, 2, 3, 4, 5, 6, 7, 8, 9, 10, 11] [] rfl rfl rfl rfl (by decide) ?_
      intro r9 w9 h9
      obtain ⟨f_3, rfl, rfl⟩ := h9
      refine g_sub (ws2 := (mdV g a (sF mn yr gr kd pt wt mr) kc os (sF mn yr gr kd pt wt mr) (if fsN kd pt wt mr mn gr yr 2 p_ v_ < 201 then tl else updN tl 3 (tl 3 + 1)) kp f_3 tb tn fr to vl wr wd sz (flat nm) mv)) [0, 1, 2, 3, 4, 5, 6, 7, 8, 9, 10, 11] rfl rfl ?_
      show Go φ g 3 26 [(0, .ref (a 0)), (1, .int (nI p_)), (2, .int (nI v_))] [.int (if fsN kd pt wt mr mn gr yr 2 p_ v_ < 201 then nI (fsN kd pt wt mr mn gr yr 2 p_ v_) else fd 3)] (mdV g a (sF mn yr gr kd pt wt mr) kc os (sF mn yr gr kd pt wt mr) (if fsN kd pt wt mr mn gr yr 2 p_ v_ < 201 then tl else updN tl 3 (tl 3 + 1)) kp f_3 tb tn fr to vl wr wd sz (flat nm) mv)
      refine g_goto (pc := 26) (tgt := 35) C dX4_strong_26 (by decide) ?_
      have hf : f_strong ((mn, yr, gr, kd, pt, wt, mr), ((kmn, kyr, kgr, kkd, kpt, kwt, kmr), kp), (tb, tn), (wd, sz, nm), tl) (nI p_) (nI v_) = ((if fsN kd pt wt mr mn gr yr 2 p_ v_ < 201 then nI (fsN kd pt wt mr mn gr yr 2 p_ v_) else fd 3), ((mn, yr, gr, kd, pt, wt, mr), ((kmn, kyr, kgr, kkd, kpt, kwt, kmr), kp), (tb, tn), (wd, sz, nm), if fsN kd pt wt mr mn gr yr 2 p_ v_ < 201 then tl else updN tl 3 (tl 3 + 1))) := by first | (simp [f_strong, fnd, c1, c2, ix_nI (show p_ < 2 ^ 31 by omega), ix_nI (show v_ < 2 ^ 31 by omega)]; done) | (rw [f_strong, c1, c2, ix_nI (show p_ < 2 ^ 31 by omega), ix_nI (show v_ < 2 ^ 31 by omega)]; simp only [f_first, fnd, Bool.and_self, if_true]; split <;> rfl)
      exact g_iret C Rr dX4_strong_35 ⟨(kc, os, sF mn yr gr kd pt wt mr, f_3, fr, to, vl, wr, mv), by rw [hf]; exact hJ, by rw [hf], by rw [hf]; rfl⟩ rfl
set_option maxHeartbeats 400000 in
set_option maxRecDepth 100000 in
theorem n_image (g : Gl) (a : Nat → Nat) (X : Xs) (J : Jm) (hX : InvX X) (hJ : OkM X J) : Ct g yX4_image cX4_image 2 (some .int) (rk 0 0) [.ref (a 0)] (mdX g a X J) (fun r w2 => ∃ J2, OkM (f_image X).2 J2 ∧ r = some (.int (f_image X).1) ∧ w2 = mdX g a (f_image X).2 J2) := by
  obtain ⟨⟨mn, yr, gr, kd, pt, wt, mr⟩, ⟨⟨kmn, kyr, kgr, kkd, kpt, kwt, kmr⟩, kp⟩, ⟨tb, tn⟩, ⟨wd, sz, nm⟩, tl⟩ := X
  obtain ⟨kc, os, sd, tk, fr, to, vl, wr, mv⟩ := J
  obtain ⟨hB, hy, hkp, htb, htn, hwd, hsz⟩ := id hX
  obtain ⟨-, hTle, hgr, hkd, hpt, hwt, hmr, hyr, hmn⟩ := id hB
  refine ct_of (by decide) (Nat.le_of_ble_eq_true rfl) ?_
  intro φ C0 Rr
  have C : Cx φ g cX4_image 2 RX4 (rk 0 0) := C0
  show Go φ g 2 0 [(0, .ref (a 0))] [] (mdV g a (sF mn yr gr kd pt wt mr) kc os sd tl kp tk tb tn fr to vl wr wd sz (flat nm) mv)
  refine g_iconst (pc := 0) (v := nI 0) C dX4_image_0 (by decide) ?_
  refine g_istore_n (pc := 1) (lv2 := [(0, .ref (a 0)), (1, .int (nI 0))]) C dX4_image_1 rfl (Nat.le_of_ble_eq_true rfl) rfl ?_
  refine g_loop1 (n := 46) (fun i f => ∀ j, j < i → f j = sF mn yr gr kd pt wt mr j) (fun i f => [(0, .ref (a 0)), (1, .int (nI i))]) (fun i f => (mdV g a (sF mn yr gr kd pt wt mr) f os sd tl kp tk tb tn fr to vl wr wd sz (flat nm) mv)) ?_ 0 kc (by omega) (fun j hj => absurd hj (Nat.not_lt_zero j))
  intro i f hi_i hv_i ih_i
  show Go φ g 2 2 [(0, .ref (a 0)), (1, .int (nI i))] [] (mdV g a (sF mn yr gr kd pt wt mr) f os sd tl kp tk tb tn fr to vl wr wd sz (flat nm) mv)
  have hv_i : ∀ j, j < i → f j = sF mn yr gr kd pt wt mr j := hv_i
  refine g_iload_n (pc := 2) C dX4_image_2 rfl ?_
  refine g_bipush (pc := 3) (v := nI 46) C dX4_image_3 (by decide) ?_
  refine g_icmp_geN (pc := 5) (tgt := 26) C dX4_image_5 (by decide) (by omega) (by omega) (fun c1 => ?_) (fun c1 => ?_)
  · refine g_aload_n (pc := 26) C dX4_image_26 rfl ?_
    refine g_iconst (pc := 27) (v := nI 1) C dX4_image_27 (by decide) ?_
    refine g_put4 (pc := 28) (ws2 := (mdV g a (sF mn yr gr kd pt wt mr) f os sd tl 1 tk tb tn fr to vl wr wd sz (flat nm) mv)) C dX4_image_28 0 rfl 5 (by decide) fl_X4_293 rfl (by first | rfl | decide) rfl (Nat.le_of_ble_eq_true rfl) rfl ?_
    refine g_iconst (pc := 31) (v := nI 1) C dX4_image_31 (by decide) ?_
    have hf : f_image ((mn, yr, gr, kd, pt, wt, mr), ((kmn, kyr, kgr, kkd, kpt, kwt, kmr), kp), (tb, tn), (wd, sz, nm), tl) = ((nI 1), ((mn, yr, gr, kd, pt, wt, mr), ((mn, yr, gr, kd, pt, wt, mr), 1), (tb, tn), (wd, sz, nm), tl)) := by rfl
    exact g_iret C Rr dX4_image_32 ⟨(f, os, sd, tk, fr, to, vl, wr, mv), by rw [hf]; exact (fun _ j hj => hv_i j (by omega)), by rw [hf], by rw [hf]; rfl⟩ rfl
  · refine g_aload_n (pc := 8) C dX4_image_8 rfl ?_
    refine g_get4 (pc := 9) C dX4_image_9 0 rfl 1 (by decide) fl_X4_13 rfl ?_
    refine g_iload_n (pc := 12) C dX4_image_12 rfl ?_
    refine g_aload_n (pc := 13) C dX4_image_13 rfl ?_
    refine g_get4 (pc := 14) C dX4_image_14 0 rfl 0 (by decide) fl_X4_7 rfl ?_
    refine g_iload_n (pc := 17) C dX4_image_17 rfl ?_
    refine g_ialdM (pc := 18) C dX4_image_18 1 rfl rfl (by omega) (by decide) ?_
    refine g_iastM (pc := 19) (ws2 := (mdV g a (sF mn yr gr kd pt wt mr) (updN f i ((sF mn yr gr kd pt wt mr) i)) os sd tl kp tk tb tn fr to vl wr wd sz (flat nm) mv)) C dX4_image_19 2 rfl rfl (by omega) (by decide) rfl ?_
    refine g_iinc (pc := 20) (v := (nI (i + 1))) (lv2 := [(0, .ref (a 0)), (1, .int (nI (i + 1)))]) C dX4_image_20 rfl (nI_1 _) (Nat.le_of_ble_eq_true rfl) rfl ?_
    refine g_goto (pc := 23) (tgt := 2) C dX4_image_23 (by decide) ?_
    exact ih_i _ (by omega) (fun j hj => by
      by_cases e : j = i
      · rw [e, updN_s]
      · rw [updN_n e]
        exact hv_i j (by omega))
set_option maxHeartbeats 400000 in
set_option maxRecDepth 100000 in
theorem n_undo (g : Gl) (a : Nat → Nat) (X : Xs) (J : Jm) (hX : InvX X) (hJ : OkM X J) : Ct g yX4_undo cX4_undo 2 (some .int) (rk 1 21) [.ref (a 0)] (mdX g a X J) (fun r w2 => ∃ J2, OkM (f_undo X).2 J2 ∧ r = some (.int (f_undo X).1) ∧ w2 = mdX g a (f_undo X).2 J2) := by
  obtain ⟨⟨mn, yr, gr, kd, pt, wt, mr⟩, ⟨⟨kmn, kyr, kgr, kkd, kpt, kwt, kmr⟩, kp⟩, ⟨tb, tn⟩, ⟨wd, sz, nm⟩, tl⟩ := X
  obtain ⟨kc, os, sd, tk, fr, to, vl, wr, mv⟩ := J
  obtain ⟨hB, hy, hkp, htb, htn, hwd, hsz⟩ := id hX
  obtain ⟨-, hTle, hgr, hkd, hpt, hwt, hmr, hyr, hmn⟩ := id hB
  refine ct_of (by decide) (Nat.le_of_ble_eq_true rfl) ?_
  intro φ C0 Rr
  have C : Cx φ g cX4_undo 2 RX4 (rk 1 21) := C0
  show Go φ g 2 0 [(0, .ref (a 0))] [] (mdV g a (sF mn yr gr kd pt wt mr) kc os sd tl kp tk tb tn fr to vl wr wd sz (flat nm) mv)
  refine g_aload_n (pc := 0) C dX4_undo_0 rfl ?_
  refine g_get4 (pc := 1) C dX4_undo_1 0 rfl 5 (by decide) fl_X4_293 rfl ?_
  refine g_if_neN (pc := 4) (tgt := 14) C dX4_undo_4 (by decide) (by omega) (fun c1 => ?_) (fun c1 => ?_)
  · refine g_iconst (pc := 14) (v := nI 0) C dX4_undo_14 (by decide) ?_
    refine g_istore_n (pc := 15) (lv2 := [(0, .ref (a 0)), (1, .int (nI 0))]) C dX4_undo_15 rfl (Nat.le_of_ble_eq_true rfl) rfl ?_
    refine g_loop1 (n := 46) (fun i f => ∀ j, j < i → f j = kc j) (fun i f => [(0, .ref (a 0)), (1, .int (nI i))]) (fun i f => (mdV g a f kc os sd tl kp tk tb tn fr to vl wr wd sz (flat nm) mv)) ?_ 0 (sF mn yr gr kd pt wt mr) (by omega) (fun j hj => absurd hj (Nat.not_lt_zero j))
    intro i f hi_i hv_i ih_i
    show Go φ g 2 16 [(0, .ref (a 0)), (1, .int (nI i))] [] (mdV g a f kc os sd tl kp tk tb tn fr to vl wr wd sz (flat nm) mv)
    have hv_i : ∀ j, j < i → f j = kc j := hv_i
    refine g_iload_n (pc := 16) C dX4_undo_16 rfl ?_
    refine g_bipush (pc := 17) (v := nI 46) C dX4_undo_17 (by decide) ?_
    refine g_icmp_geN (pc := 19) (tgt := 40) C dX4_undo_19 (by decide) (by omega) (by omega) (fun c2 => ?_) (fun c2 => ?_)
    · refine g_arrc (q0 := 1) (f2 := fun j => nI (sF kmn kyr kgr kkd kpt kwt kmr j)) (ws2 := (mdV g a (sF kmn kyr kgr kkd kpt kwt kmr) kc os sd tl kp tk tb tn fr to vl wr wd sz (flat nm) mv)) rfl (fun j hj => congrArg nI ((hv_i j (by omega)).trans (hJ (by omega) j hj))) rfl ?_
      refine g_aload_n (pc := 40) C dX4_undo_40 rfl ?_
      refine g_get4 (pc := 41) C dX4_undo_41 0 rfl 0 (by decide) fl_X4_7 rfl ?_
      refine g_iconst (pc := 44) (v := nI 0) C dX4_undo_44 (by decide) ?_
      refine g_ialdM (pc := 45) C dX4_undo_45 1 rfl rfl (by omega) (by decide) ?_
      refine g_top (congrArg nI sF_r0) ?_
      have hf : f_undo ((mn, yr, gr, kd, pt, wt, mr), ((kmn, kyr, kgr, kkd, kpt, kwt, kmr), kp), (tb, tn), (wd, sz, nm), tl) = ((nI kmn), ((kmn, kyr, kgr, kkd, kpt, kwt, kmr), ((kmn, kyr, kgr, kkd, kpt, kwt, kmr), kp), (tb, tn), (wd, sz, nm), tl)) := by simp only [f_undo]; rw [if_neg (by omega)]
      exact g_iret C Rr dX4_undo_46 ⟨(kc, os, sd, tk, fr, to, vl, wr, mv), by rw [hf]; exact hJ, by rw [hf], by rw [hf]; rfl⟩ rfl
    · refine g_aload_n (pc := 22) C dX4_undo_22 rfl ?_
      refine g_get4 (pc := 23) C dX4_undo_23 0 rfl 0 (by decide) fl_X4_7 rfl ?_
      refine g_iload_n (pc := 26) C dX4_undo_26 rfl ?_
      refine g_aload_n (pc := 27) C dX4_undo_27 rfl ?_
      refine g_get4 (pc := 28) C dX4_undo_28 0 rfl 1 (by decide) fl_X4_13 rfl ?_
      refine g_iload_n (pc := 31) C dX4_undo_31 rfl ?_
      refine g_ialdM (pc := 32) C dX4_undo_32 2 rfl rfl (by omega) (by decide) ?_
      refine g_iastM (pc := 33) (ws2 := (mdV g a (updN f i (kc i)) kc os sd tl kp tk tb tn fr to vl wr wd sz (flat nm) mv)) C dX4_undo_33 1 rfl rfl (by omega) (by decide) rfl ?_
      refine g_iinc (pc := 34) (v := (nI (i + 1))) (lv2 := [(0, .ref (a 0)), (1, .int (nI (i + 1)))]) C dX4_undo_34 rfl (nI_1 _) (Nat.le_of_ble_eq_true rfl) rfl ?_
      refine g_goto (pc := 37) (tgt := 16) C dX4_undo_37 (by decide) ?_
      exact ih_i _ (by omega) (fun j hj => by
        by_cases e : j = i
        · rw [e, updN_s]
        · rw [updN_n e]
          exact hv_i j (by omega))
  · refine g_aload_n (pc := 7) C dX4_undo_7 rfl ?_
    refine g_ldc (pc := 8) C dX4_undo_8 ck_X4_162 rfl ?_
    refine g_vxi (pc := 10) (ws2 := (mdV g a (sF mn yr gr kd pt wt mr) kc os sd (updN tl 3 (tl 3 + 1)) kp tk tb tn fr to vl wr wd sz (flat nm) mv)) C dX4_undo_10 ml_X4_64 mf_X4_finds (m_finds g a (sF mn yr gr kd pt wt mr) kc os sd tl kp tk tb tn fr to vl wr wd sz (flat nm) mv 3 (by decide)) ⟨rfl, rfl, (Nat.le_of_ble_eq_true rfl), (Nat.le_of_ble_eq_true rfl)⟩ rfl rfl (Nat.le_of_ble_eq_true rfl) 0 rfl rfl rfl [0, 1, 2, 3, 4, 5, 6, 7, 8, 9, 10, 11] [] [0, 1, 2, 3, 4, 5, 6, 7, 8, 9, 10, 11] rfl rfl rfl rfl (by decide) rfl rfl ?_
    have hf : f_undo ((mn, yr, gr, kd, pt, wt, mr), ((kmn, kyr, kgr, kkd, kpt, kwt, kmr), kp), (tb, tn), (wd, sz, nm), tl) = ((fd 3), ((mn, yr, gr, kd, pt, wt, mr), ((kmn, kyr, kgr, kkd, kpt, kwt, kmr), kp), (tb, tn), (wd, sz, nm), updN tl 3 (tl 3 + 1))) := by simp [f_undo, fnd, c1]
    exact g_iret C Rr dX4_undo_13 ⟨(kc, os, sd, tk, fr, to, vl, wr, mv), by rw [hf]; exact hJ, by rw [hf], by rw [hf]; rfl⟩ rfl
set_option maxHeartbeats 400000 in
set_option maxRecDepth 100000 in
theorem n_tear (g : Gl) (a : Nat → Nat) (X : Xs) (J : Jm) (hX : InvX X) (hJ : OkM X J) : Ct g yX4_tear cX4_tear 2 (some .int) (rk 0 0) [.ref (a 0)] (mdX g a X J) (fun r w2 => ∃ J2, OkM (f_tear X).2 J2 ∧ r = some (.int (f_tear X).1) ∧ w2 = mdX g a (f_tear X).2 J2) := by
  obtain ⟨⟨mn, yr, gr, kd, pt, wt, mr⟩, ⟨⟨kmn, kyr, kgr, kkd, kpt, kwt, kmr⟩, kp⟩, ⟨tb, tn⟩, ⟨wd, sz, nm⟩, tl⟩ := X
  obtain ⟨kc, os, sd, tk, fr, to, vl, wr, mv⟩ := J
  obtain ⟨hB, hy, hkp, htb, htn, hwd, hsz⟩ := id hX
  obtain ⟨-, hTle, hgr, hkd, hpt, hwt, hmr, hyr, hmn⟩ := id hB
  refine ct_of (by decide) (Nat.le_of_ble_eq_true rfl) ?_
  intro φ C0 Rr
  have C : Cx φ g cX4_tear 2 RX4 (rk 0 0) := C0
  show Go φ g 2 0 [(0, .ref (a 0))] [] (mdV g a (sF mn yr gr kd pt wt mr) kc os sd tl kp tk tb tn fr to vl wr wd sz (flat nm) mv)
  refine g_aload_n (pc := 0) C dX4_tear_0 rfl ?_
  refine g_get4 (pc := 1) C dX4_tear_1 0 rfl 5 (by decide) fl_X4_293 rfl ?_
  refine g_if_eqN (pc := 4) (tgt := 11) C dX4_tear_4 (by decide) (by omega) (fun c1 => ?_) (fun c1 => ?_)
  · refine g_iconst (pc := 11) (v := nI 0) C dX4_tear_11 (by decide) ?_
    refine g_istore_n (pc := 12) (lv2 := [(0, .ref (a 0)), (1, .int (nI 0))]) C dX4_tear_12 rfl (Nat.le_of_ble_eq_true rfl) rfl ?_
    refine g_aload_n (pc := 13) C dX4_tear_13 rfl ?_
    refine g_iconst (pc := 14) (v := nI 0) C dX4_tear_14 (by decide) ?_
    refine g_put4 (pc := 15) (ws2 := (mdV g a (sF mn yr gr kd pt wt mr) kc os sd tl 0 tk tb tn fr to vl wr wd sz (flat nm) mv)) C dX4_tear_15 0 rfl 5 (by decide) fl_X4_293 rfl (by first | rfl | decide) rfl (Nat.le_of_ble_eq_true rfl) rfl ?_
    refine g_iload_n (pc := 18) C dX4_tear_18 rfl ?_
    have hf : f_tear ((mn, yr, gr, kd, pt, wt, mr), ((kmn, kyr, kgr, kkd, kpt, kwt, kmr), kp), (tb, tn), (wd, sz, nm), tl) = ((nI 0), ((mn, yr, gr, kd, pt, wt, mr), ((kmn, kyr, kgr, kkd, kpt, kwt, kmr), 0), (tb, tn), (wd, sz, nm), tl)) := by simp [f_tear, c1]
    exact g_iret C Rr dX4_tear_19 ⟨(kc, os, sd, tk, fr, to, vl, wr, mv), by rw [hf]; exact (fun h => absurd h (by decide)), by rw [hf], by rw [hf]; rfl⟩ rfl
  · refine g_iconst (pc := 7) (v := nI 1) C dX4_tear_7 (by decide) ?_
    refine g_goto (pc := 8) (tgt := 12) C dX4_tear_8 (by decide) ?_
    refine g_istore_n (pc := 12) (lv2 := [(0, .ref (a 0)), (1, .int (nI 1))]) C dX4_tear_12 rfl (Nat.le_of_ble_eq_true rfl) rfl ?_
    refine g_aload_n (pc := 13) C dX4_tear_13 rfl ?_
    refine g_iconst (pc := 14) (v := nI 0) C dX4_tear_14 (by decide) ?_
    refine g_put4 (pc := 15) (ws2 := (mdV g a (sF mn yr gr kd pt wt mr) kc os sd tl 0 tk tb tn fr to vl wr wd sz (flat nm) mv)) C dX4_tear_15 0 rfl 5 (by decide) fl_X4_293 rfl (by first | rfl | decide) rfl (Nat.le_of_ble_eq_true rfl) rfl ?_
    refine g_iload_n (pc := 18) C dX4_tear_18 rfl ?_
    have hf : f_tear ((mn, yr, gr, kd, pt, wt, mr), ((kmn, kyr, kgr, kkd, kpt, kwt, kmr), kp), (tb, tn), (wd, sz, nm), tl) = ((nI 1), ((mn, yr, gr, kd, pt, wt, mr), ((kmn, kyr, kgr, kkd, kpt, kwt, kmr), 0), (tb, tn), (wd, sz, nm), tl)) := by simp [f_tear, show kp = 1 by omega]
    exact g_iret C Rr dX4_tear_19 ⟨(kc, os, sd, tk, fr, to, vl, wr, mv), by rw [hf]; exact (fun h => absurd h (by decide)), by rw [hf], by rw [hf]; rfl⟩ rfl
set_option maxHeartbeats 400000 in
set_option maxRecDepth 100000 in
theorem n_count (g : Gl) (a : Nat → Nat) (X : Xs) (J : Jm) (w : Int32) (hX : InvX X) (hJ : OkM X J) : Ct g yX4_count cX4_count 2 (some .int) (rk 3 65) [.ref (a 0), .int w] (mdX g a X J) (fun r w2 => ∃ J2, OkM (f_count X w).2 J2 ∧ r = some (.int (f_count X w).1) ∧ w2 = mdX g a (f_count X w).2 J2) := by
  obtain ⟨⟨mn, yr, gr, kd, pt, wt, mr⟩, ⟨⟨kmn, kyr, kgr, kkd, kpt, kwt, kmr⟩, kp⟩, ⟨tb, tn⟩, ⟨wd, sz, nm⟩, tl⟩ := X
  obtain ⟨kc, os, sd, tk, fr, to, vl, wr, mv⟩ := J
  obtain ⟨hB, hy, hkp, htb, htn, hwd, hsz⟩ := id hX
  obtain ⟨-, hTle, hgr, hkd, hpt, hwt, hmr, hyr, hmn⟩ := id hB
  refine ct_of (by decide) (Nat.le_of_ble_eq_true rfl) ?_
  intro φ C0 Rr
  have C : Cx φ g cX4_count 2 RX4 (rk 3 65) := C0
  show Go φ g 2 0 [(0, .ref (a 0)), (1, .int w)] [] (mdV g a (sF mn yr gr kd pt wt mr) kc os sd tl kp tk tb tn fr to vl wr wd sz (flat nm) mv)
  refine g_iload_n (pc := 0) C dX4_count_0 rfl ?_
  by_cases c1 : w = nI 0
  · subst c1
    refine g_tableIn (pc := 1) (off := 31) (tgt := 32) C dX4_count_1 (by decide) (by decide) (by decide) (by decide) ?_
    refine g_aload_n (pc := 32) C dX4_count_32 rfl ?_
    refine g_get4 (pc := 33) C dX4_count_33 0 rfl 0 (by decide) fl_X4_7 rfl ?_
    refine g_iconst (pc := 36) (v := nI 0) C dX4_count_36 (by decide) ?_
    refine g_ialdM (pc := 37) C dX4_count_37 1 rfl rfl (by omega) (by decide) ?_
    refine g_top (congrArg nI sF_r0) ?_
    have hf : f_count ((mn, yr, gr, kd, pt, wt, mr), ((kmn, kyr, kgr, kkd, kpt, kwt, kmr), kp), (tb, tn), (wd, sz, nm), tl) (nI 0) = ((nI mn), ((mn, yr, gr, kd, pt, wt, mr), ((kmn, kyr, kgr, kkd, kpt, kwt, kmr), kp), (tb, tn), (wd, sz, nm), tl)) := by simp [f_count, fnd, ix_nI (show 0 < 2 ^ 31 by decide)]
    exact g_iret C Rr dX4_count_38 ⟨(kc, os, sd, tk, fr, to, vl, wr, mv), by rw [hf]; exact hJ, by rw [hf], by rw [hf]; rfl⟩ rfl
  by_cases c2 : w = nI 1
  · subst c2
    refine g_tableIn (pc := 1) (off := 38) (tgt := 39) C dX4_count_1 (by decide) (by decide) (by decide) (by decide) ?_
    refine g_aload_n (pc := 39) C dX4_count_39 rfl ?_
    refine g_get4 (pc := 40) C dX4_count_40 0 rfl 8 (by decide) fl_X4_184 rfl ?_
    have hf : f_count ((mn, yr, gr, kd, pt, wt, mr), ((kmn, kyr, kgr, kkd, kpt, kwt, kmr), kp), (tb, tn), (wd, sz, nm), tl) (nI 1) = ((nI tn), ((mn, yr, gr, kd, pt, wt, mr), ((kmn, kyr, kgr, kkd, kpt, kwt, kmr), kp), (tb, tn), (wd, sz, nm), tl)) := by simp [f_count, fnd, c1, ix_nI (show 1 < 2 ^ 31 by decide)]
    exact g_iret C Rr dX4_count_43 ⟨(kc, os, sd, tk, fr, to, vl, wr, mv), by rw [hf]; exact hJ, by rw [hf], by rw [hf]; rfl⟩ rfl
  by_cases c3 : w = nI 2
  · subst c3
    refine g_tableIn (pc := 1) (off := 43) (tgt := 44) C dX4_count_1 (by decide) (by decide) (by decide) (by decide) ?_
    refine g_aload_n (pc := 44) C dX4_count_44 rfl ?_
    refine g_vxi (pc := 45) (ws2 := (mdV g a (sF mn yr gr kd pt wt mr) kc os sd tl kp tk tb tn fr to vl wr wd sz (flat nm) mv)) C dX4_count_45 ml_X4_296 mf_X4_weights (m_weights g a kc os sd tl kp tk tb tn fr to vl wr wd sz (flat nm) mv mn yr gr kd pt wt mr hB) ⟨rfl, rfl, (Nat.le_of_ble_eq_true rfl), (Nat.le_of_ble_eq_true rfl)⟩ rfl rfl (Nat.le_of_ble_eq_true rfl) 0 rfl rfl rfl [0, 1, 2, 3, 4, 5, 6, 7, 8, 9, 10, 11] [] [0, 1, 2, 3, 4, 5, 6, 7, 8, 9, 10, 11] rfl rfl rfl rfl (by decide) rfl rfl ?_
    have hf : f_count ((mn, yr, gr, kd, pt, wt, mr), ((kmn, kyr, kgr, kkd, kpt, kwt, kmr), kp), (tb, tn), (wd, sz, nm), tl) (nI 2) = ((nI (sumN wt mn)), ((mn, yr, gr, kd, pt, wt, mr), ((kmn, kyr, kgr, kkd, kpt, kwt, kmr), kp), (tb, tn), (wd, sz, nm), tl)) := by simp [f_count, fnd, c1, c2, ix_nI (show 2 < 2 ^ 31 by decide)]
    exact g_iret C Rr dX4_count_48 ⟨(kc, os, sd, tk, fr, to, vl, wr, mv), by rw [hf]; exact hJ, by rw [hf], by rw [hf]; rfl⟩ rfl
  by_cases c4 : w = nI 3
  · subst c4
    refine g_tableIn (pc := 1) (off := 48) (tgt := 49) C dX4_count_1 (by decide) (by decide) (by decide) (by decide) ?_
    refine g_aload_n (pc := 49) C dX4_count_49 rfl ?_
    refine g_vxi (pc := 50) (ws2 := (mdV g a (sF mn yr gr kd pt wt mr) kc os sd tl kp tk tb tn fr to vl wr wd sz (flat nm) mv)) C dX4_count_50 ml_X4_299 mf_X4_missing (m_missing g a kc os sd tl kp tk tb tn fr to vl wr wd sz (flat nm) mv mn yr gr kd pt wt mr hB) ⟨rfl, rfl, (Nat.le_of_ble_eq_true rfl), (Nat.le_of_ble_eq_true rfl)⟩ rfl rfl (Nat.le_of_ble_eq_true rfl) 0 rfl rfl rfl [0, 1, 2, 3, 4, 5, 6, 7, 8, 9, 10, 11] [] [0, 1, 2, 3, 4, 5, 6, 7, 8, 9, 10, 11] rfl rfl rfl rfl (by decide) rfl rfl ?_
    have hf : f_count ((mn, yr, gr, kd, pt, wt, mr), ((kmn, kyr, kgr, kkd, kpt, kwt, kmr), kp), (tb, tn), (wd, sz, nm), tl) (nI 3) = ((nI (zerosN gr 12)), ((mn, yr, gr, kd, pt, wt, mr), ((kmn, kyr, kgr, kkd, kpt, kwt, kmr), kp), (tb, tn), (wd, sz, nm), tl)) := by simp [f_count, fnd, c1, c2, c3, ix_nI (show 3 < 2 ^ 31 by decide)]
    exact g_iret C Rr dX4_count_53 ⟨(kc, os, sd, tk, fr, to, vl, wr, mv), by rw [hf]; exact hJ, by rw [hf], by rw [hf]; rfl⟩ rfl
  refine g_tableOut (pc := 1) (tgt := 54) C dX4_count_1 (by have := sw_ne c1 (by decide); have := sw_ne c2 (by decide); have := sw_ne c3 (by decide); have := sw_ne c4 (by decide); omega) (by decide) ?_
  refine g_aload_n (pc := 54) C dX4_count_54 rfl ?_
  refine g_ldc (pc := 55) C dX4_count_55 ck_X4_44 rfl ?_
  refine g_vxi (pc := 57) (ws2 := (mdV g a (sF mn yr gr kd pt wt mr) kc os sd (updN tl 0 (tl 0 + 1)) kp tk tb tn fr to vl wr wd sz (flat nm) mv)) C dX4_count_57 ml_X4_64 mf_X4_finds (m_finds g a (sF mn yr gr kd pt wt mr) kc os sd tl kp tk tb tn fr to vl wr wd sz (flat nm) mv 0 (by decide)) ⟨rfl, rfl, (Nat.le_of_ble_eq_true rfl), (Nat.le_of_ble_eq_true rfl)⟩ rfl rfl (Nat.le_of_ble_eq_true rfl) 0 rfl rfl rfl [0, 1, 2, 3, 4, 5, 6, 7, 8, 9, 10, 11] [] [0, 1, 2, 3, 4, 5, 6, 7, 8, 9, 10, 11] rfl rfl rfl rfl (by decide) rfl rfl ?_
  have hf : f_count ((mn, yr, gr, kd, pt, wt, mr), ((kmn, kyr, kgr, kkd, kpt, kwt, kmr), kp), (tb, tn), (wd, sz, nm), tl) w = ((fd 0), ((mn, yr, gr, kd, pt, wt, mr), ((kmn, kyr, kgr, kkd, kpt, kwt, kmr), kp), (tb, tn), (wd, sz, nm), updN tl 0 (tl 0 + 1))) := by simp [f_count, fnd, c1, c2, c3, c4]
  exact g_iret C Rr dX4_count_60 ⟨(kc, os, sd, tk, fr, to, vl, wr, mv), by rw [hf]; exact hJ, by rw [hf], by rw [hf]; rfl⟩ rfl
set_option maxHeartbeats 400000 in
set_option maxRecDepth 100000 in
theorem n_status (g : Gl) (a : Nat → Nat) (X : Xs) (J : Jm) (w : Int32) (hX : InvX X) (hJ : OkM X J) : Ct g yX4_status cX4_status 4 (some .int) (rk 1 25) [.ref (a 0), .int w] (mdX g a X J) (fun r w2 => ∃ J2, OkM (f_status X w).2 J2 ∧ r = some (.int (f_status X w).1) ∧ w2 = mdX g a (f_status X w).2 J2) := by
  obtain ⟨⟨mn, yr, gr, kd, pt, wt, mr⟩, ⟨⟨kmn, kyr, kgr, kkd, kpt, kwt, kmr⟩, kp⟩, ⟨tb, tn⟩, ⟨wd, sz, nm⟩, tl⟩ := X
  obtain ⟨kc, os, sd, tk, fr, to, vl, wr, mv⟩ := J
  obtain ⟨hB, hy, hkp, htb, htn, hwd, hsz⟩ := id hX
  obtain ⟨-, hTle, hgr, hkd, hpt, hwt, hmr, hyr, hmn⟩ := id hB
  refine ct_of (by decide) (Nat.le_of_ble_eq_true rfl) ?_
  intro φ C0 Rr
  have C : Cx φ g cX4_status 4 RX4 (rk 1 25) := C0
  show Go φ g 4 0 [(0, .ref (a 0)), (1, .int w)] [] (mdV g a (sF mn yr gr kd pt wt mr) kc os sd tl kp tk tb tn fr to vl wr wd sz (flat nm) mv)
  refine g_iload_n (pc := 0) C dX4_status_0 rfl ?_
  refine g_i2l (pc := 1) C dX4_status_1 ?_
  refine g_ldc2 (pc := 2) C dX4_status_2 ckl_X4_302 rfl ?_
  refine g_ldc2 (pc := 5) C dX4_status_5 ckl_X4_111 rfl ?_
  refine g_s0i (pc := 8) C dX4_status_8 ml_X4_47 mf_X4_in (m_in g ((w).toInt64) (-1) (6)) ⟨rfl, rfl, (Nat.le_of_ble_eq_true rfl), (Nat.le_of_ble_eq_true rfl)⟩ rfl rfl (Nat.le_of_ble_eq_true rfl) ?_
  refine g_top (y := bI (inR w (-1) 6 = true)) (bI_iff (w64.trans inR_iff.symm)) ?_
  refine g_if_neB (pc := 11) (tgt := 21) C dX4_status_11 (by decide) (fun c1 => ?_) (fun c1 => ?_)
  · rcases inR_m1 c1 with rfl | ⟨w_, hu_w, rfl⟩
    · refine g_iconst (pc := 21) (v := nI 0) C dX4_status_21 (by decide) ?_
      refine g_istore_n (pc := 22) (lv2 := [(0, .ref (a 0)), (1, .int (-1)), (2, .int (nI 0))]) C dX4_status_22 rfl (Nat.le_of_ble_eq_true rfl) rfl ?_
      refine g_iconst (pc := 23) (v := nI 0) C dX4_status_23 (by decide) ?_
      refine g_istore_n (pc := 24) (lv2 := [(0, .ref (a 0)), (1, .int (-1)), (2, .int (nI 0)), (3, .int (nI 0))]) C dX4_status_24 rfl (Nat.le_of_ble_eq_true rfl) rfl ?_
      refine g_loop0 (n := 7) (fun i => True) (fun i => [(0, .ref (a 0)), (1, .int (-1)), (2, .int (nI (sumN tl i))), (3, .int (nI i))]) (fun i => (mdV g a (sF mn yr gr kd pt wt mr) kc os sd tl kp tk tb tn fr to vl wr wd sz (flat nm) mv)) ?_ 0 (by omega) trivial
      intro i hi_i hv_i ih_i
      show Go φ g 4 25 [(0, .ref (a 0)), (1, .int (-1)), (2, .int (nI (sumN tl i))), (3, .int (nI i))] [] (mdV g a (sF mn yr gr kd pt wt mr) kc os sd tl kp tk tb tn fr to vl wr wd sz (flat nm) mv)
      refine g_iload_n (pc := 25) C dX4_status_25 rfl ?_
      refine g_bipush (pc := 26) (v := nI 7) C dX4_status_26 (by decide) ?_
      refine g_icmp_geN (pc := 28) (tgt := 59) C dX4_status_28 (by decide) (by omega) (by omega) (fun c2 => ?_) (fun c2 => ?_)
      · refine g_iload_n (pc := 59) C dX4_status_59 rfl ?_
        have hf : f_status ((mn, yr, gr, kd, pt, wt, mr), ((kmn, kyr, kgr, kkd, kpt, kwt, kmr), kp), (tb, tn), (wd, sz, nm), tl) (-1) = ((nI (sumN tl i)), ((mn, yr, gr, kd, pt, wt, mr), ((kmn, kyr, kgr, kkd, kpt, kwt, kmr), kp), (tb, tn), (wd, sz, nm), tl)) := by simp [f_status, c1, show i = 7 by omega]
        exact g_iret C Rr dX4_status_60 ⟨(kc, os, sd, tk, fr, to, vl, wr, mv), by rw [hf]; exact hJ, by rw [hf], by rw [hf]; rfl⟩ rfl
      · refine g_iload_n (pc := 31) C dX4_status_31 rfl ?_
        refine g_iload_n (pc := 32) C dX4_status_32 rfl ?_
        refine g_if_lt (pc := 33) (tgt := 41) C dX4_status_33 (by decide) (fun _ => ?_) (fun h => absurd (by decide) h)
        refine g_aload_n (pc := 41) C dX4_status_41 rfl ?_
        refine g_get4 (pc := 42) C dX4_status_42 0 rfl 4 (by decide) fl_X4_22 rfl ?_
        refine g_iload_n (pc := 45) C dX4_status_45 rfl ?_
        refine g_ialdM (pc := 46) C dX4_status_46 5 rfl rfl (by omega) (by decide) ?_
        refine g_goto (pc := 47) (tgt := 51) C dX4_status_47 (by decide) ?_
        refine g_iaddN (pc := 51) C dX4_status_51 ?_
        refine g_istore_n (pc := 52) (lv2 := [(0, .ref (a 0)), (1, .int (-1)), (2, .int (nI ((sumN tl i) + (tl i)))), (3, .int (nI i))]) C dX4_status_52 rfl (Nat.le_of_ble_eq_true rfl) rfl ?_
        refine g_iinc (pc := 53) (v := (nI (i + 1))) (lv2 := [(0, .ref (a 0)), (1, .int (-1)), (2, .int (nI ((sumN tl i) + (tl i)))), (3, .int (nI (i + 1)))]) C dX4_status_53 rfl (nI_1 _) (Nat.le_of_ble_eq_true rfl) rfl ?_
        refine g_goto (pc := 56) (tgt := 25) C dX4_status_56 (by decide) ?_
        exact ih_i (by omega) trivial
    · refine g_iconst (pc := 21) (v := nI 0) C dX4_status_21 (by decide) ?_
      refine g_istore_n (pc := 22) (lv2 := [(0, .ref (a 0)), (1, .int (nI w_)), (2, .int (nI 0))]) C dX4_status_22 rfl (Nat.le_of_ble_eq_true rfl) rfl ?_
      refine g_iconst (pc := 23) (v := nI 0) C dX4_status_23 (by decide) ?_
      refine g_istore_n (pc := 24) (lv2 := [(0, .ref (a 0)), (1, .int (nI w_)), (2, .int (nI 0)), (3, .int (nI 0))]) C dX4_status_24 rfl (Nat.le_of_ble_eq_true rfl) rfl ?_
      refine g_loop1 (n := 7) (fun i x => x = if w_ < i then tl w_ else 0) (fun i x => [(0, .ref (a 0)), (1, .int (nI w_)), (2, .int (nI x)), (3, .int (nI i))]) (fun i x => (mdV g a (sF mn yr gr kd pt wt mr) kc os sd tl kp tk tb tn fr to vl wr wd sz (flat nm) mv)) ?_ 0 0 (by omega) (by rw [if_neg (by omega)])
      intro i x hi_i hv_i ih_i
      show Go φ g 4 25 [(0, .ref (a 0)), (1, .int (nI w_)), (2, .int (nI x)), (3, .int (nI i))] [] (mdV g a (sF mn yr gr kd pt wt mr) kc os sd tl kp tk tb tn fr to vl wr wd sz (flat nm) mv)
      have hv_i : x = if w_ < i then tl w_ else 0 := hv_i
      refine g_iload_n (pc := 25) C dX4_status_25 rfl ?_
      refine g_bipush (pc := 26) (v := nI 7) C dX4_status_26 (by decide) ?_
      refine g_icmp_geN (pc := 28) (tgt := 59) C dX4_status_28 (by decide) (by omega) (by omega) (fun c4 => ?_) (fun c4 => ?_)
      · refine g_iload_n (pc := 59) C dX4_status_59 rfl ?_
        have hf : f_status ((mn, yr, gr, kd, pt, wt, mr), ((kmn, kyr, kgr, kkd, kpt, kwt, kmr), kp), (tb, tn), (wd, sz, nm), tl) (nI w_) = ((nI x), ((mn, yr, gr, kd, pt, wt, mr), ((kmn, kyr, kgr, kkd, kpt, kwt, kmr), kp), (tb, tn), (wd, sz, nm), tl)) := by simp [f_status, c1, ix_nI (show w_ < 2 ^ 31 by omega)]; rw [if_neg (m1_ne (by omega)), hv_i, if_pos (by omega)]
        exact g_iret C Rr dX4_status_60 ⟨(kc, os, sd, tk, fr, to, vl, wr, mv), by rw [hf]; exact hJ, by rw [hf], by rw [hf]; rfl⟩ rfl
      · refine g_iload_n (pc := 31) C dX4_status_31 rfl ?_
        refine g_iload_n (pc := 32) C dX4_status_32 rfl ?_
        refine g_if_ltN (pc := 33) (tgt := 41) C dX4_status_33 (by decide) (by omega) (fun h => absurd h (by simp)) (fun _ => ?_)
        refine g_iload_n (pc := 36) C dX4_status_36 rfl ?_
        refine g_iload_n (pc := 37) C dX4_status_37 rfl ?_
        refine g_icmp_neN (pc := 38) (tgt := 50) C dX4_status_38 (by decide) (by omega) (by omega) (fun c6 => ?_) (fun c6 => ?_)
        · refine g_iconst (pc := 50) (v := nI 0) C dX4_status_50 (by decide) ?_
          refine g_iaddN (pc := 51) C dX4_status_51 ?_
          refine g_istore_n (pc := 52) (lv2 := [(0, .ref (a 0)), (1, .int (nI w_)), (2, .int (nI (x + 0))), (3, .int (nI i))]) C dX4_status_52 rfl (Nat.le_of_ble_eq_true rfl) rfl ?_
          refine g_iinc (pc := 53) (v := (nI (i + 1))) (lv2 := [(0, .ref (a 0)), (1, .int (nI w_)), (2, .int (nI (x + 0))), (3, .int (nI (i + 1)))]) C dX4_status_53 rfl (nI_1 _) (Nat.le_of_ble_eq_true rfl) rfl ?_
          refine g_goto (pc := 56) (tgt := 25) C dX4_status_56 (by decide) ?_
          exact ih_i _ (by omega) (by rw [hv_i, Nat.add_zero]; by_cases e : w_ < i; rw [if_pos e, if_pos (by omega)]; rw [if_neg e, if_neg (by omega)])
        · refine g_aload_n (pc := 41) C dX4_status_41 rfl ?_
          refine g_get4 (pc := 42) C dX4_status_42 0 rfl 4 (by decide) fl_X4_22 rfl ?_
          refine g_iload_n (pc := 45) C dX4_status_45 rfl ?_
          refine g_ialdM (pc := 46) C dX4_status_46 5 rfl rfl (by omega) (by decide) ?_
          refine g_goto (pc := 47) (tgt := 51) C dX4_status_47 (by decide) ?_
          refine g_iaddN (pc := 51) C dX4_status_51 ?_
          refine g_istore_n (pc := 52) (lv2 := [(0, .ref (a 0)), (1, .int (nI w_)), (2, .int (nI (x + (tl i)))), (3, .int (nI i))]) C dX4_status_52 rfl (Nat.le_of_ble_eq_true rfl) rfl ?_
          refine g_iinc (pc := 53) (v := (nI (i + 1))) (lv2 := [(0, .ref (a 0)), (1, .int (nI w_)), (2, .int (nI (x + (tl i)))), (3, .int (nI (i + 1)))]) C dX4_status_53 rfl (nI_1 _) (Nat.le_of_ble_eq_true rfl) rfl ?_
          refine g_goto (pc := 56) (tgt := 25) C dX4_status_56 (by decide) ?_
          exact ih_i _ (by omega) (by rw [hv_i, if_neg (by omega), if_pos (by omega), c6, Nat.zero_add])
  · refine g_aload_n (pc := 14) C dX4_status_14 rfl ?_
    refine g_ldc (pc := 15) C dX4_status_15 ck_X4_44 rfl ?_
    refine g_vxi (pc := 17) (ws2 := (mdV g a (sF mn yr gr kd pt wt mr) kc os sd (updN tl 0 (tl 0 + 1)) kp tk tb tn fr to vl wr wd sz (flat nm) mv)) C dX4_status_17 ml_X4_64 mf_X4_finds (m_finds g a (sF mn yr gr kd pt wt mr) kc os sd tl kp tk tb tn fr to vl wr wd sz (flat nm) mv 0 (by decide)) ⟨rfl, rfl, (Nat.le_of_ble_eq_true rfl), (Nat.le_of_ble_eq_true rfl)⟩ rfl rfl (Nat.le_of_ble_eq_true rfl) 0 rfl rfl rfl [0, 1, 2, 3, 4, 5, 6, 7, 8, 9, 10, 11] [] [0, 1, 2, 3, 4, 5, 6, 7, 8, 9, 10, 11] rfl rfl rfl rfl (by decide) rfl rfl ?_
    have hf : f_status ((mn, yr, gr, kd, pt, wt, mr), ((kmn, kyr, kgr, kkd, kpt, kwt, kmr), kp), (tb, tn), (wd, sz, nm), tl) w = ((fd 0), ((mn, yr, gr, kd, pt, wt, mr), ((kmn, kyr, kgr, kkd, kpt, kwt, kmr), kp), (tb, tn), (wd, sz, nm), updN tl 0 (tl 0 + 1))) := by simp [f_status, fnd, c1]
    exact g_iret C Rr dX4_status_20 ⟨(kc, os, sd, tk, fr, to, vl, wr, mv), by rw [hf]; exact hJ, by rw [hf], by rw [hf]; rfl⟩ rfl
