set_option maxHeartbeats 400000 in
set_option maxRecDepth 100000 in
theorem m_in (g : Gl) (x : Int64) (y : Int64) (t : Int64)  : Ct g yX4_in cX4_in 6 (some .boolean) (rk 0 0) [.long x, .long y, .long t] ([]) (fun r w2 => r = some (.int (bI (y ≤ x ∧ x ≤ t))) ∧ w2 = []) := by
  refine ct_of (by decide) (Nat.le_of_ble_eq_true rfl) ?_
  intro φ C0 Rr
  have C : Cx φ g cX4_in 6 RX4 (rk 0 0) := C0
  show Go φ g 6 0 [(0, .long x), (2, .long y), (4, .long t)] [] ([])
  refine g_lload_n (pc := 0) C dX4_in_0 rfl ?_
  refine g_lload_n (pc := 1) C dX4_in_1 rfl ?_
  refine g_lcmp (pc := 2) C dX4_in_2 ?_
  refine g_if_ltL (pc := 3) (tgt := 17) C dX4_in_3 (by decide) (fun c1 => ?_) (fun c1 => ?_)
  · refine g_iconst (pc := 17) (v := nI 0) C dX4_in_17 (by decide) ?_
    exact g_zret C Rr dX4_in_18 (by first | rfl | decide) ⟨by rw [bI_f (fun q => absurd q.1 (Int64.not_le.mpr c1))], rfl⟩ rfl
  · refine g_lload_n (pc := 6) C dX4_in_6 rfl ?_
    refine g_lload (pc := 7) C dX4_in_7 rfl ?_
    refine g_lcmp (pc := 9) C dX4_in_9 ?_
    refine g_if_gtL (pc := 10) (tgt := 17) C dX4_in_10 (by decide) (fun c2 => ?_) (fun c2 => ?_)
    · refine g_iconst (pc := 17) (v := nI 0) C dX4_in_17 (by decide) ?_
      exact g_zret C Rr dX4_in_18 (by first | rfl | decide) ⟨by rw [bI_f (fun q => absurd q.2 (Int64.not_le.mpr c2))], rfl⟩ rfl
    · refine g_iconst (pc := 13) (v := nI 1) C dX4_in_13 (by decide) ?_
      refine g_goto (pc := 14) (tgt := 18) C dX4_in_14 (by decide) ?_
      exact g_zret C Rr dX4_in_18 (by first | rfl | decide) ⟨by rw [bI_t ⟨c1, c2⟩], rfl⟩ rfl
set_option maxHeartbeats 400000 in
set_option maxRecDepth 100000 in
theorem m_isPart (g : Gl) (p : Int32)  : Ct g yX4_isPart cX4_isPart 1 (some .boolean) (rk 1 25) [.int p] ([]) (fun r w2 => r = some (.int (bI (inR p 0 11 = true))) ∧ w2 = []) := by
  refine ct_of (by decide) (Nat.le_of_ble_eq_true rfl) ?_
  intro φ C0 Rr
  have C : Cx φ g cX4_isPart 1 RX4 (rk 1 25) := C0
  show Go φ g 1 0 [(0, .int p)] [] ([])
  refine g_iload_n (pc := 0) C dX4_isPart_0 rfl ?_
  refine g_i2l (pc := 1) C dX4_isPart_1 ?_
  refine g_lconst (pc := 2) (v := 0) C dX4_isPart_2 (by decide) ?_
  refine g_ldc2 (pc := 3) C dX4_isPart_3 ckl_X4_45 rfl ?_
  refine g_s0i (pc := 6) C dX4_isPart_6 ml_X4_47 mf_X4_in (m_in g ((p).toInt64) 0 (11)) ⟨rfl, rfl, (Nat.le_of_ble_eq_true rfl), (Nat.le_of_ble_eq_true rfl)⟩ rfl rfl (Nat.le_of_ble_eq_true rfl) ?_
  refine g_top (y := bI (inR p 0 11 = true)) (bI_iff (w64.trans inR_iff.symm)) ?_
  exact g_zret C Rr dX4_isPart_9 nar_bI ⟨rfl, rfl⟩ rfl
set_option maxHeartbeats 400000 in
set_option maxRecDepth 100000 in
theorem m_isKind (g : Gl) (p : Int32)  : Ct g yX4_isKind cX4_isKind 1 (some .boolean) (rk 1 25) [.int p] ([]) (fun r w2 => r = some (.int (bI (inR p 0 5 = true))) ∧ w2 = []) := by
  refine ct_of (by decide) (Nat.le_of_ble_eq_true rfl) ?_
  intro φ C0 Rr
  have C : Cx φ g cX4_isKind 1 RX4 (rk 1 25) := C0
  show Go φ g 1 0 [(0, .int p)] [] ([])
  refine g_iload_n (pc := 0) C dX4_isKind_0 rfl ?_
  refine g_i2l (pc := 1) C dX4_isKind_1 ?_
  refine g_lconst (pc := 2) (v := 0) C dX4_isKind_2 (by decide) ?_
  refine g_ldc2 (pc := 3) C dX4_isKind_3 ckl_X4_55 rfl ?_
  refine g_s0i (pc := 6) C dX4_isKind_6 ml_X4_47 mf_X4_in (m_in g ((p).toInt64) 0 (5)) ⟨rfl, rfl, (Nat.le_of_ble_eq_true rfl), (Nat.le_of_ble_eq_true rfl)⟩ rfl rfl (Nat.le_of_ble_eq_true rfl) ?_
  refine g_top (y := bI (inR p 0 5 = true)) (bI_iff (w64.trans inR_iff.symm)) ?_
  exact g_zret C Rr dX4_isKind_9 nar_bI ⟨rfl, rfl⟩ rfl
set_option maxHeartbeats 400000 in
set_option maxRecDepth 100000 in
theorem m_isSpoon (g : Gl) (p : Int32)  : Ct g yX4_isSpoon cX4_isSpoon 1 (some .boolean) (rk 1 25) [.int p] ([]) (fun r w2 => r = some (.int (bI (inR p 1 999 = true))) ∧ w2 = []) := by
  refine ct_of (by decide) (Nat.le_of_ble_eq_true rfl) ?_
  intro φ C0 Rr
  have C : Cx φ g cX4_isSpoon 1 RX4 (rk 1 25) := C0
  show Go φ g 1 0 [(0, .int p)] [] ([])
  refine g_iload_n (pc := 0) C dX4_isSpoon_0 rfl ?_
  refine g_i2l (pc := 1) C dX4_isSpoon_1 ?_
  refine g_lconst (pc := 2) (v := 1) C dX4_isSpoon_2 (by decide) ?_
  refine g_ldc2 (pc := 3) C dX4_isSpoon_3 ckl_X4_82 rfl ?_
  refine g_s0i (pc := 6) C dX4_isSpoon_6 ml_X4_47 mf_X4_in (m_in g ((p).toInt64) 1 (999)) ⟨rfl, rfl, (Nat.le_of_ble_eq_true rfl), (Nat.le_of_ble_eq_true rfl)⟩ rfl rfl (Nat.le_of_ble_eq_true rfl) ?_
  refine g_top (y := bI (inR p 1 999 = true)) (bI_iff (w64.trans inR_iff.symm)) ?_
  exact g_zret C Rr dX4_isSpoon_9 nar_bI ⟨rfl, rfl⟩ rfl
set_option maxHeartbeats 400000 in
set_option maxRecDepth 100000 in
theorem m_isSoon (g : Gl) (p : Int32)  : Ct g yX4_isSoon cX4_isSoon 1 (some .boolean) (rk 1 25) [.int p] ([]) (fun r w2 => r = some (.int (bI (inR p 1 60 = true))) ∧ w2 = []) := by
  refine ct_of (by decide) (Nat.le_of_ble_eq_true rfl) ?_
  intro φ C0 Rr
  have C : Cx φ g cX4_isSoon 1 RX4 (rk 1 25) := C0
  show Go φ g 1 0 [(0, .int p)] [] ([])
  refine g_iload_n (pc := 0) C dX4_isSoon_0 rfl ?_
  refine g_i2l (pc := 1) C dX4_isSoon_1 ?_
  refine g_lconst (pc := 2) (v := 1) C dX4_isSoon_2 (by decide) ?_
  refine g_ldc2 (pc := 3) C dX4_isSoon_3 ckl_X4_169 rfl ?_
  refine g_s0i (pc := 6) C dX4_isSoon_6 ml_X4_47 mf_X4_in (m_in g ((p).toInt64) 1 (60)) ⟨rfl, rfl, (Nat.le_of_ble_eq_true rfl), (Nat.le_of_ble_eq_true rfl)⟩ rfl rfl (Nat.le_of_ble_eq_true rfl) ?_
  refine g_top (y := bI (inR p 1 60 = true)) (bI_iff (w64.trans inR_iff.symm)) ?_
  exact g_zret C Rr dX4_isSoon_9 nar_bI ⟨rfl, rfl⟩ rfl
set_option maxHeartbeats 400000 in
set_option maxRecDepth 100000 in
theorem m_isCook (g : Gl) (a : Nat → Nat) (ks : Nat → Nat) (os : Nat → Nat) (sd : Nat → Nat) (sts : Nat → Nat) (kp : Nat) (tk : Nat → Nat) (tp : Nat → Nat) (tn : Nat) (fr : Nat) (to : Nat) (vl : Nat) (wr : Nat) (bo : Nat → Nat) (so : Nat → Nat) (nm : Nat → Int64) (mv : Nat → Int64) (mn : Nat) (yr : Nat) (gr : Nat → Nat) (kd : Nat → Nat) (pt : Nat → Nat) (wt : Nat → Nat) (mr : Nat → Nat) (p : Int32) (hB : PB gr kd pt wt mr (sumN gr 12) yr mn) : Ct g yX4_isCook cX4_isCook 2 (some .boolean) (rk 1 25) [.ref (a 0), .int p] (mdV g a (sF mn yr gr kd pt wt mr) ks os sd sts kp tk tp tn fr to vl wr bo so nm mv) (fun r w2 => r = some (.int (bI (inR p 0 ((mn : Int) - 1) = true))) ∧ w2 = (mdV g a (sF mn yr gr kd pt wt mr) ks os sd sts kp tk tp tn fr to vl wr bo so nm mv)) := by
  refine ct_of (by decide) (Nat.le_of_ble_eq_true rfl) ?_
  intro φ C0 Rr
  have C : Cx φ g cX4_isCook 2 RX4 (rk 1 25) := C0
  show Go φ g 2 0 [(0, .ref (a 0)), (1, .int p)] [] (mdV g a (sF mn yr gr kd pt wt mr) ks os sd sts kp tk tp tn fr to vl wr bo so nm mv)
  obtain ⟨-, hTle, hgr, hkd, hpt, hwt, hmr, hyr, hmn⟩ := id hB
  refine g_iload_n (pc := 0) C dX4_isCook_0 rfl ?_
  refine g_i2l (pc := 1) C dX4_isCook_1 ?_
  refine g_lconst (pc := 2) (v := 0) C dX4_isCook_2 (by decide) ?_
  refine g_aload_n (pc := 3) C dX4_isCook_3 rfl ?_
  refine g_get4 (pc := 4) C dX4_isCook_4 0 rfl 0 (by decide) fl_X4_7 rfl ?_
  refine g_iconst (pc := 7) (v := nI 0) C dX4_isCook_7 (by decide) ?_
  refine g_ialdM (pc := 8) C dX4_isCook_8 1 rfl rfl (by omega) (by decide) ?_
  refine g_top (congrArg nI sF_r0) ?_
  refine g_iconst (pc := 9) (v := nI 1) C dX4_isCook_9 (by decide) ?_
  refine g_isub (pc := 10) C dX4_isCook_10 ?_
  refine g_i2l (pc := 11) C dX4_isCook_11 ?_
  refine g_s0i (pc := 12) C dX4_isCook_12 ml_X4_47 mf_X4_in (m_in g ((p).toInt64) 0 ((((nI mn) - (nI 1))).toInt64)) ⟨rfl, rfl, (Nat.le_of_ble_eq_true rfl), (Nat.le_of_ble_eq_true rfl)⟩ rfl rfl (Nat.le_of_ble_eq_true rfl) ?_
  exact g_zret C Rr dX4_isCook_15 nar_bI ⟨congrArg _ (congrArg _ (bI_iff (by rw [w64, Int32.toInt_toInt64, pk_sub_toInt (by omega) (by decide)]; exact inR_iff.symm))), rfl⟩ rfl
set_option maxHeartbeats 400000 in
set_option maxRecDepth 100000 in
theorem m_areTwo (g : Gl) (a : Nat → Nat) (ks : Nat → Nat) (os : Nat → Nat) (sd : Nat → Nat) (sts : Nat → Nat) (kp : Nat) (tk : Nat → Nat) (tp : Nat → Nat) (tn : Nat) (fr : Nat) (to : Nat) (vl : Nat) (wr : Nat) (bo : Nat → Nat) (so : Nat → Nat) (nm : Nat → Int64) (mv : Nat → Int64) (mn : Nat) (yr : Nat) (gr : Nat → Nat) (kd : Nat → Nat) (pt : Nat → Nat) (wt : Nat → Nat) (mr : Nat → Nat) (p : Int32) (q : Int32) (hB : PB gr kd pt wt mr (sumN gr 12) yr mn) : Ct g yX4_areTwo cX4_areTwo 3 (some .boolean) (rk 2 46) [.ref (a 0), .int p, .int q] (mdV g a (sF mn yr gr kd pt wt mr) ks os sd sts kp tk tp tn fr to vl wr bo so nm mv) (fun r w2 => r = some (.int (bI (inR p 0 ((mn : Int) - 1) = true ∧ inR q 0 ((mn : Int) - 1) = true ∧ ¬ p = q))) ∧ w2 = (mdV g a (sF mn yr gr kd pt wt mr) ks os sd sts kp tk tp tn fr to vl wr bo so nm mv)) := by
  refine ct_of (by decide) (Nat.le_of_ble_eq_true rfl) ?_
  intro φ C0 Rr
  have C : Cx φ g cX4_areTwo 3 RX4 (rk 2 46) := C0
  show Go φ g 3 0 [(0, .ref (a 0)), (1, .int p), (2, .int q)] [] (mdV g a (sF mn yr gr kd pt wt mr) ks os sd sts kp tk tp tn fr to vl wr bo so nm mv)
  obtain ⟨-, hTle, hgr, hkd, hpt, hwt, hmr, hyr, hmn⟩ := id hB
  refine g_aload_n (pc := 0) C dX4_areTwo_0 rfl ?_
  refine g_iload_n (pc := 1) C dX4_areTwo_1 rfl ?_
  refine g_vxi (pc := 2) (ws2 := (mdV g a (sF mn yr gr kd pt wt mr) ks os sd sts kp tk tp tn fr to vl wr bo so nm mv)) C dX4_areTwo_2 ml_X4_51 mf_X4_isCook (m_isCook g a ks os sd sts kp tk tp tn fr to vl wr bo so nm mv mn yr gr kd pt wt mr p hB) ⟨rfl, rfl, (Nat.le_of_ble_eq_true rfl), (Nat.le_of_ble_eq_true rfl)⟩ rfl rfl (Nat.le_of_ble_eq_true rfl) 0 rfl rfl rfl [0, 1, 2, 3, 4, 5, 6, 7, 8, 9, 10, 11] [] [0, 1, 2, 3, 4, 5, 6, 7, 8, 9, 10, 11] rfl rfl rfl rfl (by decide) rfl rfl ?_
  refine g_if_eqB (pc := 5) (tgt := 25) C dX4_areTwo_5 (by decide) (fun c1 => ?_) (fun c1 => ?_)
  · refine g_iconst (pc := 25) (v := nI 0) C dX4_areTwo_25 (by decide) ?_
    exact g_zret C Rr dX4_areTwo_26 (by first | rfl | decide) ⟨by rw [bI_f (fun q => c1 q.1)], rfl⟩ rfl
  · refine g_aload_n (pc := 8) C dX4_areTwo_8 rfl ?_
    refine g_iload_n (pc := 9) C dX4_areTwo_9 rfl ?_
    refine g_vxi (pc := 10) (ws2 := (mdV g a (sF mn yr gr kd pt wt mr) ks os sd sts kp tk tp tn fr to vl wr bo so nm mv)) C dX4_areTwo_10 ml_X4_51 mf_X4_isCook (m_isCook g a ks os sd sts kp tk tp tn fr to vl wr bo so nm mv mn yr gr kd pt wt mr q hB) ⟨rfl, rfl, (Nat.le_of_ble_eq_true rfl), (Nat.le_of_ble_eq_true rfl)⟩ rfl rfl (Nat.le_of_ble_eq_true rfl) 0 rfl rfl rfl [0, 1, 2, 3, 4, 5, 6, 7, 8, 9, 10, 11] [] [0, 1, 2, 3, 4, 5, 6, 7, 8, 9, 10, 11] rfl rfl rfl rfl (by decide) rfl rfl ?_
    refine g_if_eqB (pc := 13) (tgt := 25) C dX4_areTwo_13 (by decide) (fun c2 => ?_) (fun c2 => ?_)
    · refine g_iconst (pc := 25) (v := nI 0) C dX4_areTwo_25 (by decide) ?_
      exact g_zret C Rr dX4_areTwo_26 (by first | rfl | decide) ⟨by rw [bI_f (fun q => c2 q.2.1)], rfl⟩ rfl
    · refine g_iload_n (pc := 16) C dX4_areTwo_16 rfl ?_
      refine g_iload_n (pc := 17) C dX4_areTwo_17 rfl ?_
      refine g_icmp_eq (pc := 18) (tgt := 25) C dX4_areTwo_18 (by decide) (fun c3 => ?_) (fun c3 => ?_)
      · refine g_iconst (pc := 25) (v := nI 0) C dX4_areTwo_25 (by decide) ?_
        exact g_zret C Rr dX4_areTwo_26 (by first | rfl | decide) ⟨by rw [bI_f (fun q => q.2.2 c3)], rfl⟩ rfl
      · refine g_iconst (pc := 21) (v := nI 1) C dX4_areTwo_21 (by decide) ?_
        refine g_goto (pc := 22) (tgt := 26) C dX4_areTwo_22 (by decide) ?_
        exact g_zret C Rr dX4_areTwo_26 (by first | rfl | decide) ⟨by rw [bI_t ⟨c1, c2, c3⟩], rfl⟩ rfl
set_option maxHeartbeats 400000 in
set_option maxRecDepth 100000 in
theorem m_spotOf (g : Gl) (c : Nat) (k : Nat)  : Ct g yX4_spotOf cX4_spotOf 2 (some .int) (rk 0 0) [.int (nI c), .int (nI k)] ([]) (fun r w2 => r = some (.int (nI (14 + 4 * c + k))) ∧ w2 = []) := by
  refine ct_of (by decide) (Nat.le_of_ble_eq_true rfl) ?_
  intro φ C0 Rr
  have C : Cx φ g cX4_spotOf 2 RX4 (rk 0 0) := C0
  show Go φ g 2 0 [(0, .int (nI c)), (1, .int (nI k))] [] ([])
  refine g_bipush (pc := 0) (v := nI 14) C dX4_spotOf_0 (by decide) ?_
  refine g_iconst (pc := 2) (v := nI 4) C dX4_spotOf_2 (by decide) ?_
  refine g_iload_n (pc := 3) C dX4_spotOf_3 rfl ?_
  refine g_imulN (pc := 4) C dX4_spotOf_4 ?_
  refine g_iaddN (pc := 5) C dX4_spotOf_5 ?_
  refine g_iload_n (pc := 6) C dX4_spotOf_6 rfl ?_
  refine g_iaddN (pc := 7) C dX4_spotOf_7 ?_
  exact g_iret C Rr dX4_spotOf_8 ⟨rfl, rfl⟩ rfl
set_option maxHeartbeats 400000 in
set_option maxRecDepth 100000 in
theorem m_finds (g : Gl) (a : Nat → Nat) (s : Nat → Nat) (ks : Nat → Nat) (os : Nat → Nat) (sd : Nat → Nat) (sts : Nat → Nat) (kp : Nat) (tk : Nat → Nat) (tp : Nat → Nat) (tn : Nat) (fr : Nat) (to : Nat) (vl : Nat) (wr : Nat) (bo : Nat → Nat) (so : Nat → Nat) (nm : Nat → Int64) (mv : Nat → Int64) (k : Nat) (hk : k < 7) : Ct g yX4_finds cX4_finds 2 (some .int) (rk 0 0) [.ref (a 0), .int (fd k)] (mdV g a s ks os sd sts kp tk tp tn fr to vl wr bo so nm mv) (fun r w2 => r = some (.int (fd k)) ∧ w2 = (mdV g a s ks os sd (updN sts k (sts k + 1)) kp tk tp tn fr to vl wr bo so nm mv)) := by
  refine ct_of (by decide) (Nat.le_of_ble_eq_true rfl) ?_
  intro φ C0 Rr
  have C : Cx φ g cX4_finds 2 RX4 (rk 0 0) := C0
  show Go φ g 2 0 [(0, .ref (a 0)), (1, .int (fd k))] [] (mdV g a s ks os sd sts kp tk tp tn fr to vl wr bo so nm mv)
  refine g_aload_n (pc := 0) C dX4_finds_0 rfl ?_
  refine g_get4 (pc := 1) C dX4_finds_1 0 rfl 4 (by decide) fl_X4_22 rfl ?_
  refine g_ldc (pc := 4) C dX4_finds_4 ck_X4_44 rfl ?_
  refine g_iload_n (pc := 6) C dX4_finds_6 rfl ?_
  refine g_isub (pc := 7) C dX4_finds_7 ?_
  refine g_top (y := nI k) (fd_ix k hk) ?_
  refine g_dup2 (pc := 8) C dX4_finds_8 rfl rfl ?_
  refine g_ialdM (pc := 9) C dX4_finds_9 5 rfl rfl (by omega) (by decide) ?_
  refine g_iconst (pc := 10) (v := nI 1) C dX4_finds_10 (by decide) ?_
  refine g_iaddN (pc := 11) C dX4_finds_11 ?_
  refine g_iastM (pc := 12) (ws2 := (mdV g a s ks os sd (updN sts k ((sts k) + 1)) kp tk tp tn fr to vl wr bo so nm mv)) C dX4_finds_12 5 rfl rfl (by omega) (by decide) rfl ?_
  refine g_iload_n (pc := 13) C dX4_finds_13 rfl ?_
  exact g_iret C Rr dX4_finds_14 ⟨rfl, rfl⟩ rfl
set_option maxHeartbeats 400000 in
set_option maxRecDepth 100000 in
theorem m_saves (g : Gl) (a : Nat → Nat) (ks : Nat → Nat) (os : Nat → Nat) (sd : Nat → Nat) (sts : Nat → Nat) (kp : Nat) (tk : Nat → Nat) (tp : Nat → Nat) (tn : Nat) (fr : Nat) (to : Nat) (vl : Nat) (wr : Nat) (bo : Nat → Nat) (so : Nat → Nat) (nm : Nat → Int64) (mv : Nat → Int64) (mn : Nat) (yr : Nat) (gr : Nat → Nat) (kd : Nat → Nat) (pt : Nat → Nat) (wt : Nat → Nat) (mr : Nat → Nat)  : Ct g yX4_saves cX4_saves 2 none (rk 0 0) [.ref (a 0)] (mdV g a (sF mn yr gr kd pt wt mr) ks os sd sts kp tk tp tn fr to vl wr bo so nm mv) (fun r w2 => r = none ∧ w2 = (mdV g a (sF mn yr gr kd pt wt mr) ks (sF mn yr gr kd pt wt mr) sd sts kp tk tp tn fr to vl wr bo so nm mv)) := by
  refine ct_of (by decide) (Nat.le_of_ble_eq_true rfl) ?_
  intro φ C0 Rr
  have C : Cx φ g cX4_saves 2 RX4 (rk 0 0) := C0
  show Go φ g 2 0 [(0, .ref (a 0))] [] (mdV g a (sF mn yr gr kd pt wt mr) ks os sd sts kp tk tp tn fr to vl wr bo so nm mv)
  refine g_iconst (pc := 0) (v := nI 0) C dX4_saves_0 (by decide) ?_
  refine g_istore_n (pc := 1) (lv2 := [(0, .ref (a 0)), (1, .int (nI 0))]) C dX4_saves_1 rfl (Nat.le_of_ble_eq_true rfl) rfl ?_
  refine g_loop1 (n := 46) (fun i f => ∀ j, j < i → f j = (sF mn yr gr kd pt wt mr) j) (fun i f => [(0, .ref (a 0)), (1, .int (nI i))]) (fun i f => (mdV g a (sF mn yr gr kd pt wt mr) ks f sd sts kp tk tp tn fr to vl wr bo so nm mv)) ?_ 0 os (by omega) (fun j hj => absurd hj (Nat.not_lt_zero j))
  intro i f hi_i hv_i ih_i
  show Go φ g 2 2 [(0, .ref (a 0)), (1, .int (nI i))] [] (mdV g a (sF mn yr gr kd pt wt mr) ks f sd sts kp tk tp tn fr to vl wr bo so nm mv)
  have hv_i : ∀ j, j < i → f j = (sF mn yr gr kd pt wt mr) j := hv_i
  refine g_iload_n (pc := 2) C dX4_saves_2 rfl ?_
  refine g_bipush (pc := 3) (v := nI 46) C dX4_saves_3 (by decide) ?_
  refine g_icmp_geN (pc := 5) (tgt := 26) C dX4_saves_5 (by decide) (by omega) (by omega) (fun c1 => ?_) (fun c1 => ?_)
  · refine g_arrc (q0 := 3) (f2 := fun j => nI ((sF mn yr gr kd pt wt mr) j)) (ws2 := (mdV g a (sF mn yr gr kd pt wt mr) ks (sF mn yr gr kd pt wt mr) sd sts kp tk tp tn fr to vl wr bo so nm mv)) rfl (fun j hj => congrArg nI (hv_i j (by omega))) rfl ?_
    exact g_vret C Rr dX4_saves_26 ⟨rfl, rfl⟩ rfl
  · refine g_aload_n (pc := 8) C dX4_saves_8 rfl ?_
    refine g_get4 (pc := 9) C dX4_saves_9 0 rfl 2 (by decide) fl_X4_16 rfl ?_
    refine g_iload_n (pc := 12) C dX4_saves_12 rfl ?_
    refine g_aload_n (pc := 13) C dX4_saves_13 rfl ?_
    refine g_get4 (pc := 14) C dX4_saves_14 0 rfl 0 (by decide) fl_X4_7 rfl ?_
    refine g_iload_n (pc := 17) C dX4_saves_17 rfl ?_
    refine g_ialdM (pc := 18) C dX4_saves_18 1 rfl rfl (by omega) (by decide) ?_
    refine g_iastM (pc := 19) (ws2 := (mdV g a (sF mn yr gr kd pt wt mr) ks (updN f i ((sF mn yr gr kd pt wt mr) i)) sd sts kp tk tp tn fr to vl wr bo so nm mv)) C dX4_saves_19 3 rfl rfl (by omega) (by decide) rfl ?_
    refine g_iinc (pc := 20) (v := (nI (i + 1))) (lv2 := [(0, .ref (a 0)), (1, .int (nI (i + 1)))]) C dX4_saves_20 rfl (nI_1 _) (Nat.le_of_ble_eq_true rfl) rfl ?_
    refine g_goto (pc := 23) (tgt := 2) C dX4_saves_23 (by decide) ?_
    exact ih_i _ (by omega) (fun j hj => by
      by_cases e : j = i
      · rw [e, updN_s]
      · rw [updN_n e]
        exact hv_i j (by omega))
set_option maxHeartbeats 400000 in
set_option maxRecDepth 100000 in
theorem m_laysAside (g : Gl) (a : Nat → Nat) (ks : Nat → Nat) (os : Nat → Nat) (sd : Nat → Nat) (sts : Nat → Nat) (kp : Nat) (tk : Nat → Nat) (tp : Nat → Nat) (tn : Nat) (fr : Nat) (to : Nat) (vl : Nat) (wr : Nat) (bo : Nat → Nat) (so : Nat → Nat) (nm : Nat → Int64) (mv : Nat → Int64) (mn : Nat) (yr : Nat) (gr : Nat → Nat) (kd : Nat → Nat) (pt : Nat → Nat) (wt : Nat → Nat) (mr : Nat → Nat)  : Ct g yX4_laysAside cX4_laysAside 2 none (rk 0 0) [.ref (a 0)] (mdV g a (sF mn yr gr kd pt wt mr) ks os sd sts kp tk tp tn fr to vl wr bo so nm mv) (fun r w2 => r = none ∧ w2 = (mdV g a (sF mn yr gr kd pt wt mr) ks os (sF mn yr gr kd pt wt mr) sts kp tk tp tn fr to vl wr bo so nm mv)) := by
  refine ct_of (by decide) (Nat.le_of_ble_eq_true rfl) ?_
  intro φ C0 Rr
  have C : Cx φ g cX4_laysAside 2 RX4 (rk 0 0) := C0
  show Go φ g 2 0 [(0, .ref (a 0))] [] (mdV g a (sF mn yr gr kd pt wt mr) ks os sd sts kp tk tp tn fr to vl wr bo so nm mv)
  refine g_iconst (pc := 0) (v := nI 0) C dX4_laysAside_0 (by decide) ?_
  refine g_istore_n (pc := 1) (lv2 := [(0, .ref (a 0)), (1, .int (nI 0))]) C dX4_laysAside_1 rfl (Nat.le_of_ble_eq_true rfl) rfl ?_
  refine g_loop1 (n := 46) (fun i f => ∀ j, j < i → f j = (sF mn yr gr kd pt wt mr) j) (fun i f => [(0, .ref (a 0)), (1, .int (nI i))]) (fun i f => (mdV g a (sF mn yr gr kd pt wt mr) ks os f sts kp tk tp tn fr to vl wr bo so nm mv)) ?_ 0 sd (by omega) (fun j hj => absurd hj (Nat.not_lt_zero j))
  intro i f hi_i hv_i ih_i
  show Go φ g 2 2 [(0, .ref (a 0)), (1, .int (nI i))] [] (mdV g a (sF mn yr gr kd pt wt mr) ks os f sts kp tk tp tn fr to vl wr bo so nm mv)
  have hv_i : ∀ j, j < i → f j = (sF mn yr gr kd pt wt mr) j := hv_i
  refine g_iload_n (pc := 2) C dX4_laysAside_2 rfl ?_
  refine g_bipush (pc := 3) (v := nI 46) C dX4_laysAside_3 (by decide) ?_
  refine g_icmp_geN (pc := 5) (tgt := 26) C dX4_laysAside_5 (by decide) (by omega) (by omega) (fun c1 => ?_) (fun c1 => ?_)
  · refine g_arrc (q0 := 4) (f2 := fun j => nI ((sF mn yr gr kd pt wt mr) j)) (ws2 := (mdV g a (sF mn yr gr kd pt wt mr) ks os (sF mn yr gr kd pt wt mr) sts kp tk tp tn fr to vl wr bo so nm mv)) rfl (fun j hj => congrArg nI (hv_i j (by omega))) rfl ?_
    exact g_vret C Rr dX4_laysAside_26 ⟨rfl, rfl⟩ rfl
  · refine g_aload_n (pc := 8) C dX4_laysAside_8 rfl ?_
    refine g_get4 (pc := 9) C dX4_laysAside_9 0 rfl 3 (by decide) fl_X4_19 rfl ?_
    refine g_iload_n (pc := 12) C dX4_laysAside_12 rfl ?_
    refine g_aload_n (pc := 13) C dX4_laysAside_13 rfl ?_
    refine g_get4 (pc := 14) C dX4_laysAside_14 0 rfl 0 (by decide) fl_X4_7 rfl ?_
    refine g_iload_n (pc := 17) C dX4_laysAside_17 rfl ?_
    refine g_ialdM (pc := 18) C dX4_laysAside_18 1 rfl rfl (by omega) (by decide) ?_
    refine g_iastM (pc := 19) (ws2 := (mdV g a (sF mn yr gr kd pt wt mr) ks os (updN f i ((sF mn yr gr kd pt wt mr) i)) sts kp tk tp tn fr to vl wr bo so nm mv)) C dX4_laysAside_19 4 rfl rfl (by omega) (by decide) rfl ?_
    refine g_iinc (pc := 20) (v := (nI (i + 1))) (lv2 := [(0, .ref (a 0)), (1, .int (nI (i + 1)))]) C dX4_laysAside_20 rfl (nI_1 _) (Nat.le_of_ble_eq_true rfl) rfl ?_
    refine g_goto (pc := 23) (tgt := 2) C dX4_laysAside_23 (by decide) ?_
    exact ih_i _ (by omega) (fun j hj => by
      by_cases e : j = i
      · rw [e, updN_s]
      · rw [updN_n e]
        exact hv_i j (by omega))
set_option maxHeartbeats 400000 in
set_option maxRecDepth 100000 in
theorem m_putsBack (g : Gl) (a : Nat → Nat) (ks : Nat → Nat) (sd : Nat → Nat) (sts : Nat → Nat) (kp : Nat) (tk : Nat → Nat) (tp : Nat → Nat) (tn : Nat) (fr : Nat) (to : Nat) (vl : Nat) (wr : Nat) (bo : Nat → Nat) (so : Nat → Nat) (nm : Nat → Int64) (mv : Nat → Int64) (mn : Nat) (yr : Nat) (gr : Nat → Nat) (kd : Nat → Nat) (pt : Nat → Nat) (wt : Nat → Nat) (mr : Nat → Nat) (mn2 : Nat) (yr2 : Nat) (gr2 : Nat → Nat) (kd2 : Nat → Nat) (pt2 : Nat → Nat) (wt2 : Nat → Nat) (mr2 : Nat → Nat)  : Ct g yX4_putsBack cX4_putsBack 2 none (rk 0 0) [.ref (a 0)] (mdV g a (sF mn yr gr kd pt wt mr) ks (sF mn2 yr2 gr2 kd2 pt2 wt2 mr2) sd sts kp tk tp tn fr to vl wr bo so nm mv) (fun r w2 => r = none ∧ w2 = (mdV g a (sF mn2 yr2 gr2 kd2 pt2 wt2 mr2) ks (sF mn2 yr2 gr2 kd2 pt2 wt2 mr2) sd sts kp tk tp tn fr to vl wr bo so nm mv)) := by
  refine ct_of (by decide) (Nat.le_of_ble_eq_true rfl) ?_
  intro φ C0 Rr
  have C : Cx φ g cX4_putsBack 2 RX4 (rk 0 0) := C0
  show Go φ g 2 0 [(0, .ref (a 0))] [] (mdV g a (sF mn yr gr kd pt wt mr) ks (sF mn2 yr2 gr2 kd2 pt2 wt2 mr2) sd sts kp tk tp tn fr to vl wr bo so nm mv)
  refine g_iconst (pc := 0) (v := nI 0) C dX4_putsBack_0 (by decide) ?_
  refine g_istore_n (pc := 1) (lv2 := [(0, .ref (a 0)), (1, .int (nI 0))]) C dX4_putsBack_1 rfl (Nat.le_of_ble_eq_true rfl) rfl ?_
  refine g_loop1 (n := 46) (fun i f => ∀ j, j < i → f j = (sF mn2 yr2 gr2 kd2 pt2 wt2 mr2) j) (fun i f => [(0, .ref (a 0)), (1, .int (nI i))]) (fun i f => (mdV g a f ks (sF mn2 yr2 gr2 kd2 pt2 wt2 mr2) sd sts kp tk tp tn fr to vl wr bo so nm mv)) ?_ 0 (sF mn yr gr kd pt wt mr) (by omega) (fun j hj => absurd hj (Nat.not_lt_zero j))
  intro i f hi_i hv_i ih_i
  show Go φ g 2 2 [(0, .ref (a 0)), (1, .int (nI i))] [] (mdV g a f ks (sF mn2 yr2 gr2 kd2 pt2 wt2 mr2) sd sts kp tk tp tn fr to vl wr bo so nm mv)
  have hv_i : ∀ j, j < i → f j = (sF mn2 yr2 gr2 kd2 pt2 wt2 mr2) j := hv_i
  refine g_iload_n (pc := 2) C dX4_putsBack_2 rfl ?_
  refine g_bipush (pc := 3) (v := nI 46) C dX4_putsBack_3 (by decide) ?_
  refine g_icmp_geN (pc := 5) (tgt := 26) C dX4_putsBack_5 (by decide) (by omega) (by omega) (fun c1 => ?_) (fun c1 => ?_)
  · refine g_arrc (q0 := 1) (f2 := fun j => nI ((sF mn2 yr2 gr2 kd2 pt2 wt2 mr2) j)) (ws2 := (mdV g a (sF mn2 yr2 gr2 kd2 pt2 wt2 mr2) ks (sF mn2 yr2 gr2 kd2 pt2 wt2 mr2) sd sts kp tk tp tn fr to vl wr bo so nm mv)) rfl (fun j hj => congrArg nI (hv_i j (by omega))) rfl ?_
    exact g_vret C Rr dX4_putsBack_26 ⟨rfl, rfl⟩ rfl
  · refine g_aload_n (pc := 8) C dX4_putsBack_8 rfl ?_
    refine g_get4 (pc := 9) C dX4_putsBack_9 0 rfl 0 (by decide) fl_X4_7 rfl ?_
    refine g_iload_n (pc := 12) C dX4_putsBack_12 rfl ?_
    refine g_aload_n (pc := 13) C dX4_putsBack_13 rfl ?_
    refine g_get4 (pc := 14) C dX4_putsBack_14 0 rfl 2 (by decide) fl_X4_16 rfl ?_
    refine g_iload_n (pc := 17) C dX4_putsBack_17 rfl ?_
    refine g_ialdM (pc := 18) C dX4_putsBack_18 3 rfl rfl (by omega) (by decide) ?_
    refine g_iastM (pc := 19) (ws2 := (mdV g a (updN f i ((sF mn2 yr2 gr2 kd2 pt2 wt2 mr2) i)) ks (sF mn2 yr2 gr2 kd2 pt2 wt2 mr2) sd sts kp tk tp tn fr to vl wr bo so nm mv)) C dX4_putsBack_19 1 rfl rfl (by omega) (by decide) rfl ?_
    refine g_iinc (pc := 20) (v := (nI (i + 1))) (lv2 := [(0, .ref (a 0)), (1, .int (nI (i + 1)))]) C dX4_putsBack_20 rfl (nI_1 _) (Nat.le_of_ble_eq_true rfl) rfl ?_
    refine g_goto (pc := 23) (tgt := 2) C dX4_putsBack_23 (by decide) ?_
    exact ih_i _ (by omega) (fun j hj => by
      by_cases e : j = i
      · rw [e, updN_s]
      · rw [updN_n e]
        exact hv_i j (by omega))
set_option maxHeartbeats 400000 in
set_option maxRecDepth 100000 in
theorem m_takesBack (g : Gl) (a : Nat → Nat) (ks : Nat → Nat) (os : Nat → Nat) (sts : Nat → Nat) (kp : Nat) (tk : Nat → Nat) (tp : Nat → Nat) (tn : Nat) (fr : Nat) (to : Nat) (vl : Nat) (wr : Nat) (bo : Nat → Nat) (so : Nat → Nat) (nm : Nat → Int64) (mv : Nat → Int64) (mn : Nat) (yr : Nat) (gr : Nat → Nat) (kd : Nat → Nat) (pt : Nat → Nat) (wt : Nat → Nat) (mr : Nat → Nat) (mn2 : Nat) (yr2 : Nat) (gr2 : Nat → Nat) (kd2 : Nat → Nat) (pt2 : Nat → Nat) (wt2 : Nat → Nat) (mr2 : Nat → Nat) (v : Nat)  : Ct g yX4_takesBack cX4_takesBack 3 (some .int) (rk 0 0) [.ref (a 0), .int (nI v)] (mdV g a (sF mn yr gr kd pt wt mr) ks os (sF mn2 yr2 gr2 kd2 pt2 wt2 mr2) sts kp tk tp tn fr to vl wr bo so nm mv) (fun r w2 => r = some (.int (nI v)) ∧ w2 = (mdV g a (sF mn2 yr2 gr2 kd2 pt2 wt2 mr2) ks os (sF mn2 yr2 gr2 kd2 pt2 wt2 mr2) sts kp tk tp tn fr to vl wr bo so nm mv)) := by
  refine ct_of (by decide) (Nat.le_of_ble_eq_true rfl) ?_
  intro φ C0 Rr
  have C : Cx φ g cX4_takesBack 3 RX4 (rk 0 0) := C0
  show Go φ g 3 0 [(0, .ref (a 0)), (1, .int (nI v))] [] (mdV g a (sF mn yr gr kd pt wt mr) ks os (sF mn2 yr2 gr2 kd2 pt2 wt2 mr2) sts kp tk tp tn fr to vl wr bo so nm mv)
  refine g_iconst (pc := 0) (v := nI 0) C dX4_takesBack_0 (by decide) ?_
  refine g_istore_n (pc := 1) (lv2 := [(0, .ref (a 0)), (1, .int (nI v)), (2, .int (nI 0))]) C dX4_takesBack_1 rfl (Nat.le_of_ble_eq_true rfl) rfl ?_
  refine g_loop1 (n := 46) (fun i f => ∀ j, j < i → f j = (sF mn2 yr2 gr2 kd2 pt2 wt2 mr2) j) (fun i f => [(0, .ref (a 0)), (1, .int (nI v)), (2, .int (nI i))]) (fun i f => (mdV g a f ks os (sF mn2 yr2 gr2 kd2 pt2 wt2 mr2) sts kp tk tp tn fr to vl wr bo so nm mv)) ?_ 0 (sF mn yr gr kd pt wt mr) (by omega) (fun j hj => absurd hj (Nat.not_lt_zero j))
  intro i f hi_i hv_i ih_i
  show Go φ g 3 2 [(0, .ref (a 0)), (1, .int (nI v)), (2, .int (nI i))] [] (mdV g a f ks os (sF mn2 yr2 gr2 kd2 pt2 wt2 mr2) sts kp tk tp tn fr to vl wr bo so nm mv)
  have hv_i : ∀ j, j < i → f j = (sF mn2 yr2 gr2 kd2 pt2 wt2 mr2) j := hv_i
  refine g_iload_n (pc := 2) C dX4_takesBack_2 rfl ?_
  refine g_bipush (pc := 3) (v := nI 46) C dX4_takesBack_3 (by decide) ?_
  refine g_icmp_geN (pc := 5) (tgt := 26) C dX4_takesBack_5 (by decide) (by omega) (by omega) (fun c1 => ?_) (fun c1 => ?_)
  · refine g_arrc (q0 := 1) (f2 := fun j => nI ((sF mn2 yr2 gr2 kd2 pt2 wt2 mr2) j)) (ws2 := (mdV g a (sF mn2 yr2 gr2 kd2 pt2 wt2 mr2) ks os (sF mn2 yr2 gr2 kd2 pt2 wt2 mr2) sts kp tk tp tn fr to vl wr bo so nm mv)) rfl (fun j hj => congrArg nI (hv_i j (by omega))) rfl ?_
    refine g_iload_n (pc := 26) C dX4_takesBack_26 rfl ?_
    exact g_iret C Rr dX4_takesBack_27 ⟨rfl, rfl⟩ rfl
  · refine g_aload_n (pc := 8) C dX4_takesBack_8 rfl ?_
    refine g_get4 (pc := 9) C dX4_takesBack_9 0 rfl 0 (by decide) fl_X4_7 rfl ?_
    refine g_iload_n (pc := 12) C dX4_takesBack_12 rfl ?_
    refine g_aload_n (pc := 13) C dX4_takesBack_13 rfl ?_
    refine g_get4 (pc := 14) C dX4_takesBack_14 0 rfl 3 (by decide) fl_X4_19 rfl ?_
    refine g_iload_n (pc := 17) C dX4_takesBack_17 rfl ?_
    refine g_ialdM (pc := 18) C dX4_takesBack_18 4 rfl rfl (by omega) (by decide) ?_
    refine g_iastM (pc := 19) (ws2 := (mdV g a (updN f i ((sF mn2 yr2 gr2 kd2 pt2 wt2 mr2) i)) ks os (sF mn2 yr2 gr2 kd2 pt2 wt2 mr2) sts kp tk tp tn fr to vl wr bo so nm mv)) C dX4_takesBack_19 1 rfl rfl (by omega) (by decide) rfl ?_
    refine g_iinc (pc := 20) (v := (nI (i + 1))) (lv2 := [(0, .ref (a 0)), (1, .int (nI v)), (2, .int (nI (i + 1)))]) C dX4_takesBack_20 rfl (nI_1 _) (Nat.le_of_ble_eq_true rfl) rfl ?_
    refine g_goto (pc := 23) (tgt := 2) C dX4_takesBack_23 (by decide) ?_
    exact ih_i _ (by omega) (fun j hj => by
      by_cases e : j = i
      · rw [e, updN_s]
      · rw [updN_n e]
        exact hv_i j (by omega))
set_option maxHeartbeats 400000 in
set_option maxRecDepth 100000 in
theorem m_becomes (g : Gl) (a : Nat → Nat) (s : Nat → Nat) (ks : Nat → Nat) (os : Nat → Nat) (sd : Nat → Nat) (sts : Nat → Nat) (kp : Nat) (tk : Nat → Nat) (tp : Nat → Nat) (tn : Nat) (fr : Nat) (to : Nat) (vl : Nat) (wr : Nat) (bo : Nat → Nat) (so : Nat → Nat) (nm : Nat → Int64) (mv : Nat → Int64) (w : Nat) (v : Nat) (hw : w < 46) : Ct g yX4_becomes cX4_becomes 4 (some .int) (rk 0 0) [.ref (a 0), .int (nI w), .int (nI v)] (mdV g a s ks os sd sts kp tk tp tn fr to vl wr bo so nm mv) (fun r w2 => r = some (.int (nI (s w))) ∧ w2 = (mdV g a (updN s w v) ks os sd sts kp tk tp tn fr to vl wr bo so nm mv)) := by
  refine ct_of (by decide) (Nat.le_of_ble_eq_true rfl) ?_
  intro φ C0 Rr
  have C : Cx φ g cX4_becomes 4 RX4 (rk 0 0) := C0
  show Go φ g 4 0 [(0, .ref (a 0)), (1, .int (nI w)), (2, .int (nI v))] [] (mdV g a s ks os sd sts kp tk tp tn fr to vl wr bo so nm mv)
  refine g_aload_n (pc := 0) C dX4_becomes_0 rfl ?_
  refine g_get4 (pc := 1) C dX4_becomes_1 0 rfl 0 (by decide) fl_X4_7 rfl ?_
  refine g_iload_n (pc := 4) C dX4_becomes_4 rfl ?_
  refine g_ialdM (pc := 5) C dX4_becomes_5 1 rfl rfl (by omega) (by decide) ?_
  refine g_istore_n (pc := 6) (lv2 := [(0, .ref (a 0)), (1, .int (nI w)), (2, .int (nI v)), (3, .int (nI (s w)))]) C dX4_becomes_6 rfl (Nat.le_of_ble_eq_true rfl) rfl ?_
  refine g_aload_n (pc := 7) C dX4_becomes_7 rfl ?_
  refine g_get4 (pc := 8) C dX4_becomes_8 0 rfl 0 (by decide) fl_X4_7 rfl ?_
  refine g_iload_n (pc := 11) C dX4_becomes_11 rfl ?_
  refine g_iload_n (pc := 12) C dX4_becomes_12 rfl ?_
  refine g_iastM (pc := 13) (ws2 := (mdV g a (updN s w v) ks os sd sts kp tk tp tn fr to vl wr bo so nm mv)) C dX4_becomes_13 1 rfl rfl (by omega) (by decide) rfl ?_
  refine g_iload_n (pc := 14) C dX4_becomes_14 rfl ?_
  exact g_iret C Rr dX4_becomes_15 ⟨rfl, rfl⟩ rfl
set_option maxHeartbeats 400000 in
set_option maxRecDepth 100000 in
theorem m_its (g : Gl) (a : Nat → Nat) (ks : Nat → Nat) (os : Nat → Nat) (sd : Nat → Nat) (sts : Nat → Nat) (kp : Nat) (tk : Nat → Nat) (tp : Nat → Nat) (tn : Nat) (fr : Nat) (to : Nat) (vl : Nat) (wr : Nat) (bo : Nat → Nat) (so : Nat → Nat) (nm : Nat → Int64) (mv : Nat → Int64) (mn : Nat) (yr : Nat) (gr : Nat → Nat) (kd : Nat → Nat) (pt : Nat → Nat) (wt : Nat → Nat) (mr : Nat → Nat) (c : Nat) (k : Nat) (hc : c < 8) (hk : k < 4) : Ct g yX4_its cX4_its 3 (some .int) (rk 1 21) [.ref (a 0), .int (nI c), .int (nI k)] (mdV g a (sF mn yr gr kd pt wt mr) ks os sd sts kp tk tp tn fr to vl wr bo so nm mv) (fun r w2 => r = some (.int (nI (itF kd pt wt mr c k))) ∧ w2 = (mdV g a (sF mn yr gr kd pt wt mr) ks os sd sts kp tk tp tn fr to vl wr bo so nm mv)) := by
  refine ct_of (by decide) (Nat.le_of_ble_eq_true rfl) ?_
  intro φ C0 Rr
  have C : Cx φ g cX4_its 3 RX4 (rk 1 21) := C0
  show Go φ g 3 0 [(0, .ref (a 0)), (1, .int (nI c)), (2, .int (nI k))] [] (mdV g a (sF mn yr gr kd pt wt mr) ks os sd sts kp tk tp tn fr to vl wr bo so nm mv)
  refine g_aload_n (pc := 0) C dX4_its_0 rfl ?_
  refine g_get4 (pc := 1) C dX4_its_1 0 rfl 0 (by decide) fl_X4_7 rfl ?_
  refine g_iload_n (pc := 4) C dX4_its_4 rfl ?_
  refine g_iload_n (pc := 5) C dX4_its_5 rfl ?_
  refine g_s0i (pc := 6) C dX4_its_6 ml_X4_57 mf_X4_spotOf (m_spotOf g c k) ⟨rfl, rfl, (Nat.le_of_ble_eq_true rfl), (Nat.le_of_ble_eq_true rfl)⟩ rfl rfl (Nat.le_of_ble_eq_true rfl) ?_
  refine g_ialdM (pc := 9) C dX4_its_9 1 rfl rfl (by omega) (by decide) ?_
  refine g_top (y := nI (itF kd pt wt mr c k)) (congrArg nI (sF_it hk)) ?_
  exact g_iret C Rr dX4_its_10 ⟨rfl, rfl⟩ rfl
set_option maxHeartbeats 400000 in
set_option maxRecDepth 100000 in
theorem m_all (g : Gl) (a : Nat → Nat) (ks : Nat → Nat) (os : Nat → Nat) (sd : Nat → Nat) (sts : Nat → Nat) (kp : Nat) (tk : Nat → Nat) (tp : Nat → Nat) (tn : Nat) (fr : Nat) (to : Nat) (vl : Nat) (wr : Nat) (bo : Nat → Nat) (so : Nat → Nat) (nm : Nat → Int64) (mv : Nat → Int64) (mn : Nat) (yr : Nat) (gr : Nat → Nat) (kd : Nat → Nat) (pt : Nat → Nat) (wt : Nat → Nat) (mr : Nat → Nat)  : Ct g yX4_all cX4_all 3 (some .int) (rk 0 0) [.ref (a 0)] (mdV g a (sF mn yr gr kd pt wt mr) ks os sd sts kp tk tp tn fr to vl wr bo so nm mv) (fun r w2 => r = some (.int (nI (sumN gr 12))) ∧ w2 = (mdV g a (sF mn yr gr kd pt wt mr) ks os sd sts kp tk tp tn fr to vl wr bo so nm mv)) := by
  refine ct_of (by decide) (Nat.le_of_ble_eq_true rfl) ?_
  intro φ C0 Rr
  have C : Cx φ g cX4_all 3 RX4 (rk 0 0) := C0
  show Go φ g 3 0 [(0, .ref (a 0))] [] (mdV g a (sF mn yr gr kd pt wt mr) ks os sd sts kp tk tp tn fr to vl wr bo so nm mv)
  refine g_iconst (pc := 0) (v := nI 0) C dX4_all_0 (by decide) ?_
  refine g_istore_n (pc := 1) (lv2 := [(0, .ref (a 0)), (1, .int (nI 0))]) C dX4_all_1 rfl (Nat.le_of_ble_eq_true rfl) rfl ?_
  refine g_iconst (pc := 2) (v := nI 0) C dX4_all_2 (by decide) ?_
  refine g_istore_n (pc := 3) (lv2 := [(0, .ref (a 0)), (1, .int (nI 0)), (2, .int (nI 0))]) C dX4_all_3 rfl (Nat.le_of_ble_eq_true rfl) rfl ?_
  refine g_loop0 (n := 12) (fun i => True) (fun i => [(0, .ref (a 0)), (1, .int (nI (sumN gr i))), (2, .int (nI i))]) (fun i => (mdV g a (sF mn yr gr kd pt wt mr) ks os sd sts kp tk tp tn fr to vl wr bo so nm mv)) ?_ 0 (by omega) trivial
  intro i hi_i hv_i ih_i
  show Go φ g 3 4 [(0, .ref (a 0)), (1, .int (nI (sumN gr i))), (2, .int (nI i))] [] (mdV g a (sF mn yr gr kd pt wt mr) ks os sd sts kp tk tp tn fr to vl wr bo so nm mv)
  refine g_iload_n (pc := 4) C dX4_all_4 rfl ?_
  refine g_bipush (pc := 5) (v := nI 12) C dX4_all_5 (by decide) ?_
  refine g_icmp_geN (pc := 7) (tgt := 27) C dX4_all_7 (by decide) (by omega) (by omega) (fun c1 => ?_) (fun c1 => ?_)
  · refine g_iload_n (pc := 27) C dX4_all_27 rfl ?_
    exact g_iret C Rr dX4_all_28 ⟨by rw [show i = 12 by omega], rfl⟩ rfl
  · refine g_iload_n (pc := 10) C dX4_all_10 rfl ?_
    refine g_aload_n (pc := 11) C dX4_all_11 rfl ?_
    refine g_get4 (pc := 12) C dX4_all_12 0 rfl 0 (by decide) fl_X4_7 rfl ?_
    refine g_iconst (pc := 15) (v := nI 2) C dX4_all_15 (by decide) ?_
    refine g_iload_n (pc := 16) C dX4_all_16 rfl ?_
    refine g_iaddN (pc := 17) C dX4_all_17 ?_
    refine g_ialdM (pc := 18) C dX4_all_18 1 rfl rfl (by omega) (by decide) ?_
    refine g_top (congrArg nI (sF_rg (by omega))) ?_
    refine g_iaddN (pc := 19) C dX4_all_19 ?_
    refine g_istore_n (pc := 20) (lv2 := [(0, .ref (a 0)), (1, .int (nI ((sumN gr i) + (gr i)))), (2, .int (nI i))]) C dX4_all_20 rfl (Nat.le_of_ble_eq_true rfl) rfl ?_
    refine g_iinc (pc := 21) (v := (nI (i + 1))) (lv2 := [(0, .ref (a 0)), (1, .int (nI ((sumN gr i) + (gr i)))), (2, .int (nI (i + 1)))]) C dX4_all_21 rfl (nI_1 _) (Nat.le_of_ble_eq_true rfl) rfl ?_
    refine g_goto (pc := 24) (tgt := 4) C dX4_all_24 (by decide) ?_
    exact ih_i (by omega) trivial
set_option maxHeartbeats 400000 in
set_option maxRecDepth 100000 in
theorem m_tasteOf (g : Gl) (a : Nat → Nat) (ks : Nat → Nat) (os : Nat → Nat) (sd : Nat → Nat) (sts : Nat → Nat) (kp : Nat) (tk : Nat → Nat) (tp : Nat → Nat) (tn : Nat) (fr : Nat) (to : Nat) (vl : Nat) (wr : Nat) (bo : Nat → Nat) (so : Nat → Nat) (nm : Nat → Int64) (mv : Nat → Int64) (mn : Nat) (yr : Nat) (gr : Nat → Nat) (kd : Nat → Nat) (pt : Nat → Nat) (wt : Nat → Nat) (mr : Nat → Nat) (p : Nat) (hB : PB gr kd pt wt mr (sumN gr 12) yr mn) (hp : p < 12) : Ct g yX4_tasteOf cX4_tasteOf 3 (some .int) (rk 1 22) [.ref (a 0), .int (nI p)] (mdV g a (sF mn yr gr kd pt wt mr) ks os sd sts kp tk tp tn fr to vl wr bo so nm mv) (fun r w2 => r = some (.int (nI (tasteN gr (sumN gr 12) p))) ∧ w2 = (mdV g a (sF mn yr gr kd pt wt mr) ks os sd sts kp tk tp tn fr to vl wr bo so nm mv)) := by
  refine ct_of (by decide) (Nat.le_of_ble_eq_true rfl) ?_
  intro φ C0 Rr
  have C : Cx φ g cX4_tasteOf 3 RX4 (rk 1 22) := C0
  show Go φ g 3 0 [(0, .ref (a 0)), (1, .int (nI p))] [] (mdV g a (sF mn yr gr kd pt wt mr) ks os sd sts kp tk tp tn fr to vl wr bo so nm mv)
  obtain ⟨-, hTle, hgr, hkd, hpt, hwt, hmr, hyr, hmn⟩ := id hB
  refine g_aload_n (pc := 0) C dX4_tasteOf_0 rfl ?_
  refine g_vxi (pc := 1) (ws2 := (mdV g a (sF mn yr gr kd pt wt mr) ks os sd sts kp tk tp tn fr to vl wr bo so nm mv)) C dX4_tasteOf_1 ml_X4_70 mf_X4_all (m_all g a ks os sd sts kp tk tp tn fr to vl wr bo so nm mv mn yr gr kd pt wt mr) ⟨rfl, rfl, (Nat.le_of_ble_eq_true rfl), (Nat.le_of_ble_eq_true rfl)⟩ rfl rfl (Nat.le_of_ble_eq_true rfl) 0 rfl rfl rfl [0, 1, 2, 3, 4, 5, 6, 7, 8, 9, 10, 11] [] [0, 1, 2, 3, 4, 5, 6, 7, 8, 9, 10, 11] rfl rfl rfl rfl (by decide) rfl rfl ?_
  refine g_istore_n (pc := 4) (lv2 := [(0, .ref (a 0)), (1, .int (nI p)), (2, .int (nI (sumN gr 12)))]) C dX4_tasteOf_4 rfl (Nat.le_of_ble_eq_true rfl) rfl ?_
  refine g_iload_n (pc := 5) C dX4_tasteOf_5 rfl ?_
  refine g_if_neN (pc := 6) (tgt := 13) C dX4_tasteOf_6 (by decide) (by omega) (fun c1 => ?_) (fun c1 => ?_)
  · refine g_sipush (pc := 13) (v := nI 1000) C dX4_tasteOf_13 (by decide) ?_
    refine g_aload_n (pc := 16) C dX4_tasteOf_16 rfl ?_
    refine g_get4 (pc := 17) C dX4_tasteOf_17 0 rfl 0 (by decide) fl_X4_7 rfl ?_
    refine g_iconst (pc := 20) (v := nI 2) C dX4_tasteOf_20 (by decide) ?_
    refine g_iload_n (pc := 21) C dX4_tasteOf_21 rfl ?_
    refine g_iaddN (pc := 22) C dX4_tasteOf_22 ?_
    refine g_ialdM (pc := 23) C dX4_tasteOf_23 1 rfl rfl (by omega) (by decide) ?_
    refine g_top (congrArg nI (sF_rg (by omega))) ?_
    have b2 := hgr p
    refine g_imulN (pc := 24) C dX4_tasteOf_24 ?_
    refine g_iload_n (pc := 25) C dX4_tasteOf_25 rfl ?_
    refine g_idivN (pc := 26) C dX4_tasteOf_26 (by omega) (by omega) (by omega) ?_
    exact g_iret C Rr dX4_tasteOf_27 ⟨rfl, rfl⟩ rfl
  · refine g_iconst (pc := 9) (v := nI 0) C dX4_tasteOf_9 (by decide) ?_
    refine g_goto (pc := 10) (tgt := 27) C dX4_tasteOf_10 (by decide) ?_
    exact g_iret C Rr dX4_tasteOf_27 ⟨by rw [tasteN, c1, Nat.div_zero], rfl⟩ rfl
set_option maxHeartbeats 400000 in
set_option maxRecDepth 100000 in
theorem m_isVague (g : Gl) (a : Nat → Nat) (ks : Nat → Nat) (os : Nat → Nat) (sd : Nat → Nat) (sts : Nat → Nat) (kp : Nat) (tk : Nat → Nat) (tp : Nat → Nat) (tn : Nat) (fr : Nat) (to : Nat) (vl : Nat) (wr : Nat) (bo : Nat → Nat) (so : Nat → Nat) (nm : Nat → Int64) (mv : Nat → Int64) (mn : Nat) (yr : Nat) (gr : Nat → Nat) (kd : Nat → Nat) (pt : Nat → Nat) (wt : Nat → Nat) (mr : Nat → Nat) (hB : PB gr kd pt wt mr (sumN gr 12) yr mn) : Ct g yX4_isVague cX4_isVague 1 (some .boolean) (rk 2 44) [.ref (a 0)] (mdV g a (sF mn yr gr kd pt wt mr) ks os sd sts kp tk tp tn fr to vl wr bo so nm mv) (fun r w2 => r = some (.int (bI (500 < tasteN gr (sumN gr 12) 0))) ∧ w2 = (mdV g a (sF mn yr gr kd pt wt mr) ks os sd sts kp tk tp tn fr to vl wr bo so nm mv)) := by
  refine ct_of (by decide) (Nat.le_of_ble_eq_true rfl) ?_
  intro φ C0 Rr
  have C : Cx φ g cX4_isVague 1 RX4 (rk 2 44) := C0
  show Go φ g 1 0 [(0, .ref (a 0))] [] (mdV g a (sF mn yr gr kd pt wt mr) ks os sd sts kp tk tp tn fr to vl wr bo so nm mv)
  obtain ⟨-, hTle, hgr, hkd, hpt, hwt, hmr, hyr, hmn⟩ := id hB
  have ht0 : tasteN gr (sumN gr 12) 0 < 2 ^ 31 := Nat.lt_of_le_of_lt (Nat.div_le_self _ _) (by have := hgr 0; omega)
  refine g_aload_n (pc := 0) C dX4_isVague_0 rfl ?_
  refine g_iconst (pc := 1) (v := nI 0) C dX4_isVague_1 (by decide) ?_
  refine g_vxi (pc := 2) (ws2 := (mdV g a (sF mn yr gr kd pt wt mr) ks os sd sts kp tk tp tn fr to vl wr bo so nm mv)) C dX4_isVague_2 ml_X4_79 mf_X4_tasteOf (m_tasteOf g a ks os sd sts kp tk tp tn fr to vl wr bo so nm mv mn yr gr kd pt wt mr 0 hB (by omega)) ⟨rfl, rfl, (Nat.le_of_ble_eq_true rfl), (Nat.le_of_ble_eq_true rfl)⟩ rfl rfl (Nat.le_of_ble_eq_true rfl) 0 rfl rfl rfl [0, 1, 2, 3, 4, 5, 6, 7, 8, 9, 10, 11] [] [0, 1, 2, 3, 4, 5, 6, 7, 8, 9, 10, 11] rfl rfl rfl rfl (by decide) rfl rfl ?_
  refine g_sipush (pc := 5) (v := nI 500) C dX4_isVague_5 (by decide) ?_
  refine g_icmp_leN (pc := 8) (tgt := 15) C dX4_isVague_8 (by decide) (by omega) (by omega) (fun c1 => ?_) (fun c1 => ?_)
  · refine g_iconst (pc := 15) (v := nI 0) C dX4_isVague_15 (by decide) ?_
    exact g_zret C Rr dX4_isVague_16 (by first | rfl | decide) ⟨by rw [bI_f (by omega)], rfl⟩ rfl
  · refine g_iconst (pc := 11) (v := nI 1) C dX4_isVague_11 (by decide) ?_
    refine g_goto (pc := 12) (tgt := 16) C dX4_isVague_12 (by decide) ?_
    exact g_zret C Rr dX4_isVague_16 (by first | rfl | decide) ⟨by rw [bI_t (by omega)], rfl⟩ rfl
