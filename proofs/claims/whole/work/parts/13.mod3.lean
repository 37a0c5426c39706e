set_option maxHeartbeats 400000 in
set_option maxRecDepth 100000 in
theorem m_adds (g : Gl) (a : Nat → Nat) (ks : Nat → Nat) (os : Nat → Nat) (sd : Nat → Nat) (sts : Nat → Nat) (kp : Nat) (tk : Nat → Nat) (tp : Nat → Nat) (tn : Nat) (fr : Nat) (to : Nat) (vl : Nat) (wr : Nat) (bo : Nat → Nat) (so : Nat → Nat) (nm : Nat → Int64) (mv : Nat → Int64) (mn : Nat) (yr : Nat) (gr : Nat → Nat) (kd : Nat → Nat) (pt : Nat → Nat) (wt : Nat → Nat) (mr : Nat → Nat) (k : Nat) (hm : mn < 8) : Ct g yX4_adds cX4_adds 3 (some .int) (rk 1 21) [.ref (a 0), .int (nI k)] (mdV g a (sF mn yr gr kd pt wt mr) ks os sd sts kp tk tp tn fr to vl wr bo so nm mv) (fun r w2 => r = some (.int (nI mn)) ∧ w2 = (mdV g a (sF (mn + 1) yr gr (updN kd mn k) (updN pt mn 1) (updN wt mn 100) (updN mr mn 5)) ks os sd sts kp tk tp tn fr to vl wr bo so nm mv)) := by
  refine ct_of (by decide) (Nat.le_of_ble_eq_true rfl) ?_
  intro φ C0 Rr
  have C : Cx φ g cX4_adds 3 RX4 (rk 1 21) := C0
  show Go φ g 3 0 [(0, .ref (a 0)), (1, .int (nI k))] [] (mdV g a (sF mn yr gr kd pt wt mr) ks os sd sts kp tk tp tn fr to vl wr bo so nm mv)
  refine g_aload_n (pc := 0) C dX4_adds_0 rfl ?_
  refine g_get4 (pc := 1) C dX4_adds_1 0 rfl 0 (by decide) fl_X4_7 rfl ?_
  refine g_iconst (pc := 4) (v := nI 0) C dX4_adds_4 (by decide) ?_
  refine g_ialdM (pc := 5) C dX4_adds_5 1 rfl rfl (by omega) (by decide) ?_
  refine g_top (congrArg nI sF_r0) ?_
  refine g_istore_n (pc := 6) (lv2 := [(0, .ref (a 0)), (1, .int (nI k)), (2, .int (nI mn))]) C dX4_adds_6 rfl (Nat.le_of_ble_eq_true rfl) rfl ?_
  refine g_aload_n (pc := 7) C dX4_adds_7 rfl ?_
  refine g_get4 (pc := 8) C dX4_adds_8 0 rfl 0 (by decide) fl_X4_7 rfl ?_
  refine g_iload_n (pc := 11) C dX4_adds_11 rfl ?_
  refine g_iconst (pc := 12) (v := nI 0) C dX4_adds_12 (by decide) ?_
  refine g_s0i (pc := 13) C dX4_adds_13 ml_X4_57 mf_X4_spotOf (m_spotOf g mn 0) ⟨rfl, rfl, (Nat.le_of_ble_eq_true rfl), (Nat.le_of_ble_eq_true rfl)⟩ rfl rfl (Nat.le_of_ble_eq_true rfl) ?_
  refine g_iload_n (pc := 16) C dX4_adds_16 rfl ?_
  refine g_iastM (pc := 17) (ws2 := _) C dX4_adds_17 1 rfl rfl (by omega) (by decide) rfl ?_
  refine g_ws (ws := (mdV g a (updN (sF mn yr gr kd pt wt mr) (14 + 4 * mn + 0) k) ks os sd sts kp tk tp tn fr to vl wr bo so nm mv)) (ws2 := (mdV g a (sF mn yr gr (updN kd mn k) pt wt mr) ks os sd sts kp tk tp tn fr to vl wr bo so nm mv)) (by rw [sF_wk]) ?_
  refine g_aload_n (pc := 18) C dX4_adds_18 rfl ?_
  refine g_get4 (pc := 19) C dX4_adds_19 0 rfl 0 (by decide) fl_X4_7 rfl ?_
  refine g_iload_n (pc := 22) C dX4_adds_22 rfl ?_
  refine g_iconst (pc := 23) (v := nI 1) C dX4_adds_23 (by decide) ?_
  refine g_s0i (pc := 24) C dX4_adds_24 ml_X4_57 mf_X4_spotOf (m_spotOf g mn 1) ⟨rfl, rfl, (Nat.le_of_ble_eq_true rfl), (Nat.le_of_ble_eq_true rfl)⟩ rfl rfl (Nat.le_of_ble_eq_true rfl) ?_
  refine g_iconst (pc := 27) (v := nI 1) C dX4_adds_27 (by decide) ?_
  refine g_iastM (pc := 28) (ws2 := _) C dX4_adds_28 1 rfl rfl (by omega) (by decide) rfl ?_
  refine g_ws (ws := (mdV g a (updN (sF mn yr gr (updN kd mn k) pt wt mr) (14 + 4 * mn + 1) 1) ks os sd sts kp tk tp tn fr to vl wr bo so nm mv)) (ws2 := (mdV g a (sF mn yr gr (updN kd mn k) (updN pt mn 1) wt mr) ks os sd sts kp tk tp tn fr to vl wr bo so nm mv)) (by rw [sF_wp]) ?_
  refine g_aload_n (pc := 29) C dX4_adds_29 rfl ?_
  refine g_get4 (pc := 30) C dX4_adds_30 0 rfl 0 (by decide) fl_X4_7 rfl ?_
  refine g_iload_n (pc := 33) C dX4_adds_33 rfl ?_
  refine g_iconst (pc := 34) (v := nI 2) C dX4_adds_34 (by decide) ?_
  refine g_s0i (pc := 35) C dX4_adds_35 ml_X4_57 mf_X4_spotOf (m_spotOf g mn 2) ⟨rfl, rfl, (Nat.le_of_ble_eq_true rfl), (Nat.le_of_ble_eq_true rfl)⟩ rfl rfl (Nat.le_of_ble_eq_true rfl) ?_
  refine g_bipush (pc := 38) (v := nI 100) C dX4_adds_38 (by decide) ?_
  refine g_iastM (pc := 40) (ws2 := _) C dX4_adds_40 1 rfl rfl (by omega) (by decide) rfl ?_
  refine g_ws (ws := (mdV g a (updN (sF mn yr gr (updN kd mn k) (updN pt mn 1) wt mr) (14 + 4 * mn + 2) 100) ks os sd sts kp tk tp tn fr to vl wr bo so nm mv)) (ws2 := (mdV g a (sF mn yr gr (updN kd mn k) (updN pt mn 1) (updN wt mn 100) mr) ks os sd sts kp tk tp tn fr to vl wr bo so nm mv)) (by rw [sF_ww]) ?_
  refine g_aload_n (pc := 41) C dX4_adds_41 rfl ?_
  refine g_get4 (pc := 42) C dX4_adds_42 0 rfl 0 (by decide) fl_X4_7 rfl ?_
  refine g_iload_n (pc := 45) C dX4_adds_45 rfl ?_
  refine g_iconst (pc := 46) (v := nI 3) C dX4_adds_46 (by decide) ?_
  refine g_s0i (pc := 47) C dX4_adds_47 ml_X4_57 mf_X4_spotOf (m_spotOf g mn 3) ⟨rfl, rfl, (Nat.le_of_ble_eq_true rfl), (Nat.le_of_ble_eq_true rfl)⟩ rfl rfl (Nat.le_of_ble_eq_true rfl) ?_
  refine g_iconst (pc := 50) (v := nI 5) C dX4_adds_50 (by decide) ?_
  refine g_iastM (pc := 51) (ws2 := _) C dX4_adds_51 1 rfl rfl (by omega) (by decide) rfl ?_
  refine g_ws (ws := (mdV g a (updN (sF mn yr gr (updN kd mn k) (updN pt mn 1) (updN wt mn 100) mr) (14 + 4 * mn + 3) 5) ks os sd sts kp tk tp tn fr to vl wr bo so nm mv)) (ws2 := (mdV g a (sF mn yr gr (updN kd mn k) (updN pt mn 1) (updN wt mn 100) (updN mr mn 5)) ks os sd sts kp tk tp tn fr to vl wr bo so nm mv)) (by rw [sF_wm]) ?_
  refine g_aload_n (pc := 52) C dX4_adds_52 rfl ?_
  refine g_get4 (pc := 53) C dX4_adds_53 0 rfl 0 (by decide) fl_X4_7 rfl ?_
  refine g_iconst (pc := 56) (v := nI 0) C dX4_adds_56 (by decide) ?_
  refine g_dup2 (pc := 57) C dX4_adds_57 rfl rfl ?_
  refine g_ialdM (pc := 58) C dX4_adds_58 1 rfl rfl (by omega) (by decide) ?_
  refine g_top (congrArg nI sF_r0) ?_
  refine g_iconst (pc := 59) (v := nI 1) C dX4_adds_59 (by decide) ?_
  refine g_iaddN (pc := 60) C dX4_adds_60 ?_
  refine g_iastM (pc := 61) (ws2 := _) C dX4_adds_61 1 rfl rfl (by omega) (by decide) rfl ?_
  refine g_ws (ws := (mdV g a (updN (sF mn yr gr (updN kd mn k) (updN pt mn 1) (updN wt mn 100) (updN mr mn 5)) 0 (mn + 1)) ks os sd sts kp tk tp tn fr to vl wr bo so nm mv)) (ws2 := (mdV g a (sF (mn + 1) yr gr (updN kd mn k) (updN pt mn 1) (updN wt mn 100) (updN mr mn 5)) ks os sd sts kp tk tp tn fr to vl wr bo so nm mv)) (by rw [sF_w0]) ?_
  refine g_iload_n (pc := 62) C dX4_adds_62 rfl ?_
  exact g_iret C Rr dX4_adds_63 ⟨rfl, rfl⟩ rfl
set_option maxHeartbeats 400000 in
set_option maxRecDepth 100000 in
theorem m_wants (g : Gl) (a : Nat → Nat) (ks : Nat → Nat) (os : Nat → Nat) (sd : Nat → Nat) (sts : Nat → Nat) (kp : Nat) (tk : Nat → Nat) (tp : Nat → Nat) (tn : Nat) (fr : Nat) (to : Nat) (vl : Nat) (wr : Nat) (bo : Nat → Nat) (so : Nat → Nat) (nm : Nat → Int64) (mv : Nat → Int64) (mn : Nat) (yr : Nat) (gr : Nat → Nat) (kd : Nat → Nat) (pt : Nat → Nat) (wt : Nat → Nat) (mr : Nat → Nat) (c : Nat) (hB : PB gr kd pt wt mr (sumN gr 12) yr mn) (hc : c < 8) : Ct g yX4_wants cX4_wants 3 (some .int) (rk 2 43) [.ref (a 0), .int (nI c)] (mdV g a (sF mn yr gr kd pt wt mr) ks os sd sts kp tk tp tn fr to vl wr bo so nm mv) (fun r w2 => r = some (.int (nI (wantsN kd wt yr c))) ∧ w2 = (mdV g a (sF mn yr gr kd pt wt mr) ks os sd sts kp tk tp tn fr to vl wr bo so nm mv)) := by
  refine ct_of (by decide) (Nat.le_of_ble_eq_true rfl) ?_
  intro φ C0 Rr
  have C : Cx φ g cX4_wants 3 RX4 (rk 2 43) := C0
  show Go φ g 3 0 [(0, .ref (a 0)), (1, .int (nI c))] [] (mdV g a (sF mn yr gr kd pt wt mr) ks os sd sts kp tk tp tn fr to vl wr bo so nm mv)
  obtain ⟨-, hTle, hgr, hkd, hpt, hwt, hmr, hyr, hmn⟩ := id hB
  refine g_aload_n (pc := 0) C dX4_wants_0 rfl ?_
  refine g_iload_n (pc := 1) C dX4_wants_1 rfl ?_
  refine g_iconst (pc := 2) (v := nI 2) C dX4_wants_2 (by decide) ?_
  refine g_vxi (pc := 3) (ws2 := (mdV g a (sF mn yr gr kd pt wt mr) ks os sd sts kp tk tp tn fr to vl wr bo so nm mv)) C dX4_wants_3 ml_X4_102 mf_X4_its (m_its g a ks os sd sts kp tk tp tn fr to vl wr bo so nm mv mn yr gr kd pt wt mr c 2 (by omega) (by omega)) ⟨rfl, rfl, (Nat.le_of_ble_eq_true rfl), (Nat.le_of_ble_eq_true rfl)⟩ rfl rfl (Nat.le_of_ble_eq_true rfl) 0 rfl rfl rfl [0, 1, 2, 3, 4, 5, 6, 7, 8, 9, 10, 11] [] [0, 1, 2, 3, 4, 5, 6, 7, 8, 9, 10, 11] rfl rfl rfl rfl (by decide) rfl rfl ?_
  refine g_top (y := nI (wt c)) rfl ?_
  have b1 := hwt c
  refine g_istore_n (pc := 6) (lv2 := [(0, .ref (a 0)), (1, .int (nI c)), (2, .int (nI (wt c)))]) C dX4_wants_6 rfl (Nat.le_of_ble_eq_true rfl) rfl ?_
  refine g_aload_n (pc := 7) C dX4_wants_7 rfl ?_
  refine g_iload_n (pc := 8) C dX4_wants_8 rfl ?_
  refine g_iconst (pc := 9) (v := nI 0) C dX4_wants_9 (by decide) ?_
  refine g_vxi (pc := 10) (ws2 := (mdV g a (sF mn yr gr kd pt wt mr) ks os sd sts kp tk tp tn fr to vl wr bo so nm mv)) C dX4_wants_10 ml_X4_102 mf_X4_its (m_its g a ks os sd sts kp tk tp tn fr to vl wr bo so nm mv mn yr gr kd pt wt mr c 0 (by omega) (by omega)) ⟨rfl, rfl, (Nat.le_of_ble_eq_true rfl), (Nat.le_of_ble_eq_true rfl)⟩ rfl rfl (Nat.le_of_ble_eq_true rfl) 0 rfl rfl rfl [0, 1, 2, 3, 4, 5, 6, 7, 8, 9, 10, 11] [] [0, 1, 2, 3, 4, 5, 6, 7, 8, 9, 10, 11] rfl rfl rfl rfl (by decide) rfl rfl ?_
  refine g_top (y := nI (kd c)) rfl ?_
  have b2 := hkd c
  by_cases c3 : kd c = 1
  · refine g_top (congrArg nI c3) (g_tableIn (pc := 13) (off := 35) (tgt := 48) C dX4_wants_13 (by decide) (by decide) (by decide) (by decide) ?_)
    refine g_iload_n (pc := 48) C dX4_wants_48 rfl ?_
    refine g_iconst (pc := 49) (v := nI 2) C dX4_wants_49 (by decide) ?_
    refine g_idivN (pc := 50) C dX4_wants_50 (by omega) (by omega) (by omega) ?_
    exact g_iret C Rr dX4_wants_51 ⟨by simp [wantsN, c3], rfl⟩ rfl
  by_cases c4 : kd c = 2
  · refine g_top (congrArg nI c4) (g_tableIn (pc := 13) (off := 39) (tgt := 52) C dX4_wants_13 (by decide) (by decide) (by decide) (by decide) ?_)
    refine g_iload_n (pc := 52) C dX4_wants_52 rfl ?_
    refine g_bipush (pc := 53) (v := nI 50) C dX4_wants_53 (by decide) ?_
    refine g_iaddN (pc := 55) C dX4_wants_55 ?_
    exact g_iret C Rr dX4_wants_56 ⟨by simp [wantsN, c3, c4], rfl⟩ rfl
  by_cases c5 : kd c = 3
  · refine g_top (congrArg nI c5) (g_tableIn (pc := 13) (off := 71) (tgt := 84) C dX4_wants_13 (by decide) (by decide) (by decide) (by decide) ?_)
    refine g_iload_n (pc := 84) C dX4_wants_84 rfl ?_
    exact g_iret C Rr dX4_wants_85 ⟨by simp [wantsN, c3, c4, c5], rfl⟩ rfl
  by_cases c6 : kd c = 4
  · refine g_top (congrArg nI c6) (g_tableIn (pc := 13) (off := 44) (tgt := 57) C dX4_wants_13 (by decide) (by decide) (by decide) (by decide) ?_)
    refine g_aload_n (pc := 57) C dX4_wants_57 rfl ?_
    refine g_get4 (pc := 58) C dX4_wants_58 0 rfl 0 (by decide) fl_X4_7 rfl ?_
    refine g_iconst (pc := 61) (v := nI 1) C dX4_wants_61 (by decide) ?_
    refine g_ialdM (pc := 62) C dX4_wants_62 1 rfl rfl (by omega) (by decide) ?_
    refine g_top (congrArg nI sF_r1) ?_
    refine g_bipush (pc := 63) (v := nI 7) C dX4_wants_63 (by decide) ?_
    refine g_iremN (pc := 65) C dX4_wants_65 (by omega) (by omega) (by omega) ?_
    refine g_if_neN (pc := 66) (tgt := 73) C dX4_wants_66 (by decide) (by omega) (fun c7 => ?_) (fun c7 => ?_)
    · refine g_iload_n (pc := 73) C dX4_wants_73 rfl ?_
      refine g_iconst (pc := 74) (v := nI 2) C dX4_wants_74 (by decide) ?_
      refine g_idivN (pc := 75) C dX4_wants_75 (by omega) (by omega) (by omega) ?_
      exact g_iret C Rr dX4_wants_76 ⟨by simp [wantsN, c3, c4, c5, c6, c7], rfl⟩ rfl
    · refine g_iconst (pc := 69) (v := nI 0) C dX4_wants_69 (by decide) ?_
      refine g_goto (pc := 70) (tgt := 76) C dX4_wants_70 (by decide) ?_
      exact g_iret C Rr dX4_wants_76 ⟨by simp [wantsN, c3, c4, c5, c6, c7], rfl⟩ rfl
  by_cases c8 : kd c = 5
  · refine g_top (congrArg nI c8) (g_tableIn (pc := 13) (off := 64) (tgt := 77) C dX4_wants_13 (by decide) (by decide) (by decide) (by decide) ?_)
    refine g_iconst (pc := 77) (v := nI 2) C dX4_wants_77 (by decide) ?_
    refine g_iload_n (pc := 78) C dX4_wants_78 rfl ?_
    refine g_bipush (pc := 79) (v := nI 50) C dX4_wants_79 (by decide) ?_
    refine g_iaddN (pc := 81) C dX4_wants_81 ?_
    refine g_imulN (pc := 82) C dX4_wants_82 ?_
    exact g_iret C Rr dX4_wants_83 ⟨by simp [wantsN, c3, c4, c5, c6, c8], rfl⟩ rfl
  refine g_tableOut (pc := 13) (tgt := 84) C dX4_wants_13 (by rw [nI_toInt (by omega)]; omega) (by decide) ?_
  refine g_iload_n (pc := 84) C dX4_wants_84 rfl ?_
  exact g_iret C Rr dX4_wants_85 ⟨by simp [wantsN, c3, c4, c5, c6, c8], rfl⟩ rfl
set_option maxHeartbeats 400000 in
set_option maxRecDepth 100000 in
theorem m_takesOf (g : Gl) (a : Nat → Nat) (ks : Nat → Nat) (os : Nat → Nat) (sd : Nat → Nat) (sts : Nat → Nat) (kp : Nat) (tk : Nat → Nat) (tp : Nat → Nat) (tn : Nat) (fr : Nat) (to : Nat) (vl : Nat) (wr : Nat) (bo : Nat → Nat) (so : Nat → Nat) (nm : Nat → Int64) (mv : Nat → Int64) (mn : Nat) (yr : Nat) (gr : Nat → Nat) (kd : Nat → Nat) (pt : Nat → Nat) (wt : Nat → Nat) (mr : Nat → Nat) (c : Nat) (hB : PB gr kd pt wt mr (sumN gr 12) yr mn) (hc : c < 8) : Ct g yX4_takesOf cX4_takesOf 3 (some .int) (rk 3 65) [.ref (a 0), .int (nI c)] (mdV g a (sF mn yr gr kd pt wt mr) ks os sd sts kp tk tp tn fr to vl wr bo so nm mv) (fun r w2 => r = some (.int (nI (min (wantsN kd wt yr c) (sumN gr 12)))) ∧ w2 = (mdV g a (sF mn yr gr kd pt wt mr) ks os sd sts kp tk tp tn fr to vl wr bo so nm mv)) := by
  refine ct_of (by decide) (Nat.le_of_ble_eq_true rfl) ?_
  intro φ C0 Rr
  have C : Cx φ g cX4_takesOf 3 RX4 (rk 3 65) := C0
  show Go φ g 3 0 [(0, .ref (a 0)), (1, .int (nI c))] [] (mdV g a (sF mn yr gr kd pt wt mr) ks os sd sts kp tk tp tn fr to vl wr bo so nm mv)
  obtain ⟨-, hTle, hgr, hkd, hpt, hwt, hmr, hyr, hmn⟩ := id hB
  have hw := wantsN_le (kd := kd) (yr := yr) (hwt c)
  refine g_aload_n (pc := 0) C dX4_takesOf_0 rfl ?_
  refine g_vxi (pc := 1) (ws2 := (mdV g a (sF mn yr gr kd pt wt mr) ks os sd sts kp tk tp tn fr to vl wr bo so nm mv)) C dX4_takesOf_1 ml_X4_70 mf_X4_all (m_all g a ks os sd sts kp tk tp tn fr to vl wr bo so nm mv mn yr gr kd pt wt mr) ⟨rfl, rfl, (Nat.le_of_ble_eq_true rfl), (Nat.le_of_ble_eq_true rfl)⟩ rfl rfl (Nat.le_of_ble_eq_true rfl) 0 rfl rfl rfl [0, 1, 2, 3, 4, 5, 6, 7, 8, 9, 10, 11] [] [0, 1, 2, 3, 4, 5, 6, 7, 8, 9, 10, 11] rfl rfl rfl rfl (by decide) rfl rfl ?_
  refine g_istore_n (pc := 4) (lv2 := [(0, .ref (a 0)), (1, .int (nI c)), (2, .int (nI (sumN gr 12)))]) C dX4_takesOf_4 rfl (Nat.le_of_ble_eq_true rfl) rfl ?_
  refine g_aload_n (pc := 5) C dX4_takesOf_5 rfl ?_
  refine g_iload_n (pc := 6) C dX4_takesOf_6 rfl ?_
  refine g_vxi (pc := 7) (ws2 := (mdV g a (sF mn yr gr kd pt wt mr) ks os sd sts kp tk tp tn fr to vl wr bo so nm mv)) C dX4_takesOf_7 ml_X4_105 mf_X4_wants (m_wants g a ks os sd sts kp tk tp tn fr to vl wr bo so nm mv mn yr gr kd pt wt mr c hB (by omega)) ⟨rfl, rfl, (Nat.le_of_ble_eq_true rfl), (Nat.le_of_ble_eq_true rfl)⟩ rfl rfl (Nat.le_of_ble_eq_true rfl) 0 rfl rfl rfl [0, 1, 2, 3, 4, 5, 6, 7, 8, 9, 10, 11] [] [0, 1, 2, 3, 4, 5, 6, 7, 8, 9, 10, 11] rfl rfl rfl rfl (by decide) rfl rfl ?_
  refine g_iload_n (pc := 10) C dX4_takesOf_10 rfl ?_
  refine g_icmp_geN (pc := 11) (tgt := 22) C dX4_takesOf_11 (by decide) (by omega) (by omega) (fun c1 => ?_) (fun c1 => ?_)
  · refine g_iload_n (pc := 22) C dX4_takesOf_22 rfl ?_
    exact g_iret C Rr dX4_takesOf_23 ⟨by congr 3; omega, rfl⟩ rfl
  · refine g_aload_n (pc := 14) C dX4_takesOf_14 rfl ?_
    refine g_iload_n (pc := 15) C dX4_takesOf_15 rfl ?_
    refine g_vxi (pc := 16) (ws2 := (mdV g a (sF mn yr gr kd pt wt mr) ks os sd sts kp tk tp tn fr to vl wr bo so nm mv)) C dX4_takesOf_16 ml_X4_105 mf_X4_wants (m_wants g a ks os sd sts kp tk tp tn fr to vl wr bo so nm mv mn yr gr kd pt wt mr c hB (by omega)) ⟨rfl, rfl, (Nat.le_of_ble_eq_true rfl), (Nat.le_of_ble_eq_true rfl)⟩ rfl rfl (Nat.le_of_ble_eq_true rfl) 0 rfl rfl rfl [0, 1, 2, 3, 4, 5, 6, 7, 8, 9, 10, 11] [] [0, 1, 2, 3, 4, 5, 6, 7, 8, 9, 10, 11] rfl rfl rfl rfl (by decide) rfl rfl ?_
    refine g_goto (pc := 19) (tgt := 23) C dX4_takesOf_19 (by decide) ?_
    exact g_iret C Rr dX4_takesOf_23 ⟨by congr 3; omega, rfl⟩ rfl
set_option maxHeartbeats 400000 in
set_option maxRecDepth 100000 in
theorem m_atLeast (g : Gl) (v : Int32)  : Ct g yX4_atLeastNothing cX4_atLeastNothing 1 (some .int) (rk 0 0) [.int v] ([]) (fun r w2 => r = some (.int (if v < 0 then nI 0 else v)) ∧ w2 = []) := by
  refine ct_of (by decide) (Nat.le_of_ble_eq_true rfl) ?_
  intro φ C0 Rr
  have C : Cx φ g cX4_atLeastNothing 1 RX4 (rk 0 0) := C0
  show Go φ g 1 0 [(0, .int v)] [] ([])
  refine g_iload_n (pc := 0) C dX4_atLeastNothing_0 rfl ?_
  refine g_if_ge (pc := 1) (tgt := 8) C dX4_atLeastNothing_1 (by decide) (fun c1 => ?_) (fun c1 => ?_)
  · refine g_iload_n (pc := 8) C dX4_atLeastNothing_8 rfl ?_
    exact g_iret C Rr dX4_atLeastNothing_9 ⟨by rw [if_neg (Int32.not_lt.mpr c1)], rfl⟩ rfl
  · refine g_iconst (pc := 4) (v := nI 0) C dX4_atLeastNothing_4 (by decide) ?_
    refine g_goto (pc := 5) (tgt := 9) C dX4_atLeastNothing_5 (by decide) ?_
    exact g_iret C Rr dX4_atLeastNothing_9 ⟨by rw [if_pos (Int32.not_le.mp c1)], rfl⟩ rfl
set_option maxHeartbeats 400000 in
set_option maxRecDepth 100000 in
theorem m_putsOf (g : Gl) (a : Nat → Nat) (ks : Nat → Nat) (os : Nat → Nat) (sd : Nat → Nat) (sts : Nat → Nat) (kp : Nat) (tk : Nat → Nat) (tp : Nat → Nat) (tn : Nat) (fr : Nat) (to : Nat) (vl : Nat) (wr : Nat) (bo : Nat → Nat) (so : Nat → Nat) (nm : Nat → Int64) (mv : Nat → Int64) (mn : Nat) (yr : Nat) (gr : Nat → Nat) (kd : Nat → Nat) (pt : Nat → Nat) (wt : Nat → Nat) (mr : Nat → Nat) (c : Nat) (t : Nat) (hB : PB gr kd pt wt mr (sumN gr 12) yr mn) (hc : c < 8) (ht : t ≤ 100000) : Ct g yX4_putsOf cX4_putsOf 4 (some .int) (rk 2 43) [.ref (a 0), .int (nI c), .int (nI t)] (mdV g a (sF mn yr gr kd pt wt mr) ks os sd sts kp tk tp tn fr to vl wr bo so nm mv) (fun r w2 => r = some (.int (nI (putsN kd mr c t))) ∧ w2 = (mdV g a (sF mn yr gr kd pt wt mr) ks os sd sts kp tk tp tn fr to vl wr bo so nm mv)) := by
  refine ct_of (by decide) (Nat.le_of_ble_eq_true rfl) ?_
  intro φ C0 Rr
  have C : Cx φ g cX4_putsOf 4 RX4 (rk 2 43) := C0
  show Go φ g 4 0 [(0, .ref (a 0)), (1, .int (nI c)), (2, .int (nI t))] [] (mdV g a (sF mn yr gr kd pt wt mr) ks os sd sts kp tk tp tn fr to vl wr bo so nm mv)
  obtain ⟨-, hTle, hgr, hkd, hpt, hwt, hmr, hyr, hmn⟩ := id hB
  refine g_iload_n (pc := 0) C dX4_putsOf_0 rfl ?_
  refine g_aload_n (pc := 1) C dX4_putsOf_1 rfl ?_
  refine g_iload_n (pc := 2) C dX4_putsOf_2 rfl ?_
  refine g_iconst (pc := 3) (v := nI 3) C dX4_putsOf_3 (by decide) ?_
  refine g_vxi (pc := 4) (ws2 := (mdV g a (sF mn yr gr kd pt wt mr) ks os sd sts kp tk tp tn fr to vl wr bo so nm mv)) C dX4_putsOf_4 ml_X4_102 mf_X4_its (m_its g a ks os sd sts kp tk tp tn fr to vl wr bo so nm mv mn yr gr kd pt wt mr c 3 (by omega) (by omega)) ⟨rfl, rfl, (Nat.le_of_ble_eq_true rfl), (Nat.le_of_ble_eq_true rfl)⟩ rfl rfl (Nat.le_of_ble_eq_true rfl) 0 rfl rfl rfl [0, 1, 2, 3, 4, 5, 6, 7, 8, 9, 10, 11] [] [0, 1, 2, 3, 4, 5, 6, 7, 8, 9, 10, 11] rfl rfl rfl rfl (by decide) rfl rfl ?_
  refine g_top (y := nI (mr c)) rfl ?_
  have b1 := hmr c
  refine g_iaddN (pc := 7) C dX4_putsOf_7 ?_
  refine g_istore_n (pc := 8) (lv2 := [(0, .ref (a 0)), (1, .int (nI c)), (2, .int (nI t)), (3, .int (nI (t + (mr c))))]) C dX4_putsOf_8 rfl (Nat.le_of_ble_eq_true rfl) rfl ?_
  refine g_aload_n (pc := 9) C dX4_putsOf_9 rfl ?_
  refine g_iload_n (pc := 10) C dX4_putsOf_10 rfl ?_
  refine g_iconst (pc := 11) (v := nI 0) C dX4_putsOf_11 (by decide) ?_
  refine g_vxi (pc := 12) (ws2 := (mdV g a (sF mn yr gr kd pt wt mr) ks os sd sts kp tk tp tn fr to vl wr bo so nm mv)) C dX4_putsOf_12 ml_X4_102 mf_X4_its (m_its g a ks os sd sts kp tk tp tn fr to vl wr bo so nm mv mn yr gr kd pt wt mr c 0 (by omega) (by omega)) ⟨rfl, rfl, (Nat.le_of_ble_eq_true rfl), (Nat.le_of_ble_eq_true rfl)⟩ rfl rfl (Nat.le_of_ble_eq_true rfl) 0 rfl rfl rfl [0, 1, 2, 3, 4, 5, 6, 7, 8, 9, 10, 11] [] [0, 1, 2, 3, 4, 5, 6, 7, 8, 9, 10, 11] rfl rfl rfl rfl (by decide) rfl rfl ?_
  refine g_top (y := nI (kd c)) rfl ?_
  have b2 := hkd c
  by_cases c3 : kd c = 2
  · refine g_top (congrArg nI c3) (g_tableIn (pc := 15) (off := 29) (tgt := 44) C dX4_putsOf_15 (by decide) (by decide) (by decide) (by decide) ?_)
    refine g_iload_n (pc := 44) C dX4_putsOf_44 rfl ?_
    refine g_iload_n (pc := 45) C dX4_putsOf_45 rfl ?_
    refine g_bipush (pc := 46) (v := nI 10) C dX4_putsOf_46 (by decide) ?_
    refine g_idivN (pc := 48) C dX4_putsOf_48 (by omega) (by omega) (by omega) ?_
    refine g_iaddN (pc := 49) C dX4_putsOf_49 ?_
    exact g_iret C Rr dX4_putsOf_50 ⟨by simp [putsN, c3], rfl⟩ rfl
  by_cases c4 : kd c = 3
  · refine g_top (congrArg nI c4) (g_tableIn (pc := 15) (off := 36) (tgt := 51) C dX4_putsOf_15 (by decide) (by decide) (by decide) (by decide) ?_)
    refine g_iload_n (pc := 51) C dX4_putsOf_51 rfl ?_
    exact g_iret C Rr dX4_putsOf_52 ⟨by simp [putsN, c3, c4], rfl⟩ rfl
  by_cases c5 : kd c = 4
  · refine g_top (congrArg nI c5) (g_tableIn (pc := 15) (off := 38) (tgt := 53) C dX4_putsOf_15 (by decide) (by decide) (by decide) (by decide) ?_)
    refine g_iload_n (pc := 53) C dX4_putsOf_53 rfl ?_
    refine g_iconst (pc := 54) (v := nI 5) C dX4_putsOf_54 (by decide) ?_
    refine g_isub (pc := 55) C dX4_putsOf_55 ?_
    refine g_s0i (pc := 56) C dX4_putsOf_56 ml_X4_108 mf_X4_atLeastNothing (m_atLeast g ((nI (t + (mr c))) - (nI 5))) ⟨rfl, rfl, (Nat.le_of_ble_eq_true rfl), (Nat.le_of_ble_eq_true rfl)⟩ rfl rfl (Nat.le_of_ble_eq_true rfl) ?_
    refine g_top (y := nI (t + mr c - 5)) (nI_max0 (by omega) (by omega)) ?_
    exact g_iret C Rr dX4_putsOf_59 ⟨by simp [putsN, c3, c4, c5], rfl⟩ rfl
  by_cases c6 : kd c = 5
  · refine g_top (congrArg nI c6) (g_tableIn (pc := 15) (off := 45) (tgt := 60) C dX4_putsOf_15 (by decide) (by decide) (by decide) (by decide) ?_)
    refine g_iload_n (pc := 60) C dX4_putsOf_60 rfl ?_
    refine g_iload_n (pc := 61) C dX4_putsOf_61 rfl ?_
    refine g_bipush (pc := 62) (v := nI 10) C dX4_putsOf_62 (by decide) ?_
    refine g_idivN (pc := 64) C dX4_putsOf_64 (by omega) (by omega) (by omega) ?_
    refine g_iaddN (pc := 65) C dX4_putsOf_65 ?_
    refine g_iload_n (pc := 66) C dX4_putsOf_66 rfl ?_
    refine g_iconst (pc := 67) (v := nI 2) C dX4_putsOf_67 (by decide) ?_
    refine g_idivN (pc := 68) C dX4_putsOf_68 (by omega) (by omega) (by omega) ?_
    refine g_isub (pc := 69) C dX4_putsOf_69 ?_
    refine g_s0i (pc := 70) C dX4_putsOf_70 ml_X4_108 mf_X4_atLeastNothing (m_atLeast g ((nI ((t + (mr c)) + (t / 10))) - (nI (t / 2)))) ⟨rfl, rfl, (Nat.le_of_ble_eq_true rfl), (Nat.le_of_ble_eq_true rfl)⟩ rfl rfl (Nat.le_of_ble_eq_true rfl) ?_
    refine g_top (y := nI (t + mr c + t / 10 - t / 2)) (nI_max0 (by omega) (by omega)) ?_
    exact g_iret C Rr dX4_putsOf_73 ⟨by simp [putsN, c3, c4, c5, c6], rfl⟩ rfl
  refine g_tableOut (pc := 15) (tgt := 74) C dX4_putsOf_15 (by rw [nI_toInt (by omega)]; omega) (by decide) ?_
  refine g_iload_n (pc := 74) C dX4_putsOf_74 rfl ?_
  exact g_iret C Rr dX4_putsOf_75 ⟨by simp [putsN, c3, c4, c5, c6], rfl⟩ rfl
set_option maxHeartbeats 400000 in
set_option maxRecDepth 100000 in
theorem m_whatOf (g : Gl) (a : Nat → Nat) (ks : Nat → Nat) (os : Nat → Nat) (sd : Nat → Nat) (sts : Nat → Nat) (kp : Nat) (tk : Nat → Nat) (tp : Nat → Nat) (tn : Nat) (fr : Nat) (to : Nat) (vl : Nat) (wr : Nat) (bo : Nat → Nat) (so : Nat → Nat) (nm : Nat → Int64) (mv : Nat → Int64) (mn : Nat) (yr : Nat) (gr : Nat → Nat) (kd : Nat → Nat) (pt : Nat → Nat) (wt : Nat → Nat) (mr : Nat → Nat) (c : Nat) (hB : PB gr kd pt wt mr (sumN gr 12) yr mn) (hc : c < 8) : Ct g yX4_whatOf cX4_whatOf 2 (some .int) (rk 2 43) [.ref (a 0), .int (nI c)] (mdV g a (sF mn yr gr kd pt wt mr) ks os sd sts kp tk tp tn fr to vl wr bo so nm mv) (fun r w2 => r = some (.int (nI (whatN kd pt (sumN gr 12) yr c))) ∧ w2 = (mdV g a (sF mn yr gr kd pt wt mr) ks os sd sts kp tk tp tn fr to vl wr bo so nm mv)) := by
  refine ct_of (by decide) (Nat.le_of_ble_eq_true rfl) ?_
  intro φ C0 Rr
  have C : Cx φ g cX4_whatOf 2 RX4 (rk 2 43) := C0
  show Go φ g 2 0 [(0, .ref (a 0)), (1, .int (nI c))] [] (mdV g a (sF mn yr gr kd pt wt mr) ks os sd sts kp tk tp tn fr to vl wr bo so nm mv)
  obtain ⟨-, hTle, hgr, hkd, hpt, hwt, hmr, hyr, hmn⟩ := id hB
  refine g_aload_n (pc := 0) C dX4_whatOf_0 rfl ?_
  refine g_iload_n (pc := 1) C dX4_whatOf_1 rfl ?_
  refine g_iconst (pc := 2) (v := nI 0) C dX4_whatOf_2 (by decide) ?_
  refine g_vxi (pc := 3) (ws2 := (mdV g a (sF mn yr gr kd pt wt mr) ks os sd sts kp tk tp tn fr to vl wr bo so nm mv)) C dX4_whatOf_3 ml_X4_102 mf_X4_its (m_its g a ks os sd sts kp tk tp tn fr to vl wr bo so nm mv mn yr gr kd pt wt mr c 0 (by omega) (by omega)) ⟨rfl, rfl, (Nat.le_of_ble_eq_true rfl), (Nat.le_of_ble_eq_true rfl)⟩ rfl rfl (Nat.le_of_ble_eq_true rfl) 0 rfl rfl rfl [0, 1, 2, 3, 4, 5, 6, 7, 8, 9, 10, 11] [] [0, 1, 2, 3, 4, 5, 6, 7, 8, 9, 10, 11] rfl rfl rfl rfl (by decide) rfl rfl ?_
  refine g_top (y := nI (kd c)) rfl ?_
  have b1 := hkd c
  by_cases c2 : kd c = 3
  · refine g_top (congrArg nI c2) (g_tableIn (pc := 6) (off := 26) (tgt := 32) C dX4_whatOf_6 (by decide) (by decide) (by decide) (by decide) ?_)
    refine g_iconst (pc := 32) (v := nI 0) C dX4_whatOf_32 (by decide) ?_
    exact g_iret C Rr dX4_whatOf_33 ⟨by first | (simp [whatN, c2]; done) | (simp [whatN, c2, Nat.not_lt.mpr c2]), rfl⟩ rfl
  by_cases c3 : kd c = 4
  · refine g_top (congrArg nI c3) (g_tableIn (pc := 6) (off := 28) (tgt := 34) C dX4_whatOf_6 (by decide) (by decide) (by decide) (by decide) ?_)
    refine g_aload_n (pc := 34) C dX4_whatOf_34 rfl ?_
    refine g_get4 (pc := 35) C dX4_whatOf_35 0 rfl 0 (by decide) fl_X4_7 rfl ?_
    refine g_iconst (pc := 38) (v := nI 1) C dX4_whatOf_38 (by decide) ?_
    refine g_ialdM (pc := 39) C dX4_whatOf_39 1 rfl rfl (by omega) (by decide) ?_
    refine g_top (congrArg nI sF_r1) ?_
    refine g_iconst (pc := 40) (v := nI 5) C dX4_whatOf_40 (by decide) ?_
    refine g_iremN (pc := 41) C dX4_whatOf_41 (by omega) (by omega) (by omega) ?_
    refine g_if_neN (pc := 42) (tgt := 49) C dX4_whatOf_42 (by decide) (by omega) (fun c4 => ?_) (fun c4 => ?_)
    · refine g_aload_n (pc := 49) C dX4_whatOf_49 rfl ?_
      refine g_iload_n (pc := 50) C dX4_whatOf_50 rfl ?_
      refine g_iconst (pc := 51) (v := nI 1) C dX4_whatOf_51 (by decide) ?_
      refine g_vxi (pc := 52) (ws2 := (mdV g a (sF mn yr gr kd pt wt mr) ks os sd sts kp tk tp tn fr to vl wr bo so nm mv)) C dX4_whatOf_52 ml_X4_102 mf_X4_its (m_its g a ks os sd sts kp tk tp tn fr to vl wr bo so nm mv mn yr gr kd pt wt mr c 1 (by omega) (by omega)) ⟨rfl, rfl, (Nat.le_of_ble_eq_true rfl), (Nat.le_of_ble_eq_true rfl)⟩ rfl rfl (Nat.le_of_ble_eq_true rfl) 0 rfl rfl rfl [0, 1, 2, 3, 4, 5, 6, 7, 8, 9, 10, 11] [] [0, 1, 2, 3, 4, 5, 6, 7, 8, 9, 10, 11] rfl rfl rfl rfl (by decide) rfl rfl ?_
      refine g_top (y := nI (pt c)) rfl ?_
      have b5 := hpt c
      exact g_iret C Rr dX4_whatOf_55 ⟨by first | (simp [whatN, c2, c3, c4]; done) | (simp [whatN, c2, c3, c4, Nat.not_lt.mpr c4]), rfl⟩ rfl
    · refine g_iconst (pc := 45) (v := nI 3) C dX4_whatOf_45 (by decide) ?_
      refine g_goto (pc := 46) (tgt := 55) C dX4_whatOf_46 (by decide) ?_
      exact g_iret C Rr dX4_whatOf_55 ⟨by first | (simp [whatN, c2, c3, c4]; done) | (simp [whatN, c2, c3, c4, Nat.not_lt.mpr c4]), rfl⟩ rfl
  by_cases c6 : kd c = 5
  · refine g_top (congrArg nI c6) (g_tableIn (pc := 6) (off := 50) (tgt := 56) C dX4_whatOf_6 (by decide) (by decide) (by decide) (by decide) ?_)
    refine g_aload_n (pc := 56) C dX4_whatOf_56 rfl ?_
    refine g_vxi (pc := 57) (ws2 := (mdV g a (sF mn yr gr kd pt wt mr) ks os sd sts kp tk tp tn fr to vl wr bo so nm mv)) C dX4_whatOf_57 ml_X4_70 mf_X4_all (m_all g a ks os sd sts kp tk tp tn fr to vl wr bo so nm mv mn yr gr kd pt wt mr) ⟨rfl, rfl, (Nat.le_of_ble_eq_true rfl), (Nat.le_of_ble_eq_true rfl)⟩ rfl rfl (Nat.le_of_ble_eq_true rfl) 0 rfl rfl rfl [0, 1, 2, 3, 4, 5, 6, 7, 8, 9, 10, 11] [] [0, 1, 2, 3, 4, 5, 6, 7, 8, 9, 10, 11] rfl rfl rfl rfl (by decide) rfl rfl ?_
    refine g_sipush (pc := 60) (v := nI 500) C dX4_whatOf_60 (by decide) ?_
    refine g_icmp_geN (pc := 63) (tgt := 71) C dX4_whatOf_63 (by decide) (by omega) (by omega) (fun c7 => ?_) (fun c7 => ?_)
    · refine g_aload_n (pc := 71) C dX4_whatOf_71 rfl ?_
      refine g_iload_n (pc := 72) C dX4_whatOf_72 rfl ?_
      refine g_iconst (pc := 73) (v := nI 1) C dX4_whatOf_73 (by decide) ?_
      refine g_vxi (pc := 74) (ws2 := (mdV g a (sF mn yr gr kd pt wt mr) ks os sd sts kp tk tp tn fr to vl wr bo so nm mv)) C dX4_whatOf_74 ml_X4_102 mf_X4_its (m_its g a ks os sd sts kp tk tp tn fr to vl wr bo so nm mv mn yr gr kd pt wt mr c 1 (by omega) (by omega)) ⟨rfl, rfl, (Nat.le_of_ble_eq_true rfl), (Nat.le_of_ble_eq_true rfl)⟩ rfl rfl (Nat.le_of_ble_eq_true rfl) 0 rfl rfl rfl [0, 1, 2, 3, 4, 5, 6, 7, 8, 9, 10, 11] [] [0, 1, 2, 3, 4, 5, 6, 7, 8, 9, 10, 11] rfl rfl rfl rfl (by decide) rfl rfl ?_
      refine g_top (y := nI (pt c)) rfl ?_
      have b8 := hpt c
      exact g_iret C Rr dX4_whatOf_77 ⟨by first | (simp [whatN, c2, c3, c6, c7]; done) | (simp [whatN, c2, c3, c6, c7, Nat.not_lt.mpr c7]), rfl⟩ rfl
    · refine g_bipush (pc := 66) (v := nI 11) C dX4_whatOf_66 (by decide) ?_
      refine g_goto (pc := 68) (tgt := 77) C dX4_whatOf_68 (by decide) ?_
      exact g_iret C Rr dX4_whatOf_77 ⟨by first | (simp [whatN, c2, c3, c6, c7]; done) | (simp [whatN, c2, c3, c6, c7, Nat.not_lt.mpr c7]), rfl⟩ rfl
  refine g_tableOut (pc := 6) (tgt := 78) C dX4_whatOf_6 (by rw [nI_toInt (by omega)]; omega) (by decide) ?_
  refine g_aload_n (pc := 78) C dX4_whatOf_78 rfl ?_
  refine g_iload_n (pc := 79) C dX4_whatOf_79 rfl ?_
  refine g_iconst (pc := 80) (v := nI 1) C dX4_whatOf_80 (by decide) ?_
  refine g_vxi (pc := 81) (ws2 := (mdV g a (sF mn yr gr kd pt wt mr) ks os sd sts kp tk tp tn fr to vl wr bo so nm mv)) C dX4_whatOf_81 ml_X4_102 mf_X4_its (m_its g a ks os sd sts kp tk tp tn fr to vl wr bo so nm mv mn yr gr kd pt wt mr c 1 (by omega) (by omega)) ⟨rfl, rfl, (Nat.le_of_ble_eq_true rfl), (Nat.le_of_ble_eq_true rfl)⟩ rfl rfl (Nat.le_of_ble_eq_true rfl) 0 rfl rfl rfl [0, 1, 2, 3, 4, 5, 6, 7, 8, 9, 10, 11] [] [0, 1, 2, 3, 4, 5, 6, 7, 8, 9, 10, 11] rfl rfl rfl rfl (by decide) rfl rfl ?_
  refine g_top (y := nI (pt c)) rfl ?_
  have b9 := hpt c
  exact g_iret C Rr dX4_whatOf_84 ⟨by first | (simp [whatN, c2, c3, c6]; done) | (simp [whatN, c2, c3, c6, Nat.not_lt.mpr c6]), rfl⟩ rfl
set_option maxHeartbeats 400000 in
set_option maxRecDepth 100000 in
theorem m_isUnder (g : Gl) (k : Nat) (o : Nat) (hk : k ≤ 5) (ho : o ≤ 5) : Ct g yX4_isUnder cX4_isUnder 2 (some .boolean) (rk 0 0) [.int (nI k), .int (nI o)] ([]) (fun r w2 => r = some (.int (bI (underN k o))) ∧ w2 = []) := by
  refine ct_of (by decide) (Nat.le_of_ble_eq_true rfl) ?_
  intro φ C0 Rr
  have C : Cx φ g cX4_isUnder 2 RX4 (rk 0 0) := C0
  show Go φ g 2 0 [(0, .int (nI k)), (1, .int (nI o))] [] ([])
  refine g_iload_n (pc := 0) C dX4_isUnder_0 rfl ?_
  refine g_if_eqN (pc := 1) (tgt := 21) C dX4_isUnder_1 (by decide) (by omega) (fun c1 => ?_) (fun c1 => ?_)
  · refine g_iconst (pc := 21) (v := nI 1) C dX4_isUnder_21 (by decide) ?_
    refine g_goto (pc := 22) (tgt := 26) C dX4_isUnder_22 (by decide) ?_
    exact g_zret C Rr dX4_isUnder_26 (by first | rfl | decide) ⟨by rw [bI_t (by unfold underN; omega)], rfl⟩ rfl
  · refine g_iload_n (pc := 4) C dX4_isUnder_4 rfl ?_
    refine g_iload_n (pc := 5) C dX4_isUnder_5 rfl ?_
    refine g_icmp_eqN (pc := 6) (tgt := 21) C dX4_isUnder_6 (by decide) (by omega) (by omega) (fun c2 => ?_) (fun c2 => ?_)
    · refine g_iconst (pc := 21) (v := nI 1) C dX4_isUnder_21 (by decide) ?_
      refine g_goto (pc := 22) (tgt := 26) C dX4_isUnder_22 (by decide) ?_
      exact g_zret C Rr dX4_isUnder_26 (by first | rfl | decide) ⟨by rw [bI_t (by unfold underN; omega)], rfl⟩ rfl
    · refine g_iload_n (pc := 9) C dX4_isUnder_9 rfl ?_
      refine g_iconst (pc := 10) (v := nI 3) C dX4_isUnder_10 (by decide) ?_
      refine g_icmp_leN (pc := 11) (tgt := 25) C dX4_isUnder_11 (by decide) (by omega) (by omega) (fun c3 => ?_) (fun c3 => ?_)
      · refine g_iconst (pc := 25) (v := nI 0) C dX4_isUnder_25 (by decide) ?_
        exact g_zret C Rr dX4_isUnder_26 (by first | rfl | decide) ⟨by rw [bI_f (by unfold underN; omega)], rfl⟩ rfl
      · refine g_iload_n (pc := 14) C dX4_isUnder_14 rfl ?_
        refine g_iconst (pc := 15) (v := nI 3) C dX4_isUnder_15 (by decide) ?_
        refine g_isubN (pc := 16) C dX4_isUnder_16 (by omega) ?_
        refine g_iload_n (pc := 17) C dX4_isUnder_17 rfl ?_
        refine g_icmp_neN (pc := 18) (tgt := 25) C dX4_isUnder_18 (by decide) (by omega) (by omega) (fun c4 => ?_) (fun c4 => ?_)
        · refine g_iconst (pc := 25) (v := nI 0) C dX4_isUnder_25 (by decide) ?_
          exact g_zret C Rr dX4_isUnder_26 (by first | rfl | decide) ⟨by rw [bI_f (by unfold underN; omega)], rfl⟩ rfl
        · refine g_iconst (pc := 21) (v := nI 1) C dX4_isUnder_21 (by decide) ?_
          refine g_goto (pc := 22) (tgt := 26) C dX4_isUnder_22 (by decide) ?_
          exact g_zret C Rr dX4_isUnder_26 (by first | rfl | decide) ⟨by rw [bI_t (by unfold underN; omega)], rfl⟩ rfl
set_option maxHeartbeats 400000 in
set_option maxRecDepth 100000 in
theorem m_swaps (g : Gl) (a : Nat → Nat) (ks : Nat → Nat) (os : Nat → Nat) (sd : Nat → Nat) (sts : Nat → Nat) (kp : Nat) (tk : Nat → Nat) (tp : Nat → Nat) (tn : Nat) (fr : Nat) (to : Nat) (vl : Nat) (wr : Nat) (bo : Nat → Nat) (so : Nat → Nat) (nm : Nat → Int64) (mv : Nat → Int64) (mn : Nat) (yr : Nat) (gr : Nat → Nat) (kd : Nat → Nat) (pt : Nat → Nat) (wt : Nat → Nat) (mr : Nat → Nat) (c : Nat) (o : Nat) (hc : c < 8) (ho : o < 8) : Ct g yX4_swaps cX4_swaps 5 none (rk 2 43) [.ref (a 0), .int (nI c), .int (nI o)] (mdV g a (sF mn yr gr kd pt wt mr) ks os sd sts kp tk tp tn fr to vl wr bo so nm mv) (fun r w2 => r = none ∧ w2 = (mdV g a (sF mn yr gr (exchN kd c o) (exchN pt c o) (exchN wt c o) (exchN mr c o)) ks os sd sts kp tk tp tn fr to vl wr bo so nm mv)) := by
  refine ct_of (by decide) (Nat.le_of_ble_eq_true rfl) ?_
  intro φ C0 Rr
  have C : Cx φ g cX4_swaps 5 RX4 (rk 2 43) := C0
  show Go φ g 5 0 [(0, .ref (a 0)), (1, .int (nI c)), (2, .int (nI o))] [] (mdV g a (sF mn yr gr kd pt wt mr) ks os sd sts kp tk tp tn fr to vl wr bo so nm mv)
  refine g_iconst (pc := 0) (v := nI 0) C dX4_swaps_0 (by decide) ?_
  refine g_istore_n (pc := 1) (lv2 := [(0, .ref (a 0)), (1, .int (nI c)), (2, .int (nI o)), (3, .int (nI 0))]) C dX4_swaps_1 rfl (Nat.le_of_ble_eq_true rfl) rfl ?_
  refine g_iload_n (pc := 2) C dX4_swaps_2 rfl ?_
  refine g_iconst (pc := 3) (v := nI 4) C dX4_swaps_3 (by decide) ?_
  refine g_icmp_geN (pc := 4) (tgt := 42) C dX4_swaps_4 (by decide) (by decide) (by decide) (fun h => absurd h (by decide)) (fun _ => ?_)
  refine g_aload_n (pc := 7) C dX4_swaps_7 rfl ?_
  refine g_iload_n (pc := 8) C dX4_swaps_8 rfl ?_
  refine g_iload_n (pc := 9) C dX4_swaps_9 rfl ?_
  refine g_s0i (pc := 10) C dX4_swaps_10 ml_X4_57 mf_X4_spotOf (m_spotOf g c 0) ⟨rfl, rfl, (Nat.le_of_ble_eq_true rfl), (Nat.le_of_ble_eq_true rfl)⟩ rfl rfl (Nat.le_of_ble_eq_true rfl) ?_
  refine g_aload_n (pc := 13) C dX4_swaps_13 rfl ?_
  refine g_iload_n (pc := 14) C dX4_swaps_14 rfl ?_
  refine g_iload_n (pc := 15) C dX4_swaps_15 rfl ?_
  refine g_vxi (pc := 16) (ws2 := (mdV g a (sF mn yr gr kd pt wt mr) ks os sd sts kp tk tp tn fr to vl wr bo so nm mv)) C dX4_swaps_16 ml_X4_102 mf_X4_its (m_its g a ks os sd sts kp tk tp tn fr to vl wr bo so nm mv mn yr gr kd pt wt mr o 0 (by omega) (by omega)) ⟨rfl, rfl, (Nat.le_of_ble_eq_true rfl), (Nat.le_of_ble_eq_true rfl)⟩ rfl rfl (Nat.le_of_ble_eq_true rfl) 0 rfl rfl rfl [0, 1, 2, 3, 4, 5, 6, 7, 8, 9, 10, 11] [] [0, 1, 2, 3, 4, 5, 6, 7, 8, 9, 10, 11] rfl rfl rfl rfl (by decide) rfl rfl ?_
  refine g_top (y := nI (kd o)) rfl ?_
  refine g_vxi (pc := 19) (ws2 := (mdV g a (updN (sF mn yr gr kd pt wt mr) (14 + 4 * c + 0) (kd o)) ks os sd sts kp tk tp tn fr to vl wr bo so nm mv)) C dX4_swaps_19 ml_X4_76 mf_X4_becomes (m_becomes g a (sF mn yr gr kd pt wt mr) ks os sd sts kp tk tp tn fr to vl wr bo so nm mv (14 + 4 * c + 0) (kd o) (by omega)) ⟨rfl, rfl, (Nat.le_of_ble_eq_true rfl), (Nat.le_of_ble_eq_true rfl)⟩ rfl rfl (Nat.le_of_ble_eq_true rfl) 0 rfl rfl rfl [0, 1, 2, 3, 4, 5, 6, 7, 8, 9, 10, 11] [] [0, 1, 2, 3, 4, 5, 6, 7, 8, 9, 10, 11] rfl rfl rfl rfl (by decide) rfl rfl ?_
  refine g_ws (ws := (mdV g a (updN (sF mn yr gr kd pt wt mr) (14 + 4 * c + 0) (kd o)) ks os sd sts kp tk tp tn fr to vl wr bo so nm mv)) (ws2 := (mdV g a (sF mn yr gr (updN kd c (kd o)) pt wt mr) ks os sd sts kp tk tp tn fr to vl wr bo so nm mv)) (by rw [sF_wk]) ?_
  refine g_top (y := nI (kd c)) (congrArg nI sF_rk) ?_
  refine g_istore (pc := 22) (lv2 := [(0, .ref (a 0)), (1, .int (nI c)), (2, .int (nI o)), (3, .int (nI 0)), (4, .int (nI (kd c)))]) C dX4_swaps_22 (Nat.le_of_ble_eq_true rfl) rfl ?_
  refine g_aload_n (pc := 24) C dX4_swaps_24 rfl ?_
  refine g_get4 (pc := 25) C dX4_swaps_25 0 rfl 0 (by decide) fl_X4_7 rfl ?_
  refine g_iload_n (pc := 28) C dX4_swaps_28 rfl ?_
  refine g_iload_n (pc := 29) C dX4_swaps_29 rfl ?_
  refine g_s0i (pc := 30) C dX4_swaps_30 ml_X4_57 mf_X4_spotOf (m_spotOf g o 0) ⟨rfl, rfl, (Nat.le_of_ble_eq_true rfl), (Nat.le_of_ble_eq_true rfl)⟩ rfl rfl (Nat.le_of_ble_eq_true rfl) ?_
  refine g_iload (pc := 33) C dX4_swaps_33 rfl ?_
  refine g_iastM (pc := 35) (ws2 := _) C dX4_swaps_35 1 rfl rfl (by omega) (by decide) rfl ?_
  refine g_ws (ws := (mdV g a (updN (sF mn yr gr (updN kd c (kd o)) pt wt mr) (14 + 4 * o + 0) (kd c)) ks os sd sts kp tk tp tn fr to vl wr bo so nm mv)) (ws2 := (mdV g a (sF mn yr gr (updN (updN kd c (kd o)) o (kd c)) pt wt mr) ks os sd sts kp tk tp tn fr to vl wr bo so nm mv)) (by rw [sF_wk]) ?_
  refine g_iinc (pc := 36) (v := (nI 1)) (lv2 := [(0, .ref (a 0)), (1, .int (nI c)), (2, .int (nI o)), (3, .int (nI 1)), (4, .int (nI (kd c)))]) C dX4_swaps_36 rfl (by decide) (Nat.le_of_ble_eq_true rfl) rfl ?_
  refine g_goto (pc := 39) (tgt := 2) C dX4_swaps_39 (by decide) ?_
  refine g_iload_n (pc := 2) C dX4_swaps_2 rfl ?_
  refine g_iconst (pc := 3) (v := nI 4) C dX4_swaps_3 (by decide) ?_
  refine g_icmp_geN (pc := 4) (tgt := 42) C dX4_swaps_4 (by decide) (by decide) (by decide) (fun h => absurd h (by decide)) (fun _ => ?_)
  refine g_aload_n (pc := 7) C dX4_swaps_7 rfl ?_
  refine g_iload_n (pc := 8) C dX4_swaps_8 rfl ?_
  refine g_iload_n (pc := 9) C dX4_swaps_9 rfl ?_
  refine g_s0i (pc := 10) C dX4_swaps_10 ml_X4_57 mf_X4_spotOf (m_spotOf g c 1) ⟨rfl, rfl, (Nat.le_of_ble_eq_true rfl), (Nat.le_of_ble_eq_true rfl)⟩ rfl rfl (Nat.le_of_ble_eq_true rfl) ?_
  refine g_aload_n (pc := 13) C dX4_swaps_13 rfl ?_
  refine g_iload_n (pc := 14) C dX4_swaps_14 rfl ?_
  refine g_iload_n (pc := 15) C dX4_swaps_15 rfl ?_
  refine g_vxi (pc := 16) (ws2 := (mdV g a (sF mn yr gr (updN (updN kd c (kd o)) o (kd c)) pt wt mr) ks os sd sts kp tk tp tn fr to vl wr bo so nm mv)) C dX4_swaps_16 ml_X4_102 mf_X4_its (m_its g a ks os sd sts kp tk tp tn fr to vl wr bo so nm mv mn yr gr (updN (updN kd c (kd o)) o (kd c)) pt wt mr o 1 (by omega) (by omega)) ⟨rfl, rfl, (Nat.le_of_ble_eq_true rfl), (Nat.le_of_ble_eq_true rfl)⟩ rfl rfl (Nat.le_of_ble_eq_true rfl) 0 rfl rfl rfl [0, 1, 2, 3, 4, 5, 6, 7, 8, 9, 10, 11] [] [0, 1, 2, 3, 4, 5, 6, 7, 8, 9, 10, 11] rfl rfl rfl rfl (by decide) rfl rfl ?_
  refine g_top (y := nI (pt o)) rfl ?_
  refine g_vxi (pc := 19) (ws2 := (mdV g a (updN (sF mn yr gr (updN (updN kd c (kd o)) o (kd c)) pt wt mr) (14 + 4 * c + 1) (pt o)) ks os sd sts kp tk tp tn fr to vl wr bo so nm mv)) C dX4_swaps_19 ml_X4_76 mf_X4_becomes (m_becomes g a (sF mn yr gr (updN (updN kd c (kd o)) o (kd c)) pt wt mr) ks os sd sts kp tk tp tn fr to vl wr bo so nm mv (14 + 4 * c + 1) (pt o) (by omega)) ⟨rfl, rfl, (Nat.le_of_ble_eq_true rfl), (Nat.le_of_ble_eq_true rfl)⟩ rfl rfl (Nat.le_of_ble_eq_true rfl) 0 rfl rfl rfl [0, 1, 2, 3, 4, 5, 6, 7, 8, 9, 10, 11] [] [0, 1, 2, 3, 4, 5, 6, 7, 8, 9, 10, 11] rfl rfl rfl rfl (by decide) rfl rfl ?_
  refine g_ws (ws := (mdV g a (updN (sF mn yr gr (updN (updN kd c (kd o)) o (kd c)) pt wt mr) (14 + 4 * c + 1) (pt o)) ks os sd sts kp tk tp tn fr to vl wr bo so nm mv)) (ws2 := (mdV g a (sF mn yr gr (updN (updN kd c (kd o)) o (kd c)) (updN pt c (pt o)) wt mr) ks os sd sts kp tk tp tn fr to vl wr bo so nm mv)) (by rw [sF_wp]) ?_
  refine g_top (y := nI (pt c)) (congrArg nI sF_rp) ?_
  refine g_istore (pc := 22) (lv2 := [(0, .ref (a 0)), (1, .int (nI c)), (2, .int (nI o)), (3, .int (nI 1)), (4, .int (nI (pt c)))]) C dX4_swaps_22 (Nat.le_of_ble_eq_true rfl) rfl ?_
  refine g_aload_n (pc := 24) C dX4_swaps_24 rfl ?_
  refine g_get4 (pc := 25) C dX4_swaps_25 0 rfl 0 (by decide) fl_X4_7 rfl ?_
  refine g_iload_n (pc := 28) C dX4_swaps_28 rfl ?_
  refine g_iload_n (pc := 29) C dX4_swaps_29 rfl ?_
  refine g_s0i (pc := 30) C dX4_swaps_30 ml_X4_57 mf_X4_spotOf (m_spotOf g o 1) ⟨rfl, rfl, (Nat.le_of_ble_eq_true rfl), (Nat.le_of_ble_eq_true rfl)⟩ rfl rfl (Nat.le_of_ble_eq_true rfl) ?_
  refine g_iload (pc := 33) C dX4_swaps_33 rfl ?_
  refine g_iastM (pc := 35) (ws2 := _) C dX4_swaps_35 1 rfl rfl (by omega) (by decide) rfl ?_
  refine g_ws (ws := (mdV g a (updN (sF mn yr gr (updN (updN kd c (kd o)) o (kd c)) (updN pt c (pt o)) wt mr) (14 + 4 * o + 1) (pt c)) ks os sd sts kp tk tp tn fr to vl wr bo so nm mv)) (ws2 := (mdV g a (sF mn yr gr (updN (updN kd c (kd o)) o (kd c)) (updN (updN pt c (pt o)) o (pt c)) wt mr) ks os sd sts kp tk tp tn fr to vl wr bo so nm mv)) (by rw [sF_wp]) ?_
  refine g_iinc (pc := 36) (v := (nI 2)) (lv2 := [(0, .ref (a 0)), (1, .int (nI c)), (2, .int (nI o)), (3, .int (nI 2)), (4, .int (nI (pt c)))]) C dX4_swaps_36 rfl (by decide) (Nat.le_of_ble_eq_true rfl) rfl ?_
  refine g_goto (pc := 39) (tgt := 2) C dX4_swaps_39 (by decide) ?_
  refine g_iload_n (pc := 2) C dX4_swaps_2 rfl ?_
  refine g_iconst (pc := 3) (v := nI 4) C dX4_swaps_3 (by decide) ?_
  refine g_icmp_geN (pc := 4) (tgt := 42) C dX4_swaps_4 (by decide) (by decide) (by decide) (fun h => absurd h (by decide)) (fun _ => ?_)
  refine g_aload_n (pc := 7) C dX4_swaps_7 rfl ?_
  refine g_iload_n (pc := 8) C dX4_swaps_8 rfl ?_
  refine g_iload_n (pc := 9) C dX4_swaps_9 rfl ?_
  refine g_s0i (pc := 10) C dX4_swaps_10 ml_X4_57 mf_X4_spotOf (m_spotOf g c 2) ⟨rfl, rfl, (Nat.le_of_ble_eq_true rfl), (Nat.le_of_ble_eq_true rfl)⟩ rfl rfl (Nat.le_of_ble_eq_true rfl) ?_
  refine g_aload_n (pc := 13) C dX4_swaps_13 rfl ?_
  refine g_iload_n (pc := 14) C dX4_swaps_14 rfl ?_
  refine g_iload_n (pc := 15) C dX4_swaps_15 rfl ?_
  refine g_vxi (pc := 16) (ws2 := (mdV g a (sF mn yr gr (updN (updN kd c (kd o)) o (kd c)) (updN (updN pt c (pt o)) o (pt c)) wt mr) ks os sd sts kp tk tp tn fr to vl wr bo so nm mv)) C dX4_swaps_16 ml_X4_102 mf_X4_its (m_its g a ks os sd sts kp tk tp tn fr to vl wr bo so nm mv mn yr gr (updN (updN kd c (kd o)) o (kd c)) (updN (updN pt c (pt o)) o (pt c)) wt mr o 2 (by omega) (by omega)) ⟨rfl, rfl, (Nat.le_of_ble_eq_true rfl), (Nat.le_of_ble_eq_true rfl)⟩ rfl rfl (Nat.le_of_ble_eq_true rfl) 0 rfl rfl rfl [0, 1, 2, 3, 4, 5, 6, 7, 8, 9, 10, 11] [] [0, 1, 2, 3, 4, 5, 6, 7, 8, 9, 10, 11] rfl rfl rfl rfl (by decide) rfl rfl ?_
  refine g_top (y := nI (wt o)) rfl ?_
  refine g_vxi (pc := 19) (ws2 := (mdV g a (updN (sF mn yr gr (updN (updN kd c (kd o)) o (kd c)) (updN (updN pt c (pt o)) o (pt c)) wt mr) (14 + 4 * c + 2) (wt o)) ks os sd sts kp tk tp tn fr to vl wr bo so nm mv)) C dX4_swaps_19 ml_X4_76 mf_X4_becomes (m_becomes g a (sF mn yr gr (updN (updN kd c (kd o)) o (kd c)) (updN (updN pt c (pt o)) o (pt c)) wt mr) ks os sd sts kp tk tp tn fr to vl wr bo so nm mv (14 + 4 * c + 2) (wt o) (by omega)) ⟨rfl, rfl, (Nat.le_of_ble_eq_true rfl), (Nat.le_of_ble_eq_true rfl)⟩ rfl rfl (Nat.le_of_ble_eq_true rfl) 0 rfl rfl rfl [0, 1, 2, 3, 4, 5, 6, 7, 8, 9, 10, 11] [] [0, 1, 2, 3, 4, 5, 6, 7, 8, 9, 10, 11] rfl rfl rfl rfl (by decide) rfl rfl ?_
  refine g_ws (ws := (mdV g a (updN (sF mn yr gr (updN (updN kd c (kd o)) o (kd c)) (updN (updN pt c (pt o)) o (pt c)) wt mr) (14 + 4 * c + 2) (wt o)) ks os sd sts kp tk tp tn fr to vl wr bo so nm mv)) (ws2 := (mdV g a (sF mn yr gr (updN (updN kd c (kd o)) o (kd c)) (updN (updN pt c (pt o)) o (pt c)) (updN wt c (wt o)) mr) ks os sd sts kp tk tp tn fr to vl wr bo so nm mv)) (by rw [sF_ww]) ?_
  refine g_top (y := nI (wt c)) (congrArg nI sF_rw) ?_
  refine g_istore (pc := 22) (lv2 := [(0, .ref (a 0)), (1, .int (nI c)), (2, .int (nI o)), (3, .int (nI 2)), (4, .int (nI (wt c)))]) C dX4_swaps_22 (Nat.le_of_ble_eq_true rfl) rfl ?_
  refine g_aload_n (pc := 24) C dX4_swaps_24 rfl ?_
  refine g_get4 (pc := 25) C dX4_swaps_25 0 rfl 0 (by decide) fl_X4_7 rfl ?_
  refine g_iload_n (pc := 28) C dX4_swaps_28 rfl ?_
  refine g_iload_n (pc := 29) C dX4_swaps_29 rfl ?_
  refine g_s0i (pc := 30) C dX4_swaps_30 ml_X4_57 mf_X4_spotOf (m_spotOf g o 2) ⟨rfl, rfl, (Nat.le_of_ble_eq_true rfl), (Nat.le_of_ble_eq_true rfl)⟩ rfl rfl (Nat.le_of_ble_eq_true rfl) ?_
  refine g_iload (pc := 33) C dX4_swaps_33 rfl ?_
  refine g_iastM (pc := 35) (ws2 := _) C dX4_swaps_35 1 rfl rfl (by omega) (by decide) rfl ?_
  refine g_ws (ws := (mdV g a (updN (sF mn yr gr (updN (updN kd c (kd o)) o (kd c)) (updN (updN pt c (pt o)) o (pt c)) (updN wt c (wt o)) mr) (14 + 4 * o + 2) (wt c)) ks os sd sts kp tk tp tn fr to vl wr bo so nm mv)) (ws2 := (mdV g a (sF mn yr gr (updN (updN kd c (kd o)) o (kd c)) (updN (updN pt c (pt o)) o (pt c)) (updN (updN wt c (wt o)) o (wt c)) mr) ks os sd sts kp tk tp tn fr to vl wr bo so nm mv)) (by rw [sF_ww]) ?_
  refine g_iinc (pc := 36) (v := (nI 3)) (lv2 := [(0, .ref (a 0)), (1, .int (nI c)), (2, .int (nI o)), (3, .int (nI 3)), (4, .int (nI (wt c)))]) C dX4_swaps_36 rfl (by decide) (Nat.le_of_ble_eq_true rfl) rfl ?_
  refine g_goto (pc := 39) (tgt := 2) C dX4_swaps_39 (by decide) ?_
  refine g_iload_n (pc := 2) C dX4_swaps_2 rfl ?_
  refine g_iconst (pc := 3) (v := nI 4) C dX4_swaps_3 (by decide) ?_
  refine g_icmp_geN (pc := 4) (tgt := 42) C dX4_swaps_4 (by decide) (by decide) (by decide) (fun h => absurd h (by decide)) (fun _ => ?_)
  refine g_aload_n (pc := 7) C dX4_swaps_7 rfl ?_
  refine g_iload_n (pc := 8) C dX4_swaps_8 rfl ?_
  refine g_iload_n (pc := 9) C dX4_swaps_9 rfl ?_
  refine g_s0i (pc := 10) C dX4_swaps_10 ml_X4_57 mf_X4_spotOf (m_spotOf g c 3) ⟨rfl, rfl, (Nat.le_of_ble_eq_true rfl), (Nat.le_of_ble_eq_true rfl)⟩ rfl rfl (Nat.le_of_ble_eq_true rfl) ?_
  refine g_aload_n (pc := 13) C dX4_swaps_13 rfl ?_
  refine g_iload_n (pc := 14) C dX4_swaps_14 rfl ?_
  refine g_iload_n (pc := 15) C dX4_swaps_15 rfl ?_
  refine g_vxi (pc := 16) (ws2 := (mdV g a (sF mn yr gr (updN (updN kd c (kd o)) o (kd c)) (updN (updN pt c (pt o)) o (pt c)) (updN (updN wt c (wt o)) o (wt c)) mr) ks os sd sts kp tk tp tn fr to vl wr bo so nm mv)) C dX4_swaps_16 ml_X4_102 mf_X4_its (m_its g a ks os sd sts kp tk tp tn fr to vl wr bo so nm mv mn yr gr (updN (updN kd c (kd o)) o (kd c)) (updN (updN pt c (pt o)) o (pt c)) (updN (updN wt c (wt o)) o (wt c)) mr o 3 (by omega) (by omega)) ⟨rfl, rfl, (Nat.le_of_ble_eq_true rfl), (Nat.le_of_ble_eq_true rfl)⟩ rfl rfl (Nat.le_of_ble_eq_true rfl) 0 rfl rfl rfl [0, 1, 2, 3, 4, 5, 6, 7, 8, 9, 10, 11] [] [0, 1, 2, 3, 4, 5, 6, 7, 8, 9, 10, 11] rfl rfl rfl rfl (by decide) rfl rfl ?_
  refine g_top (y := nI (mr o)) rfl ?_
  refine g_vxi (pc := 19) (ws2 := (mdV g a (updN (sF mn yr gr (updN (updN kd c (kd o)) o (kd c)) (updN (updN pt c (pt o)) o (pt c)) (updN (updN wt c (wt o)) o (wt c)) mr) (14 + 4 * c + 3) (mr o)) ks os sd sts kp tk tp tn fr to vl wr bo so nm mv)) C dX4_swaps_19 ml_X4_76 mf_X4_becomes (m_becomes g a (sF mn yr gr (updN (updN kd c (kd o)) o (kd c)) (updN (updN pt c (pt o)) o (pt c)) (updN (updN wt c (wt o)) o (wt c)) mr) ks os sd sts kp tk tp tn fr to vl wr bo so nm mv (14 + 4 * c + 3) (mr o) (by omega)) ⟨rfl, rfl, (Nat.le_of_ble_eq_true rfl), (Nat.le_of_ble_eq_true rfl)⟩ rfl rfl (Nat.le_of_ble_eq_true rfl) 0 rfl rfl rfl [0, 1, 2, 3, 4, 5, 6, 7, 8, 9, 10, 11] [] [0, 1, 2, 3, 4, 5, 6, 7, 8, 9, 10, 11] rfl rfl rfl rfl (by decide) rfl rfl ?_
  refine g_ws (ws := (mdV g a (updN (sF mn yr gr (updN (updN kd c (kd o)) o (kd c)) (updN (updN pt c (pt o)) o (pt c)) (updN (updN wt c (wt o)) o (wt c)) mr) (14 + 4 * c + 3) (mr o)) ks os sd sts kp tk tp tn fr to vl wr bo so nm mv)) (ws2 := (mdV g a (sF mn yr gr (updN (updN kd c (kd o)) o (kd c)) (updN (updN pt c (pt o)) o (pt c)) (updN (updN wt c (wt o)) o (wt c)) (updN mr c (mr o))) ks os sd sts kp tk tp tn fr to vl wr bo so nm mv)) (by rw [sF_wm]) ?_
  refine g_top (y := nI (mr c)) (congrArg nI sF_rm) ?_
  refine g_istore (pc := 22) (lv2 := [(0, .ref (a 0)), (1, .int (nI c)), (2, .int (nI o)), (3, .int (nI 3)), (4, .int (nI (mr c)))]) C dX4_swaps_22 (Nat.le_of_ble_eq_true rfl) rfl ?_
  refine g_aload_n (pc := 24) C dX4_swaps_24 rfl ?_
  refine g_get4 (pc := 25) C dX4_swaps_25 0 rfl 0 (by decide) fl_X4_7 rfl ?_
  refine g_iload_n (pc := 28) C dX4_swaps_28 rfl ?_
  refine g_iload_n (pc := 29) C dX4_swaps_29 rfl ?_
  refine g_s0i (pc := 30) C dX4_swaps_30 ml_X4_57 mf_X4_spotOf (m_spotOf g o 3) ⟨rfl, rfl, (Nat.le_of_ble_eq_true rfl), (Nat.le_of_ble_eq_true rfl)⟩ rfl rfl (Nat.le_of_ble_eq_true rfl) ?_
  refine g_iload (pc := 33) C dX4_swaps_33 rfl ?_
  refine g_iastM (pc := 35) (ws2 := _) C dX4_swaps_35 1 rfl rfl (by omega) (by decide) rfl ?_
  refine g_ws (ws := (mdV g a (updN (sF mn yr gr (updN (updN kd c (kd o)) o (kd c)) (updN (updN pt c (pt o)) o (pt c)) (updN (updN wt c (wt o)) o (wt c)) (updN mr c (mr o))) (14 + 4 * o + 3) (mr c)) ks os sd sts kp tk tp tn fr to vl wr bo so nm mv)) (ws2 := (mdV g a (sF mn yr gr (updN (updN kd c (kd o)) o (kd c)) (updN (updN pt c (pt o)) o (pt c)) (updN (updN wt c (wt o)) o (wt c)) (updN (updN mr c (mr o)) o (mr c))) ks os sd sts kp tk tp tn fr to vl wr bo so nm mv)) (by rw [sF_wm]) ?_
  refine g_iinc (pc := 36) (v := (nI 4)) (lv2 := [(0, .ref (a 0)), (1, .int (nI c)), (2, .int (nI o)), (3, .int (nI 4)), (4, .int (nI (mr c)))]) C dX4_swaps_36 rfl (by decide) (Nat.le_of_ble_eq_true rfl) rfl ?_
  refine g_goto (pc := 39) (tgt := 2) C dX4_swaps_39 (by decide) ?_
  refine g_iload_n (pc := 2) C dX4_swaps_2 rfl ?_
  refine g_iconst (pc := 3) (v := nI 4) C dX4_swaps_3 (by decide) ?_
  refine g_icmp_geN (pc := 4) (tgt := 42) C dX4_swaps_4 (by decide) (by decide) (by decide) (fun _ => ?_) (fun h => absurd h (by decide))
  exact g_vret C Rr dX4_swaps_42 ⟨rfl, rfl⟩ rfl
set_option maxHeartbeats 400000 in
set_option maxRecDepth 100000 in
theorem m_year (g : Gl) (a : Nat → Nat) (ks : Nat → Nat) (os : Nat → Nat) (sd : Nat → Nat) (sts : Nat → Nat) (kp : Nat) (tk : Nat → Nat) (tp : Nat → Nat) (tn : Nat) (fr : Nat) (to : Nat) (vl : Nat) (wr : Nat) (bo : Nat → Nat) (so : Nat → Nat) (nm : Nat → Int64) (mv : Nat → Int64) (mn : Nat) (yr : Nat) (gr : Nat → Nat) (kd : Nat → Nat) (pt : Nat → Nat) (wt : Nat → Nat) (mr : Nat → Nat) (hB : PB gr kd pt wt mr (sumN gr 12) yr mn) : Ct g yX4_year cX4_year 6 none (rk 3 66) [.ref (a 0)] (mdV g a (sF mn yr gr kd pt wt mr) ks os sd sts kp tk tp tn fr to vl wr bo so nm mv) (fun r w2 => ∃ (f : Nat → Nat), r = none ∧ w2 = (mdV g a (sF mn (yr + 1) (yearG kd pt wt mr mn gr yr) kd pt wt mr) ks os sd sts kp f tp tn fr to vl wr bo so nm mv)) := by
  refine ct_of (by decide) (Nat.le_of_ble_eq_true rfl) ?_
  intro φ C0 Rr
  have C : Cx φ g cX4_year 6 RX4 (rk 3 66) := C0
  show Go φ g 6 0 [(0, .ref (a 0))] [] (mdV g a (sF mn yr gr kd pt wt mr) ks os sd sts kp tk tp tn fr to vl wr bo so nm mv)
  obtain ⟨-, hTle, hgr, hkd, hpt, hwt, hmr, hyr, hmn⟩ := id hB
  refine g_aload_n (pc := 0) C dX4_year_0 rfl ?_
  refine g_get4 (pc := 1) C dX4_year_1 0 rfl 0 (by decide) fl_X4_7 rfl ?_
  refine g_iconst (pc := 4) (v := nI 0) C dX4_year_4 (by decide) ?_
  refine g_ialdM (pc := 5) C dX4_year_5 1 rfl rfl (by omega) (by decide) ?_
  refine g_top (congrArg nI sF_r0) ?_
  refine g_if_leN (pc := 6) (tgt := 81) C dX4_year_6 (by decide) (by omega) (fun c1 => ?_) (fun c1 => ?_)
  · refine g_aload_n (pc := 81) C dX4_year_81 rfl ?_
    refine g_get4 (pc := 82) C dX4_year_82 0 rfl 0 (by decide) fl_X4_7 rfl ?_
    refine g_iconst (pc := 85) (v := nI 1) C dX4_year_85 (by decide) ?_
    refine g_dup2 (pc := 86) C dX4_year_86 rfl rfl ?_
    refine g_ialdM (pc := 87) C dX4_year_87 1 rfl rfl (by omega) (by decide) ?_
    refine g_top (congrArg nI sF_r1) ?_
    refine g_iconst (pc := 88) (v := nI 1) C dX4_year_88 (by decide) ?_
    refine g_iaddN (pc := 89) C dX4_year_89 ?_
    refine g_iastM (pc := 90) (ws2 := _) C dX4_year_90 1 rfl rfl (by omega) (by decide) rfl ?_
    refine g_ws (ws := (mdV g a (updN (sF mn yr gr kd pt wt mr) 1 (yr + 1)) ks os sd sts kp tk tp tn fr to vl wr bo so nm mv)) (ws2 := (mdV g a (sF mn (yr + 1) gr kd pt wt mr) ks os sd sts kp tk tp tn fr to vl wr bo so nm mv)) (by rw [sF_w1]) ?_
    exact g_vret C Rr dX4_year_91 ⟨_, rfl, by rw [yearG, if_pos c1]⟩ rfl
  · have hc8 : yr % mn < 8 := by have := Nat.mod_lt yr c1; omega
    have hw2 := wantsN_le (kd := kd) (yr := yr) (hwt (yr % mn))
    have hw : min (wantsN kd wt yr (yr % mn)) (sumN gr 12) ≤ sumN gr 12 := Nat.min_le_right _ _
    have hpu := putsN_le (kd := kd) (t := min (wantsN kd wt yr (yr % mn)) (sumN gr 12)) (hmr (yr % mn))
    have hwl := whatN_lt (kd := kd) (tt := sumN gr 12) (yr := yr) (hpt (yr % mn))
    have hPT := PB_take hB hw
    have hgt := hPT.2.2.1
    refine g_aload_n (pc := 9) C dX4_year_9 rfl ?_
    refine g_get4 (pc := 10) C dX4_year_10 0 rfl 0 (by decide) fl_X4_7 rfl ?_
    refine g_iconst (pc := 13) (v := nI 1) C dX4_year_13 (by decide) ?_
    refine g_ialdM (pc := 14) C dX4_year_14 1 rfl rfl (by omega) (by decide) ?_
    refine g_top (congrArg nI sF_r1) ?_
    refine g_aload_n (pc := 15) C dX4_year_15 rfl ?_
    refine g_get4 (pc := 16) C dX4_year_16 0 rfl 0 (by decide) fl_X4_7 rfl ?_
    refine g_iconst (pc := 19) (v := nI 0) C dX4_year_19 (by decide) ?_
    refine g_ialdM (pc := 20) C dX4_year_20 1 rfl rfl (by omega) (by decide) ?_
    refine g_top (congrArg nI sF_r0) ?_
    refine g_iremN (pc := 21) C dX4_year_21 (by omega) (by omega) (by omega) ?_
    refine g_istore_n (pc := 22) (lv2 := [(0, .ref (a 0)), (1, .int (nI (yr % mn)))]) C dX4_year_22 rfl (Nat.le_of_ble_eq_true rfl) rfl ?_
    refine g_iconst (pc := 23) (v := nI 2) C dX4_year_23 (by decide) ?_
    refine g_aload_n (pc := 24) C dX4_year_24 rfl ?_
    refine g_iload_n (pc := 25) C dX4_year_25 rfl ?_
    refine g_vxi (pc := 26) (ws2 := (mdV g a (sF mn yr gr kd pt wt mr) ks os sd sts kp tk tp tn fr to vl wr bo so nm mv)) C dX4_year_26 ml_X4_119 mf_X4_whatOf (m_whatOf g a ks os sd sts kp tk tp tn fr to vl wr bo so nm mv mn yr gr kd pt wt mr (yr % mn) hB (by omega)) ⟨rfl, rfl, (Nat.le_of_ble_eq_true rfl), (Nat.le_of_ble_eq_true rfl)⟩ rfl rfl (Nat.le_of_ble_eq_true rfl) 0 rfl rfl rfl [0, 1, 2, 3, 4, 5, 6, 7, 8, 9, 10, 11] [] [0, 1, 2, 3, 4, 5, 6, 7, 8, 9, 10, 11] rfl rfl rfl rfl (by decide) rfl rfl ?_
    refine g_iaddN (pc := 29) C dX4_year_29 ?_
    refine g_istore_n (pc := 30) (lv2 := [(0, .ref (a 0)), (1, .int (nI (yr % mn))), (2, .int (nI (2 + (whatN kd pt (sumN gr 12) yr (yr % mn)))))]) C dX4_year_30 rfl (Nat.le_of_ble_eq_true rfl) rfl ?_
    refine g_aload_n (pc := 31) C dX4_year_31 rfl ?_
    refine g_aload_n (pc := 32) C dX4_year_32 rfl ?_
    refine g_iload_n (pc := 33) C dX4_year_33 rfl ?_
    refine g_vxi (pc := 34) (ws2 := (mdV g a (sF mn yr gr kd pt wt mr) ks os sd sts kp tk tp tn fr to vl wr bo so nm mv)) C dX4_year_34 ml_X4_105 mf_X4_wants (m_wants g a ks os sd sts kp tk tp tn fr to vl wr bo so nm mv mn yr gr kd pt wt mr (yr % mn) hB (by omega)) ⟨rfl, rfl, (Nat.le_of_ble_eq_true rfl), (Nat.le_of_ble_eq_true rfl)⟩ rfl rfl (Nat.le_of_ble_eq_true rfl) 0 rfl rfl rfl [0, 1, 2, 3, 4, 5, 6, 7, 8, 9, 10, 11] [] [0, 1, 2, 3, 4, 5, 6, 7, 8, 9, 10, 11] rfl rfl rfl rfl (by decide) rfl rfl ?_
    refine g_vxi (pc := 37) (ws2 := (mdV g a (sF mn yr (takeG gr (sumN gr 12) (min (wantsN kd wt yr (yr % mn)) (sumN gr 12))) kd pt wt mr) ks os sd sts kp (ladN gr (sumN gr 12) (min (wantsN kd wt yr (yr % mn)) (sumN gr 12))) tp tn fr to vl wr bo so nm mv)) C dX4_year_37 ml_X4_87 mf_X4_takesOut (m_takesOut g a ks os sd sts kp tk tp tn fr to vl wr bo so nm mv mn yr gr kd pt wt mr (wantsN kd wt yr (yr % mn)) hB (by omega)) ⟨rfl, rfl, (Nat.le_of_ble_eq_true rfl), (Nat.le_of_ble_eq_true rfl)⟩ rfl rfl (Nat.le_of_ble_eq_true rfl) 0 rfl rfl rfl [0, 1, 2, 3, 4, 5, 6, 7, 8, 9, 10, 11] [] [0, 1, 2, 3, 4, 5, 6, 7, 8, 9, 10, 11] rfl rfl rfl rfl (by decide) rfl rfl ?_
    refine g_istore_n (pc := 40) (lv2 := [(0, .ref (a 0)), (1, .int (nI (yr % mn))), (2, .int (nI (2 + (whatN kd pt (sumN gr 12) yr (yr % mn))))), (3, .int (nI (min (wantsN kd wt yr (yr % mn)) (sumN gr 12))))]) C dX4_year_40 rfl (Nat.le_of_ble_eq_true rfl) rfl ?_
    refine g_aload_n (pc := 41) C dX4_year_41 rfl ?_
    refine g_iload_n (pc := 42) C dX4_year_42 rfl ?_
    refine g_iload_n (pc := 43) C dX4_year_43 rfl ?_
    refine g_vxi (pc := 44) (ws2 := (mdV g a (sF mn yr (takeG gr (sumN gr 12) (min (wantsN kd wt yr (yr % mn)) (sumN gr 12))) kd pt wt mr) ks os sd sts kp (ladN gr (sumN gr 12) (min (wantsN kd wt yr (yr % mn)) (sumN gr 12))) tp tn fr to vl wr bo so nm mv)) C dX4_year_44 ml_X4_116 mf_X4_putsOf (m_putsOf g a ks os sd sts kp (ladN gr (sumN gr 12) (min (wantsN kd wt yr (yr % mn)) (sumN gr 12))) tp tn fr to vl wr bo so nm mv mn yr (takeG gr (sumN gr 12) (min (wantsN kd wt yr (yr % mn)) (sumN gr 12))) kd pt wt mr (yr % mn) (min (wantsN kd wt yr (yr % mn)) (sumN gr 12)) (by rw [take_sum hw rfl]; exact PB_take hB hw) (by omega) (by omega)) ⟨rfl, rfl, (Nat.le_of_ble_eq_true rfl), (Nat.le_of_ble_eq_true rfl)⟩ rfl rfl (Nat.le_of_ble_eq_true rfl) 0 rfl rfl rfl [0, 1, 2, 3, 4, 5, 6, 7, 8, 9, 10, 11] [] [0, 1, 2, 3, 4, 5, 6, 7, 8, 9, 10, 11] rfl rfl rfl rfl (by decide) rfl rfl ?_
    refine g_istore (pc := 47) (lv2 := [(0, .ref (a 0)), (1, .int (nI (yr % mn))), (2, .int (nI (2 + (whatN kd pt (sumN gr 12) yr (yr % mn))))), (3, .int (nI (min (wantsN kd wt yr (yr % mn)) (sumN gr 12)))), (4, .int (nI (putsN kd mr (yr % mn) (min (wantsN kd wt yr (yr % mn)) (sumN gr 12)))))]) C dX4_year_47 (Nat.le_of_ble_eq_true rfl) rfl ?_
    refine g_ldc (pc := 49) (v2 := nI 99999) C dX4_year_49 ck_X4_74 (by decide) ?_
    refine g_aload_n (pc := 51) C dX4_year_51 rfl ?_
    refine g_vxi (pc := 52) (ws2 := (mdV g a (sF mn yr (takeG gr (sumN gr 12) (min (wantsN kd wt yr (yr % mn)) (sumN gr 12))) kd pt wt mr) ks os sd sts kp (ladN gr (sumN gr 12) (min (wantsN kd wt yr (yr % mn)) (sumN gr 12))) tp tn fr to vl wr bo so nm mv)) C dX4_year_52 ml_X4_70 mf_X4_all (m_all g a ks os sd sts kp (ladN gr (sumN gr 12) (min (wantsN kd wt yr (yr % mn)) (sumN gr 12))) tp tn fr to vl wr bo so nm mv mn yr (takeG gr (sumN gr 12) (min (wantsN kd wt yr (yr % mn)) (sumN gr 12))) kd pt wt mr) ⟨rfl, rfl, (Nat.le_of_ble_eq_true rfl), (Nat.le_of_ble_eq_true rfl)⟩ rfl rfl (Nat.le_of_ble_eq_true rfl) 0 rfl rfl rfl [0, 1, 2, 3, 4, 5, 6, 7, 8, 9, 10, 11] [] [0, 1, 2, 3, 4, 5, 6, 7, 8, 9, 10, 11] rfl rfl rfl rfl (by decide) rfl rfl ?_
    refine g_top (y := nI (sumN gr 12 - min (wantsN kd wt yr (yr % mn)) (sumN gr 12))) (congrArg nI (take_sum hw rfl)) ?_
    refine g_isubN (pc := 55) C dX4_year_55 (by omega) ?_
    refine g_istore (pc := 56) (lv2 := [(0, .ref (a 0)), (1, .int (nI (yr % mn))), (2, .int (nI (2 + (whatN kd pt (sumN gr 12) yr (yr % mn))))), (3, .int (nI (min (wantsN kd wt yr (yr % mn)) (sumN gr 12)))), (4, .int (nI (putsN kd mr (yr % mn) (min (wantsN kd wt yr (yr % mn)) (sumN gr 12))))), (5, .int (nI (99999 - (sumN gr 12 - min (wantsN kd wt yr (yr % mn)) (sumN gr 12)))))]) C dX4_year_56 (Nat.le_of_ble_eq_true rfl) rfl ?_
    refine g_aload_n (pc := 58) C dX4_year_58 rfl ?_
    refine g_get4 (pc := 59) C dX4_year_59 0 rfl 0 (by decide) fl_X4_7 rfl ?_
    refine g_iload_n (pc := 62) C dX4_year_62 rfl ?_
    refine g_dup2 (pc := 63) C dX4_year_63 rfl rfl ?_
    refine g_ialdM (pc := 64) C dX4_year_64 1 rfl rfl (by omega) (by decide) ?_
    refine g_top (congrArg nI (sF_rg (by omega))) ?_
    have b2 := hgt (whatN kd pt (sumN gr 12) yr (yr % mn))
    refine g_iload (pc := 65) C dX4_year_65 rfl ?_
    refine g_iload (pc := 67) C dX4_year_67 rfl ?_
    refine g_icmp_geN (pc := 69) (tgt := 77) C dX4_year_69 (by decide) (by omega) (by omega) (fun c3 => ?_) (fun c3 => ?_)
    · refine g_iload (pc := 77) C dX4_year_77 rfl ?_
      refine g_iaddN (pc := 79) C dX4_year_79 ?_
      refine g_top (y := nI (takeG gr (sumN gr 12) (min (wantsN kd wt yr (yr % mn)) (sumN gr 12)) (whatN kd pt (sumN gr 12) yr (yr % mn)) + min (putsN kd mr (yr % mn) (min (wantsN kd wt yr (yr % mn)) (sumN gr 12))) (99999 - (sumN gr 12 - min (wantsN kd wt yr (yr % mn)) (sumN gr 12))))) (by congr 2; omega) ?_
      refine g_iastM (pc := 80) (ws2 := _) C dX4_year_80 1 rfl rfl (by omega) (by decide) rfl ?_
      refine g_ws (ws := (mdV g a (updN (sF mn yr (takeG gr (sumN gr 12) (min (wantsN kd wt yr (yr % mn)) (sumN gr 12))) kd pt wt mr) (2 + (whatN kd pt (sumN gr 12) yr (yr % mn))) (takeG gr (sumN gr 12) (min (wantsN kd wt yr (yr % mn)) (sumN gr 12)) (whatN kd pt (sumN gr 12) yr (yr % mn)) + min (putsN kd mr (yr % mn) (min (wantsN kd wt yr (yr % mn)) (sumN gr 12))) (99999 - (sumN gr 12 - min (wantsN kd wt yr (yr % mn)) (sumN gr 12))))) ks os sd sts kp (ladN gr (sumN gr 12) (min (wantsN kd wt yr (yr % mn)) (sumN gr 12))) tp tn fr to vl wr bo so nm mv)) (ws2 := (mdV g a (sF mn yr (updN (takeG gr (sumN gr 12) (min (wantsN kd wt yr (yr % mn)) (sumN gr 12))) (whatN kd pt (sumN gr 12) yr (yr % mn)) (takeG gr (sumN gr 12) (min (wantsN kd wt yr (yr % mn)) (sumN gr 12)) (whatN kd pt (sumN gr 12) yr (yr % mn)) + min (putsN kd mr (yr % mn) (min (wantsN kd wt yr (yr % mn)) (sumN gr 12))) (99999 - (sumN gr 12 - min (wantsN kd wt yr (yr % mn)) (sumN gr 12))))) kd pt wt mr) ks os sd sts kp (ladN gr (sumN gr 12) (min (wantsN kd wt yr (yr % mn)) (sumN gr 12))) tp tn fr to vl wr bo so nm mv)) (by rw [sF_wg (by omega)]) ?_
      refine g_aload_n (pc := 81) C dX4_year_81 rfl ?_
      refine g_get4 (pc := 82) C dX4_year_82 0 rfl 0 (by decide) fl_X4_7 rfl ?_
      refine g_iconst (pc := 85) (v := nI 1) C dX4_year_85 (by decide) ?_
      refine g_dup2 (pc := 86) C dX4_year_86 rfl rfl ?_
      refine g_ialdM (pc := 87) C dX4_year_87 1 rfl rfl (by omega) (by decide) ?_
      refine g_top (congrArg nI sF_r1) ?_
      refine g_iconst (pc := 88) (v := nI 1) C dX4_year_88 (by decide) ?_
      refine g_iaddN (pc := 89) C dX4_year_89 ?_
      refine g_iastM (pc := 90) (ws2 := _) C dX4_year_90 1 rfl rfl (by omega) (by decide) rfl ?_
      refine g_ws (ws := (mdV g a (updN (sF mn yr (updN (takeG gr (sumN gr 12) (min (wantsN kd wt yr (yr % mn)) (sumN gr 12))) (whatN kd pt (sumN gr 12) yr (yr % mn)) (takeG gr (sumN gr 12) (min (wantsN kd wt yr (yr % mn)) (sumN gr 12)) (whatN kd pt (sumN gr 12) yr (yr % mn)) + min (putsN kd mr (yr % mn) (min (wantsN kd wt yr (yr % mn)) (sumN gr 12))) (99999 - (sumN gr 12 - min (wantsN kd wt yr (yr % mn)) (sumN gr 12))))) kd pt wt mr) 1 (yr + 1)) ks os sd sts kp (ladN gr (sumN gr 12) (min (wantsN kd wt yr (yr % mn)) (sumN gr 12))) tp tn fr to vl wr bo so nm mv)) (ws2 := (mdV g a (sF mn (yr + 1) (updN (takeG gr (sumN gr 12) (min (wantsN kd wt yr (yr % mn)) (sumN gr 12))) (whatN kd pt (sumN gr 12) yr (yr % mn)) (takeG gr (sumN gr 12) (min (wantsN kd wt yr (yr % mn)) (sumN gr 12)) (whatN kd pt (sumN gr 12) yr (yr % mn)) + min (putsN kd mr (yr % mn) (min (wantsN kd wt yr (yr % mn)) (sumN gr 12))) (99999 - (sumN gr 12 - min (wantsN kd wt yr (yr % mn)) (sumN gr 12))))) kd pt wt mr) ks os sd sts kp (ladN gr (sumN gr 12) (min (wantsN kd wt yr (yr % mn)) (sumN gr 12))) tp tn fr to vl wr bo so nm mv)) (by rw [sF_w1]) ?_
      exact g_vret C Rr dX4_year_91 ⟨_, rfl, by rw [yearG, if_neg (by omega)]; rfl⟩ rfl
    · refine g_iload (pc := 72) C dX4_year_72 rfl ?_
      refine g_goto (pc := 74) (tgt := 79) C dX4_year_74 (by decide) ?_
      refine g_iaddN (pc := 79) C dX4_year_79 ?_
      refine g_top (y := nI (takeG gr (sumN gr 12) (min (wantsN kd wt yr (yr % mn)) (sumN gr 12)) (whatN kd pt (sumN gr 12) yr (yr % mn)) + min (putsN kd mr (yr % mn) (min (wantsN kd wt yr (yr % mn)) (sumN gr 12))) (99999 - (sumN gr 12 - min (wantsN kd wt yr (yr % mn)) (sumN gr 12))))) (by congr 2; omega) ?_
      refine g_iastM (pc := 80) (ws2 := _) C dX4_year_80 1 rfl rfl (by omega) (by decide) rfl ?_
      refine g_ws (ws := (mdV g a (updN (sF mn yr (takeG gr (sumN gr 12) (min (wantsN kd wt yr (yr % mn)) (sumN gr 12))) kd pt wt mr) (2 + (whatN kd pt (sumN gr 12) yr (yr % mn))) (takeG gr (sumN gr 12) (min (wantsN kd wt yr (yr % mn)) (sumN gr 12)) (whatN kd pt (sumN gr 12) yr (yr % mn)) + min (putsN kd mr (yr % mn) (min (wantsN kd wt yr (yr % mn)) (sumN gr 12))) (99999 - (sumN gr 12 - min (wantsN kd wt yr (yr % mn)) (sumN gr 12))))) ks os sd sts kp (ladN gr (sumN gr 12) (min (wantsN kd wt yr (yr % mn)) (sumN gr 12))) tp tn fr to vl wr bo so nm mv)) (ws2 := (mdV g a (sF mn yr (updN (takeG gr (sumN gr 12) (min (wantsN kd wt yr (yr % mn)) (sumN gr 12))) (whatN kd pt (sumN gr 12) yr (yr % mn)) (takeG gr (sumN gr 12) (min (wantsN kd wt yr (yr % mn)) (sumN gr 12)) (whatN kd pt (sumN gr 12) yr (yr % mn)) + min (putsN kd mr (yr % mn) (min (wantsN kd wt yr (yr % mn)) (sumN gr 12))) (99999 - (sumN gr 12 - min (wantsN kd wt yr (yr % mn)) (sumN gr 12))))) kd pt wt mr) ks os sd sts kp (ladN gr (sumN gr 12) (min (wantsN kd wt yr (yr % mn)) (sumN gr 12))) tp tn fr to vl wr bo so nm mv)) (by rw [sF_wg (by omega)]) ?_
      refine g_aload_n (pc := 81) C dX4_year_81 rfl ?_
      refine g_get4 (pc := 82) C dX4_year_82 0 rfl 0 (by decide) fl_X4_7 rfl ?_
      refine g_iconst (pc := 85) (v := nI 1) C dX4_year_85 (by decide) ?_
      refine g_dup2 (pc := 86) C dX4_year_86 rfl rfl ?_
      refine g_ialdM (pc := 87) C dX4_year_87 1 rfl rfl (by omega) (by decide) ?_
      refine g_top (congrArg nI sF_r1) ?_
      refine g_iconst (pc := 88) (v := nI 1) C dX4_year_88 (by decide) ?_
      refine g_iaddN (pc := 89) C dX4_year_89 ?_
      refine g_iastM (pc := 90) (ws2 := _) C dX4_year_90 1 rfl rfl (by omega) (by decide) rfl ?_
      refine g_ws (ws := (mdV g a (updN (sF mn yr (updN (takeG gr (sumN gr 12) (min (wantsN kd wt yr (yr % mn)) (sumN gr 12))) (whatN kd pt (sumN gr 12) yr (yr % mn)) (takeG gr (sumN gr 12) (min (wantsN kd wt yr (yr % mn)) (sumN gr 12)) (whatN kd pt (sumN gr 12) yr (yr % mn)) + min (putsN kd mr (yr % mn) (min (wantsN kd wt yr (yr % mn)) (sumN gr 12))) (99999 - (sumN gr 12 - min (wantsN kd wt yr (yr % mn)) (sumN gr 12))))) kd pt wt mr) 1 (yr + 1)) ks os sd sts kp (ladN gr (sumN gr 12) (min (wantsN kd wt yr (yr % mn)) (sumN gr 12))) tp tn fr to vl wr bo so nm mv)) (ws2 := (mdV g a (sF mn (yr + 1) (updN (takeG gr (sumN gr 12) (min (wantsN kd wt yr (yr % mn)) (sumN gr 12))) (whatN kd pt (sumN gr 12) yr (yr % mn)) (takeG gr (sumN gr 12) (min (wantsN kd wt yr (yr % mn)) (sumN gr 12)) (whatN kd pt (sumN gr 12) yr (yr % mn)) + min (putsN kd mr (yr % mn) (min (wantsN kd wt yr (yr % mn)) (sumN gr 12))) (99999 - (sumN gr 12 - min (wantsN kd wt yr (yr % mn)) (sumN gr 12))))) kd pt wt mr) ks os sd sts kp (ladN gr (sumN gr 12) (min (wantsN kd wt yr (yr % mn)) (sumN gr 12))) tp tn fr to vl wr bo so nm mv)) (by rw [sF_w1]) ?_
      exact g_vret C Rr dX4_year_91 ⟨_, rfl, by rw [yearG, if_neg (by omega)]; rfl⟩ rfl
set_option maxHeartbeats 400000 in
set_option maxRecDepth 100000 in
theorem m_yearsGo (g : Gl) (a : Nat → Nat) (ks : Nat → Nat) (os : Nat → Nat) (sd : Nat → Nat) (sts : Nat → Nat) (kp : Nat) (tk : Nat → Nat) (tp : Nat → Nat) (tn : Nat) (fr : Nat) (to : Nat) (vl : Nat) (wr : Nat) (bo : Nat → Nat) (so : Nat → Nat) (nm : Nat → Int64) (mv : Nat → Int64) (mn : Nat) (yr : Nat) (gr : Nat → Nat) (kd : Nat → Nat) (pt : Nat → Nat) (wt : Nat → Nat) (mr : Nat → Nat) (n : Nat) (hB : PB gr kd pt wt mr (sumN gr 12) yr mn) (hn : yr + n ≤ 20000) : Ct g yX4_yearsGo cX4_yearsGo 3 none (rk 4 91) [.ref (a 0), .int (nI n)] (mdV g a (sF mn yr gr kd pt wt mr) ks os sd sts kp tk tp tn fr to vl wr bo so nm mv) (fun r w2 => ∃ (f : Nat → Nat), r = none ∧ w2 = (mdV g a (sF mn (yr + n) (yearsG kd pt wt mr mn gr yr n) kd pt wt mr) ks os sd sts kp f tp tn fr to vl wr bo so nm mv)) := by
  refine ct_of (by decide) (Nat.le_of_ble_eq_true rfl) ?_
  intro φ C0 Rr
  have C : Cx φ g cX4_yearsGo 3 RX4 (rk 4 91) := C0
  show Go φ g 3 0 [(0, .ref (a 0)), (1, .int (nI n))] [] (mdV g a (sF mn yr gr kd pt wt mr) ks os sd sts kp tk tp tn fr to vl wr bo so nm mv)
  obtain ⟨-, hTle, hgr, hkd, hpt, hwt, hmr, hyr, hmn⟩ := id hB
  refine g_iconst (pc := 0) (v := nI 0) C dX4_yearsGo_0 (by decide) ?_
  refine g_istore_n (pc := 1) (lv2 := [(0, .ref (a 0)), (1, .int (nI n)), (2, .int (nI 0))]) C dX4_yearsGo_1 rfl (Nat.le_of_ble_eq_true rfl) rfl ?_
  refine g_loop2 (n := n) (fun i G f => G = yearsG kd pt wt mr mn gr yr i) (fun i G f => [(0, .ref (a 0)), (1, .int (nI n)), (2, .int (nI i))]) (fun i G f => (mdV g a (sF mn (yr + i) G kd pt wt mr) ks os sd sts kp f tp tn fr to vl wr bo so nm mv)) ?_ 0 gr tk (by omega) rfl
  intro i G f hi_i hv_i ih_i
  show Go φ g 3 2 [(0, .ref (a 0)), (1, .int (nI n)), (2, .int (nI i))] [] (mdV g a (sF mn (yr + i) G kd pt wt mr) ks os sd sts kp f tp tn fr to vl wr bo so nm mv)
  have hv_i : G = yearsG kd pt wt mr mn gr yr i := hv_i
  have hBi : PB G kd pt wt mr (sumN G 12) (yr + i) mn := by rw [hv_i]; exact PB_yrs hB i (by omega)
  refine g_iload_n (pc := 2) C dX4_yearsGo_2 rfl ?_
  refine g_iload_n (pc := 3) C dX4_yearsGo_3 rfl ?_
  refine g_icmp_geN (pc := 4) (tgt := 17) C dX4_yearsGo_4 (by decide) (by omega) (by omega) (fun c1 => ?_) (fun c1 => ?_)
  · exact g_vret C Rr dX4_yearsGo_17 ⟨_, rfl, by rw [hv_i, show i = n by omega]⟩ rfl
  · refine g_aload_n (pc := 7) C dX4_yearsGo_7 rfl ?_
    refine g_rV (pc := 8) (rest := []) C dX4_yearsGo_8 ml_X4_138 mf_X4_year (m_year g a ks os sd sts kp f tp tn fr to vl wr bo so nm mv mn (yr + i) G kd pt wt mr hBi) ⟨rfl, rfl, (Nat.le_of_ble_eq_true rfl), (Nat.le_of_ble_eq_true rfl)⟩ rfl rfl (Nat.le_of_ble_eq_true rfl) 0 rfl rfl rfl [0, 1, 2, 3, 4, 5, 6, 7, 8, 9, 10, 11] [] rfl rfl rfl rfl (by decide) ?_
    intro r9 w9 h9
    obtain ⟨f_2, rfl, rfl⟩ := h9
    refine g_sub (ws2 := (mdV g a (sF mn ((yr + i) + 1) (yearG kd pt wt mr mn G (yr + i)) kd pt wt mr) ks os sd sts kp f_2 tp tn fr to vl wr bo so nm mv)) [0, 1, 2, 3, 4, 5, 6, 7, 8, 9, 10, 11] rfl rfl ?_
    show Go φ g 3 11 [(0, .ref (a 0)), (1, .int (nI n)), (2, .int (nI i))] [] (mdV g a (sF mn ((yr + i) + 1) (yearG kd pt wt mr mn G (yr + i)) kd pt wt mr) ks os sd sts kp f_2 tp tn fr to vl wr bo so nm mv)
    refine g_iinc (pc := 11) (v := (nI (i + 1))) (lv2 := [(0, .ref (a 0)), (1, .int (nI n)), (2, .int (nI (i + 1)))]) C dX4_yearsGo_11 rfl (nI_1 _) (Nat.le_of_ble_eq_true rfl) rfl ?_
    refine g_goto (pc := 14) (tgt := 2) C dX4_yearsGo_14 (by decide) ?_
    exact ih_i _ _ (by omega) (by rw [yearsG, ← hv_i])
set_option maxHeartbeats 400000 in
set_option maxRecDepth 100000 in
theorem m_present (g : Gl) (a : Nat → Nat) (ks : Nat → Nat) (os : Nat → Nat) (sd : Nat → Nat) (sts : Nat → Nat) (kp : Nat) (tk : Nat → Nat) (tp : Nat → Nat) (tn : Nat) (fr : Nat) (to : Nat) (vl : Nat) (wr : Nat) (bo : Nat → Nat) (so : Nat → Nat) (nm : Nat → Int64) (mv : Nat → Int64) (mn : Nat) (yr : Nat) (gr : Nat → Nat) (kd : Nat → Nat) (pt : Nat → Nat) (wt : Nat → Nat) (mr : Nat → Nat) (hB : PB gr kd pt wt mr (sumN gr 12) yr mn) : Ct g yX4_present cX4_present 3 (some .int) (rk 0 0) [.ref (a 0)] (mdV g a (sF mn yr gr kd pt wt mr) ks os sd sts kp tk tp tn fr to vl wr bo so nm mv) (fun r w2 => r = some (.int (nI (maskN gr 12))) ∧ w2 = (mdV g a (sF mn yr gr kd pt wt mr) ks os sd sts kp tk tp tn fr to vl wr bo so nm mv)) := by
  refine ct_of (by decide) (Nat.le_of_ble_eq_true rfl) ?_
  intro φ C0 Rr
  have C : Cx φ g cX4_present 3 RX4 (rk 0 0) := C0
  show Go φ g 3 0 [(0, .ref (a 0))] [] (mdV g a (sF mn yr gr kd pt wt mr) ks os sd sts kp tk tp tn fr to vl wr bo so nm mv)
  obtain ⟨-, hTle, hgr, hkd, hpt, hwt, hmr, hyr, hmn⟩ := id hB
  refine g_iconst (pc := 0) (v := nI 0) C dX4_present_0 (by decide) ?_
  refine g_istore_n (pc := 1) (lv2 := [(0, .ref (a 0)), (1, .int (nI 0))]) C dX4_present_1 rfl (Nat.le_of_ble_eq_true rfl) rfl ?_
  refine g_iconst (pc := 2) (v := nI 0) C dX4_present_2 (by decide) ?_
  refine g_istore_n (pc := 3) (lv2 := [(0, .ref (a 0)), (1, .int (nI 0)), (2, .int (nI 0))]) C dX4_present_3 rfl (Nat.le_of_ble_eq_true rfl) rfl ?_
  refine g_loop1 (n := 12) (fun i x => x = maskN gr i) (fun i x => [(0, .ref (a 0)), (1, .int (nI x)), (2, .int (nI i))]) (fun i x => (mdV g a (sF mn yr gr kd pt wt mr) ks os sd sts kp tk tp tn fr to vl wr bo so nm mv)) ?_ 0 0 (by omega) rfl
  intro i x hi_i hv_i ih_i
  show Go φ g 3 4 [(0, .ref (a 0)), (1, .int (nI x)), (2, .int (nI i))] [] (mdV g a (sF mn yr gr kd pt wt mr) ks os sd sts kp tk tp tn fr to vl wr bo so nm mv)
  have hv_i : x = maskN gr i := hv_i
  refine g_iload_n (pc := 4) C dX4_present_4 rfl ?_
  refine g_bipush (pc := 5) (v := nI 12) C dX4_present_5 (by decide) ?_
  refine g_icmp_geN (pc := 7) (tgt := 37) C dX4_present_7 (by decide) (by omega) (by omega) (fun c1 => ?_) (fun c1 => ?_)
  · refine g_iload_n (pc := 37) C dX4_present_37 rfl ?_
    exact g_iret C Rr dX4_present_38 ⟨by rw [hv_i, show i = 12 by omega], rfl⟩ rfl
  · refine g_iload_n (pc := 10) C dX4_present_10 rfl ?_
    refine g_aload_n (pc := 11) C dX4_present_11 rfl ?_
    refine g_get4 (pc := 12) C dX4_present_12 0 rfl 0 (by decide) fl_X4_7 rfl ?_
    refine g_iconst (pc := 15) (v := nI 2) C dX4_present_15 (by decide) ?_
    refine g_iload_n (pc := 16) C dX4_present_16 rfl ?_
    refine g_iaddN (pc := 17) C dX4_present_17 ?_
    refine g_ialdM (pc := 18) C dX4_present_18 1 rfl rfl (by omega) (by decide) ?_
    refine g_top (congrArg nI (sF_rg (by omega))) ?_
    have b2 := hgr i
    refine g_if_leN (pc := 19) (tgt := 28) C dX4_present_19 (by decide) (by omega) (fun c3 => ?_) (fun c3 => ?_)
    · refine g_iconst (pc := 28) (v := nI 0) C dX4_present_28 (by decide) ?_
      refine g_ior (pc := 29) C dX4_present_29 ?_
      refine g_top (y := nI x) (by rw [fa_or, Nat.or_zero]) ?_
      refine g_istore_n (pc := 30) (lv2 := [(0, .ref (a 0)), (1, .int (nI x)), (2, .int (nI i))]) C dX4_present_30 rfl (Nat.le_of_ble_eq_true rfl) rfl ?_
      refine g_iinc (pc := 31) (v := (nI (i + 1))) (lv2 := [(0, .ref (a 0)), (1, .int (nI x)), (2, .int (nI (i + 1)))]) C dX4_present_31 rfl (nI_1 _) (Nat.le_of_ble_eq_true rfl) rfl ?_
      refine g_goto (pc := 34) (tgt := 4) C dX4_present_34 (by decide) ?_
      exact ih_i _ (by omega) (by rw [maskN, ← hv_i, if_neg (by omega), Nat.add_zero])
    · refine g_iconst (pc := 22) (v := nI 1) C dX4_present_22 (by decide) ?_
      refine g_iload_n (pc := 23) C dX4_present_23 rfl ?_
      refine g_ishl (pc := 24) C dX4_present_24 ?_
      refine g_goto (pc := 25) (tgt := 29) C dX4_present_25 (by decide) ?_
      refine g_ior (pc := 29) C dX4_present_29 ?_
      refine g_top (y := nI (x + 2 ^ i)) (nI_setbit (by rw [hv_i]; exact maskN_lt gr i) (by omega)) ?_
      refine g_istore_n (pc := 30) (lv2 := [(0, .ref (a 0)), (1, .int (nI (x + 2 ^ i))), (2, .int (nI i))]) C dX4_present_30 rfl (Nat.le_of_ble_eq_true rfl) rfl ?_
      refine g_iinc (pc := 31) (v := (nI (i + 1))) (lv2 := [(0, .ref (a 0)), (1, .int (nI (x + 2 ^ i))), (2, .int (nI (i + 1)))]) C dX4_present_31 rfl (nI_1 _) (Nat.le_of_ble_eq_true rfl) rfl ?_
      refine g_goto (pc := 34) (tgt := 4) C dX4_present_34 (by decide) ?_
      exact ih_i _ (by omega) (by rw [maskN, ← hv_i, if_pos c3])
set_option maxHeartbeats 400000 in
set_option maxRecDepth 100000 in
theorem m_mostPart (g : Gl) (a : Nat → Nat) (ks : Nat → Nat) (os : Nat → Nat) (sd : Nat → Nat) (sts : Nat → Nat) (kp : Nat) (tk : Nat → Nat) (tp : Nat → Nat) (tn : Nat) (fr : Nat) (to : Nat) (vl : Nat) (wr : Nat) (bo : Nat → Nat) (so : Nat → Nat) (nm : Nat → Int64) (mv : Nat → Int64) (mn : Nat) (yr : Nat) (gr : Nat → Nat) (kd : Nat → Nat) (pt : Nat → Nat) (wt : Nat → Nat) (mr : Nat → Nat) (hB : PB gr kd pt wt mr (sumN gr 12) yr mn) : Ct g yX4_mostPart cX4_mostPart 3 (some .int) (rk 0 0) [.ref (a 0)] (mdV g a (sF mn yr gr kd pt wt mr) ks os sd sts kp tk tp tn fr to vl wr bo so nm mv) (fun r w2 => r = some (.int (nI (mostN gr 12))) ∧ w2 = (mdV g a (sF mn yr gr kd pt wt mr) ks os sd sts kp tk tp tn fr to vl wr bo so nm mv)) := by
  refine ct_of (by decide) (Nat.le_of_ble_eq_true rfl) ?_
  intro φ C0 Rr
  have C : Cx φ g cX4_mostPart 3 RX4 (rk 0 0) := C0
  show Go φ g 3 0 [(0, .ref (a 0))] [] (mdV g a (sF mn yr gr kd pt wt mr) ks os sd sts kp tk tp tn fr to vl wr bo so nm mv)
  obtain ⟨-, hTle, hgr, hkd, hpt, hwt, hmr, hyr, hmn⟩ := id hB
  refine g_iconst (pc := 0) (v := nI 0) C dX4_mostPart_0 (by decide) ?_
  refine g_istore_n (pc := 1) (lv2 := [(0, .ref (a 0)), (1, .int (nI 0))]) C dX4_mostPart_1 rfl (Nat.le_of_ble_eq_true rfl) rfl ?_
  refine g_iconst (pc := 2) (v := nI 1) C dX4_mostPart_2 (by decide) ?_
  refine g_istore_n (pc := 3) (lv2 := [(0, .ref (a 0)), (1, .int (nI 0)), (2, .int (nI 1))]) C dX4_mostPart_3 rfl (Nat.le_of_ble_eq_true rfl) rfl ?_
  refine g_loop1 (n := 12) (fun i x => 1 ≤ i ∧ x = mostN gr i) (fun i x => [(0, .ref (a 0)), (1, .int (nI x)), (2, .int (nI i))]) (fun i x => (mdV g a (sF mn yr gr kd pt wt mr) ks os sd sts kp tk tp tn fr to vl wr bo so nm mv)) ?_ 1 0 (by omega) ⟨by decide, by rw [mostN]; split <;> rfl⟩
  intro i x hi_i hv_i ih_i
  show Go φ g 3 4 [(0, .ref (a 0)), (1, .int (nI x)), (2, .int (nI i))] [] (mdV g a (sF mn yr gr kd pt wt mr) ks os sd sts kp tk tp tn fr to vl wr bo so nm mv)
  have hv_i : 1 ≤ i ∧ x = mostN gr i := hv_i
  have hx : x < i := by rw [hv_i.2]; exact mostN_lt gr i (by omega)
  refine g_iload_n (pc := 4) C dX4_mostPart_4 rfl ?_
  refine g_bipush (pc := 5) (v := nI 12) C dX4_mostPart_5 (by decide) ?_
  refine g_icmp_geN (pc := 7) (tgt := 41) C dX4_mostPart_7 (by decide) (by omega) (by omega) (fun c1 => ?_) (fun c1 => ?_)
  · refine g_iload_n (pc := 41) C dX4_mostPart_41 rfl ?_
    exact g_iret C Rr dX4_mostPart_42 ⟨by rw [hv_i.2, show i = 12 by omega], rfl⟩ rfl
  · refine g_aload_n (pc := 10) C dX4_mostPart_10 rfl ?_
    refine g_get4 (pc := 11) C dX4_mostPart_11 0 rfl 0 (by decide) fl_X4_7 rfl ?_
    refine g_iconst (pc := 14) (v := nI 2) C dX4_mostPart_14 (by decide) ?_
    refine g_iload_n (pc := 15) C dX4_mostPart_15 rfl ?_
    refine g_iaddN (pc := 16) C dX4_mostPart_16 ?_
    refine g_ialdM (pc := 17) C dX4_mostPart_17 1 rfl rfl (by omega) (by decide) ?_
    refine g_top (congrArg nI (sF_rg (by omega))) ?_
    have b2 := hgr i
    refine g_aload_n (pc := 18) C dX4_mostPart_18 rfl ?_
    refine g_get4 (pc := 19) C dX4_mostPart_19 0 rfl 0 (by decide) fl_X4_7 rfl ?_
    refine g_iconst (pc := 22) (v := nI 2) C dX4_mostPart_22 (by decide) ?_
    refine g_iload_n (pc := 23) C dX4_mostPart_23 rfl ?_
    refine g_iaddN (pc := 24) C dX4_mostPart_24 ?_
    refine g_ialdM (pc := 25) C dX4_mostPart_25 1 rfl rfl (by omega) (by decide) ?_
    refine g_top (congrArg nI (sF_rg (by omega))) ?_
    have b3 := hgr x
    refine g_icmp_leN (pc := 26) (tgt := 33) C dX4_mostPart_26 (by decide) (by omega) (by omega) (fun c4 => ?_) (fun c4 => ?_)
    · refine g_iload_n (pc := 33) C dX4_mostPart_33 rfl ?_
      refine g_istore_n (pc := 34) (lv2 := [(0, .ref (a 0)), (1, .int (nI x)), (2, .int (nI i))]) C dX4_mostPart_34 rfl (Nat.le_of_ble_eq_true rfl) rfl ?_
      refine g_iinc (pc := 35) (v := (nI (i + 1))) (lv2 := [(0, .ref (a 0)), (1, .int (nI x)), (2, .int (nI (i + 1)))]) C dX4_mostPart_35 rfl (nI_1 _) (Nat.le_of_ble_eq_true rfl) rfl ?_
      refine g_goto (pc := 38) (tgt := 4) C dX4_mostPart_38 (by decide) ?_
      exact ih_i _ (by omega) ⟨by omega, by rw [mostN, ← hv_i.2, if_neg (by omega)]⟩
    · refine g_iload_n (pc := 29) C dX4_mostPart_29 rfl ?_
      refine g_goto (pc := 30) (tgt := 34) C dX4_mostPart_30 (by decide) ?_
      refine g_istore_n (pc := 34) (lv2 := [(0, .ref (a 0)), (1, .int (nI i)), (2, .int (nI i))]) C dX4_mostPart_34 rfl (Nat.le_of_ble_eq_true rfl) rfl ?_
      refine g_iinc (pc := 35) (v := (nI (i + 1))) (lv2 := [(0, .ref (a 0)), (1, .int (nI i)), (2, .int (nI (i + 1)))]) C dX4_mostPart_35 rfl (nI_1 _) (Nat.le_of_ble_eq_true rfl) rfl ?_
      refine g_goto (pc := 38) (tgt := 4) C dX4_mostPart_38 (by decide) ?_
      exact ih_i _ (by omega) ⟨by omega, by rw [mostN, ← hv_i.2, if_pos c4]⟩
set_option maxHeartbeats 400000 in
set_option maxRecDepth 100000 in
theorem m_isSo (g : Gl) (a : Nat → Nat) (ks : Nat → Nat) (os : Nat → Nat) (sd : Nat → Nat) (sts : Nat → Nat) (kp : Nat) (tk : Nat → Nat) (tp : Nat → Nat) (tn : Nat) (fr : Nat) (to : Nat) (vl : Nat) (wr : Nat) (bo : Nat → Nat) (so : Nat → Nat) (nm : Nat → Int64) (mv : Nat → Int64) (mn : Nat) (yr : Nat) (gr : Nat → Nat) (kd : Nat → Nat) (pt : Nat → Nat) (wt : Nat → Nat) (mr : Nat → Nat) (q : Nat) (p : Nat) (v : Nat) (hB : PB gr kd pt wt mr (sumN gr 12) yr mn) (hq : q ≤ 2) (hp : p < 12) (hv : v ≤ 99999) : Ct g yX4_isSo cX4_isSo 4 (some .boolean) (rk 3 64) [.ref (a 0), .int (nI q), .int (nI p), .int (nI v)] (mdV g a (sF mn yr gr kd pt wt mr) ks os sd sts kp tk tp tn fr to vl wr bo so nm mv) (fun r w2 => r = some (.int (bI (soN gr q p v))) ∧ w2 = (mdV g a (sF mn yr gr kd pt wt mr) ks os sd sts kp tk tp tn fr to vl wr bo so nm mv)) := by
  refine ct_of (by decide) (Nat.le_of_ble_eq_true rfl) ?_
  intro φ C0 Rr
  have C : Cx φ g cX4_isSo 4 RX4 (rk 3 64) := C0
  show Go φ g 4 0 [(0, .ref (a 0)), (1, .int (nI q)), (2, .int (nI p)), (3, .int (nI v))] [] (mdV g a (sF mn yr gr kd pt wt mr) ks os sd sts kp tk tp tn fr to vl wr bo so nm mv)
  obtain ⟨-, hTle, hgr, hkd, hpt, hwt, hmr, hyr, hmn⟩ := id hB
  have htp : ∀ q, tasteN gr (sumN gr 12) q < 2 ^ 31 := fun q => Nat.lt_of_le_of_lt (Nat.div_le_self _ _) (by have := hgr q; omega)
  have htp := htp p
  refine g_iload_n (pc := 0) C dX4_isSo_0 rfl ?_
  refine g_if_neN (pc := 1) (tgt := 11) C dX4_isSo_1 (by decide) (by omega) (fun c1 => ?_) (fun c1 => ?_)
  · refine g_iload_n (pc := 11) C dX4_isSo_11 rfl ?_
    refine g_iconst (pc := 12) (v := nI 1) C dX4_isSo_12 (by decide) ?_
    refine g_icmp_neN (pc := 13) (tgt := 36) C dX4_isSo_13 (by decide) (by omega) (by omega) (fun c2 => ?_) (fun c2 => ?_)
    · refine g_aload_n (pc := 36) C dX4_isSo_36 rfl ?_
      refine g_iload_n (pc := 37) C dX4_isSo_37 rfl ?_
      refine g_vxi (pc := 38) (ws2 := (mdV g a (sF mn yr gr kd pt wt mr) ks os sd sts kp tk tp tn fr to vl wr bo so nm mv)) C dX4_isSo_38 ml_X4_79 mf_X4_tasteOf (m_tasteOf g a ks os sd sts kp tk tp tn fr to vl wr bo so nm mv mn yr gr kd pt wt mr p hB (by omega)) ⟨rfl, rfl, (Nat.le_of_ble_eq_true rfl), (Nat.le_of_ble_eq_true rfl)⟩ rfl rfl (Nat.le_of_ble_eq_true rfl) 0 rfl rfl rfl [0, 1, 2, 3, 4, 5, 6, 7, 8, 9, 10, 11] [] [0, 1, 2, 3, 4, 5, 6, 7, 8, 9, 10, 11] rfl rfl rfl rfl (by decide) rfl rfl ?_
      refine g_iload_n (pc := 41) C dX4_isSo_41 rfl ?_
      refine g_icmp_ltN (pc := 42) (tgt := 49) C dX4_isSo_42 (by decide) (by omega) (by omega) (fun c3 => ?_) (fun c3 => ?_)
      · refine g_iconst (pc := 49) (v := nI 0) C dX4_isSo_49 (by decide) ?_
        exact g_zret C Rr dX4_isSo_50 (by first | rfl | decide) ⟨by rw [bI_f (by unfold soN; omega)], rfl⟩ rfl
      · refine g_iconst (pc := 45) (v := nI 1) C dX4_isSo_45 (by decide) ?_
        refine g_goto (pc := 46) (tgt := 50) C dX4_isSo_46 (by decide) ?_
        exact g_zret C Rr dX4_isSo_50 (by first | rfl | decide) ⟨by rw [bI_t (by unfold soN; omega)], rfl⟩ rfl
    · refine g_aload_n (pc := 16) C dX4_isSo_16 rfl ?_
      refine g_get4 (pc := 17) C dX4_isSo_17 0 rfl 0 (by decide) fl_X4_7 rfl ?_
      refine g_iconst (pc := 20) (v := nI 2) C dX4_isSo_20 (by decide) ?_
      refine g_iload_n (pc := 21) C dX4_isSo_21 rfl ?_
      refine g_iaddN (pc := 22) C dX4_isSo_22 ?_
      refine g_ialdM (pc := 23) C dX4_isSo_23 1 rfl rfl (by omega) (by decide) ?_
      refine g_top (congrArg nI (sF_rg (by omega))) ?_
      have b4 := hgr p
      refine g_iload_n (pc := 24) C dX4_isSo_24 rfl ?_
      refine g_icmp_gtN (pc := 25) (tgt := 32) C dX4_isSo_25 (by decide) (by omega) (by omega) (fun c5 => ?_) (fun c5 => ?_)
      · refine g_iconst (pc := 32) (v := nI 0) C dX4_isSo_32 (by decide) ?_
        refine g_goto (pc := 33) (tgt := 50) C dX4_isSo_33 (by decide) ?_
        exact g_zret C Rr dX4_isSo_50 (by first | rfl | decide) ⟨by rw [bI_f (by unfold soN; omega)], rfl⟩ rfl
      · refine g_iconst (pc := 28) (v := nI 1) C dX4_isSo_28 (by decide) ?_
        refine g_goto (pc := 29) (tgt := 50) C dX4_isSo_29 (by decide) ?_
        exact g_zret C Rr dX4_isSo_50 (by first | rfl | decide) ⟨by rw [bI_t (by unfold soN; omega)], rfl⟩ rfl
  · refine g_aload_n (pc := 4) C dX4_isSo_4 rfl ?_
    refine g_vxi (pc := 5) (ws2 := (mdV g a (sF mn yr gr kd pt wt mr) ks os sd sts kp tk tp tn fr to vl wr bo so nm mv)) C dX4_isSo_5 ml_X4_151 mf_X4_isVague (m_isVague g a ks os sd sts kp tk tp tn fr to vl wr bo so nm mv mn yr gr kd pt wt mr hB) ⟨rfl, rfl, (Nat.le_of_ble_eq_true rfl), (Nat.le_of_ble_eq_true rfl)⟩ rfl rfl (Nat.le_of_ble_eq_true rfl) 0 rfl rfl rfl [0, 1, 2, 3, 4, 5, 6, 7, 8, 9, 10, 11] [] [0, 1, 2, 3, 4, 5, 6, 7, 8, 9, 10, 11] rfl rfl rfl rfl (by decide) rfl rfl ?_
    refine g_goto (pc := 8) (tgt := 50) C dX4_isSo_8 (by decide) ?_
    exact g_zret C Rr dX4_isSo_50 nar_bI ⟨congrArg _ (congrArg _ (bI_iff (by unfold soN; omega))), rfl⟩ rfl
set_option maxHeartbeats 400000 in
set_option maxRecDepth 100000 in
theorem m_firstSo (g : Gl) (a : Nat → Nat) (ks : Nat → Nat) (os : Nat → Nat) (sd : Nat → Nat) (sts : Nat → Nat) (kp : Nat) (tk : Nat → Nat) (tp : Nat → Nat) (tn : Nat) (fr : Nat) (to : Nat) (vl : Nat) (wr : Nat) (bo : Nat → Nat) (so : Nat → Nat) (nm : Nat → Int64) (mv : Nat → Int64) (mn : Nat) (yr : Nat) (gr : Nat → Nat) (kd : Nat → Nat) (pt : Nat → Nat) (wt : Nat → Nat) (mr : Nat → Nat) (q : Nat) (p : Nat) (v : Nat) (hB : PB gr kd pt wt mr (sumN gr 12) yr mn) (hq : q ≤ 2) (hp : p < 12) (hv : v ≤ 99999) (hy : yr ≤ 9999) : Ct g yX4_firstSo cX4_firstSo 6 (some .int) (rk 4 91) [.ref (a 0), .int (nI q), .int (nI p), .int (nI v)] (mdV g a (sF mn yr gr kd pt wt mr) ks os sd sts kp tk tp tn fr to vl wr bo so nm mv) (fun r w2 => ∃ (f : Nat → Nat), r = some (.int (if fsN kd pt wt mr mn gr yr q p v < 201 then nI (fsN kd pt wt mr mn gr yr q p v) else fd 3)) ∧ w2 = (mdV g a (sF mn yr gr kd pt wt mr) ks os (sF mn yr gr kd pt wt mr) (if fsN kd pt wt mr mn gr yr q p v < 201 then sts else updN sts 3 (sts 3 + 1)) kp f tp tn fr to vl wr bo so nm mv)) := by
  refine ct_of (by decide) (Nat.le_of_ble_eq_true rfl) ?_
  intro φ C0 Rr
  have C : Cx φ g cX4_firstSo 6 RX4 (rk 4 91) := C0
  show Go φ g 6 0 [(0, .ref (a 0)), (1, .int (nI q)), (2, .int (nI p)), (3, .int (nI v))] [] (mdV g a (sF mn yr gr kd pt wt mr) ks os sd sts kp tk tp tn fr to vl wr bo so nm mv)
  obtain ⟨-, hTle, hgr, hkd, hpt, hwt, hmr, hyr, hmn⟩ := id hB
  refine g_aload_n (pc := 0) C dX4_firstSo_0 rfl ?_
  refine g_vxn (pc := 1) (ws2 := (mdV g a (sF mn yr gr kd pt wt mr) ks os (sF mn yr gr kd pt wt mr) sts kp tk tp tn fr to vl wr bo so nm mv)) C dX4_firstSo_1 ml_X4_90 mf_X4_laysAside (m_laysAside g a ks os sd sts kp tk tp tn fr to vl wr bo so nm mv mn yr gr kd pt wt mr) ⟨rfl, rfl, (Nat.le_of_ble_eq_true rfl), (Nat.le_of_ble_eq_true rfl)⟩ rfl rfl (Nat.le_of_ble_eq_true rfl) 0 rfl rfl rfl [0, 1, 2, 3, 4, 5, 6, 7, 8, 9, 10, 11] [] [0, 1, 2, 3, 4, 5, 6, 7, 8, 9, 10, 11] rfl rfl rfl rfl (by decide) rfl rfl ?_
  refine g_iconst (pc := 4) (v := nI 0) C dX4_firstSo_4 (by decide) ?_
  refine g_istore (pc := 5) (lv2 := [(0, .ref (a 0)), (1, .int (nI q)), (2, .int (nI p)), (3, .int (nI v)), (4, .int (nI 0))]) C dX4_firstSo_5 (Nat.le_of_ble_eq_true rfl) rfl ?_
  refine g_loop2 (n := 201) (fun i G f => G = yearsG kd pt wt mr mn gr yr i ∧ ∀ j, j < i → ¬ soN (yearsG kd pt wt mr mn gr yr j) q p v) (fun i G f => [(0, .ref (a 0)), (1, .int (nI q)), (2, .int (nI p)), (3, .int (nI v)), (4, .int (nI i))]) (fun i G f => (mdV g a (sF mn (yr + i) G kd pt wt mr) ks os (sF mn yr gr kd pt wt mr) sts kp f tp tn fr to vl wr bo so nm mv)) ?_ 0 gr tk (by omega) ⟨rfl, fun j hj => absurd hj (Nat.not_lt_zero j)⟩
  intro i G f hi_i hv_i ih_i
  show Go φ g 6 7 [(0, .ref (a 0)), (1, .int (nI q)), (2, .int (nI p)), (3, .int (nI v)), (4, .int (nI i))] [] (mdV g a (sF mn (yr + i) G kd pt wt mr) ks os (sF mn yr gr kd pt wt mr) sts kp f tp tn fr to vl wr bo so nm mv)
  have hv_i : G = yearsG kd pt wt mr mn gr yr i ∧ ∀ j, j < i → ¬ soN (yearsG kd pt wt mr mn gr yr j) q p v := hv_i
  have hBi : PB G kd pt wt mr (sumN G 12) (yr + i) mn := by rw [hv_i.1]; exact PB_yrs hB i (by omega)
  refine g_iload (pc := 7) C dX4_firstSo_7 rfl ?_
  refine g_sipush (pc := 9) (v := nI 200) C dX4_firstSo_9 (by decide) ?_
  refine g_icmp_gtN (pc := 12) (tgt := 35) C dX4_firstSo_12 (by decide) (by omega) (by omega) (fun c1 => ?_) (fun c1 => ?_)
  · refine g_aload_n (pc := 35) C dX4_firstSo_35 rfl ?_
    refine g_iload (pc := 36) C dX4_firstSo_36 rfl ?_
    refine g_vxi (pc := 38) (ws2 := (mdV g a (sF mn yr gr kd pt wt mr) ks os (sF mn yr gr kd pt wt mr) sts kp f tp tn fr to vl wr bo so nm mv)) C dX4_firstSo_38 ml_X4_93 mf_X4_takesBack (m_takesBack g a ks os sts kp f tp tn fr to vl wr bo so nm mv mn (yr + i) G kd pt wt mr mn yr gr kd pt wt mr i) ⟨rfl, rfl, (Nat.le_of_ble_eq_true rfl), (Nat.le_of_ble_eq_true rfl)⟩ rfl rfl (Nat.le_of_ble_eq_true rfl) 0 rfl rfl rfl [0, 1, 2, 3, 4, 5, 6, 7, 8, 9, 10, 11] [] [0, 1, 2, 3, 4, 5, 6, 7, 8, 9, 10, 11] rfl rfl rfl rfl (by decide) rfl rfl ?_
    refine g_istore (pc := 41) (lv2 := [(0, .ref (a 0)), (1, .int (nI q)), (2, .int (nI p)), (3, .int (nI v)), (4, .int (nI i)), (5, .int (nI i))]) C dX4_firstSo_41 (Nat.le_of_ble_eq_true rfl) rfl ?_
    refine g_iload (pc := 43) C dX4_firstSo_43 rfl ?_
    refine g_sipush (pc := 45) (v := nI 200) C dX4_firstSo_45 (by decide) ?_
    refine g_icmp_leN (pc := 48) (tgt := 60) C dX4_firstSo_48 (by decide) (by omega) (by omega) (fun c2 => ?_) (fun c2 => ?_)
    · refine g_iload (pc := 60) C dX4_firstSo_60 rfl ?_
      exact g_iret C Rr dX4_firstSo_62 (absurd c2 (by omega)) rfl
    · refine g_aload_n (pc := 51) C dX4_firstSo_51 rfl ?_
      refine g_ldc (pc := 52) C dX4_firstSo_52 ck_X4_162 rfl ?_
      refine g_vxi (pc := 54) (ws2 := (mdV g a (sF mn yr gr kd pt wt mr) ks os (sF mn yr gr kd pt wt mr) (updN sts 3 (sts 3 + 1)) kp f tp tn fr to vl wr bo so nm mv)) C dX4_firstSo_54 ml_X4_64 mf_X4_finds (m_finds g a (sF mn yr gr kd pt wt mr) ks os (sF mn yr gr kd pt wt mr) sts kp f tp tn fr to vl wr bo so nm mv 3 (by decide)) ⟨rfl, rfl, (Nat.le_of_ble_eq_true rfl), (Nat.le_of_ble_eq_true rfl)⟩ rfl rfl (Nat.le_of_ble_eq_true rfl) 0 rfl rfl rfl [0, 1, 2, 3, 4, 5, 6, 7, 8, 9, 10, 11] [] [0, 1, 2, 3, 4, 5, 6, 7, 8, 9, 10, 11] rfl rfl rfl rfl (by decide) rfl rfl ?_
      refine g_goto (pc := 57) (tgt := 62) C dX4_firstSo_57 (by decide) ?_
      exact g_iret C Rr dX4_firstSo_62 ⟨_, by rw [fsN_none (fun j hj => hv_i.2 j (by omega)), if_neg (by decide)], by rw [fsN_none (fun j hj => hv_i.2 j (by omega)), if_neg (by decide)]⟩ rfl
  · refine g_aload_n (pc := 15) C dX4_firstSo_15 rfl ?_
    refine g_iload_n (pc := 16) C dX4_firstSo_16 rfl ?_
    refine g_iload_n (pc := 17) C dX4_firstSo_17 rfl ?_
    refine g_iload_n (pc := 18) C dX4_firstSo_18 rfl ?_
    refine g_vxi (pc := 19) (ws2 := (mdV g a (sF mn (yr + i) G kd pt wt mr) ks os (sF mn yr gr kd pt wt mr) sts kp f tp tn fr to vl wr bo so nm mv)) C dX4_firstSo_19 ml_X4_158 mf_X4_isSo (m_isSo g a ks os (sF mn yr gr kd pt wt mr) sts kp f tp tn fr to vl wr bo so nm mv mn (yr + i) G kd pt wt mr q p v hBi (by omega) (by omega) (by omega)) ⟨rfl, rfl, (Nat.le_of_ble_eq_true rfl), (Nat.le_of_ble_eq_true rfl)⟩ rfl rfl (Nat.le_of_ble_eq_true rfl) 0 rfl rfl rfl [0, 1, 2, 3, 4, 5, 6, 7, 8, 9, 10, 11] [] [0, 1, 2, 3, 4, 5, 6, 7, 8, 9, 10, 11] rfl rfl rfl rfl (by decide) rfl rfl ?_
    refine g_if_neB (pc := 22) (tgt := 35) C dX4_firstSo_22 (by decide) (fun c3 => ?_) (fun c3 => ?_)
    · refine g_aload_n (pc := 35) C dX4_firstSo_35 rfl ?_
      refine g_iload (pc := 36) C dX4_firstSo_36 rfl ?_
      refine g_vxi (pc := 38) (ws2 := (mdV g a (sF mn yr gr kd pt wt mr) ks os (sF mn yr gr kd pt wt mr) sts kp f tp tn fr to vl wr bo so nm mv)) C dX4_firstSo_38 ml_X4_93 mf_X4_takesBack (m_takesBack g a ks os sts kp f tp tn fr to vl wr bo so nm mv mn (yr + i) G kd pt wt mr mn yr gr kd pt wt mr i) ⟨rfl, rfl, (Nat.le_of_ble_eq_true rfl), (Nat.le_of_ble_eq_true rfl)⟩ rfl rfl (Nat.le_of_ble_eq_true rfl) 0 rfl rfl rfl [0, 1, 2, 3, 4, 5, 6, 7, 8, 9, 10, 11] [] [0, 1, 2, 3, 4, 5, 6, 7, 8, 9, 10, 11] rfl rfl rfl rfl (by decide) rfl rfl ?_
      refine g_istore (pc := 41) (lv2 := [(0, .ref (a 0)), (1, .int (nI q)), (2, .int (nI p)), (3, .int (nI v)), (4, .int (nI i)), (5, .int (nI i))]) C dX4_firstSo_41 (Nat.le_of_ble_eq_true rfl) rfl ?_
      refine g_iload (pc := 43) C dX4_firstSo_43 rfl ?_
      refine g_sipush (pc := 45) (v := nI 200) C dX4_firstSo_45 (by decide) ?_
      refine g_icmp_leN (pc := 48) (tgt := 60) C dX4_firstSo_48 (by decide) (by omega) (by omega) (fun c4 => ?_) (fun c4 => ?_)
      · refine g_iload (pc := 60) C dX4_firstSo_60 rfl ?_
        exact g_iret C Rr dX4_firstSo_62 ⟨_, by rw [fsN_at hv_i.2 (hv_i.1 ▸ c3) (show i < 201 by omega), if_pos (by omega)], by rw [fsN_at hv_i.2 (hv_i.1 ▸ c3) (show i < 201 by omega), if_pos (by omega)]⟩ rfl
      · refine g_aload_n (pc := 51) C dX4_firstSo_51 rfl ?_
        refine g_ldc (pc := 52) C dX4_firstSo_52 ck_X4_162 rfl ?_
        refine g_vxi (pc := 54) (ws2 := (mdV g a (sF mn yr gr kd pt wt mr) ks os (sF mn yr gr kd pt wt mr) (updN sts 3 (sts 3 + 1)) kp f tp tn fr to vl wr bo so nm mv)) C dX4_firstSo_54 ml_X4_64 mf_X4_finds (m_finds g a (sF mn yr gr kd pt wt mr) ks os (sF mn yr gr kd pt wt mr) sts kp f tp tn fr to vl wr bo so nm mv 3 (by decide)) ⟨rfl, rfl, (Nat.le_of_ble_eq_true rfl), (Nat.le_of_ble_eq_true rfl)⟩ rfl rfl (Nat.le_of_ble_eq_true rfl) 0 rfl rfl rfl [0, 1, 2, 3, 4, 5, 6, 7, 8, 9, 10, 11] [] [0, 1, 2, 3, 4, 5, 6, 7, 8, 9, 10, 11] rfl rfl rfl rfl (by decide) rfl rfl ?_
        refine g_goto (pc := 57) (tgt := 62) C dX4_firstSo_57 (by decide) ?_
        exact g_iret C Rr dX4_firstSo_62 (absurd c4 (by omega)) rfl
    · refine g_aload_n (pc := 25) C dX4_firstSo_25 rfl ?_
      refine g_rV (pc := 26) (rest := []) C dX4_firstSo_26 ml_X4_138 mf_X4_year (m_year g a ks os (sF mn yr gr kd pt wt mr) sts kp f tp tn fr to vl wr bo so nm mv mn (yr + i) G kd pt wt mr hBi) ⟨rfl, rfl, (Nat.le_of_ble_eq_true rfl), (Nat.le_of_ble_eq_true rfl)⟩ rfl rfl (Nat.le_of_ble_eq_true rfl) 0 rfl rfl rfl [0, 1, 2, 3, 4, 5, 6, 7, 8, 9, 10, 11] [] rfl rfl rfl rfl (by decide) ?_
      intro r9 w9 h9
      obtain ⟨f_5, rfl, rfl⟩ := h9
      refine g_sub (ws2 := (mdV g a (sF mn ((yr + i) + 1) (yearG kd pt wt mr mn G (yr + i)) kd pt wt mr) ks os (sF mn yr gr kd pt wt mr) sts kp f_5 tp tn fr to vl wr bo so nm mv)) [0, 1, 2, 3, 4, 5, 6, 7, 8, 9, 10, 11] rfl rfl ?_
      show Go φ g 6 29 [(0, .ref (a 0)), (1, .int (nI q)), (2, .int (nI p)), (3, .int (nI v)), (4, .int (nI i))] [] (mdV g a (sF mn ((yr + i) + 1) (yearG kd pt wt mr mn G (yr + i)) kd pt wt mr) ks os (sF mn yr gr kd pt wt mr) sts kp f_5 tp tn fr to vl wr bo so nm mv)
      refine g_iinc (pc := 29) (v := (nI (i + 1))) (lv2 := [(0, .ref (a 0)), (1, .int (nI q)), (2, .int (nI p)), (3, .int (nI v)), (4, .int (nI (i + 1)))]) C dX4_firstSo_29 rfl (nI_1 _) (Nat.le_of_ble_eq_true rfl) rfl ?_
      refine g_goto (pc := 32) (tgt := 7) C dX4_firstSo_32 (by decide) ?_
      exact ih_i _ _ (by omega) ⟨by rw [yearsG, ← hv_i.1], fun j hj => by
        rcases Nat.lt_or_ge j i with q9 | q9
        · exact hv_i.2 j q9
        · rw [show j = i by omega, ← hv_i.1]
          exact c3⟩
set_option maxHeartbeats 400000 in
set_option maxRecDepth 100000 in
theorem m_behind (g : Gl) (a : Nat → Nat) (ks : Nat → Nat) (os : Nat → Nat) (sd : Nat → Nat) (sts : Nat → Nat) (kp : Nat) (tk : Nat → Nat) (tp : Nat → Nat) (tn : Nat) (fr : Nat) (to : Nat) (vl : Nat) (wr : Nat) (bo : Nat → Nat) (so : Nat → Nat) (nm : Nat → Int64) (mv : Nat → Int64) (mn : Nat) (yr : Nat) (gr : Nat → Nat) (kd : Nat → Nat) (pt : Nat → Nat) (wt : Nat → Nat) (mr : Nat → Nat) (p : Nat) (n : Nat) (hB : PB gr kd pt wt mr (sumN gr 12) yr mn) (hp : p < 12) (hn : yr + n ≤ 20000) : Ct g yX4_behind cX4_behind 3 (some .int) (rk 5 113) [.ref (a 0), .int (nI p), .int (nI n)] (mdV g a (sF mn yr gr kd pt wt mr) ks os sd sts kp tk tp tn fr to vl wr bo so nm mv) (fun r w2 => ∃ (f : Nat → Nat), r = some (.int (nI (yearsG kd pt wt mr mn gr yr n p))) ∧ w2 = (mdV g a (sF mn yr gr kd pt wt mr) ks os (sF mn yr gr kd pt wt mr) sts kp f tp tn fr to vl wr bo so nm mv)) := by
  refine ct_of (by decide) (Nat.le_of_ble_eq_true rfl) ?_
  intro φ C0 Rr
  have C : Cx φ g cX4_behind 3 RX4 (rk 5 113) := C0
  show Go φ g 3 0 [(0, .ref (a 0)), (1, .int (nI p)), (2, .int (nI n))] [] (mdV g a (sF mn yr gr kd pt wt mr) ks os sd sts kp tk tp tn fr to vl wr bo so nm mv)
  obtain ⟨-, hTle, hgr, hkd, hpt, hwt, hmr, hyr, hmn⟩ := id hB
  refine g_aload_n (pc := 0) C dX4_behind_0 rfl ?_
  refine g_vxn (pc := 1) (ws2 := (mdV g a (sF mn yr gr kd pt wt mr) ks os (sF mn yr gr kd pt wt mr) sts kp tk tp tn fr to vl wr bo so nm mv)) C dX4_behind_1 ml_X4_90 mf_X4_laysAside (m_laysAside g a ks os sd sts kp tk tp tn fr to vl wr bo so nm mv mn yr gr kd pt wt mr) ⟨rfl, rfl, (Nat.le_of_ble_eq_true rfl), (Nat.le_of_ble_eq_true rfl)⟩ rfl rfl (Nat.le_of_ble_eq_true rfl) 0 rfl rfl rfl [0, 1, 2, 3, 4, 5, 6, 7, 8, 9, 10, 11] [] [0, 1, 2, 3, 4, 5, 6, 7, 8, 9, 10, 11] rfl rfl rfl rfl (by decide) rfl rfl ?_
  refine g_aload_n (pc := 4) C dX4_behind_4 rfl ?_
  refine g_iload_n (pc := 5) C dX4_behind_5 rfl ?_
  refine g_rV (pc := 6) (rest := []) C dX4_behind_6 ml_X4_144 mf_X4_yearsGo (m_yearsGo g a ks os (sF mn yr gr kd pt wt mr) sts kp tk tp tn fr to vl wr bo so nm mv mn yr gr kd pt wt mr n hB (by omega)) ⟨rfl, rfl, (Nat.le_of_ble_eq_true rfl), (Nat.le_of_ble_eq_true rfl)⟩ rfl rfl (Nat.le_of_ble_eq_true rfl) 0 rfl rfl rfl [0, 1, 2, 3, 4, 5, 6, 7, 8, 9, 10, 11] [] rfl rfl rfl rfl (by decide) ?_
  intro r9 w9 h9
  obtain ⟨f_1, rfl, rfl⟩ := h9
  refine g_sub (ws2 := (mdV g a (sF mn (yr + n) (yearsG kd pt wt mr mn gr yr n) kd pt wt mr) ks os (sF mn yr gr kd pt wt mr) sts kp f_1 tp tn fr to vl wr bo so nm mv)) [0, 1, 2, 3, 4, 5, 6, 7, 8, 9, 10, 11] rfl rfl ?_
  show Go φ g 3 9 [(0, .ref (a 0)), (1, .int (nI p)), (2, .int (nI n))] [] (mdV g a (sF mn (yr + n) (yearsG kd pt wt mr mn gr yr n) kd pt wt mr) ks os (sF mn yr gr kd pt wt mr) sts kp f_1 tp tn fr to vl wr bo so nm mv)
  refine g_aload_n (pc := 9) C dX4_behind_9 rfl ?_
  refine g_aload_n (pc := 10) C dX4_behind_10 rfl ?_
  refine g_get4 (pc := 11) C dX4_behind_11 0 rfl 0 (by decide) fl_X4_7 rfl ?_
  refine g_iconst (pc := 14) (v := nI 2) C dX4_behind_14 (by decide) ?_
  refine g_iload_n (pc := 15) C dX4_behind_15 rfl ?_
  refine g_iaddN (pc := 16) C dX4_behind_16 ?_
  refine g_ialdM (pc := 17) C dX4_behind_17 1 rfl rfl (by omega) (by decide) ?_
  refine g_top (congrArg nI (sF_rg (by omega))) ?_
  refine g_vxi (pc := 18) (ws2 := (mdV g a (sF mn yr gr kd pt wt mr) ks os (sF mn yr gr kd pt wt mr) sts kp f_1 tp tn fr to vl wr bo so nm mv)) C dX4_behind_18 ml_X4_93 mf_X4_takesBack (m_takesBack g a ks os sts kp f_1 tp tn fr to vl wr bo so nm mv mn (yr + n) (yearsG kd pt wt mr mn gr yr n) kd pt wt mr mn yr gr kd pt wt mr ((yearsG kd pt wt mr mn gr yr n) p)) ⟨rfl, rfl, (Nat.le_of_ble_eq_true rfl), (Nat.le_of_ble_eq_true rfl)⟩ rfl rfl (Nat.le_of_ble_eq_true rfl) 0 rfl rfl rfl [0, 1, 2, 3, 4, 5, 6, 7, 8, 9, 10, 11] [] [0, 1, 2, 3, 4, 5, 6, 7, 8, 9, 10, 11] rfl rfl rfl rfl (by decide) rfl rfl ?_
  exact g_iret C Rr dX4_behind_21 ⟨_, rfl, rfl⟩ rfl
set_option maxHeartbeats 400000 in
set_option maxRecDepth 100000 in
theorem m_leastTaste (g : Gl) (a : Nat → Nat) (ks : Nat → Nat) (os : Nat → Nat) (sd : Nat → Nat) (sts : Nat → Nat) (kp : Nat) (tk : Nat → Nat) (tp : Nat → Nat) (tn : Nat) (fr : Nat) (to : Nat) (vl : Nat) (wr : Nat) (bo : Nat → Nat) (so : Nat → Nat) (nm : Nat → Int64) (mv : Nat → Int64) (mn : Nat) (yr : Nat) (gr : Nat → Nat) (kd : Nat → Nat) (pt : Nat → Nat) (wt : Nat → Nat) (mr : Nat → Nat) (u : Nat) (hB : PB gr kd pt wt mr (sumN gr 12) yr mn) (hu : u < 4096) : Ct g yX4_leastTaste cX4_leastTaste 5 (some .int) (rk 2 44) [.ref (a 0), .int (nI u)] (mdV g a (sF mn yr gr kd pt wt mr) ks os sd sts kp tk tp tn fr to vl wr bo so nm mv) (fun r w2 => r = some (.int (nI (leastN gr (sumN gr 12) u 12))) ∧ w2 = (mdV g a (sF mn yr gr kd pt wt mr) ks os sd sts kp tk tp tn fr to vl wr bo so nm mv)) := by
  refine ct_of (by decide) (Nat.le_of_ble_eq_true rfl) ?_
  intro φ C0 Rr
  have C : Cx φ g cX4_leastTaste 5 RX4 (rk 2 44) := C0
  show Go φ g 5 0 [(0, .ref (a 0)), (1, .int (nI u))] [] (mdV g a (sF mn yr gr kd pt wt mr) ks os sd sts kp tk tp tn fr to vl wr bo so nm mv)
  obtain ⟨-, hTle, hgr, hkd, hpt, hwt, hmr, hyr, hmn⟩ := id hB
  have htp : ∀ q, tasteN gr (sumN gr 12) q < 2 ^ 31 := fun q => Nat.lt_of_le_of_lt (Nat.div_le_self _ _) (by have := hgr q; omega)
  refine g_iload_n (pc := 0) C dX4_leastTaste_0 rfl ?_
  refine g_if_neN (pc := 1) (tgt := 8) C dX4_leastTaste_1 (by decide) (by omega) (fun c1 => ?_) (fun c1 => ?_)
  · refine g_sipush (pc := 8) (v := nI 1000) C dX4_leastTaste_8 (by decide) ?_
    refine g_istore_n (pc := 11) (lv2 := [(0, .ref (a 0)), (1, .int (nI u)), (2, .int (nI 1000))]) C dX4_leastTaste_11 rfl (Nat.le_of_ble_eq_true rfl) rfl ?_
    refine g_iconst (pc := 12) (v := nI 0) C dX4_leastTaste_12 (by decide) ?_
    refine g_istore_n (pc := 13) (lv2 := [(0, .ref (a 0)), (1, .int (nI u)), (2, .int (nI 1000)), (3, .int (nI 0))]) C dX4_leastTaste_13 rfl (Nat.le_of_ble_eq_true rfl) rfl ?_
    refine g_loop1 (n := 12) (fun i x => x = leastN gr (sumN gr 12) u i) (fun i x => [(0, .ref (a 0)), (1, .int (nI u)), (2, .int (nI x)), (3, .int (nI i))]) (fun i x => (mdV g a (sF mn yr gr kd pt wt mr) ks os sd sts kp tk tp tn fr to vl wr bo so nm mv)) ?_ 0 1000 (by omega) (by rw [leastN, if_neg c1])
    intro i x hi_i hv_i ih_i
    show Go φ g 5 14 [(0, .ref (a 0)), (1, .int (nI u)), (2, .int (nI x)), (3, .int (nI i))] [] (mdV g a (sF mn yr gr kd pt wt mr) ks os sd sts kp tk tp tn fr to vl wr bo so nm mv)
    have hv_i : x = leastN gr (sumN gr 12) u i := hv_i
    have hx : x ≤ 1000 := by rw [hv_i]; exact leastN_le gr (sumN gr 12) u i
    have hb := htp i
    refine g_iload_n (pc := 14) C dX4_leastTaste_14 rfl ?_
    refine g_bipush (pc := 15) (v := nI 12) C dX4_leastTaste_15 (by decide) ?_
    refine g_icmp_geN (pc := 17) (tgt := 59) C dX4_leastTaste_17 (by decide) (by omega) (by omega) (fun c2 => ?_) (fun c2 => ?_)
    · refine g_iload_n (pc := 59) C dX4_leastTaste_59 rfl ?_
      exact g_iret C Rr dX4_leastTaste_60 ⟨by rw [hv_i, show i = 12 by omega], rfl⟩ rfl
    · refine g_iload_n (pc := 20) C dX4_leastTaste_20 rfl ?_
      refine g_iload_n (pc := 21) C dX4_leastTaste_21 rfl ?_
      refine g_ishr (pc := 22) C dX4_leastTaste_22 ?_
      refine g_iconst (pc := 23) (v := nI 1) C dX4_leastTaste_23 (by decide) ?_
      refine g_iand (pc := 24) C dX4_leastTaste_24 ?_
      refine g_top (y := nI (u / 2 ^ i % 2)) (nI_bit (by omega) (by omega)) ?_
      refine g_iconst (pc := 25) (v := nI 1) C dX4_leastTaste_25 (by decide) ?_
      refine g_icmp_neN (pc := 26) (tgt := 37) C dX4_leastTaste_26 (by decide) (by omega) (by omega) (fun c3 => ?_) (fun c3 => ?_)
      · refine g_iload_n (pc := 37) C dX4_leastTaste_37 rfl ?_
        refine g_istore (pc := 38) (lv2 := [(0, .ref (a 0)), (1, .int (nI u)), (2, .int (nI x)), (3, .int (nI i)), (4, .int (nI x))]) C dX4_leastTaste_38 (Nat.le_of_ble_eq_true rfl) rfl ?_
        refine g_iload (pc := 40) C dX4_leastTaste_40 rfl ?_
        refine g_iload_n (pc := 42) C dX4_leastTaste_42 rfl ?_
        refine g_icmp_geN (pc := 43) (tgt := 51) C dX4_leastTaste_43 (by decide) (by omega) (by omega) (fun c4 => ?_) (fun c4 => ?_)
        · refine g_iload_n (pc := 51) C dX4_leastTaste_51 rfl ?_
          refine g_istore_n (pc := 52) (lv2 := [(0, .ref (a 0)), (1, .int (nI u)), (2, .int (nI x)), (3, .int (nI i)), (4, .int (nI x))]) C dX4_leastTaste_52 rfl (Nat.le_of_ble_eq_true rfl) rfl ?_
          refine g_iinc (pc := 53) (v := (nI (i + 1))) (lv2 := [(0, .ref (a 0)), (1, .int (nI u)), (2, .int (nI x)), (3, .int (nI (i + 1))), (4, .int (nI x))]) C dX4_leastTaste_53 rfl (nI_1 _) (Nat.le_of_ble_eq_true rfl) rfl ?_
          refine g_goto (pc := 56) (tgt := 14) C dX4_leastTaste_56 (by decide) ?_
          refine g_lvs (lv2 := [(0, .ref (a 0)), (1, .int (nI u)), (2, .int (nI x)), (3, .int (nI (i + 1)))]) [0, 1, 2, 3] rfl ?_
          exact ih_i _ (by omega) (by rw [leastN, ← hv_i, if_neg c3])
        · refine g_iload (pc := 46) C dX4_leastTaste_46 rfl ?_
          refine g_goto (pc := 48) (tgt := 52) C dX4_leastTaste_48 (by decide) ?_
          refine g_istore_n (pc := 52) (lv2 := [(0, .ref (a 0)), (1, .int (nI u)), (2, .int (nI x)), (3, .int (nI i)), (4, .int (nI x))]) C dX4_leastTaste_52 rfl (Nat.le_of_ble_eq_true rfl) rfl ?_
          refine g_iinc (pc := 53) (v := (nI (i + 1))) (lv2 := [(0, .ref (a 0)), (1, .int (nI u)), (2, .int (nI x)), (3, .int (nI (i + 1))), (4, .int (nI x))]) C dX4_leastTaste_53 rfl (nI_1 _) (Nat.le_of_ble_eq_true rfl) rfl ?_
          refine g_goto (pc := 56) (tgt := 14) C dX4_leastTaste_56 (by decide) ?_
          refine g_lvs (lv2 := [(0, .ref (a 0)), (1, .int (nI u)), (2, .int (nI x)), (3, .int (nI (i + 1)))]) [0, 1, 2, 3] rfl ?_
          exact ih_i _ (by omega) (by rw [leastN, ← hv_i, if_neg c3])
      · refine g_aload_n (pc := 29) C dX4_leastTaste_29 rfl ?_
        refine g_iload_n (pc := 30) C dX4_leastTaste_30 rfl ?_
        refine g_vxi (pc := 31) (ws2 := (mdV g a (sF mn yr gr kd pt wt mr) ks os sd sts kp tk tp tn fr to vl wr bo so nm mv)) C dX4_leastTaste_31 ml_X4_79 mf_X4_tasteOf (m_tasteOf g a ks os sd sts kp tk tp tn fr to vl wr bo so nm mv mn yr gr kd pt wt mr i hB (by omega)) ⟨rfl, rfl, (Nat.le_of_ble_eq_true rfl), (Nat.le_of_ble_eq_true rfl)⟩ rfl rfl (Nat.le_of_ble_eq_true rfl) 0 rfl rfl rfl [0, 1, 2, 3, 4, 5, 6, 7, 8, 9, 10, 11] [] [0, 1, 2, 3, 4, 5, 6, 7, 8, 9, 10, 11] rfl rfl rfl rfl (by decide) rfl rfl ?_
        refine g_goto (pc := 34) (tgt := 38) C dX4_leastTaste_34 (by decide) ?_
        refine g_istore (pc := 38) (lv2 := [(0, .ref (a 0)), (1, .int (nI u)), (2, .int (nI x)), (3, .int (nI i)), (4, .int (nI (tasteN gr (sumN gr 12) i)))]) C dX4_leastTaste_38 (Nat.le_of_ble_eq_true rfl) rfl ?_
        refine g_iload (pc := 40) C dX4_leastTaste_40 rfl ?_
        refine g_iload_n (pc := 42) C dX4_leastTaste_42 rfl ?_
        refine g_icmp_geN (pc := 43) (tgt := 51) C dX4_leastTaste_43 (by decide) (by omega) (by omega) (fun c5 => ?_) (fun c5 => ?_)
        · refine g_iload_n (pc := 51) C dX4_leastTaste_51 rfl ?_
          refine g_istore_n (pc := 52) (lv2 := [(0, .ref (a 0)), (1, .int (nI u)), (2, .int (nI x)), (3, .int (nI i)), (4, .int (nI (tasteN gr (sumN gr 12) i)))]) C dX4_leastTaste_52 rfl (Nat.le_of_ble_eq_true rfl) rfl ?_
          refine g_iinc (pc := 53) (v := (nI (i + 1))) (lv2 := [(0, .ref (a 0)), (1, .int (nI u)), (2, .int (nI x)), (3, .int (nI (i + 1))), (4, .int (nI (tasteN gr (sumN gr 12) i)))]) C dX4_leastTaste_53 rfl (nI_1 _) (Nat.le_of_ble_eq_true rfl) rfl ?_
          refine g_goto (pc := 56) (tgt := 14) C dX4_leastTaste_56 (by decide) ?_
          refine g_lvs (lv2 := [(0, .ref (a 0)), (1, .int (nI u)), (2, .int (nI x)), (3, .int (nI (i + 1)))]) [0, 1, 2, 3] rfl ?_
          exact ih_i _ (by omega) (by rw [leastN, ← hv_i, if_pos c3]; omega)
        · refine g_iload (pc := 46) C dX4_leastTaste_46 rfl ?_
          refine g_goto (pc := 48) (tgt := 52) C dX4_leastTaste_48 (by decide) ?_
          refine g_istore_n (pc := 52) (lv2 := [(0, .ref (a 0)), (1, .int (nI u)), (2, .int (nI (tasteN gr (sumN gr 12) i))), (3, .int (nI i)), (4, .int (nI (tasteN gr (sumN gr 12) i)))]) C dX4_leastTaste_52 rfl (Nat.le_of_ble_eq_true rfl) rfl ?_
          refine g_iinc (pc := 53) (v := (nI (i + 1))) (lv2 := [(0, .ref (a 0)), (1, .int (nI u)), (2, .int (nI (tasteN gr (sumN gr 12) i))), (3, .int (nI (i + 1))), (4, .int (nI (tasteN gr (sumN gr 12) i)))]) C dX4_leastTaste_53 rfl (nI_1 _) (Nat.le_of_ble_eq_true rfl) rfl ?_
          refine g_goto (pc := 56) (tgt := 14) C dX4_leastTaste_56 (by decide) ?_
          refine g_lvs (lv2 := [(0, .ref (a 0)), (1, .int (nI u)), (2, .int (nI (tasteN gr (sumN gr 12) i))), (3, .int (nI (i + 1)))]) [0, 1, 2, 3] rfl ?_
          exact ih_i _ (by omega) (by rw [leastN, ← hv_i, if_pos c3]; omega)
  · refine g_iconst (pc := 4) (v := nI 0) C dX4_leastTaste_4 (by decide) ?_
    refine g_goto (pc := 5) (tgt := 11) C dX4_leastTaste_5 (by decide) ?_
    refine g_istore_n (pc := 11) (lv2 := [(0, .ref (a 0)), (1, .int (nI u)), (2, .int (nI 0))]) C dX4_leastTaste_11 rfl (Nat.le_of_ble_eq_true rfl) rfl ?_
    refine g_iconst (pc := 12) (v := nI 0) C dX4_leastTaste_12 (by decide) ?_
    refine g_istore_n (pc := 13) (lv2 := [(0, .ref (a 0)), (1, .int (nI u)), (2, .int (nI 0)), (3, .int (nI 0))]) C dX4_leastTaste_13 rfl (Nat.le_of_ble_eq_true rfl) rfl ?_
    refine g_loop1 (n := 12) (fun i x => x = leastN gr (sumN gr 12) u i) (fun i x => [(0, .ref (a 0)), (1, .int (nI u)), (2, .int (nI x)), (3, .int (nI i))]) (fun i x => (mdV g a (sF mn yr gr kd pt wt mr) ks os sd sts kp tk tp tn fr to vl wr bo so nm mv)) ?_ 0 0 (by omega) (by rw [leastN, if_pos c1])
    intro i x hi_i hv_i ih_i
    show Go φ g 5 14 [(0, .ref (a 0)), (1, .int (nI u)), (2, .int (nI x)), (3, .int (nI i))] [] (mdV g a (sF mn yr gr kd pt wt mr) ks os sd sts kp tk tp tn fr to vl wr bo so nm mv)
    have hv_i : x = leastN gr (sumN gr 12) u i := hv_i
    have hx : x ≤ 1000 := by rw [hv_i]; exact leastN_le gr (sumN gr 12) u i
    have hb := htp i
    refine g_iload_n (pc := 14) C dX4_leastTaste_14 rfl ?_
    refine g_bipush (pc := 15) (v := nI 12) C dX4_leastTaste_15 (by decide) ?_
    refine g_icmp_geN (pc := 17) (tgt := 59) C dX4_leastTaste_17 (by decide) (by omega) (by omega) (fun c6 => ?_) (fun c6 => ?_)
    · refine g_iload_n (pc := 59) C dX4_leastTaste_59 rfl ?_
      exact g_iret C Rr dX4_leastTaste_60 ⟨by rw [hv_i, show i = 12 by omega], rfl⟩ rfl
    · refine g_iload_n (pc := 20) C dX4_leastTaste_20 rfl ?_
      refine g_iload_n (pc := 21) C dX4_leastTaste_21 rfl ?_
      refine g_ishr (pc := 22) C dX4_leastTaste_22 ?_
      refine g_iconst (pc := 23) (v := nI 1) C dX4_leastTaste_23 (by decide) ?_
      refine g_iand (pc := 24) C dX4_leastTaste_24 ?_
      refine g_top (y := nI (u / 2 ^ i % 2)) (nI_bit (by omega) (by omega)) ?_
      refine g_iconst (pc := 25) (v := nI 1) C dX4_leastTaste_25 (by decide) ?_
      refine g_icmp_neN (pc := 26) (tgt := 37) C dX4_leastTaste_26 (by decide) (by omega) (by omega) (fun c7 => ?_) (fun c7 => ?_)
      · refine g_iload_n (pc := 37) C dX4_leastTaste_37 rfl ?_
        refine g_istore (pc := 38) (lv2 := [(0, .ref (a 0)), (1, .int (nI u)), (2, .int (nI x)), (3, .int (nI i)), (4, .int (nI x))]) C dX4_leastTaste_38 (Nat.le_of_ble_eq_true rfl) rfl ?_
        refine g_iload (pc := 40) C dX4_leastTaste_40 rfl ?_
        refine g_iload_n (pc := 42) C dX4_leastTaste_42 rfl ?_
        refine g_icmp_geN (pc := 43) (tgt := 51) C dX4_leastTaste_43 (by decide) (by omega) (by omega) (fun c8 => ?_) (fun c8 => ?_)
        · refine g_iload_n (pc := 51) C dX4_leastTaste_51 rfl ?_
          refine g_istore_n (pc := 52) (lv2 := [(0, .ref (a 0)), (1, .int (nI u)), (2, .int (nI x)), (3, .int (nI i)), (4, .int (nI x))]) C dX4_leastTaste_52 rfl (Nat.le_of_ble_eq_true rfl) rfl ?_
          refine g_iinc (pc := 53) (v := (nI (i + 1))) (lv2 := [(0, .ref (a 0)), (1, .int (nI u)), (2, .int (nI x)), (3, .int (nI (i + 1))), (4, .int (nI x))]) C dX4_leastTaste_53 rfl (nI_1 _) (Nat.le_of_ble_eq_true rfl) rfl ?_
          refine g_goto (pc := 56) (tgt := 14) C dX4_leastTaste_56 (by decide) ?_
          refine g_lvs (lv2 := [(0, .ref (a 0)), (1, .int (nI u)), (2, .int (nI x)), (3, .int (nI (i + 1)))]) [0, 1, 2, 3] rfl ?_
          exact ih_i _ (by omega) (by rw [leastN, ← hv_i, if_neg c7])
        · refine g_iload (pc := 46) C dX4_leastTaste_46 rfl ?_
          refine g_goto (pc := 48) (tgt := 52) C dX4_leastTaste_48 (by decide) ?_
          refine g_istore_n (pc := 52) (lv2 := [(0, .ref (a 0)), (1, .int (nI u)), (2, .int (nI x)), (3, .int (nI i)), (4, .int (nI x))]) C dX4_leastTaste_52 rfl (Nat.le_of_ble_eq_true rfl) rfl ?_
          refine g_iinc (pc := 53) (v := (nI (i + 1))) (lv2 := [(0, .ref (a 0)), (1, .int (nI u)), (2, .int (nI x)), (3, .int (nI (i + 1))), (4, .int (nI x))]) C dX4_leastTaste_53 rfl (nI_1 _) (Nat.le_of_ble_eq_true rfl) rfl ?_
          refine g_goto (pc := 56) (tgt := 14) C dX4_leastTaste_56 (by decide) ?_
          refine g_lvs (lv2 := [(0, .ref (a 0)), (1, .int (nI u)), (2, .int (nI x)), (3, .int (nI (i + 1)))]) [0, 1, 2, 3] rfl ?_
          exact ih_i _ (by omega) (by rw [leastN, ← hv_i, if_neg c7])
      · refine g_aload_n (pc := 29) C dX4_leastTaste_29 rfl ?_
        refine g_iload_n (pc := 30) C dX4_leastTaste_30 rfl ?_
        refine g_vxi (pc := 31) (ws2 := (mdV g a (sF mn yr gr kd pt wt mr) ks os sd sts kp tk tp tn fr to vl wr bo so nm mv)) C dX4_leastTaste_31 ml_X4_79 mf_X4_tasteOf (m_tasteOf g a ks os sd sts kp tk tp tn fr to vl wr bo so nm mv mn yr gr kd pt wt mr i hB (by omega)) ⟨rfl, rfl, (Nat.le_of_ble_eq_true rfl), (Nat.le_of_ble_eq_true rfl)⟩ rfl rfl (Nat.le_of_ble_eq_true rfl) 0 rfl rfl rfl [0, 1, 2, 3, 4, 5, 6, 7, 8, 9, 10, 11] [] [0, 1, 2, 3, 4, 5, 6, 7, 8, 9, 10, 11] rfl rfl rfl rfl (by decide) rfl rfl ?_
        refine g_goto (pc := 34) (tgt := 38) C dX4_leastTaste_34 (by decide) ?_
        refine g_istore (pc := 38) (lv2 := [(0, .ref (a 0)), (1, .int (nI u)), (2, .int (nI x)), (3, .int (nI i)), (4, .int (nI (tasteN gr (sumN gr 12) i)))]) C dX4_leastTaste_38 (Nat.le_of_ble_eq_true rfl) rfl ?_
        refine g_iload (pc := 40) C dX4_leastTaste_40 rfl ?_
        refine g_iload_n (pc := 42) C dX4_leastTaste_42 rfl ?_
        refine g_icmp_geN (pc := 43) (tgt := 51) C dX4_leastTaste_43 (by decide) (by omega) (by omega) (fun c9 => ?_) (fun c9 => ?_)
        · refine g_iload_n (pc := 51) C dX4_leastTaste_51 rfl ?_
          refine g_istore_n (pc := 52) (lv2 := [(0, .ref (a 0)), (1, .int (nI u)), (2, .int (nI x)), (3, .int (nI i)), (4, .int (nI (tasteN gr (sumN gr 12) i)))]) C dX4_leastTaste_52 rfl (Nat.le_of_ble_eq_true rfl) rfl ?_
          refine g_iinc (pc := 53) (v := (nI (i + 1))) (lv2 := [(0, .ref (a 0)), (1, .int (nI u)), (2, .int (nI x)), (3, .int (nI (i + 1))), (4, .int (nI (tasteN gr (sumN gr 12) i)))]) C dX4_leastTaste_53 rfl (nI_1 _) (Nat.le_of_ble_eq_true rfl) rfl ?_
          refine g_goto (pc := 56) (tgt := 14) C dX4_leastTaste_56 (by decide) ?_
          refine g_lvs (lv2 := [(0, .ref (a 0)), (1, .int (nI u)), (2, .int (nI x)), (3, .int (nI (i + 1)))]) [0, 1, 2, 3] rfl ?_
          exact ih_i _ (by omega) (by rw [leastN, ← hv_i, if_pos c7]; omega)
        · refine g_iload (pc := 46) C dX4_leastTaste_46 rfl ?_
          refine g_goto (pc := 48) (tgt := 52) C dX4_leastTaste_48 (by decide) ?_
          refine g_istore_n (pc := 52) (lv2 := [(0, .ref (a 0)), (1, .int (nI u)), (2, .int (nI (tasteN gr (sumN gr 12) i))), (3, .int (nI i)), (4, .int (nI (tasteN gr (sumN gr 12) i)))]) C dX4_leastTaste_52 rfl (Nat.le_of_ble_eq_true rfl) rfl ?_
          refine g_iinc (pc := 53) (v := (nI (i + 1))) (lv2 := [(0, .ref (a 0)), (1, .int (nI u)), (2, .int (nI (tasteN gr (sumN gr 12) i))), (3, .int (nI (i + 1))), (4, .int (nI (tasteN gr (sumN gr 12) i)))]) C dX4_leastTaste_53 rfl (nI_1 _) (Nat.le_of_ble_eq_true rfl) rfl ?_
          refine g_goto (pc := 56) (tgt := 14) C dX4_leastTaste_56 (by decide) ?_
          refine g_lvs (lv2 := [(0, .ref (a 0)), (1, .int (nI u)), (2, .int (nI (tasteN gr (sumN gr 12) i))), (3, .int (nI (i + 1)))]) [0, 1, 2, 3] rfl ?_
          exact ih_i _ (by omega) (by rw [leastN, ← hv_i, if_pos c7]; omega)
