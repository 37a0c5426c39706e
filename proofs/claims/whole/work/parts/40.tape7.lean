theorem spE_ge (tp : Nat → Nat) {tn to : Nat} (h : to ≤ tn) : to ≤ spE tp tn to ∧ spE tp tn to ≤ tn := by
  have q := endE_is (P := fun j => tp j = 32) h
  exact ⟨q.1, q.2.1⟩
set_option maxHeartbeats 400000 in
set_option maxRecDepth 100000 in
theorem m_pi1 (g : Gl) (a : Nat → Nat) (ks : Nat → Nat) (os : Nat → Nat) (sd : Nat → Nat) (sts : Nat → Nat) (kp : Nat) (tk : Nat → Nat) (tp : Nat → Nat) (tn : Nat) (fr : Nat) (to : Nat) (vl : Nat) (bo : Nat → Nat) (so : Nat → Nat) (nm : Nat → Int64) (mv : Nat → Int64) (mn : Nat) (yr : Nat) (gr : Nat → Nat) (kd : Nat → Nat) (pt : Nat → Nat) (wt : Nat → Nat) (mr : Nat → Nat) (w : Int64) (c : Nat) (h : Nat) (htb : ∀ j, tp j < 256) (htn : tn ≤ 120) (hft : fr ≤ tn) (htok : to = tkE tp tn fr) (hto : to ≤ tn) (hc : c < 8) (hh : h ≤ 9999) : Ct g yX4_partItem cX4_partItem 5 none (rk 5 113) [.ref (a 0), .long w, .int (nI (14 + 4 * c + 1)), .int (nI h)] (mdV g a (sF mn yr gr kd pt wt mr) ks os sd sts kp tk tp tn fr to vl 0 bo so nm mv) (fun r w2 => r = none ∧ w2 = (mdV g a (sF mn yr gr kd (if wdL tp tn fr to = w then if nOk tp tn (spE tp tn to) (tkE tp tn (spE tp tn to)) h then updN pt c (refV tp (spE tp tn to) ((tkE tp tn (spE tp tn to)) - (spE tp tn to))) else pt else pt) wt mr) ks os sd sts kp tk tp tn (if wdL tp tn fr to = w then if nOk tp tn (spE tp tn to) (tkE tp tn (spE tp tn to)) h then (spE tp tn (tkE tp tn (spE tp tn to))) else (spE tp tn to) else fr) (if wdL tp tn fr to = w then if nOk tp tn (spE tp tn to) (tkE tp tn (spE tp tn to)) h then (tkE tp tn (spE tp tn (tkE tp tn (spE tp tn to)))) else (tkE tp tn (spE tp tn to)) else to) (if wdL tp tn fr to = w then (if spE tp tn to < tn ∧ isD (tp (spE tp tn to)) then refV tp (spE tp tn to) (tkE tp tn (spE tp tn to) - spE tp tn to) else 0) else vl) (if wdL tp tn fr to = w then if nOk tp tn (spE tp tn to) (tkE tp tn (spE tp tn to)) h then 0 else 1 else 0) bo so nm mv)) := by
  refine ct_of (by decide) (Nat.le_of_ble_eq_true rfl) ?_
  intro φ C0 Rr
  have C : Cx φ g cX4_partItem 5 RX4 (rk 5 113) := C0
  show Go φ g 5 0 [(0, .ref (a 0)), (1, .long w), (3, .int (nI (14 + 4 * c + 1))), (4, .int (nI h))] [] (mdV g a (sF mn yr gr kd pt wt mr) ks os sd sts kp tk tp tn fr to vl 0 bo so nm mv)
  refine g_aload_n (pc := 0) C dX4_partItem_0 rfl ?_
  refine g_vxl (pc := 1) (ws2 := (mdV g a (sF mn yr gr kd pt wt mr) ks os sd sts kp tk tp tn fr to vl 0 bo so nm mv)) C dX4_partItem_1 ml_X4_229 mf_X4_word (m_word g a (sF mn yr gr kd pt wt mr) ks os sd sts kp tk tp tn fr to vl bo so nm mv htb htn (by omega) htok (by omega)) ⟨rfl, rfl, (Nat.le_of_ble_eq_true rfl), (Nat.le_of_ble_eq_true rfl)⟩ rfl rfl (Nat.le_of_ble_eq_true rfl) 0 rfl rfl rfl [0, 1, 2, 3, 4, 5, 6, 7, 8, 9, 10, 11] [] [0, 1, 2, 3, 4, 5, 6, 7, 8, 9, 10, 11] rfl rfl rfl rfl (by decide) rfl rfl ?_
  refine g_lload_n (pc := 4) C dX4_partItem_4 rfl ?_
  refine g_lcmp (pc := 5) C dX4_partItem_5 ?_
  refine g_if_neL (pc := 6) (tgt := 47) C dX4_partItem_6 (by decide) (fun c1 => ?_) (fun c1 => ?_)
  · exact g_vret C Rr dX4_partItem_47 ⟨rfl, by simp only [if_neg c1]⟩ rfl
  · refine g_aload_n (pc := 9) C dX4_partItem_9 rfl ?_
    refine g_iconst (pc := 10) (v := nI 1) C dX4_partItem_10 (by decide) ?_
    refine g_vxn (pc := 11) (ws2 := (mdV g a (sF mn yr gr kd pt wt mr) ks os sd sts kp tk tp tn (spE tp tn to) (tkE tp tn (spE tp tn to)) vl 0 bo so nm mv)) C dX4_partItem_11 ml_X4_225 mf_X4_must (m_must1 g a (sF mn yr gr kd pt wt mr) ks os sd sts kp tk tp tn fr to vl bo so nm mv htb htn (by omega)) ⟨rfl, rfl, (Nat.le_of_ble_eq_true rfl), (Nat.le_of_ble_eq_true rfl)⟩ rfl rfl (Nat.le_of_ble_eq_true rfl) 0 rfl rfl rfl [0, 1, 2, 3, 4, 5, 6, 7, 8, 9, 10, 11] [] [0, 1, 2, 3, 4, 5, 6, 7, 8, 9, 10, 11] rfl rfl rfl rfl (by decide) rfl rfl ?_
    have hf1 := spE_ge tp hto
    have ht1 := tkE_ge tp hf1.2
    refine g_aload_n (pc := 14) C dX4_partItem_14 rfl ?_
    refine g_iconst (pc := 15) (v := nI 0) C dX4_partItem_15 (by decide) ?_
    refine g_iload (pc := 16) C dX4_partItem_16 rfl ?_
    refine g_vxn (pc := 18) (ws2 := (mdV g a (sF mn yr gr kd pt wt mr) ks os sd sts kp tk tp tn (if nOk tp tn (spE tp tn to) (tkE tp tn (spE tp tn to)) h then spE tp tn (tkE tp tn (spE tp tn to)) else (spE tp tn to)) (if nOk tp tn (spE tp tn to) (tkE tp tn (spE tp tn to)) h then tkE tp tn (spE tp tn (tkE tp tn (spE tp tn to))) else (tkE tp tn (spE tp tn to))) (if (spE tp tn to) < tn ∧ isD (tp (spE tp tn to)) then refV tp (spE tp tn to) ((tkE tp tn (spE tp tn to)) - (spE tp tn to)) else 0) (if nOk tp tn (spE tp tn to) (tkE tp tn (spE tp tn to)) h then 0 else 1) bo so nm mv)) C dX4_partItem_18 ml_X4_245 mf_X4_number (m_num g a (sF mn yr gr kd pt wt mr) ks os sd sts kp tk tp tn (spE tp tn to) (tkE tp tn (spE tp tn to)) vl bo so nm mv h htb htn (by omega) rfl (by omega) (by omega)) ⟨rfl, rfl, (Nat.le_of_ble_eq_true rfl), (Nat.le_of_ble_eq_true rfl)⟩ rfl rfl (Nat.le_of_ble_eq_true rfl) 0 rfl rfl rfl [0, 1, 2, 3, 4, 5, 6, 7, 8, 9, 10, 11] [] [0, 1, 2, 3, 4, 5, 6, 7, 8, 9, 10, 11] rfl rfl rfl rfl (by decide) rfl rfl ?_
    by_cases c2 : nOk tp tn (spE tp tn to) (tkE tp tn (spE tp tn to)) h
    · refine g_ws (ws := (mdV g a (sF mn yr gr kd pt wt mr) ks os sd sts kp tk tp tn (if nOk tp tn (spE tp tn to) (tkE tp tn (spE tp tn to)) h then spE tp tn (tkE tp tn (spE tp tn to)) else (spE tp tn to)) (if nOk tp tn (spE tp tn to) (tkE tp tn (spE tp tn to)) h then tkE tp tn (spE tp tn (tkE tp tn (spE tp tn to))) else (tkE tp tn (spE tp tn to))) (if (spE tp tn to) < tn ∧ isD (tp (spE tp tn to)) then refV tp (spE tp tn to) ((tkE tp tn (spE tp tn to)) - (spE tp tn to)) else 0) (if nOk tp tn (spE tp tn to) (tkE tp tn (spE tp tn to)) h then 0 else 1) bo so nm mv)) (ws2 := (mdV g a (sF mn yr gr kd pt wt mr) ks os sd sts kp tk tp tn (spE tp tn (tkE tp tn (spE tp tn to))) (tkE tp tn (spE tp tn (tkE tp tn (spE tp tn to)))) (refV tp (spE tp tn to) ((tkE tp tn (spE tp tn to)) - (spE tp tn to))) 0 bo so nm mv)) (by simp only [if_pos c2, if_pos c2.1]) ?_
      refine g_aload_n (pc := 21) C dX4_partItem_21 rfl ?_
      refine g_get4 (pc := 22) C dX4_partItem_22 0 rfl 0 (by decide) fl_X4_7 rfl ?_
      refine g_iload_n (pc := 25) C dX4_partItem_25 rfl ?_
      refine g_aload_n (pc := 26) C dX4_partItem_26 rfl ?_
      refine g_get4 (pc := 27) C dX4_partItem_27 0 rfl 12 (by decide) fl_X4_211 rfl ?_
      refine g_if_eqN (pc := 30) (tgt := 42) C dX4_partItem_30 (by decide) (by decide) (fun _ => ?_) (fun h => absurd h (by decide))
      refine g_aload_n (pc := 42) C dX4_partItem_42 rfl ?_
      refine g_get4 (pc := 43) C dX4_partItem_43 0 rfl 11 (by decide) fl_X4_222 rfl ?_
      refine g_iastM (pc := 46) (ws2 := _) C dX4_partItem_46 1 rfl rfl (by omega) (by decide) rfl ?_
      refine g_ws (ws := (mdV g a (updN (sF mn yr gr kd pt wt mr) (14 + 4 * c + 1) (refV tp (spE tp tn to) ((tkE tp tn (spE tp tn to)) - (spE tp tn to)))) ks os sd sts kp tk tp tn (spE tp tn (tkE tp tn (spE tp tn to))) (tkE tp tn (spE tp tn (tkE tp tn (spE tp tn to)))) (refV tp (spE tp tn to) ((tkE tp tn (spE tp tn to)) - (spE tp tn to))) 0 bo so nm mv)) (ws2 := (mdV g a (sF mn yr gr kd (updN pt c (refV tp (spE tp tn to) ((tkE tp tn (spE tp tn to)) - (spE tp tn to)))) wt mr) ks os sd sts kp tk tp tn (spE tp tn (tkE tp tn (spE tp tn to))) (tkE tp tn (spE tp tn (tkE tp tn (spE tp tn to)))) (refV tp (spE tp tn to) ((tkE tp tn (spE tp tn to)) - (spE tp tn to))) 0 bo so nm mv)) (by rw [sF_wp]) ?_
      exact g_vret C Rr dX4_partItem_47 ⟨rfl, by simp only [if_pos c1, if_pos c2, if_pos c2.1]⟩ rfl
    · refine g_ws (ws := (mdV g a (sF mn yr gr kd pt wt mr) ks os sd sts kp tk tp tn (if nOk tp tn (spE tp tn to) (tkE tp tn (spE tp tn to)) h then spE tp tn (tkE tp tn (spE tp tn to)) else (spE tp tn to)) (if nOk tp tn (spE tp tn to) (tkE tp tn (spE tp tn to)) h then tkE tp tn (spE tp tn (tkE tp tn (spE tp tn to))) else (tkE tp tn (spE tp tn to))) (if (spE tp tn to) < tn ∧ isD (tp (spE tp tn to)) then refV tp (spE tp tn to) ((tkE tp tn (spE tp tn to)) - (spE tp tn to)) else 0) (if nOk tp tn (spE tp tn to) (tkE tp tn (spE tp tn to)) h then 0 else 1) bo so nm mv)) (ws2 := (mdV g a (sF mn yr gr kd pt wt mr) ks os sd sts kp tk tp tn (spE tp tn to) (tkE tp tn (spE tp tn to)) (if (spE tp tn to) < tn ∧ isD (tp (spE tp tn to)) then refV tp (spE tp tn to) ((tkE tp tn (spE tp tn to)) - (spE tp tn to)) else 0) 1 bo so nm mv)) (by simp only [if_neg c2]) ?_
      refine g_aload_n (pc := 21) C dX4_partItem_21 rfl ?_
      refine g_get4 (pc := 22) C dX4_partItem_22 0 rfl 0 (by decide) fl_X4_7 rfl ?_
      refine g_iload_n (pc := 25) C dX4_partItem_25 rfl ?_
      refine g_aload_n (pc := 26) C dX4_partItem_26 rfl ?_
      refine g_get4 (pc := 27) C dX4_partItem_27 0 rfl 12 (by decide) fl_X4_211 rfl ?_
      refine g_if_eqN (pc := 30) (tgt := 42) C dX4_partItem_30 (by decide) (by decide) (fun h => absurd h (by decide)) (fun _ => ?_)
      refine g_aload_n (pc := 33) C dX4_partItem_33 rfl ?_
      refine g_get4 (pc := 34) C dX4_partItem_34 0 rfl 0 (by decide) fl_X4_7 rfl ?_
      refine g_iload_n (pc := 37) C dX4_partItem_37 rfl ?_
      refine g_ialdM (pc := 38) C dX4_partItem_38 1 rfl rfl (by omega) (by decide) ?_
      refine g_top (congrArg nI sF_rp) ?_
      refine g_goto (pc := 39) (tgt := 46) C dX4_partItem_39 (by decide) ?_
      refine g_iastM (pc := 46) (ws2 := _) C dX4_partItem_46 1 rfl rfl (by omega) (by decide) rfl ?_
      refine g_ws (ws := (mdV g a (updN (sF mn yr gr kd pt wt mr) (14 + 4 * c + 1) (pt c)) ks os sd sts kp tk tp tn (spE tp tn to) (tkE tp tn (spE tp tn to)) (if (spE tp tn to) < tn ∧ isD (tp (spE tp tn to)) then refV tp (spE tp tn to) ((tkE tp tn (spE tp tn to)) - (spE tp tn to)) else 0) 1 bo so nm mv)) (ws2 := (mdV g a (sF mn yr gr kd (updN pt c (pt c)) wt mr) ks os sd sts kp tk tp tn (spE tp tn to) (tkE tp tn (spE tp tn to)) (if (spE tp tn to) < tn ∧ isD (tp (spE tp tn to)) then refV tp (spE tp tn to) ((tkE tp tn (spE tp tn to)) - (spE tp tn to)) else 0) 1 bo so nm mv)) (by rw [sF_wp]) ?_
      refine g_ws (ws := (mdV g a (sF mn yr gr kd (updN pt c (pt c)) wt mr) ks os sd sts kp tk tp tn (spE tp tn to) (tkE tp tn (spE tp tn to)) (if (spE tp tn to) < tn ∧ isD (tp (spE tp tn to)) then refV tp (spE tp tn to) ((tkE tp tn (spE tp tn to)) - (spE tp tn to)) else 0) 1 bo so nm mv)) (ws2 := (mdV g a (sF mn yr gr kd pt wt mr) ks os sd sts kp tk tp tn (spE tp tn to) (tkE tp tn (spE tp tn to)) (if (spE tp tn to) < tn ∧ isD (tp (spE tp tn to)) then refV tp (spE tp tn to) ((tkE tp tn (spE tp tn to)) - (spE tp tn to)) else 0) 1 bo so nm mv)) (by rw [← updN_self]) ?_
      exact g_vret C Rr dX4_partItem_47 ⟨rfl, by simp only [if_pos c1, if_neg c2]⟩ rfl
set_option maxHeartbeats 400000 in
set_option maxRecDepth 100000 in
theorem m_pi2 (g : Gl) (a : Nat → Nat) (ks : Nat → Nat) (os : Nat → Nat) (sd : Nat → Nat) (sts : Nat → Nat) (kp : Nat) (tk : Nat → Nat) (tp : Nat → Nat) (tn : Nat) (fr : Nat) (to : Nat) (vl : Nat) (bo : Nat → Nat) (so : Nat → Nat) (nm : Nat → Int64) (mv : Nat → Int64) (mn : Nat) (yr : Nat) (gr : Nat → Nat) (kd : Nat → Nat) (pt : Nat → Nat) (wt : Nat → Nat) (mr : Nat → Nat) (w : Int64) (c : Nat) (h : Nat) (htb : ∀ j, tp j < 256) (htn : tn ≤ 120) (hft : fr ≤ tn) (htok : to = tkE tp tn fr) (hto : to ≤ tn) (hc : c < 8) (hh : h ≤ 9999) : Ct g yX4_partItem cX4_partItem 5 none (rk 5 113) [.ref (a 0), .long w, .int (nI (14 + 4 * c + 2)), .int (nI h)] (mdV g a (sF mn yr gr kd pt wt mr) ks os sd sts kp tk tp tn fr to vl 0 bo so nm mv) (fun r w2 => r = none ∧ w2 = (mdV g a (sF mn yr gr kd pt (if wdL tp tn fr to = w then if nOk tp tn (spE tp tn to) (tkE tp tn (spE tp tn to)) h then updN wt c (refV tp (spE tp tn to) ((tkE tp tn (spE tp tn to)) - (spE tp tn to))) else wt else wt) mr) ks os sd sts kp tk tp tn (if wdL tp tn fr to = w then if nOk tp tn (spE tp tn to) (tkE tp tn (spE tp tn to)) h then (spE tp tn (tkE tp tn (spE tp tn to))) else (spE tp tn to) else fr) (if wdL tp tn fr to = w then if nOk tp tn (spE tp tn to) (tkE tp tn (spE tp tn to)) h then (tkE tp tn (spE tp tn (tkE tp tn (spE tp tn to)))) else (tkE tp tn (spE tp tn to)) else to) (if wdL tp tn fr to = w then (if spE tp tn to < tn ∧ isD (tp (spE tp tn to)) then refV tp (spE tp tn to) (tkE tp tn (spE tp tn to) - spE tp tn to) else 0) else vl) (if wdL tp tn fr to = w then if nOk tp tn (spE tp tn to) (tkE tp tn (spE tp tn to)) h then 0 else 1 else 0) bo so nm mv)) := by
  refine ct_of (by decide) (Nat.le_of_ble_eq_true rfl) ?_
  intro φ C0 Rr
  have C : Cx φ g cX4_partItem 5 RX4 (rk 5 113) := C0
  show Go φ g 5 0 [(0, .ref (a 0)), (1, .long w), (3, .int (nI (14 + 4 * c + 2))), (4, .int (nI h))] [] (mdV g a (sF mn yr gr kd pt wt mr) ks os sd sts kp tk tp tn fr to vl 0 bo so nm mv)
  refine g_aload_n (pc := 0) C dX4_partItem_0 rfl ?_
  refine g_vxl (pc := 1) (ws2 := (mdV g a (sF mn yr gr kd pt wt mr) ks os sd sts kp tk tp tn fr to vl 0 bo so nm mv)) C dX4_partItem_1 ml_X4_229 mf_X4_word (m_word g a (sF mn yr gr kd pt wt mr) ks os sd sts kp tk tp tn fr to vl bo so nm mv htb htn (by omega) htok (by omega)) ⟨rfl, rfl, (Nat.le_of_ble_eq_true rfl), (Nat.le_of_ble_eq_true rfl)⟩ rfl rfl (Nat.le_of_ble_eq_true rfl) 0 rfl rfl rfl [0, 1, 2, 3, 4, 5, 6, 7, 8, 9, 10, 11] [] [0, 1, 2, 3, 4, 5, 6, 7, 8, 9, 10, 11] rfl rfl rfl rfl (by decide) rfl rfl ?_
  refine g_lload_n (pc := 4) C dX4_partItem_4 rfl ?_
  refine g_lcmp (pc := 5) C dX4_partItem_5 ?_
  refine g_if_neL (pc := 6) (tgt := 47) C dX4_partItem_6 (by decide) (fun c1 => ?_) (fun c1 => ?_)
  · exact g_vret C Rr dX4_partItem_47 ⟨rfl, by simp only [if_neg c1]⟩ rfl
  · refine g_aload_n (pc := 9) C dX4_partItem_9 rfl ?_
    refine g_iconst (pc := 10) (v := nI 1) C dX4_partItem_10 (by decide) ?_
    refine g_vxn (pc := 11) (ws2 := (mdV g a (sF mn yr gr kd pt wt mr) ks os sd sts kp tk tp tn (spE tp tn to) (tkE tp tn (spE tp tn to)) vl 0 bo so nm mv)) C dX4_partItem_11 ml_X4_225 mf_X4_must (m_must1 g a (sF mn yr gr kd pt wt mr) ks os sd sts kp tk tp tn fr to vl bo so nm mv htb htn (by omega)) ⟨rfl, rfl, (Nat.le_of_ble_eq_true rfl), (Nat.le_of_ble_eq_true rfl)⟩ rfl rfl (Nat.le_of_ble_eq_true rfl) 0 rfl rfl rfl [0, 1, 2, 3, 4, 5, 6, 7, 8, 9, 10, 11] [] [0, 1, 2, 3, 4, 5, 6, 7, 8, 9, 10, 11] rfl rfl rfl rfl (by decide) rfl rfl ?_
    have hf1 := spE_ge tp hto
    have ht1 := tkE_ge tp hf1.2
    refine g_aload_n (pc := 14) C dX4_partItem_14 rfl ?_
    refine g_iconst (pc := 15) (v := nI 0) C dX4_partItem_15 (by decide) ?_
    refine g_iload (pc := 16) C dX4_partItem_16 rfl ?_
    refine g_vxn (pc := 18) (ws2 := (mdV g a (sF mn yr gr kd pt wt mr) ks os sd sts kp tk tp tn (if nOk tp tn (spE tp tn to) (tkE tp tn (spE tp tn to)) h then spE tp tn (tkE tp tn (spE tp tn to)) else (spE tp tn to)) (if nOk tp tn (spE tp tn to) (tkE tp tn (spE tp tn to)) h then tkE tp tn (spE tp tn (tkE tp tn (spE tp tn to))) else (tkE tp tn (spE tp tn to))) (if (spE tp tn to) < tn ∧ isD (tp (spE tp tn to)) then refV tp (spE tp tn to) ((tkE tp tn (spE tp tn to)) - (spE tp tn to)) else 0) (if nOk tp tn (spE tp tn to) (tkE tp tn (spE tp tn to)) h then 0 else 1) bo so nm mv)) C dX4_partItem_18 ml_X4_245 mf_X4_number (m_num g a (sF mn yr gr kd pt wt mr) ks os sd sts kp tk tp tn (spE tp tn to) (tkE tp tn (spE tp tn to)) vl bo so nm mv h htb htn (by omega) rfl (by omega) (by omega)) ⟨rfl, rfl, (Nat.le_of_ble_eq_true rfl), (Nat.le_of_ble_eq_true rfl)⟩ rfl rfl (Nat.le_of_ble_eq_true rfl) 0 rfl rfl rfl [0, 1, 2, 3, 4, 5, 6, 7, 8, 9, 10, 11] [] [0, 1, 2, 3, 4, 5, 6, 7, 8, 9, 10, 11] rfl rfl rfl rfl (by decide) rfl rfl ?_
    by_cases c2 : nOk tp tn (spE tp tn to) (tkE tp tn (spE tp tn to)) h
    · refine g_ws (ws := (mdV g a (sF mn yr gr kd pt wt mr) ks os sd sts kp tk tp tn (if nOk tp tn (spE tp tn to) (tkE tp tn (spE tp tn to)) h then spE tp tn (tkE tp tn (spE tp tn to)) else (spE tp tn to)) (if nOk tp tn (spE tp tn to) (tkE tp tn (spE tp tn to)) h then tkE tp tn (spE tp tn (tkE tp tn (spE tp tn to))) else (tkE tp tn (spE tp tn to))) (if (spE tp tn to) < tn ∧ isD (tp (spE tp tn to)) then refV tp (spE tp tn to) ((tkE tp tn (spE tp tn to)) - (spE tp tn to)) else 0) (if nOk tp tn (spE tp tn to) (tkE tp tn (spE tp tn to)) h then 0 else 1) bo so nm mv)) (ws2 := (mdV g a (sF mn yr gr kd pt wt mr) ks os sd sts kp tk tp tn (spE tp tn (tkE tp tn (spE tp tn to))) (tkE tp tn (spE tp tn (tkE tp tn (spE tp tn to)))) (refV tp (spE tp tn to) ((tkE tp tn (spE tp tn to)) - (spE tp tn to))) 0 bo so nm mv)) (by simp only [if_pos c2, if_pos c2.1]) ?_
      refine g_aload_n (pc := 21) C dX4_partItem_21 rfl ?_
      refine g_get4 (pc := 22) C dX4_partItem_22 0 rfl 0 (by decide) fl_X4_7 rfl ?_
      refine g_iload_n (pc := 25) C dX4_partItem_25 rfl ?_
      refine g_aload_n (pc := 26) C dX4_partItem_26 rfl ?_
      refine g_get4 (pc := 27) C dX4_partItem_27 0 rfl 12 (by decide) fl_X4_211 rfl ?_
      refine g_if_eqN (pc := 30) (tgt := 42) C dX4_partItem_30 (by decide) (by decide) (fun _ => ?_) (fun h => absurd h (by decide))
      refine g_aload_n (pc := 42) C dX4_partItem_42 rfl ?_
      refine g_get4 (pc := 43) C dX4_partItem_43 0 rfl 11 (by decide) fl_X4_222 rfl ?_
      refine g_iastM (pc := 46) (ws2 := _) C dX4_partItem_46 1 rfl rfl (by omega) (by decide) rfl ?_
      refine g_ws (ws := (mdV g a (updN (sF mn yr gr kd pt wt mr) (14 + 4 * c + 2) (refV tp (spE tp tn to) ((tkE tp tn (spE tp tn to)) - (spE tp tn to)))) ks os sd sts kp tk tp tn (spE tp tn (tkE tp tn (spE tp tn to))) (tkE tp tn (spE tp tn (tkE tp tn (spE tp tn to)))) (refV tp (spE tp tn to) ((tkE tp tn (spE tp tn to)) - (spE tp tn to))) 0 bo so nm mv)) (ws2 := (mdV g a (sF mn yr gr kd pt (updN wt c (refV tp (spE tp tn to) ((tkE tp tn (spE tp tn to)) - (spE tp tn to)))) mr) ks os sd sts kp tk tp tn (spE tp tn (tkE tp tn (spE tp tn to))) (tkE tp tn (spE tp tn (tkE tp tn (spE tp tn to)))) (refV tp (spE tp tn to) ((tkE tp tn (spE tp tn to)) - (spE tp tn to))) 0 bo so nm mv)) (by rw [sF_ww]) ?_
      exact g_vret C Rr dX4_partItem_47 ⟨rfl, by simp only [if_pos c1, if_pos c2, if_pos c2.1]⟩ rfl
    · refine g_ws (ws := (mdV g a (sF mn yr gr kd pt wt mr) ks os sd sts kp tk tp tn (if nOk tp tn (spE tp tn to) (tkE tp tn (spE tp tn to)) h then spE tp tn (tkE tp tn (spE tp tn to)) else (spE tp tn to)) (if nOk tp tn (spE tp tn to) (tkE tp tn (spE tp tn to)) h then tkE tp tn (spE tp tn (tkE tp tn (spE tp tn to))) else (tkE tp tn (spE tp tn to))) (if (spE tp tn to) < tn ∧ isD (tp (spE tp tn to)) then refV tp (spE tp tn to) ((tkE tp tn (spE tp tn to)) - (spE tp tn to)) else 0) (if nOk tp tn (spE tp tn to) (tkE tp tn (spE tp tn to)) h then 0 else 1) bo so nm mv)) (ws2 := (mdV g a (sF mn yr gr kd pt wt mr) ks os sd sts kp tk tp tn (spE tp tn to) (tkE tp tn (spE tp tn to)) (if (spE tp tn to) < tn ∧ isD (tp (spE tp tn to)) then refV tp (spE tp tn to) ((tkE tp tn (spE tp tn to)) - (spE tp tn to)) else 0) 1 bo so nm mv)) (by simp only [if_neg c2]) ?_
      refine g_aload_n (pc := 21) C dX4_partItem_21 rfl ?_
      refine g_get4 (pc := 22) C dX4_partItem_22 0 rfl 0 (by decide) fl_X4_7 rfl ?_
      refine g_iload_n (pc := 25) C dX4_partItem_25 rfl ?_
      refine g_aload_n (pc := 26) C dX4_partItem_26 rfl ?_
      refine g_get4 (pc := 27) C dX4_partItem_27 0 rfl 12 (by decide) fl_X4_211 rfl ?_
      refine g_if_eqN (pc := 30) (tgt := 42) C dX4_partItem_30 (by decide) (by decide) (fun h => absurd h (by decide)) (fun _ => ?_)
      refine g_aload_n (pc := 33) C dX4_partItem_33 rfl ?_
      refine g_get4 (pc := 34) C dX4_partItem_34 0 rfl 0 (by decide) fl_X4_7 rfl ?_
      refine g_iload_n (pc := 37) C dX4_partItem_37 rfl ?_
      refine g_ialdM (pc := 38) C dX4_partItem_38 1 rfl rfl (by omega) (by decide) ?_
      refine g_top (congrArg nI sF_rw) ?_
      refine g_goto (pc := 39) (tgt := 46) C dX4_partItem_39 (by decide) ?_
      refine g_iastM (pc := 46) (ws2 := _) C dX4_partItem_46 1 rfl rfl (by omega) (by decide) rfl ?_
      refine g_ws (ws := (mdV g a (updN (sF mn yr gr kd pt wt mr) (14 + 4 * c + 2) (wt c)) ks os sd sts kp tk tp tn (spE tp tn to) (tkE tp tn (spE tp tn to)) (if (spE tp tn to) < tn ∧ isD (tp (spE tp tn to)) then refV tp (spE tp tn to) ((tkE tp tn (spE tp tn to)) - (spE tp tn to)) else 0) 1 bo so nm mv)) (ws2 := (mdV g a (sF mn yr gr kd pt (updN wt c (wt c)) mr) ks os sd sts kp tk tp tn (spE tp tn to) (tkE tp tn (spE tp tn to)) (if (spE tp tn to) < tn ∧ isD (tp (spE tp tn to)) then refV tp (spE tp tn to) ((tkE tp tn (spE tp tn to)) - (spE tp tn to)) else 0) 1 bo so nm mv)) (by rw [sF_ww]) ?_
      refine g_ws (ws := (mdV g a (sF mn yr gr kd pt (updN wt c (wt c)) mr) ks os sd sts kp tk tp tn (spE tp tn to) (tkE tp tn (spE tp tn to)) (if (spE tp tn to) < tn ∧ isD (tp (spE tp tn to)) then refV tp (spE tp tn to) ((tkE tp tn (spE tp tn to)) - (spE tp tn to)) else 0) 1 bo so nm mv)) (ws2 := (mdV g a (sF mn yr gr kd pt wt mr) ks os sd sts kp tk tp tn (spE tp tn to) (tkE tp tn (spE tp tn to)) (if (spE tp tn to) < tn ∧ isD (tp (spE tp tn to)) then refV tp (spE tp tn to) ((tkE tp tn (spE tp tn to)) - (spE tp tn to)) else 0) 1 bo so nm mv)) (by rw [← updN_self]) ?_
      exact g_vret C Rr dX4_partItem_47 ⟨rfl, by simp only [if_pos c1, if_neg c2]⟩ rfl
set_option maxHeartbeats 400000 in
set_option maxRecDepth 100000 in
theorem m_pi3 (g : Gl) (a : Nat → Nat) (ks : Nat → Nat) (os : Nat → Nat) (sd : Nat → Nat) (sts : Nat → Nat) (kp : Nat) (tk : Nat → Nat) (tp : Nat → Nat) (tn : Nat) (fr : Nat) (to : Nat) (vl : Nat) (bo : Nat → Nat) (so : Nat → Nat) (nm : Nat → Int64) (mv : Nat → Int64) (mn : Nat) (yr : Nat) (gr : Nat → Nat) (kd : Nat → Nat) (pt : Nat → Nat) (wt : Nat → Nat) (mr : Nat → Nat) (w : Int64) (c : Nat) (h : Nat) (htb : ∀ j, tp j < 256) (htn : tn ≤ 120) (hft : fr ≤ tn) (htok : to = tkE tp tn fr) (hto : to ≤ tn) (hc : c < 8) (hh : h ≤ 9999) : Ct g yX4_partItem cX4_partItem 5 none (rk 5 113) [.ref (a 0), .long w, .int (nI (14 + 4 * c + 3)), .int (nI h)] (mdV g a (sF mn yr gr kd pt wt mr) ks os sd sts kp tk tp tn fr to vl 0 bo so nm mv) (fun r w2 => r = none ∧ w2 = (mdV g a (sF mn yr gr kd pt wt (if wdL tp tn fr to = w then if nOk tp tn (spE tp tn to) (tkE tp tn (spE tp tn to)) h then updN mr c (refV tp (spE tp tn to) ((tkE tp tn (spE tp tn to)) - (spE tp tn to))) else mr else mr)) ks os sd sts kp tk tp tn (if wdL tp tn fr to = w then if nOk tp tn (spE tp tn to) (tkE tp tn (spE tp tn to)) h then (spE tp tn (tkE tp tn (spE tp tn to))) else (spE tp tn to) else fr) (if wdL tp tn fr to = w then if nOk tp tn (spE tp tn to) (tkE tp tn (spE tp tn to)) h then (tkE tp tn (spE tp tn (tkE tp tn (spE tp tn to)))) else (tkE tp tn (spE tp tn to)) else to) (if wdL tp tn fr to = w then (if spE tp tn to < tn ∧ isD (tp (spE tp tn to)) then refV tp (spE tp tn to) (tkE tp tn (spE tp tn to) - spE tp tn to) else 0) else vl) (if wdL tp tn fr to = w then if nOk tp tn (spE tp tn to) (tkE tp tn (spE tp tn to)) h then 0 else 1 else 0) bo so nm mv)) := by
  refine ct_of (by decide) (Nat.le_of_ble_eq_true rfl) ?_
  intro φ C0 Rr
  have C : Cx φ g cX4_partItem 5 RX4 (rk 5 113) := C0
  show Go φ g 5 0 [(0, .ref (a 0)), (1, .long w), (3, .int (nI (14 + 4 * c + 3))), (4, .int (nI h))] [] (mdV g a (sF mn yr gr kd pt wt mr) ks os sd sts kp tk tp tn fr to vl 0 bo so nm mv)
  refine g_aload_n (pc := 0) C dX4_partItem_0 rfl ?_
  refine g_vxl (pc := 1) (ws2 := (mdV g a (sF mn yr gr kd pt wt mr) ks os sd sts kp tk tp tn fr to vl 0 bo so nm mv)) C dX4_partItem_1 ml_X4_229 mf_X4_word (m_word g a (sF mn yr gr kd pt wt mr) ks os sd sts kp tk tp tn fr to vl bo so nm mv htb htn (by omega) htok (by omega)) ⟨rfl, rfl, (Nat.le_of_ble_eq_true rfl), (Nat.le_of_ble_eq_true rfl)⟩ rfl rfl (Nat.le_of_ble_eq_true rfl) 0 rfl rfl rfl [0, 1, 2, 3, 4, 5, 6, 7, 8, 9, 10, 11] [] [0, 1, 2, 3, 4, 5, 6, 7, 8, 9, 10, 11] rfl rfl rfl rfl (by decide) rfl rfl ?_
  refine g_lload_n (pc := 4) C dX4_partItem_4 rfl ?_
  refine g_lcmp (pc := 5) C dX4_partItem_5 ?_
  refine g_if_neL (pc := 6) (tgt := 47) C dX4_partItem_6 (by decide) (fun c1 => ?_) (fun c1 => ?_)
  · exact g_vret C Rr dX4_partItem_47 ⟨rfl, by simp only [if_neg c1]⟩ rfl
  · refine g_aload_n (pc := 9) C dX4_partItem_9 rfl ?_
    refine g_iconst (pc := 10) (v := nI 1) C dX4_partItem_10 (by decide) ?_
    refine g_vxn (pc := 11) (ws2 := (mdV g a (sF mn yr gr kd pt wt mr) ks os sd sts kp tk tp tn (spE tp tn to) (tkE tp tn (spE tp tn to)) vl 0 bo so nm mv)) C dX4_partItem_11 ml_X4_225 mf_X4_must (m_must1 g a (sF mn yr gr kd pt wt mr) ks os sd sts kp tk tp tn fr to vl bo so nm mv htb htn (by omega)) ⟨rfl, rfl, (Nat.le_of_ble_eq_true rfl), (Nat.le_of_ble_eq_true rfl)⟩ rfl rfl (Nat.le_of_ble_eq_true rfl) 0 rfl rfl rfl [0, 1, 2, 3, 4, 5, 6, 7, 8, 9, 10, 11] [] [0, 1, 2, 3, 4, 5, 6, 7, 8, 9, 10, 11] rfl rfl rfl rfl (by decide) rfl rfl ?_
    have hf1 := spE_ge tp hto
    have ht1 := tkE_ge tp hf1.2
    refine g_aload_n (pc := 14) C dX4_partItem_14 rfl ?_
    refine g_iconst (pc := 15) (v := nI 0) C dX4_partItem_15 (by decide) ?_
    refine g_iload (pc := 16) C dX4_partItem_16 rfl ?_
    refine g_vxn (pc := 18) (ws2 := (mdV g a (sF mn yr gr kd pt wt mr) ks os sd sts kp tk tp tn (if nOk tp tn (spE tp tn to) (tkE tp tn (spE tp tn to)) h then spE tp tn (tkE tp tn (spE tp tn to)) else (spE tp tn to)) (if nOk tp tn (spE tp tn to) (tkE tp tn (spE tp tn to)) h then tkE tp tn (spE tp tn (tkE tp tn (spE tp tn to))) else (tkE tp tn (spE tp tn to))) (if (spE tp tn to) < tn ∧ isD (tp (spE tp tn to)) then refV tp (spE tp tn to) ((tkE tp tn (spE tp tn to)) - (spE tp tn to)) else 0) (if nOk tp tn (spE tp tn to) (tkE tp tn (spE tp tn to)) h then 0 else 1) bo so nm mv)) C dX4_partItem_18 ml_X4_245 mf_X4_number (m_num g a (sF mn yr gr kd pt wt mr) ks os sd sts kp tk tp tn (spE tp tn to) (tkE tp tn (spE tp tn to)) vl bo so nm mv h htb htn (by omega) rfl (by omega) (by omega)) ⟨rfl, rfl, (Nat.le_of_ble_eq_true rfl), (Nat.le_of_ble_eq_true rfl)⟩ rfl rfl (Nat.le_of_ble_eq_true rfl) 0 rfl rfl rfl [0, 1, 2, 3, 4, 5, 6, 7, 8, 9, 10, 11] [] [0, 1, 2, 3, 4, 5, 6, 7, 8, 9, 10, 11] rfl rfl rfl rfl (by decide) rfl rfl ?_
    by_cases c2 : nOk tp tn (spE tp tn to) (tkE tp tn (spE tp tn to)) h
    · refine g_ws (ws := (mdV g a (sF mn yr gr kd pt wt mr) ks os sd sts kp tk tp tn (if nOk tp tn (spE tp tn to) (tkE tp tn (spE tp tn to)) h then spE tp tn (tkE tp tn (spE tp tn to)) else (spE tp tn to)) (if nOk tp tn (spE tp tn to) (tkE tp tn (spE tp tn to)) h then tkE tp tn (spE tp tn (tkE tp tn (spE tp tn to))) else (tkE tp tn (spE tp tn to))) (if (spE tp tn to) < tn ∧ isD (tp (spE tp tn to)) then refV tp (spE tp tn to) ((tkE tp tn (spE tp tn to)) - (spE tp tn to)) else 0) (if nOk tp tn (spE tp tn to) (tkE tp tn (spE tp tn to)) h then 0 else 1) bo so nm mv)) (ws2 := (mdV g a (sF mn yr gr kd pt wt mr) ks os sd sts kp tk tp tn (spE tp tn (tkE tp tn (spE tp tn to))) (tkE tp tn (spE tp tn (tkE tp tn (spE tp tn to)))) (refV tp (spE tp tn to) ((tkE tp tn (spE tp tn to)) - (spE tp tn to))) 0 bo so nm mv)) (by simp only [if_pos c2, if_pos c2.1]) ?_
      refine g_aload_n (pc := 21) C dX4_partItem_21 rfl ?_
      refine g_get4 (pc := 22) C dX4_partItem_22 0 rfl 0 (by decide) fl_X4_7 rfl ?_
      refine g_iload_n (pc := 25) C dX4_partItem_25 rfl ?_
      refine g_aload_n (pc := 26) C dX4_partItem_26 rfl ?_
      refine g_get4 (pc := 27) C dX4_partItem_27 0 rfl 12 (by decide) fl_X4_211 rfl ?_
      refine g_if_eqN (pc := 30) (tgt := 42) C dX4_partItem_30 (by decide) (by decide) (fun _ => ?_) (fun h => absurd h (by decide))
      refine g_aload_n (pc := 42) C dX4_partItem_42 rfl ?_
      refine g_get4 (pc := 43) C dX4_partItem_43 0 rfl 11 (by decide) fl_X4_222 rfl ?_
      refine g_iastM (pc := 46) (ws2 := _) C dX4_partItem_46 1 rfl rfl (by omega) (by decide) rfl ?_
      refine g_ws (ws := (mdV g a (updN (sF mn yr gr kd pt wt mr) (14 + 4 * c + 3) (refV tp (spE tp tn to) ((tkE tp tn (spE tp tn to)) - (spE tp tn to)))) ks os sd sts kp tk tp tn (spE tp tn (tkE tp tn (spE tp tn to))) (tkE tp tn (spE tp tn (tkE tp tn (spE tp tn to)))) (refV tp (spE tp tn to) ((tkE tp tn (spE tp tn to)) - (spE tp tn to))) 0 bo so nm mv)) (ws2 := (mdV g a (sF mn yr gr kd pt wt (updN mr c (refV tp (spE tp tn to) ((tkE tp tn (spE tp tn to)) - (spE tp tn to))))) ks os sd sts kp tk tp tn (spE tp tn (tkE tp tn (spE tp tn to))) (tkE tp tn (spE tp tn (tkE tp tn (spE tp tn to)))) (refV tp (spE tp tn to) ((tkE tp tn (spE tp tn to)) - (spE tp tn to))) 0 bo so nm mv)) (by rw [sF_wm]) ?_
      exact g_vret C Rr dX4_partItem_47 ⟨rfl, by simp only [if_pos c1, if_pos c2, if_pos c2.1]⟩ rfl
    · refine g_ws (ws := (mdV g a (sF mn yr gr kd pt wt mr) ks os sd sts kp tk tp tn (if nOk tp tn (spE tp tn to) (tkE tp tn (spE tp tn to)) h then spE tp tn (tkE tp tn (spE tp tn to)) else (spE tp tn to)) (if nOk tp tn (spE tp tn to) (tkE tp tn (spE tp tn to)) h then tkE tp tn (spE tp tn (tkE tp tn (spE tp tn to))) else (tkE tp tn (spE tp tn to))) (if (spE tp tn to) < tn ∧ isD (tp (spE tp tn to)) then refV tp (spE tp tn to) ((tkE tp tn (spE tp tn to)) - (spE tp tn to)) else 0) (if nOk tp tn (spE tp tn to) (tkE tp tn (spE tp tn to)) h then 0 else 1) bo so nm mv)) (ws2 := (mdV g a (sF mn yr gr kd pt wt mr) ks os sd sts kp tk tp tn (spE tp tn to) (tkE tp tn (spE tp tn to)) (if (spE tp tn to) < tn ∧ isD (tp (spE tp tn to)) then refV tp (spE tp tn to) ((tkE tp tn (spE tp tn to)) - (spE tp tn to)) else 0) 1 bo so nm mv)) (by simp only [if_neg c2]) ?_
      refine g_aload_n (pc := 21) C dX4_partItem_21 rfl ?_
      refine g_get4 (pc := 22) C dX4_partItem_22 0 rfl 0 (by decide) fl_X4_7 rfl ?_
      refine g_iload_n (pc := 25) C dX4_partItem_25 rfl ?_
      refine g_aload_n (pc := 26) C dX4_partItem_26 rfl ?_
      refine g_get4 (pc := 27) C dX4_partItem_27 0 rfl 12 (by decide) fl_X4_211 rfl ?_
      refine g_if_eqN (pc := 30) (tgt := 42) C dX4_partItem_30 (by decide) (by decide) (fun h => absurd h (by decide)) (fun _ => ?_)
      refine g_aload_n (pc := 33) C dX4_partItem_33 rfl ?_
      refine g_get4 (pc := 34) C dX4_partItem_34 0 rfl 0 (by decide) fl_X4_7 rfl ?_
      refine g_iload_n (pc := 37) C dX4_partItem_37 rfl ?_
      refine g_ialdM (pc := 38) C dX4_partItem_38 1 rfl rfl (by omega) (by decide) ?_
      refine g_top (congrArg nI sF_rm) ?_
      refine g_goto (pc := 39) (tgt := 46) C dX4_partItem_39 (by decide) ?_
      refine g_iastM (pc := 46) (ws2 := _) C dX4_partItem_46 1 rfl rfl (by omega) (by decide) rfl ?_
      refine g_ws (ws := (mdV g a (updN (sF mn yr gr kd pt wt mr) (14 + 4 * c + 3) (mr c)) ks os sd sts kp tk tp tn (spE tp tn to) (tkE tp tn (spE tp tn to)) (if (spE tp tn to) < tn ∧ isD (tp (spE tp tn to)) then refV tp (spE tp tn to) ((tkE tp tn (spE tp tn to)) - (spE tp tn to)) else 0) 1 bo so nm mv)) (ws2 := (mdV g a (sF mn yr gr kd pt wt (updN mr c (mr c))) ks os sd sts kp tk tp tn (spE tp tn to) (tkE tp tn (spE tp tn to)) (if (spE tp tn to) < tn ∧ isD (tp (spE tp tn to)) then refV tp (spE tp tn to) ((tkE tp tn (spE tp tn to)) - (spE tp tn to)) else 0) 1 bo so nm mv)) (by rw [sF_wm]) ?_
      refine g_ws (ws := (mdV g a (sF mn yr gr kd pt wt (updN mr c (mr c))) ks os sd sts kp tk tp tn (spE tp tn to) (tkE tp tn (spE tp tn to)) (if (spE tp tn to) < tn ∧ isD (tp (spE tp tn to)) then refV tp (spE tp tn to) ((tkE tp tn (spE tp tn to)) - (spE tp tn to)) else 0) 1 bo so nm mv)) (ws2 := (mdV g a (sF mn yr gr kd pt wt mr) ks os sd sts kp tk tp tn (spE tp tn to) (tkE tp tn (spE tp tn to)) (if (spE tp tn to) < tn ∧ isD (tp (spE tp tn to)) then refV tp (spE tp tn to) ((tkE tp tn (spE tp tn to)) - (spE tp tn to)) else 0) 1 bo so nm mv)) (by rw [← updN_self]) ?_
      exact g_vret C Rr dX4_partItem_47 ⟨rfl, by simp only [if_pos c1, if_neg c2]⟩ rfl
