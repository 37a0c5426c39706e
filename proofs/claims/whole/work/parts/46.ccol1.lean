theorem gr2_iff {tb : Nat → Nat} {tn a p : Nat} {gr : Nat → Nat} (hp : p < 12) (hs : sumN gr 12 ≤ 99999) : nOk tb tn a (tkE tb tn a) (min (99999 - sumN gr 12 + gr p) 9999) ↔ (nOk tb tn a (tkE tb tn a) 9999 ∧ sumN gr 12 - gr p + numP tb tn a ≤ 99999) := by
  have hg := sumN_ge gr hp
  constructor
  · intro z
    have z2 : numP tb tn a ≤ min (99999 - sumN gr 12 + gr p) 9999 := z.2
    exact ⟨⟨z.1, show numP tb tn a ≤ 9999 by omega⟩, by omega⟩
  · intro z
    have z2 : numP tb tn a ≤ 9999 := z.1.2
    have z3 := z.2
    exact ⟨z.1.1, show numP tb tn a ≤ min (99999 - sumN gr 12 + gr p) 9999 by omega⟩
set_option maxHeartbeats 400000 in
set_option maxRecDepth 100000 in
theorem c_isWord (g : Gl) (au : Nat → Nat) (tn : Nat) (vl : Nat) (tb : Nat → Nat) (fr : Nat) (q : Nat) (htb : ∀ j, tb j < 256) (htn : tn ≤ 120) (hfr : fr ≤ tn) (hq : q < 10) : Ct g yX2_isWord cX2_isWord 3 (some .boolean) (rk 4 85) [.ref (au 0), .ref (g.2.2.1 q)] (tpV g au (tbB tb) tn (tkE tb tn fr) (tkT tb tn fr) fr vl) (fun r w2 => r = some (.int (bI (wdL tb tn fr (tkE tb tn fr) = strC q))) ∧ w2 = (tpV g au (tbB tb) tn (tkE tb tn fr) (tkT tb tn fr) fr vl)) := by
  refine ct_of (by decide) (Nat.le_of_ble_eq_true rfl) ?_
  intro φ C0 Rr
  have C : Cx φ g cX2_isWord 3 RX2 (rk 4 85) := C0
  show Go φ g 3 0 [(0, .ref (au 0)), (1, .ref (g.2.2.1 q))] [] (tpV g au (tbB tb) tn (tkE tb tn fr) (tkT tb tn fr) fr vl)
  have ht := tkE_ge tb hfr
  have htk := tkT_le tb tn fr
  have hs := str_all q hq
  have hsl : strLen.getD q 0 < 8 := hs.2.2.2.2.1
  refine g_aload_n (pc := 0) C dX2_isWord_0 rfl ?_
  refine g_get2 (pc := 1) C dX2_isWord_1 0 rfl 3 (by decide) fl_X2_29 rfl ?_
  refine g_iconst (pc := 4) (v := nI 1) C dX2_isWord_4 (by decide) ?_
  refine g_icmp_neN (pc := 5) (tgt := 24) C dX2_isWord_5 (by decide) (by omega) (by omega) (fun c1 => ?_) (fun c1 => ?_)
  · refine g_iconst (pc := 24) (v := nI 0) C dX2_isWord_24 (by decide) ?_
    exact g_zret C Rr dX2_isWord_25 (by first | rfl | decide) ⟨by rw [bI_f (fun z => c1 (tkT1.mpr ((wd_iff htb hq).mp z).1))], rfl⟩ rfl
  · refine g_aload_n (pc := 8) C dX2_isWord_8 rfl ?_
    refine g_get2 (pc := 9) C dX2_isWord_9 0 rfl 2 (by decide) fl_X2_19 rfl ?_
    refine g_aload_n (pc := 12) C dX2_isWord_12 rfl ?_
    refine g_get2 (pc := 13) C dX2_isWord_13 0 rfl 4 (by decide) fl_X2_32 rfl ?_
    refine g_isubN (pc := 16) C dX2_isWord_16 (by omega) ?_
    refine g_aload_n (pc := 17) C dX2_isWord_17 rfl ?_
    refine g_k0i (pc := 18) C dX2_isWord_18 ml_X2_105 mf_J0_length_8abf5 hq (j_length g q hq) ⟨rfl, rfl, (Nat.le_of_ble_eq_true rfl), (Nat.le_of_ble_eq_true rfl)⟩ rfl rfl (Nat.le_of_ble_eq_true rfl) ?_
    refine g_icmp_eqN (pc := 21) (tgt := 26) C dX2_isWord_21 (by decide) (by omega) (by omega) (fun c2 => ?_) (fun c2 => ?_)
    · refine g_iconst (pc := 26) (v := nI 0) C dX2_isWord_26 (by decide) ?_
      refine g_istore_n (pc := 27) (lv2 := [(0, .ref (au 0)), (1, .ref (g.2.2.1 q)), (2, .int (nI 0))]) C dX2_isWord_27 rfl (Nat.le_of_ble_eq_true rfl) rfl ?_
      refine g_loop0 (n := (strLen.getD q 0)) (fun (j : Nat) => ∀ k, k < j → tb (fr + k) = ltr (strWd.getD q []) k) (fun (j : Nat) => [(0, .ref (au 0)), (1, .ref (g.2.2.1 q)), (2, .int (nI j))]) (fun (j : Nat) => (tpV g au (tbB tb) tn (tkE tb tn fr) (tkT tb tn fr) fr vl)) ?_ 0 (by omega) (fun k hk => absurd hk (Nat.not_lt_zero k))
      intro j hi_j hv_j ih_j
      show Go φ g 3 28 [(0, .ref (au 0)), (1, .ref (g.2.2.1 q)), (2, .int (nI j))] [] (tpV g au (tbB tb) tn (tkE tb tn fr) (tkT tb tn fr) fr vl)
      have hv_j : ∀ k, k < j → tb (fr + k) = ltr (strWd.getD q []) k := hv_j
      refine g_iload_n (pc := 28) C dX2_isWord_28 rfl ?_
      refine g_aload_n (pc := 29) C dX2_isWord_29 rfl ?_
      refine g_k0i (pc := 30) C dX2_isWord_30 ml_X2_105 mf_J0_length_8abf5 hq (j_length g q hq) ⟨rfl, rfl, (Nat.le_of_ble_eq_true rfl), (Nat.le_of_ble_eq_true rfl)⟩ rfl rfl (Nat.le_of_ble_eq_true rfl) ?_
      refine g_icmp_geN (pc := 33) (tgt := 63) C dX2_isWord_33 (by decide) (by omega) (by omega) (fun c3 => ?_) (fun c3 => ?_)
      · refine g_iconst (pc := 63) (v := nI 1) C dX2_isWord_63 (by decide) ?_
        exact g_zret C Rr dX2_isWord_64 (by first | rfl | decide) ⟨by rw [bI_t ((wd_iff htb hq).mpr ⟨tkT1.mp c1, c2.trans hs.1.symm, fun k hk => hv_j k (by rw [hs.1] at hk; omega)⟩)], rfl⟩ rfl
      · refine g_aload_n (pc := 36) C dX2_isWord_36 rfl ?_
        refine g_get2 (pc := 37) C dX2_isWord_37 0 rfl 0 (by decide) fl_X2_9 rfl ?_
        refine g_aload_n (pc := 40) C dX2_isWord_40 rfl ?_
        refine g_get2 (pc := 41) C dX2_isWord_41 0 rfl 4 (by decide) fl_X2_32 rfl ?_
        refine g_iload_n (pc := 44) C dX2_isWord_44 rfl ?_
        refine g_iaddN (pc := 45) C dX2_isWord_45 ?_
        have hl := str_let q hq j (by omega)
        refine g_baldN (pc := 46) C dX2_isWord_46 1 rfl rfl (by omega) (by decide) ?_
        refine g_aload_n (pc := 47) C dX2_isWord_47 rfl ?_
        refine g_iload_n (pc := 48) C dX2_isWord_48 rfl ?_
        refine g_k0i (pc := 49) C dX2_isWord_49 ml_X2_109 mf_J0_charAt_5068e hq (j_charAt g q j hq (by omega)) ⟨rfl, rfl, (Nat.le_of_ble_eq_true rfl), (Nat.le_of_ble_eq_true rfl)⟩ rfl rfl (Nat.le_of_ble_eq_true rfl) ?_
        refine g_icmp_eq (pc := 52) (tgt := 57) C dX2_isWord_52 (by decide) (fun c4 => ?_) (fun c4 => ?_)
        · refine g_iinc (pc := 57) (v := (nI (j + 1))) (lv2 := [(0, .ref (au 0)), (1, .ref (g.2.2.1 q)), (2, .int (nI (j + 1)))]) C dX2_isWord_57 rfl (nI_1 _) (Nat.le_of_ble_eq_true rfl) rfl ?_
          refine g_goto (pc := 60) (tgt := 28) C dX2_isWord_60 (by decide) ?_
          exact ih_j (by omega) (fun k hk => by
            rcases Nat.lt_or_ge k j with q9 | q9
            · exact hv_j k q9
            · rw [show k = j by omega]; exact (sb_eq (htb _) (by have := hl.1; omega)).mp c4)
        · refine g_iconst (pc := 55) (v := nI 0) C dX2_isWord_55 (by decide) ?_
          exact g_zret C Rr dX2_isWord_56 (by first | rfl | decide) ⟨by rw [bI_f (fun z => c4 ((sb_eq (htb _) (by have := hl.1; omega)).mpr (((wd_iff htb hq).mp z).2.2 j (by rw [hs.1]; omega))))], rfl⟩ rfl
    · refine g_iconst (pc := 24) (v := nI 0) C dX2_isWord_24 (by decide) ?_
      exact g_zret C Rr dX2_isWord_25 (by first | rfl | decide) ⟨by rw [bI_f (fun z => c2 (((wd_iff htb hq).mp z).2.1.trans hs.1))], rfl⟩ rfl
set_option maxHeartbeats 400000 in
set_option maxRecDepth 100000 in
theorem c_kindNamed (g : Gl) (au : Nat → Nat) (tn : Nat) (vl : Nat) (tb : Nat → Nat) (fr : Nat) (htb : ∀ j, tb j < 256) (htn : tn ≤ 120) (hfr : fr ≤ tn) : Ct g yX2_kindNamed cX2_kindNamed 1 (some .int) (rk 5 107) [.ref (au 0)] (tpV g au (tbB tb) tn (tkE tb tn fr) (tkT tb tn fr) fr vl) (fun r w2 => r = some (.int (kdW (wdL tb tn fr (tkE tb tn fr)))) ∧ w2 = (tpV g au (tbB tb) tn (tkE tb tn fr) (tkT tb tn fr) fr vl)) := by
  refine ct_of (by decide) (Nat.le_of_ble_eq_true rfl) ?_
  intro φ C0 Rr
  have C : Cx φ g cX2_kindNamed 1 RX2 (rk 5 107) := C0
  show Go φ g 1 0 [(0, .ref (au 0))] [] (tpV g au (tbB tb) tn (tkE tb tn fr) (tkT tb tn fr) fr vl)
  refine g_aload_n (pc := 0) C dX2_kindNamed_0 rfl ?_
  refine g_ldcS (pc := 1) (q := 1) C dX2_kindNamed_1 (by decide) rfl ?_
  refine g_vxi (pc := 3) (ws2 := (tpV g au (tbB tb) tn (tkE tb tn fr) (tkT tb tn fr) fr vl)) C dX2_kindNamed_3 ml_X2_37 mf_X2_isWord (c_isWord g au tn vl tb fr 1 htb htn (by omega) (by decide)) ⟨rfl, rfl, (Nat.le_of_ble_eq_true rfl), (Nat.le_of_ble_eq_true rfl)⟩ rfl rfl (Nat.le_of_ble_eq_true rfl) 0 rfl rfl rfl [0, 1] [] [0, 1] rfl rfl rfl rfl (by decide) rfl rfl ?_
  refine g_if_eqB (pc := 6) (tgt := 13) C dX2_kindNamed_6 (by decide) (fun c1 => ?_) (fun c1 => ?_)
  · refine g_aload_n (pc := 13) C dX2_kindNamed_13 rfl ?_
    refine g_ldcS (pc := 14) (q := 2) C dX2_kindNamed_14 (by decide) rfl ?_
    refine g_vxi (pc := 16) (ws2 := (tpV g au (tbB tb) tn (tkE tb tn fr) (tkT tb tn fr) fr vl)) C dX2_kindNamed_16 ml_X2_37 mf_X2_isWord (c_isWord g au tn vl tb fr 2 htb htn (by omega) (by decide)) ⟨rfl, rfl, (Nat.le_of_ble_eq_true rfl), (Nat.le_of_ble_eq_true rfl)⟩ rfl rfl (Nat.le_of_ble_eq_true rfl) 0 rfl rfl rfl [0, 1] [] [0, 1] rfl rfl rfl rfl (by decide) rfl rfl ?_
    refine g_if_eqB (pc := 19) (tgt := 26) C dX2_kindNamed_19 (by decide) (fun c2 => ?_) (fun c2 => ?_)
    · refine g_aload_n (pc := 26) C dX2_kindNamed_26 rfl ?_
      refine g_ldcS (pc := 27) (q := 3) C dX2_kindNamed_27 (by decide) rfl ?_
      refine g_vxi (pc := 29) (ws2 := (tpV g au (tbB tb) tn (tkE tb tn fr) (tkT tb tn fr) fr vl)) C dX2_kindNamed_29 ml_X2_37 mf_X2_isWord (c_isWord g au tn vl tb fr 3 htb htn (by omega) (by decide)) ⟨rfl, rfl, (Nat.le_of_ble_eq_true rfl), (Nat.le_of_ble_eq_true rfl)⟩ rfl rfl (Nat.le_of_ble_eq_true rfl) 0 rfl rfl rfl [0, 1] [] [0, 1] rfl rfl rfl rfl (by decide) rfl rfl ?_
      refine g_if_eqB (pc := 32) (tgt := 39) C dX2_kindNamed_32 (by decide) (fun c3 => ?_) (fun c3 => ?_)
      · refine g_aload_n (pc := 39) C dX2_kindNamed_39 rfl ?_
        refine g_ldcS (pc := 40) (q := 4) C dX2_kindNamed_40 (by decide) rfl ?_
        refine g_vxi (pc := 42) (ws2 := (tpV g au (tbB tb) tn (tkE tb tn fr) (tkT tb tn fr) fr vl)) C dX2_kindNamed_42 ml_X2_37 mf_X2_isWord (c_isWord g au tn vl tb fr 4 htb htn (by omega) (by decide)) ⟨rfl, rfl, (Nat.le_of_ble_eq_true rfl), (Nat.le_of_ble_eq_true rfl)⟩ rfl rfl (Nat.le_of_ble_eq_true rfl) 0 rfl rfl rfl [0, 1] [] [0, 1] rfl rfl rfl rfl (by decide) rfl rfl ?_
        refine g_if_eqB (pc := 45) (tgt := 52) C dX2_kindNamed_45 (by decide) (fun c4 => ?_) (fun c4 => ?_)
        · refine g_aload_n (pc := 52) C dX2_kindNamed_52 rfl ?_
          refine g_ldcS (pc := 53) (q := 5) C dX2_kindNamed_53 (by decide) rfl ?_
          refine g_vxi (pc := 55) (ws2 := (tpV g au (tbB tb) tn (tkE tb tn fr) (tkT tb tn fr) fr vl)) C dX2_kindNamed_55 ml_X2_37 mf_X2_isWord (c_isWord g au tn vl tb fr 5 htb htn (by omega) (by decide)) ⟨rfl, rfl, (Nat.le_of_ble_eq_true rfl), (Nat.le_of_ble_eq_true rfl)⟩ rfl rfl (Nat.le_of_ble_eq_true rfl) 0 rfl rfl rfl [0, 1] [] [0, 1] rfl rfl rfl rfl (by decide) rfl rfl ?_
          refine g_if_eqB (pc := 58) (tgt := 65) C dX2_kindNamed_58 (by decide) (fun c5 => ?_) (fun c5 => ?_)
          · refine g_aload_n (pc := 65) C dX2_kindNamed_65 rfl ?_
            refine g_ldcS (pc := 66) (q := 6) C dX2_kindNamed_66 (by decide) rfl ?_
            refine g_vxi (pc := 68) (ws2 := (tpV g au (tbB tb) tn (tkE tb tn fr) (tkT tb tn fr) fr vl)) C dX2_kindNamed_68 ml_X2_37 mf_X2_isWord (c_isWord g au tn vl tb fr 6 htb htn (by omega) (by decide)) ⟨rfl, rfl, (Nat.le_of_ble_eq_true rfl), (Nat.le_of_ble_eq_true rfl)⟩ rfl rfl (Nat.le_of_ble_eq_true rfl) 0 rfl rfl rfl [0, 1] [] [0, 1] rfl rfl rfl rfl (by decide) rfl rfl ?_
            refine g_if_eqB (pc := 71) (tgt := 78) C dX2_kindNamed_71 (by decide) (fun c6 => ?_) (fun c6 => ?_)
            · refine g_iconst (pc := 78) (v := -1) C dX2_kindNamed_78 (by decide) ?_
              exact g_iret C Rr dX2_kindNamed_79 ⟨by rw [kdW, if_neg (fun z => c1 (z.trans sC1.symm)), if_neg (fun z => c2 (z.trans sC2.symm)), if_neg (fun z => c3 (z.trans sC3.symm)), if_neg (fun z => c4 (z.trans sC4.symm)), if_neg (fun z => c5 (z.trans sC5.symm)), if_neg (fun z => c6 (z.trans sC6.symm))], rfl⟩ rfl
            · refine g_iconst (pc := 74) (v := nI 5) C dX2_kindNamed_74 (by decide) ?_
              refine g_goto (pc := 75) (tgt := 79) C dX2_kindNamed_75 (by decide) ?_
              exact g_iret C Rr dX2_kindNamed_79 ⟨by rw [kdW, if_neg (fun z => c1 (z.trans sC1.symm)), if_neg (fun z => c2 (z.trans sC2.symm)), if_neg (fun z => c3 (z.trans sC3.symm)), if_neg (fun z => c4 (z.trans sC4.symm)), if_neg (fun z => c5 (z.trans sC5.symm)), if_pos (c6.trans sC6)], rfl⟩ rfl
          · refine g_iconst (pc := 61) (v := nI 4) C dX2_kindNamed_61 (by decide) ?_
            refine g_goto (pc := 62) (tgt := 79) C dX2_kindNamed_62 (by decide) ?_
            exact g_iret C Rr dX2_kindNamed_79 ⟨by rw [kdW, if_neg (fun z => c1 (z.trans sC1.symm)), if_neg (fun z => c2 (z.trans sC2.symm)), if_neg (fun z => c3 (z.trans sC3.symm)), if_neg (fun z => c4 (z.trans sC4.symm)), if_pos (c5.trans sC5)], rfl⟩ rfl
        · refine g_iconst (pc := 48) (v := nI 3) C dX2_kindNamed_48 (by decide) ?_
          refine g_goto (pc := 49) (tgt := 79) C dX2_kindNamed_49 (by decide) ?_
          exact g_iret C Rr dX2_kindNamed_79 ⟨by rw [kdW, if_neg (fun z => c1 (z.trans sC1.symm)), if_neg (fun z => c2 (z.trans sC2.symm)), if_neg (fun z => c3 (z.trans sC3.symm)), if_pos (c4.trans sC4)], rfl⟩ rfl
      · refine g_iconst (pc := 35) (v := nI 2) C dX2_kindNamed_35 (by decide) ?_
        refine g_goto (pc := 36) (tgt := 79) C dX2_kindNamed_36 (by decide) ?_
        exact g_iret C Rr dX2_kindNamed_79 ⟨by rw [kdW, if_neg (fun z => c1 (z.trans sC1.symm)), if_neg (fun z => c2 (z.trans sC2.symm)), if_pos (c3.trans sC3)], rfl⟩ rfl
    · refine g_iconst (pc := 22) (v := nI 1) C dX2_kindNamed_22 (by decide) ?_
      refine g_goto (pc := 23) (tgt := 79) C dX2_kindNamed_23 (by decide) ?_
      exact g_iret C Rr dX2_kindNamed_79 ⟨by rw [kdW, if_neg (fun z => c1 (z.trans sC1.symm)), if_pos (c2.trans sC2)], rfl⟩ rfl
  · refine g_iconst (pc := 9) (v := nI 0) C dX2_kindNamed_9 (by decide) ?_
    refine g_goto (pc := 10) (tgt := 79) C dX2_kindNamed_10 (by decide) ?_
    exact g_iret C Rr dX2_kindNamed_79 ⟨by rw [kdW, if_pos (c1.trans sC1)], rfl⟩ rfl
set_option maxHeartbeats 400000 in
set_option maxRecDepth 100000 in
theorem c_isNumT (g : Gl) (au : Nat → Nat) (tn : Nat) (tb : Nat → Nat) (fr : Nat) (v0 : Nat) (h : Nat) (htb : ∀ j, tb j < 256) (htn : tn ≤ 120) (hh : h ≤ 9999) : Ct g yX2_isNumber cX2_isNumber 2 (some .boolean) (rk 0 0) [.ref (au 0), .int (nI h)] (tpV g au (tbB tb) tn (tkE tb tn fr) (tkT tb tn fr) fr (tkV tb tn fr v0)) (fun r w2 => r = some (.int (bI (nOk tb tn fr (tkE tb tn fr) h))) ∧ w2 = (tpV g au (tbB tb) tn (tkE tb tn fr) (tkT tb tn fr) fr (tkV tb tn fr v0))) := by
  refine ct_of (by decide) (Nat.le_of_ble_eq_true rfl) ?_
  intro φ C0 Rr
  have C : Cx φ g cX2_isNumber 2 RX2 (rk 0 0) := C0
  show Go φ g 2 0 [(0, .ref (au 0)), (1, .int (nI h))] [] (tpV g au (tbB tb) tn (tkE tb tn fr) (tkT tb tn fr) fr (tkV tb tn fr v0))
  have htk := tkT_le tb tn fr
  refine g_aload_n (pc := 0) C dX2_isNumber_0 rfl ?_
  refine g_get2 (pc := 1) C dX2_isNumber_1 0 rfl 3 (by decide) fl_X2_29 rfl ?_
  refine g_iconst (pc := 4) (v := nI 2) C dX2_isNumber_4 (by decide) ?_
  refine g_icmp_neN (pc := 5) (tgt := 20) C dX2_isNumber_5 (by decide) (by omega) (by omega) (fun c1 => ?_) (fun c1 => ?_)
  · refine g_iconst (pc := 20) (v := nI 0) C dX2_isNumber_20 (by decide) ?_
    exact g_zret C Rr dX2_isNumber_21 (by first | rfl | decide) ⟨by rw [bI_f (fun z => c1 ((tkV_ok (v := v0) hh).mpr z).1)], rfl⟩ rfl
  · have hvd := tkV_d (v := v0) (tkT2.mp c1)
    refine g_aload_n (pc := 8) C dX2_isNumber_8 rfl ?_
    refine g_get2 (pc := 9) C dX2_isNumber_9 0 rfl 5 (by decide) fl_X2_82 rfl ?_
    refine g_iload_n (pc := 12) C dX2_isNumber_12 rfl ?_
    refine g_icmp_gtN (pc := 13) (tgt := 20) C dX2_isNumber_13 (by decide) (by omega) (by omega) (fun c2 => ?_) (fun c2 => ?_)
    · refine g_iconst (pc := 20) (v := nI 0) C dX2_isNumber_20 (by decide) ?_
      exact g_zret C Rr dX2_isNumber_21 (by first | rfl | decide) ⟨by rw [bI_f (fun z => absurd ((tkV_ok (v := v0) hh).mpr z).2 (Nat.not_le.mpr c2))], rfl⟩ rfl
    · refine g_iconst (pc := 16) (v := nI 1) C dX2_isNumber_16 (by decide) ?_
      refine g_goto (pc := 17) (tgt := 21) C dX2_isNumber_17 (by decide) ?_
      exact g_zret C Rr dX2_isNumber_21 (by first | rfl | decide) ⟨by rw [bI_t ((tkV_ok (v := v0) hh).mp ⟨c1, c2⟩)], rfl⟩ rfl
set_option maxHeartbeats 400000 in
set_option maxRecDepth 100000 in
theorem c_trait_pt (g : Gl) (au : Nat → Nat) (tn : Nat) (at' : Nat → Nat) (gr : Nat → Nat) (la : Nat → Nat) (kd : Nat → Nat) (pt : Nat → Nat) (wt : Nat → Nat) (mr : Nat → Nat) (tt : Nat) (yr : Nat) (mn : Nat) (tb : Nat → Nat) (fr : Nat) (v0 : Nat) (q : Nat) (c : Nat) (h : Nat) (htb : ∀ j, tb j < 256) (htn : tn ≤ 120) (hfr : fr ≤ tn) (hq : q < 10) (hc : c < 8) (hh : h ≤ 9999) : Ct g yX2_passTrait cX2_passTrait 5 (some .boolean) (rk 5 107) [.ref (au 0), .ref (g.2.2.1 q), .ref (at' 4), .int (nI c), .int (nI h)] (fl [tpV g au (tbB tb) tn (tkE tb tn fr) (tkT tb tn fr) fr (tkV tb tn fr v0), potV g at' gr la kd pt wt mr tt yr mn]) (fun r w2 => ∃ (r2 : Nat → Nat) (fr2 : Nat) (wr2 : Nat) (v2 : Nat), trP tb tn (strC q) h c pt fr 0 = (r2, fr2, wr2) ∧ wr2 ≤ 1 ∧ fr2 ≤ tn ∧ r = some (.int (bI (wr2 = 0))) ∧ w2 = (fl [tpV g au (tbB tb) tn (tkE tb tn fr2) (tkT tb tn fr2) fr2 (tkV tb tn fr2 v2), potV g at' gr la kd r2 wt mr tt yr mn])) := by
  refine ct_of (by decide) (Nat.le_of_ble_eq_true rfl) ?_
  intro φ C0 Rr
  have C : Cx φ g cX2_passTrait 5 RX2 (rk 5 107) := C0
  show Go φ g 5 0 [(0, .ref (au 0)), (1, .ref (g.2.2.1 q)), (2, .ref (at' 4)), (3, .int (nI c)), (4, .int (nI h))] [] (fl [tpV g au (tbB tb) tn (tkE tb tn fr) (tkT tb tn fr) fr (tkV tb tn fr v0), potV g at' gr la kd pt wt mr tt yr mn])
  have ht := tkE_ge tb hfr
  have hf1 := spE_ge tb ht.2
  have ht1 := tkE_ge tb hf1.2
  have hf2 := spE_ge tb ht1.2
  refine g_aload_n (pc := 0) C dX2_passTrait_0 rfl ?_
  refine g_aload_n (pc := 1) C dX2_passTrait_1 rfl ?_
  refine g_bxi (pc := 2) (cs := [tpV g au (tbB tb) tn (tkE tb tn fr) (tkT tb tn fr) fr (tkV tb tn fr v0)]) (ds := [tpV g au (tbB tb) tn (tkE tb tn fr) (tkT tb tn fr) fr (tkV tb tn fr v0)]) (bs2 := [tpV g au (tbB tb) tn (tkE tb tn fr) (tkT tb tn fr) fr (tkV tb tn fr v0), potV g at' gr la kd pt wt mr tt yr mn]) C dX2_passTrait_2 ml_X2_37 mf_X2_isWord (c_isWord g au tn (tkV tb tn fr v0) tb fr q htb htn (by omega) hq) ⟨rfl, rfl, (Nat.le_of_ble_eq_true rfl), (Nat.le_of_ble_eq_true rfl)⟩ rfl rfl (Nat.le_of_ble_eq_true rfl) (fl1 _) (fl1 _) 0 rfl rfl rfl [0] rfl rfl rfl rfl ?_
  refine g_if_neB (pc := 5) (tgt := 10) C dX2_passTrait_5 (by decide) (fun c1 => ?_) (fun c1 => ?_)
  · refine g_aload_n (pc := 10) C dX2_passTrait_10 rfl ?_
    refine g_bxn (pc := 11) (cs := [tpV g au (tbB tb) tn (tkE tb tn fr) (tkT tb tn fr) fr (tkV tb tn fr v0)]) (ds := [tpV g au (tbB tb) tn (tkE tb tn (spE tb tn (tkE tb tn fr))) (tkT tb tn (spE tb tn (tkE tb tn fr))) (spE tb tn (tkE tb tn fr)) (tkV tb tn (spE tb tn (tkE tb tn fr)) (tkV tb tn fr v0))]) (bs2 := [tpV g au (tbB tb) tn (tkE tb tn (spE tb tn (tkE tb tn fr))) (tkT tb tn (spE tb tn (tkE tb tn fr))) (spE tb tn (tkE tb tn fr)) (tkV tb tn (spE tb tn (tkE tb tn fr)) (tkV tb tn fr v0)), potV g at' gr la kd pt wt mr tt yr mn]) C dX2_passTrait_11 ml_X2_22 mf_X2_step (c_step g au tn (tkE tb tn fr) (tkT tb tn fr) fr (tkV tb tn fr v0) tb htb htn (by omega)) ⟨rfl, rfl, (Nat.le_of_ble_eq_true rfl), (Nat.le_of_ble_eq_true rfl)⟩ rfl rfl (Nat.le_of_ble_eq_true rfl) (fl1 _) (fl1 _) 0 rfl rfl rfl [0] rfl rfl rfl rfl ?_
    refine g_aload_n (pc := 14) C dX2_passTrait_14 rfl ?_
    refine g_iload (pc := 15) C dX2_passTrait_15 rfl ?_
    refine g_bxi (pc := 17) (cs := [tpV g au (tbB tb) tn (tkE tb tn (spE tb tn (tkE tb tn fr))) (tkT tb tn (spE tb tn (tkE tb tn fr))) (spE tb tn (tkE tb tn fr)) (tkV tb tn (spE tb tn (tkE tb tn fr)) (tkV tb tn fr v0))]) (ds := [tpV g au (tbB tb) tn (tkE tb tn (spE tb tn (tkE tb tn fr))) (tkT tb tn (spE tb tn (tkE tb tn fr))) (spE tb tn (tkE tb tn fr)) (tkV tb tn (spE tb tn (tkE tb tn fr)) (tkV tb tn fr v0))]) (bs2 := [tpV g au (tbB tb) tn (tkE tb tn (spE tb tn (tkE tb tn fr))) (tkT tb tn (spE tb tn (tkE tb tn fr))) (spE tb tn (tkE tb tn fr)) (tkV tb tn (spE tb tn (tkE tb tn fr)) (tkV tb tn fr v0)), potV g at' gr la kd pt wt mr tt yr mn]) C dX2_passTrait_17 ml_X2_78 mf_X2_isNumber (c_isNumT g au tn tb (spE tb tn (tkE tb tn fr)) (tkV tb tn fr v0) h htb htn (by omega)) ⟨rfl, rfl, (Nat.le_of_ble_eq_true rfl), (Nat.le_of_ble_eq_true rfl)⟩ rfl rfl (Nat.le_of_ble_eq_true rfl) (fl1 _) (fl1 _) 0 rfl rfl rfl [0] rfl rfl rfl rfl ?_
    refine g_if_neB (pc := 20) (tgt := 25) C dX2_passTrait_20 (by decide) (fun c2 => ?_) (fun c2 => ?_)
    · refine g_aload_n (pc := 25) C dX2_passTrait_25 rfl ?_
      refine g_iload_n (pc := 26) C dX2_passTrait_26 rfl ?_
      refine g_aload_n (pc := 27) C dX2_passTrait_27 rfl ?_
      refine g_get2 (pc := 28) C dX2_passTrait_28 0 rfl 5 (by decide) fl_X2_82 rfl ?_
      refine g_top (y := nI (numP tb tn (spE tb tn (tkE tb tn fr)))) (congrArg nI (tkV_num hh c2)) ?_
      refine g_iastM (pc := 31) (ws2 := (fl [tpV g au (tbB tb) tn (tkE tb tn (spE tb tn (tkE tb tn fr))) (tkT tb tn (spE tb tn (tkE tb tn fr))) (spE tb tn (tkE tb tn fr)) (tkV tb tn (spE tb tn (tkE tb tn fr)) (tkV tb tn fr v0)), potV g at' gr la kd (updN pt c (numP tb tn (spE tb tn (tkE tb tn fr)))) wt mr tt yr mn])) C dX2_passTrait_31 6 rfl rfl (by omega) (by decide) rfl ?_
      refine g_aload_n (pc := 32) C dX2_passTrait_32 rfl ?_
      refine g_bxn (pc := 33) (cs := [tpV g au (tbB tb) tn (tkE tb tn (spE tb tn (tkE tb tn fr))) (tkT tb tn (spE tb tn (tkE tb tn fr))) (spE tb tn (tkE tb tn fr)) (tkV tb tn (spE tb tn (tkE tb tn fr)) (tkV tb tn fr v0))]) (ds := [tpV g au (tbB tb) tn (tkE tb tn (spE tb tn (tkE tb tn (spE tb tn (tkE tb tn fr))))) (tkT tb tn (spE tb tn (tkE tb tn (spE tb tn (tkE tb tn fr))))) (spE tb tn (tkE tb tn (spE tb tn (tkE tb tn fr)))) (tkV tb tn (spE tb tn (tkE tb tn (spE tb tn (tkE tb tn fr)))) (tkV tb tn (spE tb tn (tkE tb tn fr)) (tkV tb tn fr v0)))]) (bs2 := [tpV g au (tbB tb) tn (tkE tb tn (spE tb tn (tkE tb tn (spE tb tn (tkE tb tn fr))))) (tkT tb tn (spE tb tn (tkE tb tn (spE tb tn (tkE tb tn fr))))) (spE tb tn (tkE tb tn (spE tb tn (tkE tb tn fr)))) (tkV tb tn (spE tb tn (tkE tb tn (spE tb tn (tkE tb tn fr)))) (tkV tb tn (spE tb tn (tkE tb tn fr)) (tkV tb tn fr v0))), potV g at' gr la kd (updN pt c (numP tb tn (spE tb tn (tkE tb tn fr)))) wt mr tt yr mn]) C dX2_passTrait_33 ml_X2_22 mf_X2_step (c_step g au tn (tkE tb tn (spE tb tn (tkE tb tn fr))) (tkT tb tn (spE tb tn (tkE tb tn fr))) (spE tb tn (tkE tb tn fr)) (tkV tb tn (spE tb tn (tkE tb tn fr)) (tkV tb tn fr v0)) tb htb htn (by omega)) ⟨rfl, rfl, (Nat.le_of_ble_eq_true rfl), (Nat.le_of_ble_eq_true rfl)⟩ rfl rfl (Nat.le_of_ble_eq_true rfl) (fl1 _) (fl1 _) 0 rfl rfl rfl [0] rfl rfl rfl rfl ?_
      refine g_iconst (pc := 36) (v := nI 1) C dX2_passTrait_36 (by decide) ?_
      exact g_zret C Rr dX2_passTrait_37 (by first | rfl | decide) ⟨(updN pt c (numP tb tn (spE tb tn (tkE tb tn fr)))), (spE tb tn (tkE tb tn (spE tb tn (tkE tb tn fr)))), 0, (tkV tb tn (spE tb tn (tkE tb tn fr)) (tkV tb tn fr v0)), by rw [trP, if_pos rfl, if_pos c1, if_pos c2], by decide, hf2.2, by rw [bI_t rfl], rfl⟩ rfl
    · refine g_iconst (pc := 23) (v := nI 0) C dX2_passTrait_23 (by decide) ?_
      exact g_zret C Rr dX2_passTrait_24 (by first | rfl | decide) ⟨pt, (spE tb tn (tkE tb tn fr)), 1, (tkV tb tn fr v0), by rw [trP, if_pos rfl, if_pos c1, if_neg c2], by decide, hf1.2, by rw [bI_f (by decide)], rfl⟩ rfl
  · refine g_iconst (pc := 8) (v := nI 1) C dX2_passTrait_8 (by decide) ?_
    exact g_zret C Rr dX2_passTrait_9 (by first | rfl | decide) ⟨pt, fr, 0, v0, by rw [trP, if_pos rfl, if_neg c1], by decide, hfr, by rw [bI_t rfl], rfl⟩ rfl
set_option maxHeartbeats 400000 in
set_option maxRecDepth 100000 in
theorem c_trait_wt (g : Gl) (au : Nat → Nat) (tn : Nat) (at' : Nat → Nat) (gr : Nat → Nat) (la : Nat → Nat) (kd : Nat → Nat) (pt : Nat → Nat) (wt : Nat → Nat) (mr : Nat → Nat) (tt : Nat) (yr : Nat) (mn : Nat) (tb : Nat → Nat) (fr : Nat) (v0 : Nat) (q : Nat) (c : Nat) (h : Nat) (htb : ∀ j, tb j < 256) (htn : tn ≤ 120) (hfr : fr ≤ tn) (hq : q < 10) (hc : c < 8) (hh : h ≤ 9999) : Ct g yX2_passTrait cX2_passTrait 5 (some .boolean) (rk 5 107) [.ref (au 0), .ref (g.2.2.1 q), .ref (at' 5), .int (nI c), .int (nI h)] (fl [tpV g au (tbB tb) tn (tkE tb tn fr) (tkT tb tn fr) fr (tkV tb tn fr v0), potV g at' gr la kd pt wt mr tt yr mn]) (fun r w2 => ∃ (r2 : Nat → Nat) (fr2 : Nat) (wr2 : Nat) (v2 : Nat), trP tb tn (strC q) h c wt fr 0 = (r2, fr2, wr2) ∧ wr2 ≤ 1 ∧ fr2 ≤ tn ∧ r = some (.int (bI (wr2 = 0))) ∧ w2 = (fl [tpV g au (tbB tb) tn (tkE tb tn fr2) (tkT tb tn fr2) fr2 (tkV tb tn fr2 v2), potV g at' gr la kd pt r2 mr tt yr mn])) := by
  refine ct_of (by decide) (Nat.le_of_ble_eq_true rfl) ?_
  intro φ C0 Rr
  have C : Cx φ g cX2_passTrait 5 RX2 (rk 5 107) := C0
  show Go φ g 5 0 [(0, .ref (au 0)), (1, .ref (g.2.2.1 q)), (2, .ref (at' 5)), (3, .int (nI c)), (4, .int (nI h))] [] (fl [tpV g au (tbB tb) tn (tkE tb tn fr) (tkT tb tn fr) fr (tkV tb tn fr v0), potV g at' gr la kd pt wt mr tt yr mn])
  have ht := tkE_ge tb hfr
  have hf1 := spE_ge tb ht.2
  have ht1 := tkE_ge tb hf1.2
  have hf2 := spE_ge tb ht1.2
  refine g_aload_n (pc := 0) C dX2_passTrait_0 rfl ?_
  refine g_aload_n (pc := 1) C dX2_passTrait_1 rfl ?_
  refine g_bxi (pc := 2) (cs := [tpV g au (tbB tb) tn (tkE tb tn fr) (tkT tb tn fr) fr (tkV tb tn fr v0)]) (ds := [tpV g au (tbB tb) tn (tkE tb tn fr) (tkT tb tn fr) fr (tkV tb tn fr v0)]) (bs2 := [tpV g au (tbB tb) tn (tkE tb tn fr) (tkT tb tn fr) fr (tkV tb tn fr v0), potV g at' gr la kd pt wt mr tt yr mn]) C dX2_passTrait_2 ml_X2_37 mf_X2_isWord (c_isWord g au tn (tkV tb tn fr v0) tb fr q htb htn (by omega) hq) ⟨rfl, rfl, (Nat.le_of_ble_eq_true rfl), (Nat.le_of_ble_eq_true rfl)⟩ rfl rfl (Nat.le_of_ble_eq_true rfl) (fl1 _) (fl1 _) 0 rfl rfl rfl [0] rfl rfl rfl rfl ?_
  refine g_if_neB (pc := 5) (tgt := 10) C dX2_passTrait_5 (by decide) (fun c1 => ?_) (fun c1 => ?_)
  · refine g_aload_n (pc := 10) C dX2_passTrait_10 rfl ?_
    refine g_bxn (pc := 11) (cs := [tpV g au (tbB tb) tn (tkE tb tn fr) (tkT tb tn fr) fr (tkV tb tn fr v0)]) (ds := [tpV g au (tbB tb) tn (tkE tb tn (spE tb tn (tkE tb tn fr))) (tkT tb tn (spE tb tn (tkE tb tn fr))) (spE tb tn (tkE tb tn fr)) (tkV tb tn (spE tb tn (tkE tb tn fr)) (tkV tb tn fr v0))]) (bs2 := [tpV g au (tbB tb) tn (tkE tb tn (spE tb tn (tkE tb tn fr))) (tkT tb tn (spE tb tn (tkE tb tn fr))) (spE tb tn (tkE tb tn fr)) (tkV tb tn (spE tb tn (tkE tb tn fr)) (tkV tb tn fr v0)), potV g at' gr la kd pt wt mr tt yr mn]) C dX2_passTrait_11 ml_X2_22 mf_X2_step (c_step g au tn (tkE tb tn fr) (tkT tb tn fr) fr (tkV tb tn fr v0) tb htb htn (by omega)) ⟨rfl, rfl, (Nat.le_of_ble_eq_true rfl), (Nat.le_of_ble_eq_true rfl)⟩ rfl rfl (Nat.le_of_ble_eq_true rfl) (fl1 _) (fl1 _) 0 rfl rfl rfl [0] rfl rfl rfl rfl ?_
    refine g_aload_n (pc := 14) C dX2_passTrait_14 rfl ?_
    refine g_iload (pc := 15) C dX2_passTrait_15 rfl ?_
    refine g_bxi (pc := 17) (cs := [tpV g au (tbB tb) tn (tkE tb tn (spE tb tn (tkE tb tn fr))) (tkT tb tn (spE tb tn (tkE tb tn fr))) (spE tb tn (tkE tb tn fr)) (tkV tb tn (spE tb tn (tkE tb tn fr)) (tkV tb tn fr v0))]) (ds := [tpV g au (tbB tb) tn (tkE tb tn (spE tb tn (tkE tb tn fr))) (tkT tb tn (spE tb tn (tkE tb tn fr))) (spE tb tn (tkE tb tn fr)) (tkV tb tn (spE tb tn (tkE tb tn fr)) (tkV tb tn fr v0))]) (bs2 := [tpV g au (tbB tb) tn (tkE tb tn (spE tb tn (tkE tb tn fr))) (tkT tb tn (spE tb tn (tkE tb tn fr))) (spE tb tn (tkE tb tn fr)) (tkV tb tn (spE tb tn (tkE tb tn fr)) (tkV tb tn fr v0)), potV g at' gr la kd pt wt mr tt yr mn]) C dX2_passTrait_17 ml_X2_78 mf_X2_isNumber (c_isNumT g au tn tb (spE tb tn (tkE tb tn fr)) (tkV tb tn fr v0) h htb htn (by omega)) ⟨rfl, rfl, (Nat.le_of_ble_eq_true rfl), (Nat.le_of_ble_eq_true rfl)⟩ rfl rfl (Nat.le_of_ble_eq_true rfl) (fl1 _) (fl1 _) 0 rfl rfl rfl [0] rfl rfl rfl rfl ?_
    refine g_if_neB (pc := 20) (tgt := 25) C dX2_passTrait_20 (by decide) (fun c2 => ?_) (fun c2 => ?_)
    · refine g_aload_n (pc := 25) C dX2_passTrait_25 rfl ?_
      refine g_iload_n (pc := 26) C dX2_passTrait_26 rfl ?_
      refine g_aload_n (pc := 27) C dX2_passTrait_27 rfl ?_
      refine g_get2 (pc := 28) C dX2_passTrait_28 0 rfl 5 (by decide) fl_X2_82 rfl ?_
      refine g_top (y := nI (numP tb tn (spE tb tn (tkE tb tn fr)))) (congrArg nI (tkV_num hh c2)) ?_
      refine g_iastM (pc := 31) (ws2 := (fl [tpV g au (tbB tb) tn (tkE tb tn (spE tb tn (tkE tb tn fr))) (tkT tb tn (spE tb tn (tkE tb tn fr))) (spE tb tn (tkE tb tn fr)) (tkV tb tn (spE tb tn (tkE tb tn fr)) (tkV tb tn fr v0)), potV g at' gr la kd pt (updN wt c (numP tb tn (spE tb tn (tkE tb tn fr)))) mr tt yr mn])) C dX2_passTrait_31 7 rfl rfl (by omega) (by decide) rfl ?_
      refine g_aload_n (pc := 32) C dX2_passTrait_32 rfl ?_
      refine g_bxn (pc := 33) (cs := [tpV g au (tbB tb) tn (tkE tb tn (spE tb tn (tkE tb tn fr))) (tkT tb tn (spE tb tn (tkE tb tn fr))) (spE tb tn (tkE tb tn fr)) (tkV tb tn (spE tb tn (tkE tb tn fr)) (tkV tb tn fr v0))]) (ds := [tpV g au (tbB tb) tn (tkE tb tn (spE tb tn (tkE tb tn (spE tb tn (tkE tb tn fr))))) (tkT tb tn (spE tb tn (tkE tb tn (spE tb tn (tkE tb tn fr))))) (spE tb tn (tkE tb tn (spE tb tn (tkE tb tn fr)))) (tkV tb tn (spE tb tn (tkE tb tn (spE tb tn (tkE tb tn fr)))) (tkV tb tn (spE tb tn (tkE tb tn fr)) (tkV tb tn fr v0)))]) (bs2 := [tpV g au (tbB tb) tn (tkE tb tn (spE tb tn (tkE tb tn (spE tb tn (tkE tb tn fr))))) (tkT tb tn (spE tb tn (tkE tb tn (spE tb tn (tkE tb tn fr))))) (spE tb tn (tkE tb tn (spE tb tn (tkE tb tn fr)))) (tkV tb tn (spE tb tn (tkE tb tn (spE tb tn (tkE tb tn fr)))) (tkV tb tn (spE tb tn (tkE tb tn fr)) (tkV tb tn fr v0))), potV g at' gr la kd pt (updN wt c (numP tb tn (spE tb tn (tkE tb tn fr)))) mr tt yr mn]) C dX2_passTrait_33 ml_X2_22 mf_X2_step (c_step g au tn (tkE tb tn (spE tb tn (tkE tb tn fr))) (tkT tb tn (spE tb tn (tkE tb tn fr))) (spE tb tn (tkE tb tn fr)) (tkV tb tn (spE tb tn (tkE tb tn fr)) (tkV tb tn fr v0)) tb htb htn (by omega)) ⟨rfl, rfl, (Nat.le_of_ble_eq_true rfl), (Nat.le_of_ble_eq_true rfl)⟩ rfl rfl (Nat.le_of_ble_eq_true rfl) (fl1 _) (fl1 _) 0 rfl rfl rfl [0] rfl rfl rfl rfl ?_
      refine g_iconst (pc := 36) (v := nI 1) C dX2_passTrait_36 (by decide) ?_
      exact g_zret C Rr dX2_passTrait_37 (by first | rfl | decide) ⟨(updN wt c (numP tb tn (spE tb tn (tkE tb tn fr)))), (spE tb tn (tkE tb tn (spE tb tn (tkE tb tn fr)))), 0, (tkV tb tn (spE tb tn (tkE tb tn fr)) (tkV tb tn fr v0)), by rw [trP, if_pos rfl, if_pos c1, if_pos c2], by decide, hf2.2, by rw [bI_t rfl], rfl⟩ rfl
    · refine g_iconst (pc := 23) (v := nI 0) C dX2_passTrait_23 (by decide) ?_
      exact g_zret C Rr dX2_passTrait_24 (by first | rfl | decide) ⟨wt, (spE tb tn (tkE tb tn fr)), 1, (tkV tb tn fr v0), by rw [trP, if_pos rfl, if_pos c1, if_neg c2], by decide, hf1.2, by rw [bI_f (by decide)], rfl⟩ rfl
  · refine g_iconst (pc := 8) (v := nI 1) C dX2_passTrait_8 (by decide) ?_
    exact g_zret C Rr dX2_passTrait_9 (by first | rfl | decide) ⟨wt, fr, 0, v0, by rw [trP, if_pos rfl, if_neg c1], by decide, hfr, by rw [bI_t rfl], rfl⟩ rfl
set_option maxHeartbeats 400000 in
set_option maxRecDepth 100000 in
theorem c_trait_mr (g : Gl) (au : Nat → Nat) (tn : Nat) (at' : Nat → Nat) (gr : Nat → Nat) (la : Nat → Nat) (kd : Nat → Nat) (pt : Nat → Nat) (wt : Nat → Nat) (mr : Nat → Nat) (tt : Nat) (yr : Nat) (mn : Nat) (tb : Nat → Nat) (fr : Nat) (v0 : Nat) (q : Nat) (c : Nat) (h : Nat) (htb : ∀ j, tb j < 256) (htn : tn ≤ 120) (hfr : fr ≤ tn) (hq : q < 10) (hc : c < 8) (hh : h ≤ 9999) : Ct g yX2_passTrait cX2_passTrait 5 (some .boolean) (rk 5 107) [.ref (au 0), .ref (g.2.2.1 q), .ref (at' 6), .int (nI c), .int (nI h)] (fl [tpV g au (tbB tb) tn (tkE tb tn fr) (tkT tb tn fr) fr (tkV tb tn fr v0), potV g at' gr la kd pt wt mr tt yr mn]) (fun r w2 => ∃ (r2 : Nat → Nat) (fr2 : Nat) (wr2 : Nat) (v2 : Nat), trP tb tn (strC q) h c mr fr 0 = (r2, fr2, wr2) ∧ wr2 ≤ 1 ∧ fr2 ≤ tn ∧ r = some (.int (bI (wr2 = 0))) ∧ w2 = (fl [tpV g au (tbB tb) tn (tkE tb tn fr2) (tkT tb tn fr2) fr2 (tkV tb tn fr2 v2), potV g at' gr la kd pt wt r2 tt yr mn])) := by
  refine ct_of (by decide) (Nat.le_of_ble_eq_true rfl) ?_
  intro φ C0 Rr
  have C : Cx φ g cX2_passTrait 5 RX2 (rk 5 107) := C0
  show Go φ g 5 0 [(0, .ref (au 0)), (1, .ref (g.2.2.1 q)), (2, .ref (at' 6)), (3, .int (nI c)), (4, .int (nI h))] [] (fl [tpV g au (tbB tb) tn (tkE tb tn fr) (tkT tb tn fr) fr (tkV tb tn fr v0), potV g at' gr la kd pt wt mr tt yr mn])
  have ht := tkE_ge tb hfr
  have hf1 := spE_ge tb ht.2
  have ht1 := tkE_ge tb hf1.2
  have hf2 := spE_ge tb ht1.2
  refine g_aload_n (pc := 0) C dX2_passTrait_0 rfl ?_
  refine g_aload_n (pc := 1) C dX2_passTrait_1 rfl ?_
  refine g_bxi (pc := 2) (cs := [tpV g au (tbB tb) tn (tkE tb tn fr) (tkT tb tn fr) fr (tkV tb tn fr v0)]) (ds := [tpV g au (tbB tb) tn (tkE tb tn fr) (tkT tb tn fr) fr (tkV tb tn fr v0)]) (bs2 := [tpV g au (tbB tb) tn (tkE tb tn fr) (tkT tb tn fr) fr (tkV tb tn fr v0), potV g at' gr la kd pt wt mr tt yr mn]) C dX2_passTrait_2 ml_X2_37 mf_X2_isWord (c_isWord g au tn (tkV tb tn fr v0) tb fr q htb htn (by omega) hq) ⟨rfl, rfl, (Nat.le_of_ble_eq_true rfl), (Nat.le_of_ble_eq_true rfl)⟩ rfl rfl (Nat.le_of_ble_eq_true rfl) (fl1 _) (fl1 _) 0 rfl rfl rfl [0] rfl rfl rfl rfl ?_
  refine g_if_neB (pc := 5) (tgt := 10) C dX2_passTrait_5 (by decide) (fun c1 => ?_) (fun c1 => ?_)
  · refine g_aload_n (pc := 10) C dX2_passTrait_10 rfl ?_
    refine g_bxn (pc := 11) (cs := [tpV g au (tbB tb) tn (tkE tb tn fr) (tkT tb tn fr) fr (tkV tb tn fr v0)]) (ds := [tpV g au (tbB tb) tn (tkE tb tn (spE tb tn (tkE tb tn fr))) (tkT tb tn (spE tb tn (tkE tb tn fr))) (spE tb tn (tkE tb tn fr)) (tkV tb tn (spE tb tn (tkE tb tn fr)) (tkV tb tn fr v0))]) (bs2 := [tpV g au (tbB tb) tn (tkE tb tn (spE tb tn (tkE tb tn fr))) (tkT tb tn (spE tb tn (tkE tb tn fr))) (spE tb tn (tkE tb tn fr)) (tkV tb tn (spE tb tn (tkE tb tn fr)) (tkV tb tn fr v0)), potV g at' gr la kd pt wt mr tt yr mn]) C dX2_passTrait_11 ml_X2_22 mf_X2_step (c_step g au tn (tkE tb tn fr) (tkT tb tn fr) fr (tkV tb tn fr v0) tb htb htn (by omega)) ⟨rfl, rfl, (Nat.le_of_ble_eq_true rfl), (Nat.le_of_ble_eq_true rfl)⟩ rfl rfl (Nat.le_of_ble_eq_true rfl) (fl1 _) (fl1 _) 0 rfl rfl rfl [0] rfl rfl rfl rfl ?_
    refine g_aload_n (pc := 14) C dX2_passTrait_14 rfl ?_
    refine g_iload (pc := 15) C dX2_passTrait_15 rfl ?_
    refine g_bxi (pc := 17) (cs := [tpV g au (tbB tb) tn (tkE tb tn (spE tb tn (tkE tb tn fr))) (tkT tb tn (spE tb tn (tkE tb tn fr))) (spE tb tn (tkE tb tn fr)) (tkV tb tn (spE tb tn (tkE tb tn fr)) (tkV tb tn fr v0))]) (ds := [tpV g au (tbB tb) tn (tkE tb tn (spE tb tn (tkE tb tn fr))) (tkT tb tn (spE tb tn (tkE tb tn fr))) (spE tb tn (tkE tb tn fr)) (tkV tb tn (spE tb tn (tkE tb tn fr)) (tkV tb tn fr v0))]) (bs2 := [tpV g au (tbB tb) tn (tkE tb tn (spE tb tn (tkE tb tn fr))) (tkT tb tn (spE tb tn (tkE tb tn fr))) (spE tb tn (tkE tb tn fr)) (tkV tb tn (spE tb tn (tkE tb tn fr)) (tkV tb tn fr v0)), potV g at' gr la kd pt wt mr tt yr mn]) C dX2_passTrait_17 ml_X2_78 mf_X2_isNumber (c_isNumT g au tn tb (spE tb tn (tkE tb tn fr)) (tkV tb tn fr v0) h htb htn (by omega)) ⟨rfl, rfl, (Nat.le_of_ble_eq_true rfl), (Nat.le_of_ble_eq_true rfl)⟩ rfl rfl (Nat.le_of_ble_eq_true rfl) (fl1 _) (fl1 _) 0 rfl rfl rfl [0] rfl rfl rfl rfl ?_
    refine g_if_neB (pc := 20) (tgt := 25) C dX2_passTrait_20 (by decide) (fun c2 => ?_) (fun c2 => ?_)
    · refine g_aload_n (pc := 25) C dX2_passTrait_25 rfl ?_
      refine g_iload_n (pc := 26) C dX2_passTrait_26 rfl ?_
      refine g_aload_n (pc := 27) C dX2_passTrait_27 rfl ?_
      refine g_get2 (pc := 28) C dX2_passTrait_28 0 rfl 5 (by decide) fl_X2_82 rfl ?_
      refine g_top (y := nI (numP tb tn (spE tb tn (tkE tb tn fr)))) (congrArg nI (tkV_num hh c2)) ?_
      refine g_iastM (pc := 31) (ws2 := (fl [tpV g au (tbB tb) tn (tkE tb tn (spE tb tn (tkE tb tn fr))) (tkT tb tn (spE tb tn (tkE tb tn fr))) (spE tb tn (tkE tb tn fr)) (tkV tb tn (spE tb tn (tkE tb tn fr)) (tkV tb tn fr v0)), potV g at' gr la kd pt wt (updN mr c (numP tb tn (spE tb tn (tkE tb tn fr)))) tt yr mn])) C dX2_passTrait_31 8 rfl rfl (by omega) (by decide) rfl ?_
      refine g_aload_n (pc := 32) C dX2_passTrait_32 rfl ?_
      refine g_bxn (pc := 33) (cs := [tpV g au (tbB tb) tn (tkE tb tn (spE tb tn (tkE tb tn fr))) (tkT tb tn (spE tb tn (tkE tb tn fr))) (spE tb tn (tkE tb tn fr)) (tkV tb tn (spE tb tn (tkE tb tn fr)) (tkV tb tn fr v0))]) (ds := [tpV g au (tbB tb) tn (tkE tb tn (spE tb tn (tkE tb tn (spE tb tn (tkE tb tn fr))))) (tkT tb tn (spE tb tn (tkE tb tn (spE tb tn (tkE tb tn fr))))) (spE tb tn (tkE tb tn (spE tb tn (tkE tb tn fr)))) (tkV tb tn (spE tb tn (tkE tb tn (spE tb tn (tkE tb tn fr)))) (tkV tb tn (spE tb tn (tkE tb tn fr)) (tkV tb tn fr v0)))]) (bs2 := [tpV g au (tbB tb) tn (tkE tb tn (spE tb tn (tkE tb tn (spE tb tn (tkE tb tn fr))))) (tkT tb tn (spE tb tn (tkE tb tn (spE tb tn (tkE tb tn fr))))) (spE tb tn (tkE tb tn (spE tb tn (tkE tb tn fr)))) (tkV tb tn (spE tb tn (tkE tb tn (spE tb tn (tkE tb tn fr)))) (tkV tb tn (spE tb tn (tkE tb tn fr)) (tkV tb tn fr v0))), potV g at' gr la kd pt wt (updN mr c (numP tb tn (spE tb tn (tkE tb tn fr)))) tt yr mn]) C dX2_passTrait_33 ml_X2_22 mf_X2_step (c_step g au tn (tkE tb tn (spE tb tn (tkE tb tn fr))) (tkT tb tn (spE tb tn (tkE tb tn fr))) (spE tb tn (tkE tb tn fr)) (tkV tb tn (spE tb tn (tkE tb tn fr)) (tkV tb tn fr v0)) tb htb htn (by omega)) ⟨rfl, rfl, (Nat.le_of_ble_eq_true rfl), (Nat.le_of_ble_eq_true rfl)⟩ rfl rfl (Nat.le_of_ble_eq_true rfl) (fl1 _) (fl1 _) 0 rfl rfl rfl [0] rfl rfl rfl rfl ?_
      refine g_iconst (pc := 36) (v := nI 1) C dX2_passTrait_36 (by decide) ?_
      exact g_zret C Rr dX2_passTrait_37 (by first | rfl | decide) ⟨(updN mr c (numP tb tn (spE tb tn (tkE tb tn fr)))), (spE tb tn (tkE tb tn (spE tb tn (tkE tb tn fr)))), 0, (tkV tb tn (spE tb tn (tkE tb tn fr)) (tkV tb tn fr v0)), by rw [trP, if_pos rfl, if_pos c1, if_pos c2], by decide, hf2.2, by rw [bI_t rfl], rfl⟩ rfl
    · refine g_iconst (pc := 23) (v := nI 0) C dX2_passTrait_23 (by decide) ?_
      exact g_zret C Rr dX2_passTrait_24 (by first | rfl | decide) ⟨mr, (spE tb tn (tkE tb tn fr)), 1, (tkV tb tn fr v0), by rw [trP, if_pos rfl, if_pos c1, if_neg c2], by decide, hf1.2, by rw [bI_f (by decide)], rfl⟩ rfl
  · refine g_iconst (pc := 8) (v := nI 1) C dX2_passTrait_8 (by decide) ?_
    exact g_zret C Rr dX2_passTrait_9 (by first | rfl | decide) ⟨mr, fr, 0, v0, by rw [trP, if_pos rfl, if_neg c1], by decide, hfr, by rw [bI_t rfl], rfl⟩ rfl
set_option maxHeartbeats 400000 in
set_option maxRecDepth 100000 in
theorem c_passPart (g : Gl) (au : Nat → Nat) (tn : Nat) (at' : Nat → Nat) (gr : Nat → Nat) (la : Nat → Nat) (kd : Nat → Nat) (pt : Nat → Nat) (wt : Nat → Nat) (mr : Nat → Nat) (yr : Nat) (mn : Nat) (tb : Nat → Nat) (fr : Nat) (v0 : Nat) (htb : ∀ j, tb j < 256) (htn : tn ≤ 120) (hfr : fr ≤ tn) (hB : PB gr kd pt wt mr (sumN gr 12) yr mn) : Ct g yX2_passPart cX2_passPart 3 (some .boolean) (rk 3 62) [.ref (au 0), .ref (at' 0)] (fl [tpV g au (tbB tb) tn (tkE tb tn fr) (tkT tb tn fr) fr (tkV tb tn fr v0), potV g at' gr la kd pt wt mr (sumN gr 12) yr mn]) (fun r w2 => ∃ (r2 : Nat → Nat) (fr2 : Nat) (wr2 : Nat) (v2 : Nat), grP tb tn gr fr = (r2, fr2, wr2) ∧ r = some (.int (bI (wr2 = 0))) ∧ w2 = (fl [tpV g au (tbB tb) tn (tkE tb tn fr2) (tkT tb tn fr2) fr2 (tkV tb tn fr2 v2), potV g at' r2 la kd pt wt mr (sumN r2 12) yr mn])) := by
  refine ct_of (by decide) (Nat.le_of_ble_eq_true rfl) ?_
  intro φ C0 Rr
  have C : Cx φ g cX2_passPart 3 RX2 (rk 3 62) := C0
  show Go φ g 3 0 [(0, .ref (au 0)), (1, .ref (at' 0))] [] (fl [tpV g au (tbB tb) tn (tkE tb tn fr) (tkT tb tn fr) fr (tkV tb tn fr v0), potV g at' gr la kd pt wt mr (sumN gr 12) yr mn])
  obtain ⟨-, hTle, hgr, hkd, hpt, hwt, hmr, hyr, hmn⟩ := id hB
  have ht := tkE_ge tb hfr
  have hf1 := spE_ge tb ht.2
  have ht1 := tkE_ge tb hf1.2
  have hf2 := spE_ge tb ht1.2
  have ht2 := tkE_ge tb hf2.2
  have hf3 := spE_ge tb ht2.2
  refine g_aload_n (pc := 0) C dX2_passPart_0 rfl ?_
  refine g_bxn (pc := 1) (cs := [tpV g au (tbB tb) tn (tkE tb tn fr) (tkT tb tn fr) fr (tkV tb tn fr v0)]) (ds := [tpV g au (tbB tb) tn (tkE tb tn (spE tb tn (tkE tb tn fr))) (tkT tb tn (spE tb tn (tkE tb tn fr))) (spE tb tn (tkE tb tn fr)) (tkV tb tn (spE tb tn (tkE tb tn fr)) (tkV tb tn fr v0))]) (bs2 := [tpV g au (tbB tb) tn (tkE tb tn (spE tb tn (tkE tb tn fr))) (tkT tb tn (spE tb tn (tkE tb tn fr))) (spE tb tn (tkE tb tn fr)) (tkV tb tn (spE tb tn (tkE tb tn fr)) (tkV tb tn fr v0)), potV g at' gr la kd pt wt mr (sumN gr 12) yr mn]) C dX2_passPart_1 ml_X2_22 mf_X2_step (c_step g au tn (tkE tb tn fr) (tkT tb tn fr) fr (tkV tb tn fr v0) tb htb htn (by omega)) ⟨rfl, rfl, (Nat.le_of_ble_eq_true rfl), (Nat.le_of_ble_eq_true rfl)⟩ rfl rfl (Nat.le_of_ble_eq_true rfl) (fl1 _) (fl1 _) 0 rfl rfl rfl [0] rfl rfl rfl rfl ?_
  refine g_aload_n (pc := 4) C dX2_passPart_4 rfl ?_
  refine g_bipush (pc := 5) (v := nI 11) C dX2_passPart_5 (by decide) ?_
  refine g_bxi (pc := 7) (cs := [tpV g au (tbB tb) tn (tkE tb tn (spE tb tn (tkE tb tn fr))) (tkT tb tn (spE tb tn (tkE tb tn fr))) (spE tb tn (tkE tb tn fr)) (tkV tb tn (spE tb tn (tkE tb tn fr)) (tkV tb tn fr v0))]) (ds := [tpV g au (tbB tb) tn (tkE tb tn (spE tb tn (tkE tb tn fr))) (tkT tb tn (spE tb tn (tkE tb tn fr))) (spE tb tn (tkE tb tn fr)) (tkV tb tn (spE tb tn (tkE tb tn fr)) (tkV tb tn fr v0))]) (bs2 := [tpV g au (tbB tb) tn (tkE tb tn (spE tb tn (tkE tb tn fr))) (tkT tb tn (spE tb tn (tkE tb tn fr))) (spE tb tn (tkE tb tn fr)) (tkV tb tn (spE tb tn (tkE tb tn fr)) (tkV tb tn fr v0)), potV g at' gr la kd pt wt mr (sumN gr 12) yr mn]) C dX2_passPart_7 ml_X2_78 mf_X2_isNumber (c_isNumT g au tn tb (spE tb tn (tkE tb tn fr)) (tkV tb tn fr v0) 11 htb htn (by omega)) ⟨rfl, rfl, (Nat.le_of_ble_eq_true rfl), (Nat.le_of_ble_eq_true rfl)⟩ rfl rfl (Nat.le_of_ble_eq_true rfl) (fl1 _) (fl1 _) 0 rfl rfl rfl [0] rfl rfl rfl rfl ?_
  refine g_if_neB (pc := 10) (tgt := 15) C dX2_passPart_10 (by decide) (fun c1 => ?_) (fun c1 => ?_)
  · have hp11 : numP tb tn (spE tb tn (tkE tb tn fr)) ≤ 11 := c1.2
    refine g_aload_n (pc := 15) C dX2_passPart_15 rfl ?_
    refine g_get2 (pc := 16) C dX2_passPart_16 0 rfl 5 (by decide) fl_X2_82 rfl ?_
    refine g_top (y := nI (numP tb tn (spE tb tn (tkE tb tn fr)))) (congrArg nI (tkV_num (by decide) c1)) ?_
    refine g_istore_n (pc := 19) (lv2 := [(0, .ref (au 0)), (1, .ref (at' 0)), (2, .int (nI (numP tb tn (spE tb tn (tkE tb tn fr)))))]) C dX2_passPart_19 rfl (Nat.le_of_ble_eq_true rfl) rfl ?_
    refine g_aload_n (pc := 20) C dX2_passPart_20 rfl ?_
    refine g_bxn (pc := 21) (cs := [tpV g au (tbB tb) tn (tkE tb tn (spE tb tn (tkE tb tn fr))) (tkT tb tn (spE tb tn (tkE tb tn fr))) (spE tb tn (tkE tb tn fr)) (tkV tb tn (spE tb tn (tkE tb tn fr)) (tkV tb tn fr v0))]) (ds := [tpV g au (tbB tb) tn (tkE tb tn (spE tb tn (tkE tb tn (spE tb tn (tkE tb tn fr))))) (tkT tb tn (spE tb tn (tkE tb tn (spE tb tn (tkE tb tn fr))))) (spE tb tn (tkE tb tn (spE tb tn (tkE tb tn fr)))) (tkV tb tn (spE tb tn (tkE tb tn (spE tb tn (tkE tb tn fr)))) (tkV tb tn (spE tb tn (tkE tb tn fr)) (tkV tb tn fr v0)))]) (bs2 := [tpV g au (tbB tb) tn (tkE tb tn (spE tb tn (tkE tb tn (spE tb tn (tkE tb tn fr))))) (tkT tb tn (spE tb tn (tkE tb tn (spE tb tn (tkE tb tn fr))))) (spE tb tn (tkE tb tn (spE tb tn (tkE tb tn fr)))) (tkV tb tn (spE tb tn (tkE tb tn (spE tb tn (tkE tb tn fr)))) (tkV tb tn (spE tb tn (tkE tb tn fr)) (tkV tb tn fr v0))), potV g at' gr la kd pt wt mr (sumN gr 12) yr mn]) C dX2_passPart_21 ml_X2_22 mf_X2_step (c_step g au tn (tkE tb tn (spE tb tn (tkE tb tn fr))) (tkT tb tn (spE tb tn (tkE tb tn fr))) (spE tb tn (tkE tb tn fr)) (tkV tb tn (spE tb tn (tkE tb tn fr)) (tkV tb tn fr v0)) tb htb htn (by omega)) ⟨rfl, rfl, (Nat.le_of_ble_eq_true rfl), (Nat.le_of_ble_eq_true rfl)⟩ rfl rfl (Nat.le_of_ble_eq_true rfl) (fl1 _) (fl1 _) 0 rfl rfl rfl [0] rfl rfl rfl rfl ?_
    refine g_aload_n (pc := 24) C dX2_passPart_24 rfl ?_
    refine g_sipush (pc := 25) (v := nI 9999) C dX2_passPart_25 (by decide) ?_
    refine g_bxi (pc := 28) (cs := [tpV g au (tbB tb) tn (tkE tb tn (spE tb tn (tkE tb tn (spE tb tn (tkE tb tn fr))))) (tkT tb tn (spE tb tn (tkE tb tn (spE tb tn (tkE tb tn fr))))) (spE tb tn (tkE tb tn (spE tb tn (tkE tb tn fr)))) (tkV tb tn (spE tb tn (tkE tb tn (spE tb tn (tkE tb tn fr)))) (tkV tb tn (spE tb tn (tkE tb tn fr)) (tkV tb tn fr v0)))]) (ds := [tpV g au (tbB tb) tn (tkE tb tn (spE tb tn (tkE tb tn (spE tb tn (tkE tb tn fr))))) (tkT tb tn (spE tb tn (tkE tb tn (spE tb tn (tkE tb tn fr))))) (spE tb tn (tkE tb tn (spE tb tn (tkE tb tn fr)))) (tkV tb tn (spE tb tn (tkE tb tn (spE tb tn (tkE tb tn fr)))) (tkV tb tn (spE tb tn (tkE tb tn fr)) (tkV tb tn fr v0)))]) (bs2 := [tpV g au (tbB tb) tn (tkE tb tn (spE tb tn (tkE tb tn (spE tb tn (tkE tb tn fr))))) (tkT tb tn (spE tb tn (tkE tb tn (spE tb tn (tkE tb tn fr))))) (spE tb tn (tkE tb tn (spE tb tn (tkE tb tn fr)))) (tkV tb tn (spE tb tn (tkE tb tn (spE tb tn (tkE tb tn fr)))) (tkV tb tn (spE tb tn (tkE tb tn fr)) (tkV tb tn fr v0))), potV g at' gr la kd pt wt mr (sumN gr 12) yr mn]) C dX2_passPart_28 ml_X2_78 mf_X2_isNumber (c_isNumT g au tn tb (spE tb tn (tkE tb tn (spE tb tn (tkE tb tn fr)))) (tkV tb tn (spE tb tn (tkE tb tn fr)) (tkV tb tn fr v0)) 9999 htb htn (by omega)) ⟨rfl, rfl, (Nat.le_of_ble_eq_true rfl), (Nat.le_of_ble_eq_true rfl)⟩ rfl rfl (Nat.le_of_ble_eq_true rfl) (fl1 _) (fl1 _) 0 rfl rfl rfl [0] rfl rfl rfl rfl ?_
    refine g_if_eqB (pc := 31) (tgt := 46) C dX2_passPart_31 (by decide) (fun c2 => ?_) (fun c2 => ?_)
    · refine g_iconst (pc := 46) (v := nI 0) C dX2_passPart_46 (by decide) ?_
      exact g_zret C Rr dX2_passPart_47 (by first | rfl | decide) ⟨gr, (spE tb tn (tkE tb tn (spE tb tn (tkE tb tn fr)))), 1, (tkV tb tn (spE tb tn (tkE tb tn fr)) (tkV tb tn fr v0)), by rw [grP, if_pos c1, if_neg (fun z => c2 ((gr2_iff (tb := tb) (tn := tn) (a := spE tb tn (tkE tb tn (spE tb tn (tkE tb tn fr)))) (p := numP tb tn (spE tb tn (tkE tb tn fr))) (show numP tb tn (spE tb tn (tkE tb tn fr)) < 12 by omega) hTle).mp z).1)], by rw [bI_f (by decide)], rfl⟩ rfl
    · have hv9 : numP tb tn (spE tb tn (tkE tb tn (spE tb tn (tkE tb tn fr)))) ≤ 9999 := c2.2
      refine g_aload_n (pc := 34) C dX2_passPart_34 rfl ?_
      refine g_iload_n (pc := 35) C dX2_passPart_35 rfl ?_
      refine g_aload_n (pc := 36) C dX2_passPart_36 rfl ?_
      refine g_get2 (pc := 37) C dX2_passPart_37 0 rfl 5 (by decide) fl_X2_82 rfl ?_
      refine g_top (y := nI (numP tb tn (spE tb tn (tkE tb tn (spE tb tn (tkE tb tn fr)))))) (congrArg nI (tkV_num (by decide) c2)) ?_
      refine g_bxi (pc := 40) (cs := [potV g at' gr la kd pt wt mr (sumN gr 12) yr mn]) (ds := [potV g at' gr la kd pt wt mr (sumN gr 12) yr mn]) (bs2 := [tpV g au (tbB tb) tn (tkE tb tn (spE tb tn (tkE tb tn (spE tb tn (tkE tb tn fr))))) (tkT tb tn (spE tb tn (tkE tb tn (spE tb tn (tkE tb tn fr))))) (spE tb tn (tkE tb tn (spE tb tn (tkE tb tn fr)))) (tkV tb tn (spE tb tn (tkE tb tn (spE tb tn (tkE tb tn fr)))) (tkV tb tn (spE tb tn (tkE tb tn fr)) (tkV tb tn fr v0))), potV g at' gr la kd pt wt mr (sumN gr 12) yr mn]) C dX2_passPart_40 ml_X2_85 mf_X0_hasRoom (c_hasRoom g at' gr la kd pt wt mr (sumN gr 12) yr mn (numP tb tn (spE tb tn (tkE tb tn fr))) (numP tb tn (spE tb tn (tkE tb tn (spE tb tn (tkE tb tn fr))))) hB (by omega) (by omega)) ⟨rfl, rfl, (Nat.le_of_ble_eq_true rfl), (Nat.le_of_ble_eq_true rfl)⟩ rfl rfl (Nat.le_of_ble_eq_true rfl) (fl1 _) (fl1 _) 0 rfl rfl rfl [1] rfl rfl rfl rfl ?_
      refine g_if_neB (pc := 43) (tgt := 48) C dX2_passPart_43 (by decide) (fun c3 => ?_) (fun c3 => ?_)
      · refine g_aload_n (pc := 48) C dX2_passPart_48 rfl ?_
        refine g_iload_n (pc := 49) C dX2_passPart_49 rfl ?_
        refine g_aload_n (pc := 50) C dX2_passPart_50 rfl ?_
        refine g_get2 (pc := 51) C dX2_passPart_51 0 rfl 5 (by decide) fl_X2_82 rfl ?_
        refine g_top (y := nI (numP tb tn (spE tb tn (tkE tb tn (spE tb tn (tkE tb tn fr)))))) (congrArg nI (tkV_num (by decide) c2)) ?_
        refine g_bxn (pc := 54) (cs := [potV g at' gr la kd pt wt mr (sumN gr 12) yr mn]) (ds := [potV g at' (updN gr (numP tb tn (spE tb tn (tkE tb tn fr))) (numP tb tn (spE tb tn (tkE tb tn (spE tb tn (tkE tb tn fr)))))) la kd pt wt mr ((sumN gr 12) - gr (numP tb tn (spE tb tn (tkE tb tn fr))) + (numP tb tn (spE tb tn (tkE tb tn (spE tb tn (tkE tb tn fr)))))) yr mn]) (bs2 := [tpV g au (tbB tb) tn (tkE tb tn (spE tb tn (tkE tb tn (spE tb tn (tkE tb tn fr))))) (tkT tb tn (spE tb tn (tkE tb tn (spE tb tn (tkE tb tn fr))))) (spE tb tn (tkE tb tn (spE tb tn (tkE tb tn fr)))) (tkV tb tn (spE tb tn (tkE tb tn (spE tb tn (tkE tb tn fr)))) (tkV tb tn (spE tb tn (tkE tb tn fr)) (tkV tb tn fr v0))), potV g at' (updN gr (numP tb tn (spE tb tn (tkE tb tn fr))) (numP tb tn (spE tb tn (tkE tb tn (spE tb tn (tkE tb tn fr)))))) la kd pt wt mr ((sumN gr 12) - gr (numP tb tn (spE tb tn (tkE tb tn fr))) + (numP tb tn (spE tb tn (tkE tb tn (spE tb tn (tkE tb tn fr)))))) yr mn]) C dX2_passPart_54 ml_X2_89 mf_X0_fill (c_fill g at' gr la kd pt wt mr (sumN gr 12) yr mn (numP tb tn (spE tb tn (tkE tb tn fr))) (numP tb tn (spE tb tn (tkE tb tn (spE tb tn (tkE tb tn fr))))) hB (by omega)) ⟨rfl, rfl, (Nat.le_of_ble_eq_true rfl), (Nat.le_of_ble_eq_true rfl)⟩ rfl rfl (Nat.le_of_ble_eq_true rfl) (fl1 _) (fl1 _) 0 rfl rfl rfl [1] rfl rfl rfl rfl ?_
        refine g_ws (ws := (fl [tpV g au (tbB tb) tn (tkE tb tn (spE tb tn (tkE tb tn (spE tb tn (tkE tb tn fr))))) (tkT tb tn (spE tb tn (tkE tb tn (spE tb tn (tkE tb tn fr))))) (spE tb tn (tkE tb tn (spE tb tn (tkE tb tn fr)))) (tkV tb tn (spE tb tn (tkE tb tn (spE tb tn (tkE tb tn fr)))) (tkV tb tn (spE tb tn (tkE tb tn fr)) (tkV tb tn fr v0))), potV g at' (updN gr (numP tb tn (spE tb tn (tkE tb tn fr))) (numP tb tn (spE tb tn (tkE tb tn (spE tb tn (tkE tb tn fr)))))) la kd pt wt mr ((sumN gr 12) - gr (numP tb tn (spE tb tn (tkE tb tn fr))) + (numP tb tn (spE tb tn (tkE tb tn (spE tb tn (tkE tb tn fr)))))) yr mn])) (ws2 := (fl [tpV g au (tbB tb) tn (tkE tb tn (spE tb tn (tkE tb tn (spE tb tn (tkE tb tn fr))))) (tkT tb tn (spE tb tn (tkE tb tn (spE tb tn (tkE tb tn fr))))) (spE tb tn (tkE tb tn (spE tb tn (tkE tb tn fr)))) (tkV tb tn (spE tb tn (tkE tb tn (spE tb tn (tkE tb tn fr)))) (tkV tb tn (spE tb tn (tkE tb tn fr)) (tkV tb tn fr v0))), potV g at' (updN gr (numP tb tn (spE tb tn (tkE tb tn fr))) (numP tb tn (spE tb tn (tkE tb tn (spE tb tn (tkE tb tn fr)))))) la kd pt wt mr (sumN (updN gr (numP tb tn (spE tb tn (tkE tb tn fr))) (numP tb tn (spE tb tn (tkE tb tn (spE tb tn (tkE tb tn fr)))))) 12) yr mn])) (by rw [sum_fill (show numP tb tn (spE tb tn (tkE tb tn fr)) < 12 by omega)]) ?_
        refine g_aload_n (pc := 57) C dX2_passPart_57 rfl ?_
        refine g_bxn (pc := 58) (cs := [tpV g au (tbB tb) tn (tkE tb tn (spE tb tn (tkE tb tn (spE tb tn (tkE tb tn fr))))) (tkT tb tn (spE tb tn (tkE tb tn (spE tb tn (tkE tb tn fr))))) (spE tb tn (tkE tb tn (spE tb tn (tkE tb tn fr)))) (tkV tb tn (spE tb tn (tkE tb tn (spE tb tn (tkE tb tn fr)))) (tkV tb tn (spE tb tn (tkE tb tn fr)) (tkV tb tn fr v0)))]) (ds := [tpV g au (tbB tb) tn (tkE tb tn (spE tb tn (tkE tb tn (spE tb tn (tkE tb tn (spE tb tn (tkE tb tn fr))))))) (tkT tb tn (spE tb tn (tkE tb tn (spE tb tn (tkE tb tn (spE tb tn (tkE tb tn fr))))))) (spE tb tn (tkE tb tn (spE tb tn (tkE tb tn (spE tb tn (tkE tb tn fr)))))) (tkV tb tn (spE tb tn (tkE tb tn (spE tb tn (tkE tb tn (spE tb tn (tkE tb tn fr)))))) (tkV tb tn (spE tb tn (tkE tb tn (spE tb tn (tkE tb tn fr)))) (tkV tb tn (spE tb tn (tkE tb tn fr)) (tkV tb tn fr v0))))]) (bs2 := [tpV g au (tbB tb) tn (tkE tb tn (spE tb tn (tkE tb tn (spE tb tn (tkE tb tn (spE tb tn (tkE tb tn fr))))))) (tkT tb tn (spE tb tn (tkE tb tn (spE tb tn (tkE tb tn (spE tb tn (tkE tb tn fr))))))) (spE tb tn (tkE tb tn (spE tb tn (tkE tb tn (spE tb tn (tkE tb tn fr)))))) (tkV tb tn (spE tb tn (tkE tb tn (spE tb tn (tkE tb tn (spE tb tn (tkE tb tn fr)))))) (tkV tb tn (spE tb tn (tkE tb tn (spE tb tn (tkE tb tn fr)))) (tkV tb tn (spE tb tn (tkE tb tn fr)) (tkV tb tn fr v0)))), potV g at' (updN gr (numP tb tn (spE tb tn (tkE tb tn fr))) (numP tb tn (spE tb tn (tkE tb tn (spE tb tn (tkE tb tn fr)))))) la kd pt wt mr (sumN (updN gr (numP tb tn (spE tb tn (tkE tb tn fr))) (numP tb tn (spE tb tn (tkE tb tn (spE tb tn (tkE tb tn fr)))))) 12) yr mn]) C dX2_passPart_58 ml_X2_22 mf_X2_step (c_step g au tn (tkE tb tn (spE tb tn (tkE tb tn (spE tb tn (tkE tb tn fr))))) (tkT tb tn (spE tb tn (tkE tb tn (spE tb tn (tkE tb tn fr))))) (spE tb tn (tkE tb tn (spE tb tn (tkE tb tn fr)))) (tkV tb tn (spE tb tn (tkE tb tn (spE tb tn (tkE tb tn fr)))) (tkV tb tn (spE tb tn (tkE tb tn fr)) (tkV tb tn fr v0))) tb htb htn (by omega)) ⟨rfl, rfl, (Nat.le_of_ble_eq_true rfl), (Nat.le_of_ble_eq_true rfl)⟩ rfl rfl (Nat.le_of_ble_eq_true rfl) (fl1 _) (fl1 _) 0 rfl rfl rfl [0] rfl rfl rfl rfl ?_
        refine g_iconst (pc := 61) (v := nI 1) C dX2_passPart_61 (by decide) ?_
        exact g_zret C Rr dX2_passPart_62 (by first | rfl | decide) ⟨(updN gr (numP tb tn (spE tb tn (tkE tb tn fr))) (numP tb tn (spE tb tn (tkE tb tn (spE tb tn (tkE tb tn fr)))))), (spE tb tn (tkE tb tn (spE tb tn (tkE tb tn (spE tb tn (tkE tb tn fr)))))), 0, (tkV tb tn (spE tb tn (tkE tb tn (spE tb tn (tkE tb tn fr)))) (tkV tb tn (spE tb tn (tkE tb tn fr)) (tkV tb tn fr v0))), by rw [grP, if_pos c1, if_pos ((gr2_iff (tb := tb) (tn := tn) (a := spE tb tn (tkE tb tn (spE tb tn (tkE tb tn fr)))) (p := numP tb tn (spE tb tn (tkE tb tn fr))) (show numP tb tn (spE tb tn (tkE tb tn fr)) < 12 by omega) hTle).mpr ⟨c2, c3⟩)], by rw [bI_t rfl], rfl⟩ rfl
      · refine g_iconst (pc := 46) (v := nI 0) C dX2_passPart_46 (by decide) ?_
        exact g_zret C Rr dX2_passPart_47 (by first | rfl | decide) ⟨gr, (spE tb tn (tkE tb tn (spE tb tn (tkE tb tn fr)))), 1, (tkV tb tn (spE tb tn (tkE tb tn fr)) (tkV tb tn fr v0)), by rw [grP, if_pos c1, if_neg (fun z => c3 ((gr2_iff (tb := tb) (tn := tn) (a := spE tb tn (tkE tb tn (spE tb tn (tkE tb tn fr)))) (p := numP tb tn (spE tb tn (tkE tb tn fr))) (show numP tb tn (spE tb tn (tkE tb tn fr)) < 12 by omega) hTle).mp z).2)], by rw [bI_f (by decide)], rfl⟩ rfl
  · refine g_iconst (pc := 13) (v := nI 0) C dX2_passPart_13 (by decide) ?_
    exact g_zret C Rr dX2_passPart_14 (by first | rfl | decide) ⟨gr, (spE tb tn (tkE tb tn fr)), 1, (tkV tb tn fr v0), by rw [grP, if_neg c1], by rw [bI_f (by decide)], rfl⟩ rfl
set_option maxHeartbeats 400000 in
set_option maxRecDepth 100000 in
theorem c_passItem (g : Gl) (au : Nat → Nat) (tn : Nat) (at' : Nat → Nat) (gr : Nat → Nat) (la : Nat → Nat) (kd : Nat → Nat) (pt : Nat → Nat) (wt : Nat → Nat) (mr : Nat → Nat) (yr : Nat) (mn : Nat) (tb : Nat → Nat) (fr : Nat) (v0 : Nat) (htb : ∀ j, tb j < 256) (htn : tn ≤ 120) (hfr : fr ≤ tn) (hB : PB gr kd pt wt mr (sumN gr 12) yr mn) : Ct g yX2_passItem cX2_passItem 4 (some .boolean) (rk 6 131) [.ref (au 0), .ref (at' 0)] (fl [tpV g au (tbB tb) tn (tkE tb tn fr) (tkT tb tn fr) fr (tkV tb tn fr v0), potV g at' gr la kd pt wt mr (sumN gr 12) yr mn]) (fun r w2 => ∃ (mn2 : Nat) (gr2 : Nat → Nat) (kd2 : Nat → Nat) (pt2 : Nat → Nat) (wt2 : Nat → Nat) (mr2 : Nat → Nat) (fr2 : Nat) (wr2 : Nat) (v2 : Nat), itemP tb tn (mn, yr, gr, kd, pt, wt, mr) fr = ((mn2, yr, gr2, kd2, pt2, wt2, mr2), fr2, wr2) ∧ r = some (.int (bI (wr2 = 0))) ∧ w2 = (fl [tpV g au (tbB tb) tn (tkE tb tn fr2) (tkT tb tn fr2) fr2 (tkV tb tn fr2 v2), potV g at' gr2 la kd2 pt2 wt2 mr2 (sumN gr2 12) yr mn2])) := by
  refine ct_of (by decide) (Nat.le_of_ble_eq_true rfl) ?_
  intro φ C0 Rr
  have C : Cx φ g cX2_passItem 4 RX2 (rk 6 131) := C0
  show Go φ g 4 0 [(0, .ref (au 0)), (1, .ref (at' 0))] [] (fl [tpV g au (tbB tb) tn (tkE tb tn fr) (tkT tb tn fr) fr (tkV tb tn fr v0), potV g at' gr la kd pt wt mr (sumN gr 12) yr mn])
  obtain ⟨-, hTle, hgr, hkd, hpt, hwt, hmr, hyr, hmn⟩ := id hB
  have ht := tkE_ge tb hfr
  have hf1 := spE_ge tb ht.2
  refine g_aload_n (pc := 0) C dX2_passItem_0 rfl ?_
  refine g_ldcS (pc := 1) (q := 0) C dX2_passItem_1 (by decide) rfl ?_
  refine g_bxi (pc := 3) (cs := [tpV g au (tbB tb) tn (tkE tb tn fr) (tkT tb tn fr) fr (tkV tb tn fr v0)]) (ds := [tpV g au (tbB tb) tn (tkE tb tn fr) (tkT tb tn fr) fr (tkV tb tn fr v0)]) (bs2 := [tpV g au (tbB tb) tn (tkE tb tn fr) (tkT tb tn fr) fr (tkV tb tn fr v0), potV g at' gr la kd pt wt mr (sumN gr 12) yr mn]) C dX2_passItem_3 ml_X2_37 mf_X2_isWord (c_isWord g au tn (tkV tb tn fr v0) tb fr 0 htb htn (by omega) (by decide)) ⟨rfl, rfl, (Nat.le_of_ble_eq_true rfl), (Nat.le_of_ble_eq_true rfl)⟩ rfl rfl (Nat.le_of_ble_eq_true rfl) (fl1 _) (fl1 _) 0 rfl rfl rfl [0] rfl rfl rfl rfl ?_
  refine g_if_eqB (pc := 6) (tgt := 15) C dX2_passItem_6 (by decide) (fun c1 => ?_) (fun c1 => ?_)
  · have hc0 : ¬ wdL tb tn fr (tkE tb tn fr) = 525908 := fun z => c1 (z.trans sC0.symm)
    refine g_aload_n (pc := 15) C dX2_passItem_15 rfl ?_
    refine g_bxi (pc := 16) (cs := [tpV g au (tbB tb) tn (tkE tb tn fr) (tkT tb tn fr) fr (tkV tb tn fr v0)]) (ds := [tpV g au (tbB tb) tn (tkE tb tn fr) (tkT tb tn fr) fr (tkV tb tn fr v0)]) (bs2 := [tpV g au (tbB tb) tn (tkE tb tn fr) (tkT tb tn fr) fr (tkV tb tn fr v0), potV g at' gr la kd pt wt mr (sumN gr 12) yr mn]) C dX2_passItem_16 ml_X2_44 mf_X2_kindNamed (c_kindNamed g au tn (tkV tb tn fr v0) tb fr htb htn (by omega)) ⟨rfl, rfl, (Nat.le_of_ble_eq_true rfl), (Nat.le_of_ble_eq_true rfl)⟩ rfl rfl (Nat.le_of_ble_eq_true rfl) (fl1 _) (fl1 _) 0 rfl rfl rfl [0] rfl rfl rfl rfl ?_
    rcases kdW_or (wdL tb tn fr (tkE tb tn fr)) with hk | ⟨k_, hk5, hk⟩
    · refine g_top (y := (-1)) hk ?_
      refine g_istore_n (pc := 19) (lv2 := [(0, .ref (au 0)), (1, .ref (at' 0)), (2, .int (-1))]) C dX2_passItem_19 rfl (Nat.le_of_ble_eq_true rfl) rfl ?_
      refine g_iload_n (pc := 20) C dX2_passItem_20 rfl ?_
      refine g_if_lt (pc := 21) (tgt := 31) C dX2_passItem_21 (by decide) (fun _ => ?_) (fun h => absurd (by decide) h)
      refine g_iconst (pc := 31) (v := nI 0) C dX2_passItem_31 (by decide) ?_
      exact g_zret C Rr dX2_passItem_32 (by first | rfl | decide) ⟨mn, gr, kd, pt, wt, mr, fr, 1, v0, by simp only [itemP, hk, if_true, if_neg hc0], by rw [bI_f (by decide)], rfl⟩ rfl
    · refine g_top (y := (nI k_)) hk ?_
      refine g_istore_n (pc := 19) (lv2 := [(0, .ref (au 0)), (1, .ref (at' 0)), (2, .int (nI k_))]) C dX2_passItem_19 rfl (Nat.le_of_ble_eq_true rfl) rfl ?_
      refine g_iload_n (pc := 20) C dX2_passItem_20 rfl ?_
      refine g_if_ltN (pc := 21) (tgt := 31) C dX2_passItem_21 (by decide) (by omega) (fun h => absurd h (by simp)) (fun _ => ?_)
      refine g_aload_n (pc := 24) C dX2_passItem_24 rfl ?_
      refine g_bxi (pc := 25) (cs := [potV g at' gr la kd pt wt mr (sumN gr 12) yr mn]) (ds := [potV g at' gr la kd pt wt mr (sumN gr 12) yr mn]) (bs2 := [tpV g au (tbB tb) tn (tkE tb tn fr) (tkT tb tn fr) fr (tkV tb tn fr v0), potV g at' gr la kd pt wt mr (sumN gr 12) yr mn]) C dX2_passItem_25 ml_X2_48 mf_X0_isStaffed (c_isStaffed g at' gr la kd pt wt mr (sumN gr 12) yr mn hB) ⟨rfl, rfl, (Nat.le_of_ble_eq_true rfl), (Nat.le_of_ble_eq_true rfl)⟩ rfl rfl (Nat.le_of_ble_eq_true rfl) (fl1 _) (fl1 _) 0 rfl rfl rfl [1] rfl rfl rfl rfl ?_
      refine g_if_eqB (pc := 28) (tgt := 33) C dX2_passItem_28 (by decide) (fun c4 => ?_) (fun c4 => ?_)
      · have hm8 : mn < 8 := by omega
        refine g_aload_n (pc := 33) C dX2_passItem_33 rfl ?_
        refine g_iload_n (pc := 34) C dX2_passItem_34 rfl ?_
        refine g_bxi (pc := 35) (cs := [potV g at' gr la kd pt wt mr (sumN gr 12) yr mn]) (ds := [potV g at' gr la (updN kd mn k_) (updN pt mn 1) (updN wt mn 100) (updN mr mn 5) (sumN gr 12) yr (mn + 1)]) (bs2 := [tpV g au (tbB tb) tn (tkE tb tn fr) (tkT tb tn fr) fr (tkV tb tn fr v0), potV g at' gr la (updN kd mn k_) (updN pt mn 1) (updN wt mn 100) (updN mr mn 5) (sumN gr 12) yr (mn + 1)]) C dX2_passItem_35 ml_X2_54 mf_X0_hire (c_hire g at' gr la kd pt wt mr (sumN gr 12) yr mn k_ hB (by omega)) ⟨rfl, rfl, (Nat.le_of_ble_eq_true rfl), (Nat.le_of_ble_eq_true rfl)⟩ rfl rfl (Nat.le_of_ble_eq_true rfl) (fl1 _) (fl1 _) 0 rfl rfl rfl [1] rfl rfl rfl rfl ?_
        refine g_istore_n (pc := 38) (lv2 := [(0, .ref (au 0)), (1, .ref (at' 0)), (2, .int (nI k_)), (3, .int (nI mn))]) C dX2_passItem_38 rfl (Nat.le_of_ble_eq_true rfl) rfl ?_
        refine g_aload_n (pc := 39) C dX2_passItem_39 rfl ?_
        refine g_bxn (pc := 40) (cs := [tpV g au (tbB tb) tn (tkE tb tn fr) (tkT tb tn fr) fr (tkV tb tn fr v0)]) (ds := [tpV g au (tbB tb) tn (tkE tb tn (spE tb tn (tkE tb tn fr))) (tkT tb tn (spE tb tn (tkE tb tn fr))) (spE tb tn (tkE tb tn fr)) (tkV tb tn (spE tb tn (tkE tb tn fr)) (tkV tb tn fr v0))]) (bs2 := [tpV g au (tbB tb) tn (tkE tb tn (spE tb tn (tkE tb tn fr))) (tkT tb tn (spE tb tn (tkE tb tn fr))) (spE tb tn (tkE tb tn fr)) (tkV tb tn (spE tb tn (tkE tb tn fr)) (tkV tb tn fr v0)), potV g at' gr la (updN kd mn k_) (updN pt mn 1) (updN wt mn 100) (updN mr mn 5) (sumN gr 12) yr (mn + 1)]) C dX2_passItem_40 ml_X2_22 mf_X2_step (c_step g au tn (tkE tb tn fr) (tkT tb tn fr) fr (tkV tb tn fr v0) tb htb htn (by omega)) ⟨rfl, rfl, (Nat.le_of_ble_eq_true rfl), (Nat.le_of_ble_eq_true rfl)⟩ rfl rfl (Nat.le_of_ble_eq_true rfl) (fl1 _) (fl1 _) 0 rfl rfl rfl [0] rfl rfl rfl rfl ?_
        refine g_aload_n (pc := 43) C dX2_passItem_43 rfl ?_
        refine g_ldcS (pc := 44) (q := 7) C dX2_passItem_44 (by decide) rfl ?_
        refine g_aload_n (pc := 46) C dX2_passItem_46 rfl ?_
        refine g_get0 (pc := 47) C dX2_passItem_47 2 rfl 3 (by decide) fl_X2_60 rfl ?_
        refine g_iload_n (pc := 50) C dX2_passItem_50 rfl ?_
        refine g_bipush (pc := 51) (v := nI 11) C dX2_passItem_51 (by decide) ?_
        refine g_bV (pc := 53) (cs := [tpV g au (tbB tb) tn (tkE tb tn (spE tb tn (tkE tb tn fr))) (tkT tb tn (spE tb tn (tkE tb tn fr))) (spE tb tn (tkE tb tn fr)) (tkV tb tn (spE tb tn (tkE tb tn fr)) (tkV tb tn fr v0)), potV g at' gr la (updN kd mn k_) (updN pt mn 1) (updN wt mn 100) (updN mr mn 5) (sumN gr 12) yr (mn + 1)]) (rest := []) C dX2_passItem_53 ml_X2_64 mf_X2_passTrait (c_trait_pt g au tn at' gr la (updN kd mn k_) (updN pt mn 1) (updN wt mn 100) (updN mr mn 5) (sumN gr 12) yr (mn + 1) tb (spE tb tn (tkE tb tn fr)) (tkV tb tn fr v0) 7 mn 11 htb htn (by omega) (by decide) (by omega) (by omega)) ⟨rfl, rfl, (Nat.le_of_ble_eq_true rfl), (Nat.le_of_ble_eq_true rfl)⟩ rfl rfl (Nat.le_of_ble_eq_true rfl) rfl 0 rfl rfl rfl [0, 1] rfl rfl ?_
        intro r9 w9 h9
        obtain ⟨r1_, f1_, w1_, v1_, hp1_, hw1_, hf1_, rfl, rfl⟩ := h9
        refine ⟨[tpV g au (tbB tb) tn (tkE tb tn f1_) (tkT tb tn f1_) f1_ (tkV tb tn f1_ v1_), potV g at' gr la (updN kd mn k_) r1_ (updN wt mn 100) (updN mr mn 5) (sumN gr 12) yr (mn + 1)], rfl, rfl, ?_⟩
        show Go φ g 4 56 [(0, .ref (au 0)), (1, .ref (at' 0)), (2, .int (nI k_)), (3, .int (nI mn))] [.int (bI (w1_ = 0))] (fl [tpV g au (tbB tb) tn (tkE tb tn f1_) (tkT tb tn f1_) f1_ (tkV tb tn f1_ v1_), potV g at' gr la (updN kd mn k_) r1_ (updN wt mn 100) (updN mr mn 5) (sumN gr 12) yr (mn + 1)])
        rw [sC7] at hp1_
        refine g_if_eqB (pc := 56) (tgt := 96) C dX2_passItem_56 (by decide) (fun c5 => ?_) (fun c5 => ?_)
        · obtain rfl : w1_ = 1 := by omega
          refine g_iconst (pc := 96) (v := nI 0) C dX2_passItem_96 (by decide) ?_
          exact g_zret C Rr dX2_passItem_97 (by first | rfl | decide) ⟨(mn + 1), gr, (updN kd mn k_), r1_, (updN wt mn 100), (updN mr mn 5), f1_, 1, v1_, by rw [itemP, hk, if_neg (m1_ne (by omega)), ix_nI (by omega)]; simp only [cookP, if_pos hm8, hp1_, trP_dead], by rw [bI_f (by decide)], rfl⟩ rfl
        · obtain rfl : w1_ = 0 := by omega
          refine g_aload_n (pc := 59) C dX2_passItem_59 rfl ?_
          refine g_ldcS (pc := 60) (q := 8) C dX2_passItem_60 (by decide) rfl ?_
          refine g_aload_n (pc := 62) C dX2_passItem_62 rfl ?_
          refine g_get0 (pc := 63) C dX2_passItem_63 2 rfl 4 (by decide) fl_X2_70 rfl ?_
          refine g_iload_n (pc := 66) C dX2_passItem_66 rfl ?_
          refine g_sipush (pc := 67) (v := nI 999) C dX2_passItem_67 (by decide) ?_
          refine g_bV (pc := 70) (cs := [tpV g au (tbB tb) tn (tkE tb tn f1_) (tkT tb tn f1_) f1_ (tkV tb tn f1_ v1_), potV g at' gr la (updN kd mn k_) r1_ (updN wt mn 100) (updN mr mn 5) (sumN gr 12) yr (mn + 1)]) (rest := []) C dX2_passItem_70 ml_X2_64 mf_X2_passTrait (c_trait_wt g au tn at' gr la (updN kd mn k_) r1_ (updN wt mn 100) (updN mr mn 5) (sumN gr 12) yr (mn + 1) tb f1_ v1_ 8 mn 999 htb htn (by omega) (by decide) (by omega) (by omega)) ⟨rfl, rfl, (Nat.le_of_ble_eq_true rfl), (Nat.le_of_ble_eq_true rfl)⟩ rfl rfl (Nat.le_of_ble_eq_true rfl) rfl 0 rfl rfl rfl [0, 1] rfl rfl ?_
          intro r9 w9 h9
          obtain ⟨r2_, f2_, w2_, v2_, hp2_, hw2_, hf2_, rfl, rfl⟩ := h9
          refine ⟨[tpV g au (tbB tb) tn (tkE tb tn f2_) (tkT tb tn f2_) f2_ (tkV tb tn f2_ v2_), potV g at' gr la (updN kd mn k_) r1_ r2_ (updN mr mn 5) (sumN gr 12) yr (mn + 1)], rfl, rfl, ?_⟩
          show Go φ g 4 73 [(0, .ref (au 0)), (1, .ref (at' 0)), (2, .int (nI k_)), (3, .int (nI mn))] [.int (bI (w2_ = 0))] (fl [tpV g au (tbB tb) tn (tkE tb tn f2_) (tkT tb tn f2_) f2_ (tkV tb tn f2_ v2_), potV g at' gr la (updN kd mn k_) r1_ r2_ (updN mr mn 5) (sumN gr 12) yr (mn + 1)])
          rw [sC8] at hp2_
          refine g_if_eqB (pc := 73) (tgt := 96) C dX2_passItem_73 (by decide) (fun c6 => ?_) (fun c6 => ?_)
          · obtain rfl : w2_ = 1 := by omega
            refine g_iconst (pc := 96) (v := nI 0) C dX2_passItem_96 (by decide) ?_
            exact g_zret C Rr dX2_passItem_97 (by first | rfl | decide) ⟨(mn + 1), gr, (updN kd mn k_), r1_, r2_, (updN mr mn 5), f2_, 1, v2_, by rw [itemP, hk, if_neg (m1_ne (by omega)), ix_nI (by omega)]; simp only [cookP, if_pos hm8, hp1_, hp2_, trP_dead], by rw [bI_f (by decide)], rfl⟩ rfl
          · obtain rfl : w2_ = 0 := by omega
            refine g_aload_n (pc := 76) C dX2_passItem_76 rfl ?_
            refine g_ldcS (pc := 77) (q := 9) C dX2_passItem_77 (by decide) rfl ?_
            refine g_aload_n (pc := 79) C dX2_passItem_79 rfl ?_
            refine g_get0 (pc := 80) C dX2_passItem_80 2 rfl 5 (by decide) fl_X2_75 rfl ?_
            refine g_iload_n (pc := 83) C dX2_passItem_83 rfl ?_
            refine g_bipush (pc := 84) (v := nI 9) C dX2_passItem_84 (by decide) ?_
            refine g_bV (pc := 86) (cs := [tpV g au (tbB tb) tn (tkE tb tn f2_) (tkT tb tn f2_) f2_ (tkV tb tn f2_ v2_), potV g at' gr la (updN kd mn k_) r1_ r2_ (updN mr mn 5) (sumN gr 12) yr (mn + 1)]) (rest := []) C dX2_passItem_86 ml_X2_64 mf_X2_passTrait (c_trait_mr g au tn at' gr la (updN kd mn k_) r1_ r2_ (updN mr mn 5) (sumN gr 12) yr (mn + 1) tb f2_ v2_ 9 mn 9 htb htn (by omega) (by decide) (by omega) (by omega)) ⟨rfl, rfl, (Nat.le_of_ble_eq_true rfl), (Nat.le_of_ble_eq_true rfl)⟩ rfl rfl (Nat.le_of_ble_eq_true rfl) rfl 0 rfl rfl rfl [0, 1] rfl rfl ?_
            intro r9 w9 h9
            obtain ⟨r3_, f3_, w3_, v3_, hp3_, hw3_, hf3_, rfl, rfl⟩ := h9
            refine ⟨[tpV g au (tbB tb) tn (tkE tb tn f3_) (tkT tb tn f3_) f3_ (tkV tb tn f3_ v3_), potV g at' gr la (updN kd mn k_) r1_ r2_ r3_ (sumN gr 12) yr (mn + 1)], rfl, rfl, ?_⟩
            show Go φ g 4 89 [(0, .ref (au 0)), (1, .ref (at' 0)), (2, .int (nI k_)), (3, .int (nI mn))] [.int (bI (w3_ = 0))] (fl [tpV g au (tbB tb) tn (tkE tb tn f3_) (tkT tb tn f3_) f3_ (tkV tb tn f3_ v3_), potV g at' gr la (updN kd mn k_) r1_ r2_ r3_ (sumN gr 12) yr (mn + 1)])
            rw [sC9] at hp3_
            refine g_if_eqB (pc := 89) (tgt := 96) C dX2_passItem_89 (by decide) (fun c7 => ?_) (fun c7 => ?_)
            · obtain rfl : w3_ = 1 := by omega
              refine g_iconst (pc := 96) (v := nI 0) C dX2_passItem_96 (by decide) ?_
              exact g_zret C Rr dX2_passItem_97 (by first | rfl | decide) ⟨(mn + 1), gr, (updN kd mn k_), r1_, r2_, r3_, f3_, 1, v3_, by rw [itemP, hk, if_neg (m1_ne (by omega)), ix_nI (by omega)]; simp only [cookP, if_pos hm8, hp1_, hp2_, hp3_, trP_dead], by rw [bI_f (by decide)], rfl⟩ rfl
            · obtain rfl : w3_ = 0 := by omega
              refine g_iconst (pc := 92) (v := nI 1) C dX2_passItem_92 (by decide) ?_
              refine g_goto (pc := 93) (tgt := 97) C dX2_passItem_93 (by decide) ?_
              exact g_zret C Rr dX2_passItem_97 (by first | rfl | decide) ⟨(mn + 1), gr, (updN kd mn k_), r1_, r2_, r3_, f3_, 0, v3_, by rw [itemP, hk, if_neg (m1_ne (by omega)), ix_nI (by omega)]; simp only [cookP, if_pos hm8, hp1_, hp2_, hp3_, trP_dead], by rw [bI_t rfl], rfl⟩ rfl
      · refine g_iconst (pc := 31) (v := nI 0) C dX2_passItem_31 (by decide) ?_
        exact g_zret C Rr dX2_passItem_32 (by first | rfl | decide) ⟨mn, gr, kd, pt, wt, mr, fr, 1, v0, by rw [itemP, hk, if_neg (m1_ne (by omega)), ix_nI (by omega), cookP, if_neg (by omega)], by rw [bI_f (by decide)], rfl⟩ rfl
  · have hc0 := c1.trans sC0
    have hk : kdW (wdL tb tn fr (tkE tb tn fr)) = -1 := by rw [hc0]; decide
    refine g_aload_n (pc := 9) C dX2_passItem_9 rfl ?_
    refine g_aload_n (pc := 10) C dX2_passItem_10 rfl ?_
    refine g_bV (pc := 11) (cs := [tpV g au (tbB tb) tn (tkE tb tn fr) (tkT tb tn fr) fr (tkV tb tn fr v0), potV g at' gr la kd pt wt mr (sumN gr 12) yr mn]) (rest := []) C dX2_passItem_11 ml_X2_41 mf_X2_passPart (c_passPart g au tn at' gr la kd pt wt mr yr mn tb fr v0 htb htn (by omega) hB) ⟨rfl, rfl, (Nat.le_of_ble_eq_true rfl), (Nat.le_of_ble_eq_true rfl)⟩ rfl rfl (Nat.le_of_ble_eq_true rfl) rfl 0 rfl rfl rfl [0, 1] rfl rfl ?_
    intro r9 w9 h9
    obtain ⟨r2_8, fr2_9, wP_, v2_10, hp_g, rfl, rfl⟩ := h9
    refine ⟨[tpV g au (tbB tb) tn (tkE tb tn fr2_9) (tkT tb tn fr2_9) fr2_9 (tkV tb tn fr2_9 v2_10), potV g at' r2_8 la kd pt wt mr (sumN r2_8 12) yr mn], rfl, rfl, ?_⟩
    show Go φ g 4 14 [(0, .ref (au 0)), (1, .ref (at' 0))] [.int (bI (wP_ = 0))] (fl [tpV g au (tbB tb) tn (tkE tb tn fr2_9) (tkT tb tn fr2_9) fr2_9 (tkV tb tn fr2_9 v2_10), potV g at' r2_8 la kd pt wt mr (sumN r2_8 12) yr mn])
    exact g_zret C Rr dX2_passItem_14 nar_bI ⟨mn, r2_8, kd, pt, wt, mr, fr2_9, wP_, v2_10, by simp only [itemP, hk, if_true, if_pos hc0, hp_g], rfl, rfl⟩ rfl
