theorem sb_eq {tb : Nat → Nat} {x c : Nat} (hx : tb x < 256) (hc : c < 128) : tbB tb x = nI c ↔ tb x = c := by
  constructor
  · intro h
    have := congrArg Int32.toInt h
    rw [tbB, sb_int _ hx, nI_toInt (by omega)] at this
    split at this <;> omega
  · intro h
    rw [sb_sm (by omega), h]
noncomputable def spE (tb : Nat → Nat) (tn pl : Nat) : Nat := endE (fun j => tb j = 32) tn pl
noncomputable def tkT (tb : Nat → Nat) (tn a : Nat) : Nat := if tn ≤ a then 0 else if isL (tb a) then 1 else if isD (tb a) then 2 else if tb a = 59 then 3 else 4
noncomputable def tkE (tb : Nat → Nat) (tn a : Nat) : Nat := if tn ≤ a then a else if isL (tb a) then endE (fun j => isL (tb j)) tn a else if isD (tb a) then endE (fun j => isD (tb j)) tn a else a + 1
noncomputable def tkV (tb : Nat → Nat) (tn a vl : Nat) : Nat := if tn ≤ a then vl else if isL (tb a) then vl else if isD (tb a) then numV tb a (endE (fun j => isD (tb j)) tn a - a) else vl
set_option maxHeartbeats 400000 in
set_option maxRecDepth 100000 in
theorem c_step (g : Gl) (au : Nat → Nat) (tn : Nat) (pl : Nat) (tk : Nat) (sr : Nat) (vl : Nat) (tb : Nat → Nat) (htb : ∀ j, tb j < 256) (htn : tn ≤ 120) (hpn : pl ≤ tn) : Ct g yX2_step cX2_step 1 none (rk 2 42) [.ref (au 0)] (tpV g au (tbB tb) tn pl tk sr vl) (fun r w2 => r = none ∧ w2 = (tpV g au (tbB tb) tn (tkE tb tn (spE tb tn pl)) (tkT tb tn (spE tb tn pl)) (spE tb tn pl) (tkV tb tn (spE tb tn pl) vl))) := by
  refine ct_of (by decide) (Nat.le_of_ble_eq_true rfl) ?_
  intro φ C0 Rr
  have C : Cx φ g cX2_step 1 RX2 (rk 2 42) := C0
  show Go φ g 1 0 [(0, .ref (au 0))] [] (tpV g au (tbB tb) tn pl tk sr vl)
  refine g_loop0 (n := tn) (fun (i : Nat) => pl ≤ i ∧ ∀ j, pl ≤ j → j < i → tb j = 32) (fun (i : Nat) => [(0, .ref (au 0))]) (fun (i : Nat) => (tpV g au (tbB tb) tn i tk sr vl)) ?_ pl (by omega) ⟨Nat.le_refl _, fun j h1 h2 => absurd h2 (Nat.not_lt.mpr h1)⟩
  intro i hi_i hv_i ih_i
  show Go φ g 1 0 [(0, .ref (au 0))] [] (tpV g au (tbB tb) tn i tk sr vl)
  have hv_i : pl ≤ i ∧ ∀ j, pl ≤ j → j < i → tb j = 32 := hv_i
  refine g_aload_n (pc := 0) C dX2_step_0 rfl ?_
  refine g_get2 (pc := 1) C dX2_step_1 0 rfl 2 (by decide) fl_X2_19 rfl ?_
  refine g_aload_n (pc := 4) C dX2_step_4 rfl ?_
  refine g_get2 (pc := 5) C dX2_step_5 0 rfl 1 (by decide) fl_X2_15 rfl ?_
  refine g_icmp_geN (pc := 8) (tgt := 38) C dX2_step_8 (by decide) (by omega) (by omega) (fun c1 => ?_) (fun c1 => ?_)
  · refine g_aload_n (pc := 38) C dX2_step_38 rfl ?_
    refine g_aload_n (pc := 39) C dX2_step_39 rfl ?_
    refine g_get2 (pc := 40) C dX2_step_40 0 rfl 2 (by decide) fl_X2_19 rfl ?_
    refine g_put2 (pc := 43) (ws2 := (tpV g au (tbB tb) tn i tk i vl)) C dX2_step_43 0 rfl 4 (by decide) fl_X2_32 rfl rfl rfl (Nat.le_of_ble_eq_true rfl) rfl ?_
    refine g_aload_n (pc := 46) C dX2_step_46 rfl ?_
    refine g_get2 (pc := 47) C dX2_step_47 0 rfl 2 (by decide) fl_X2_19 rfl ?_
    refine g_aload_n (pc := 50) C dX2_step_50 rfl ?_
    refine g_get2 (pc := 51) C dX2_step_51 0 rfl 1 (by decide) fl_X2_15 rfl ?_
    refine g_icmp_ltN (pc := 54) (tgt := 65) C dX2_step_54 (by decide) (by omega) (by omega) (fun c2 => ?_) (fun c2 => ?_)
    · exact absurd c2 (by omega)
    · refine g_aload_n (pc := 57) C dX2_step_57 rfl ?_
      refine g_iconst (pc := 58) (v := nI 0) C dX2_step_58 (by decide) ?_
      refine g_put2 (pc := 59) (ws2 := (tpV g au (tbB tb) tn i 0 i vl)) C dX2_step_59 0 rfl 3 (by decide) fl_X2_29 rfl rfl rfl (Nat.le_of_ble_eq_true rfl) rfl ?_
      refine g_goto (pc := 62) (tgt := 134) C dX2_step_62 (by decide) ?_
      exact g_vret C Rr dX2_step_134 ⟨rfl, by rw [show spE tb tn pl = i from endE_eq ⟨hv_i.1, hi_i, hv_i.2, fun h => absurd h (by omega)⟩]; simp only [tkT, tkE, tkV, if_pos c1]⟩ rfl
  · refine g_aload_n (pc := 11) C dX2_step_11 rfl ?_
    refine g_get2 (pc := 12) C dX2_step_12 0 rfl 0 (by decide) fl_X2_9 rfl ?_
    refine g_aload_n (pc := 15) C dX2_step_15 rfl ?_
    refine g_get2 (pc := 16) C dX2_step_16 0 rfl 2 (by decide) fl_X2_19 rfl ?_
    refine g_baldN (pc := 19) C dX2_step_19 1 rfl rfl (by omega) (by decide) ?_
    refine g_bipush (pc := 20) (v := nI 32) C dX2_step_20 (by decide) ?_
    refine g_icmp_ne (pc := 22) (tgt := 38) C dX2_step_22 (by decide) (fun c3 => ?_) (fun c3 => ?_)
    · refine g_aload_n (pc := 38) C dX2_step_38 rfl ?_
      refine g_aload_n (pc := 39) C dX2_step_39 rfl ?_
      refine g_get2 (pc := 40) C dX2_step_40 0 rfl 2 (by decide) fl_X2_19 rfl ?_
      refine g_put2 (pc := 43) (ws2 := (tpV g au (tbB tb) tn i tk i vl)) C dX2_step_43 0 rfl 4 (by decide) fl_X2_32 rfl rfl rfl (Nat.le_of_ble_eq_true rfl) rfl ?_
      refine g_aload_n (pc := 46) C dX2_step_46 rfl ?_
      refine g_get2 (pc := 47) C dX2_step_47 0 rfl 2 (by decide) fl_X2_19 rfl ?_
      refine g_aload_n (pc := 50) C dX2_step_50 rfl ?_
      refine g_get2 (pc := 51) C dX2_step_51 0 rfl 1 (by decide) fl_X2_15 rfl ?_
      refine g_icmp_ltN (pc := 54) (tgt := 65) C dX2_step_54 (by decide) (by omega) (by omega) (fun c4 => ?_) (fun c4 => ?_)
      · refine g_aload_n (pc := 65) C dX2_step_65 rfl ?_
        refine g_bipush (pc := 66) (v := nI 97) C dX2_step_66 (by decide) ?_
        refine g_bipush (pc := 68) (v := nI 122) C dX2_step_68 (by decide) ?_
        refine g_vxi (pc := 70) (ws2 := (tpV g au (tbB tb) tn i tk i vl)) C dX2_step_70 ml_X2_113 mf_X2_isAmong (c_isAmong g au tn i tk i vl tb 97 122 htb (by omega) (by decide) (by decide)) ⟨rfl, rfl, (Nat.le_of_ble_eq_true rfl), (Nat.le_of_ble_eq_true rfl)⟩ rfl rfl (Nat.le_of_ble_eq_true rfl) 0 rfl rfl rfl [0, 1] [] [0, 1] rfl rfl rfl rfl (by decide) rfl rfl ?_
        refine g_if_eqB (pc := 73) (tgt := 83) C dX2_step_73 (by decide) (fun c5 => ?_) (fun c5 => ?_)
        · refine g_aload_n (pc := 83) C dX2_step_83 rfl ?_
          refine g_bipush (pc := 84) (v := nI 48) C dX2_step_84 (by decide) ?_
          refine g_bipush (pc := 86) (v := nI 57) C dX2_step_86 (by decide) ?_
          refine g_vxi (pc := 88) (ws2 := (tpV g au (tbB tb) tn i tk i vl)) C dX2_step_88 ml_X2_113 mf_X2_isAmong (c_isAmong g au tn i tk i vl tb 48 57 htb (by omega) (by decide) (by decide)) ⟨rfl, rfl, (Nat.le_of_ble_eq_true rfl), (Nat.le_of_ble_eq_true rfl)⟩ rfl rfl (Nat.le_of_ble_eq_true rfl) 0 rfl rfl rfl [0, 1] [] [0, 1] rfl rfl rfl rfl (by decide) rfl rfl ?_
          refine g_if_eqB (pc := 91) (tgt := 101) C dX2_step_91 (by decide) (fun c6 => ?_) (fun c6 => ?_)
          · refine g_aload_n (pc := 101) C dX2_step_101 rfl ?_
            refine g_aload_n (pc := 102) C dX2_step_102 rfl ?_
            refine g_get2 (pc := 103) C dX2_step_103 0 rfl 0 (by decide) fl_X2_9 rfl ?_
            refine g_aload_n (pc := 106) C dX2_step_106 rfl ?_
            refine g_get2 (pc := 107) C dX2_step_107 0 rfl 2 (by decide) fl_X2_19 rfl ?_
            refine g_baldN (pc := 110) C dX2_step_110 1 rfl rfl (by omega) (by decide) ?_
            refine g_bipush (pc := 111) (v := nI 59) C dX2_step_111 (by decide) ?_
            refine g_icmp_ne (pc := 113) (tgt := 120) C dX2_step_113 (by decide) (fun c7 => ?_) (fun c7 => ?_)
            · refine g_iconst (pc := 120) (v := nI 4) C dX2_step_120 (by decide) ?_
              refine g_put2 (pc := 121) (ws2 := (tpV g au (tbB tb) tn i 4 i vl)) C dX2_step_121 0 rfl 3 (by decide) fl_X2_29 rfl rfl rfl (Nat.le_of_ble_eq_true rfl) rfl ?_
              refine g_aload_n (pc := 124) C dX2_step_124 rfl ?_
              refine g_dup (pc := 125) C dX2_step_125 rfl ?_
              refine g_get2 (pc := 126) C dX2_step_126 0 rfl 2 (by decide) fl_X2_19 rfl ?_
              refine g_iconst (pc := 129) (v := nI 1) C dX2_step_129 (by decide) ?_
              refine g_iaddN (pc := 130) C dX2_step_130 ?_
              refine g_put2 (pc := 131) (ws2 := (tpV g au (tbB tb) tn (i + 1) 4 i vl)) C dX2_step_131 0 rfl 2 (by decide) fl_X2_19 rfl rfl rfl (Nat.le_of_ble_eq_true rfl) rfl ?_
              exact g_vret C Rr dX2_step_134 ⟨rfl, by rw [show spE tb tn pl = i from endE_eq ⟨hv_i.1, hi_i, hv_i.2, fun _ q => c3 ((sb_eq (htb i) (by decide)).mpr q)⟩]; simp only [tkT, tkE, tkV, if_neg (Nat.not_le.mpr c1), if_neg c5, if_neg c6, if_neg (fun q => c7 ((sb_eq (htb i) (by decide)).mpr q))]⟩ rfl
            · refine g_iconst (pc := 116) (v := nI 3) C dX2_step_116 (by decide) ?_
              refine g_goto (pc := 117) (tgt := 121) C dX2_step_117 (by decide) ?_
              refine g_put2 (pc := 121) (ws2 := (tpV g au (tbB tb) tn i 3 i vl)) C dX2_step_121 0 rfl 3 (by decide) fl_X2_29 rfl rfl rfl (Nat.le_of_ble_eq_true rfl) rfl ?_
              refine g_aload_n (pc := 124) C dX2_step_124 rfl ?_
              refine g_dup (pc := 125) C dX2_step_125 rfl ?_
              refine g_get2 (pc := 126) C dX2_step_126 0 rfl 2 (by decide) fl_X2_19 rfl ?_
              refine g_iconst (pc := 129) (v := nI 1) C dX2_step_129 (by decide) ?_
              refine g_iaddN (pc := 130) C dX2_step_130 ?_
              refine g_put2 (pc := 131) (ws2 := (tpV g au (tbB tb) tn (i + 1) 3 i vl)) C dX2_step_131 0 rfl 2 (by decide) fl_X2_19 rfl rfl rfl (Nat.le_of_ble_eq_true rfl) rfl ?_
              exact g_vret C Rr dX2_step_134 ⟨rfl, by rw [show spE tb tn pl = i from endE_eq ⟨hv_i.1, hi_i, hv_i.2, fun _ q => c3 ((sb_eq (htb i) (by decide)).mpr q)⟩]; simp only [tkT, tkE, tkV, if_neg (Nat.not_le.mpr c1), if_neg c5, if_neg c6, if_pos ((sb_eq (htb i) (by decide)).mp c7)]⟩ rfl
          · refine g_aload_n (pc := 94) C dX2_step_94 rfl ?_
            refine g_vxn (pc := 95) (ws2 := (tpV g au (tbB tb) tn (endE (fun j => isD (tb j)) tn i) 2 i (numV tb i (endE (fun j => isD (tb j)) tn i - i)))) C dX2_step_95 ml_X2_120 mf_X2_stepNumber (c_stepNumber g au tn i tk i vl tb htb htn (by omega)) ⟨rfl, rfl, (Nat.le_of_ble_eq_true rfl), (Nat.le_of_ble_eq_true rfl)⟩ rfl rfl (Nat.le_of_ble_eq_true rfl) 0 rfl rfl rfl [0, 1] [] [0, 1] rfl rfl rfl rfl (by decide) rfl rfl ?_
            refine g_goto (pc := 98) (tgt := 134) C dX2_step_98 (by decide) ?_
            exact g_vret C Rr dX2_step_134 ⟨rfl, by rw [show spE tb tn pl = i from endE_eq ⟨hv_i.1, hi_i, hv_i.2, fun _ q => c3 ((sb_eq (htb i) (by decide)).mpr q)⟩]; simp only [tkT, tkE, tkV, if_neg (Nat.not_le.mpr c1), if_neg c5, if_pos c6]⟩ rfl
        · refine g_aload_n (pc := 76) C dX2_step_76 rfl ?_
          refine g_vxn (pc := 77) (ws2 := (tpV g au (tbB tb) tn (endE (fun j => isL (tb j)) tn i) 1 i vl)) C dX2_step_77 ml_X2_117 mf_X2_stepWord (c_stepWord g au tn i tk i vl tb htb htn (by omega)) ⟨rfl, rfl, (Nat.le_of_ble_eq_true rfl), (Nat.le_of_ble_eq_true rfl)⟩ rfl rfl (Nat.le_of_ble_eq_true rfl) 0 rfl rfl rfl [0, 1] [] [0, 1] rfl rfl rfl rfl (by decide) rfl rfl ?_
          refine g_goto (pc := 80) (tgt := 134) C dX2_step_80 (by decide) ?_
          exact g_vret C Rr dX2_step_134 ⟨rfl, by rw [show spE tb tn pl = i from endE_eq ⟨hv_i.1, hi_i, hv_i.2, fun _ q => c3 ((sb_eq (htb i) (by decide)).mpr q)⟩]; simp only [tkT, tkE, tkV, if_neg (Nat.not_le.mpr c1), if_pos c5]⟩ rfl
      · exact absurd c4 (by omega)
    · refine g_aload_n (pc := 25) C dX2_step_25 rfl ?_
      refine g_dup (pc := 26) C dX2_step_26 rfl ?_
      refine g_get2 (pc := 27) C dX2_step_27 0 rfl 2 (by decide) fl_X2_19 rfl ?_
      refine g_iconst (pc := 30) (v := nI 1) C dX2_step_30 (by decide) ?_
      refine g_iaddN (pc := 31) C dX2_step_31 ?_
      refine g_put2 (pc := 32) (ws2 := (tpV g au (tbB tb) tn (i + 1) tk sr vl)) C dX2_step_32 0 rfl 2 (by decide) fl_X2_19 rfl rfl rfl (Nat.le_of_ble_eq_true rfl) rfl ?_
      refine g_goto (pc := 35) (tgt := 0) C dX2_step_35 (by decide) ?_
      exact ih_i (by omega) ⟨by omega, fun j h1 h2 => by
        rcases Nat.lt_or_ge j i with q9 | q9
        · exact hv_i.2 j h1 q9
        · rw [show j = i by omega]; exact (sb_eq (htb i) (by decide)).mp c3⟩
