set_option maxHeartbeats 400000 in
set_option maxRecDepth 100000 in
theorem c_measure (g : Gl) (a : Nat → Nat) (gr : Nat → Nat) (la : Nat → Nat) (kd : Nat → Nat) (pt : Nat → Nat) (wt : Nat → Nat) (mr : Nat → Nat) (tt : Nat) (yr : Nat) (mn : Nat) (t : Nat) (hB : PB gr kd pt wt mr tt yr mn) (ht : t ≤ 20000) : Ct g yX0_measure cX0_measure 6 (some .int) (rk 1 14) [.ref (a 0), .int (nI t)] (potV g a gr la kd pt wt mr tt yr mn) (fun r w2 => r = some (.int (nI (min t tt))) ∧ w2 = (potV g a gr (ladN gr tt (min t tt)) kd pt wt mr tt yr mn)) := by
  refine ct_of (by decide) (Nat.le_of_ble_eq_true rfl) ?_
  intro φ C0 Rr
  have C : Cx φ g cX0_measure 6 RX0 (rk 1 14) := C0
  show Go φ g 6 0 [(0, .ref (a 0)), (1, .int (nI t))] [] (potV g a gr la kd pt wt mr tt yr mn)
  obtain ⟨hT, hTle, hgr, hkd, hpt, hwt, hmr, hyr, hmn⟩ := id hB
  have hw : min t tt ≤ tt := Nat.min_le_right _ _
  have hw2 : min t tt ≤ 20000 := Nat.le_trans (Nat.min_le_left _ _) ht
  refine g_iload_n (pc := 0) C dX0_measure_0 rfl ?_
  refine g_aload_n (pc := 1) C dX0_measure_1 rfl ?_
  refine g_get0 (pc := 2) C dX0_measure_2 0 rfl 6 (by decide) fl_X0_30 rfl ?_
  refine g_mminN (pc := 5) C dX0_measure_5 ml_X0_51 (Nat.le_of_ble_eq_true rfl) (Nat.le_of_ble_eq_true rfl) (by omega) (by omega) ?_
  refine g_istore_n (pc := 8) (lv2 := [(0, .ref (a 0)), (1, .int (nI t)), (2, .int (nI (min t tt)))]) C dX0_measure_8 rfl (Nat.le_of_ble_eq_true rfl) rfl ?_
  refine g_iload_n (pc := 9) C dX0_measure_9 rfl ?_
  refine g_istore_n (pc := 10) (lv2 := [(0, .ref (a 0)), (1, .int (nI t)), (2, .int (nI (min t tt))), (3, .int (nI (min t tt)))]) C dX0_measure_10 rfl (Nat.le_of_ble_eq_true rfl) rfl ?_
  refine g_iconst (pc := 11) (v := nI 0) C dX0_measure_11 (by decide) ?_
  refine g_istore (pc := 12) (lv2 := [(0, .ref (a 0)), (1, .int (nI t)), (2, .int (nI (min t tt))), (3, .int (nI (min t tt))), (4, .int (nI 0))]) C dX0_measure_12 (Nat.le_of_ble_eq_true rfl) rfl ?_
  refine g_loop1 (n := 12) (fun i f => ∀ j, j < i → f j = baseN gr tt (min t tt) j) (fun i f => [(0, .ref (a 0)), (1, .int (nI t)), (2, .int (nI (min t tt))), (3, .int (nI (min t tt - sumN (baseN gr tt (min t tt)) i))), (4, .int (nI i))]) (fun i f => (potV g a gr f kd pt wt mr tt yr mn)) ?_ 0 la (by omega) (fun j hj => absurd hj (Nat.not_lt_zero j))
  intro i f hi_i hv_i ih_i
  show Go φ g 6 14 [(0, .ref (a 0)), (1, .int (nI t)), (2, .int (nI (min t tt))), (3, .int (nI (min t tt - sumN (baseN gr tt (min t tt)) i))), (4, .int (nI i))] [] (potV g a gr f kd pt wt mr tt yr mn)
  have hv_i : ∀ j, j < i → f j = baseN gr tt (min t tt) j := hv_i
  refine g_iload (pc := 14) C dX0_measure_14 rfl ?_
  refine g_bipush (pc := 16) (v := nI 12) C dX0_measure_16 (by decide) ?_
  refine g_icmp_geN (pc := 18) (tgt := 69) C dX0_measure_18 (by decide) (by omega) (by omega) (fun c1 => ?_) (fun c1 => ?_)
  · refine g_iconst (pc := 69) (v := nI 0) C dX0_measure_69 (by decide) ?_
    refine g_istore (pc := 70) (lv2 := [(0, .ref (a 0)), (1, .int (nI t)), (2, .int (nI (min t tt))), (3, .int (nI (min t tt - sumN (baseN gr tt (min t tt)) i))), (4, .int (nI 0))]) C dX0_measure_70 (Nat.le_of_ble_eq_true rfl) rfl ?_
    refine g_loop2 (n := 1) (fun r x f2 => (r = 0 → x = lackN gr tt (min t tt) ∧ ∀ j, j < 12 → f2 j = baseN gr tt (min t tt) j) ∧ (r = 1 → x = 0 ∧ ∀ j, j < 12 → f2 j = ladN gr tt (min t tt) j)) (fun r x f2 => [(0, .ref (a 0)), (1, .int (nI t)), (2, .int (nI (min t tt))), (3, .int (nI x)), (4, .int (nI r))]) (fun r x f2 => (potV g a gr f2 kd pt wt mr tt yr mn)) ?_ 0 (min t tt - sumN (baseN gr tt (min t tt)) i) f (by omega) ⟨fun _ => ⟨by rw [lackN, show i = 12 by omega], fun j hj => hv_i j (by omega)⟩, fun h => absurd h (by decide)⟩
    intro r x f2 hi_r hv_r ih_r
    show Go φ g 6 72 [(0, .ref (a 0)), (1, .int (nI t)), (2, .int (nI (min t tt))), (3, .int (nI x)), (4, .int (nI r))] [] (potV g a gr f2 kd pt wt mr tt yr mn)
    have hv_r : (r = 0 → x = lackN gr tt (min t tt) ∧ ∀ j, j < 12 → f2 j = baseN gr tt (min t tt) j) ∧ (r = 1 → x = 0 ∧ ∀ j, j < 12 → f2 j = ladN gr tt (min t tt) j) := hv_r
    have hx : x ≤ 20000 := by rcases Nat.lt_or_ge r 1 with q | q; exact (by rw [(hv_r.1 (by omega)).1, lackN]; omega); exact (by rw [(hv_r.2 (by omega)).1]; omega)
    refine g_iload (pc := 72) C dX0_measure_72 rfl ?_
    refine g_bipush (pc := 74) (v := nI 12) C dX0_measure_74 (by decide) ?_
    refine g_icmp_geN (pc := 76) (tgt := 140) C dX0_measure_76 (by decide) (by omega) (by omega) (fun c2 => ?_) (fun c2 => ?_)
    · exact absurd c2 (by omega)
    · refine g_iload_n (pc := 79) C dX0_measure_79 rfl ?_
      refine g_if_leN (pc := 80) (tgt := 140) C dX0_measure_80 (by decide) (by omega) (fun c3 => ?_) (fun c3 => ?_)
      · have hfin : ∀ j, j < 12 → f2 j = ladN gr tt (min t tt) j := by
          intro j hj
          rcases Nat.lt_or_ge r 1 with q | q
          · obtain ⟨e1, e2⟩ := hv_r.1 (by omega)
            rw [e2 j hj, lad_of_left (n := 0) (by show lackN gr tt (min t tt) = 0; omega) (Nat.zero_le j)]
          · exact (hv_r.2 (by omega)).2 j hj
        refine g_arrc (q0 := 2) (f2 := fun j => nI (ladN gr tt (min t tt) j)) (ws2 := (potV g a gr (ladN gr tt (min t tt)) kd pt wt mr tt yr mn)) rfl (fun j hj => congrArg nI (hfin j hj)) rfl ?_
        refine g_iload_n (pc := 140) C dX0_measure_140 rfl ?_
        exact g_iret C Rr dX0_measure_141 ⟨rfl, rfl⟩ rfl
      · have hr0 : r = 0 := Nat.eq_zero_of_not_pos (fun q => by have := (hv_r.2 (by omega)).1; omega)
        refine g_iconst (pc := 83) (v := nI 0) C dX0_measure_83 (by decide) ?_
        refine g_istore (pc := 84) (lv2 := [(0, .ref (a 0)), (1, .int (nI t)), (2, .int (nI (min t tt))), (3, .int (nI x)), (4, .int (nI r)), (5, .int (nI 0))]) C dX0_measure_84 (Nat.le_of_ble_eq_true rfl) rfl ?_
        refine g_loop2 (n := 12) (fun p z f3 => z = leftN gr tt (min t tt) p ∧ (∀ j, j < p → f3 j = ladN gr tt (min t tt) j) ∧ (∀ j, p ≤ j → j < 12 → f3 j = baseN gr tt (min t tt) j)) (fun p z f3 => [(0, .ref (a 0)), (1, .int (nI t)), (2, .int (nI (min t tt))), (3, .int (nI z)), (4, .int (nI r)), (5, .int (nI p))]) (fun p z f3 => (potV g a gr f3 kd pt wt mr tt yr mn)) ?_ 0 x f2 (by omega) ⟨(hv_r.1 hr0).1, fun j hj => absurd hj (Nat.not_lt_zero j), fun j _ hj => (hv_r.1 hr0).2 j hj⟩
        intro p z f3 hi_p hv_p ih_p
        show Go φ g 6 86 [(0, .ref (a 0)), (1, .int (nI t)), (2, .int (nI (min t tt))), (3, .int (nI z)), (4, .int (nI r)), (5, .int (nI p))] [] (potV g a gr f3 kd pt wt mr tt yr mn)
        have hv_p : z = leftN gr tt (min t tt) p ∧ (∀ j, j < p → f3 j = ladN gr tt (min t tt) j) ∧ (∀ j, p ≤ j → j < 12 → f3 j = baseN gr tt (min t tt) j) := hv_p
        have hz : z ≤ 20000 := by rw [hv_p.1, left_eq, lackN]; omega
        refine g_iload (pc := 86) C dX0_measure_86 rfl ?_
        refine g_bipush (pc := 88) (v := nI 12) C dX0_measure_88 (by decide) ?_
        refine g_icmp_geN (pc := 90) (tgt := 134) C dX0_measure_90 (by decide) (by omega) (by omega) (fun c4 => ?_) (fun c4 => ?_)
        · have hz0 : z = 0 := by rw [hv_p.1, show p = 12 by omega]; exact left_12 hw hT
          have hzf : ∀ j, j < 12 → f3 j = ladN gr tt (min t tt) j := fun j hj => hv_p.2.1 j (by omega)
          refine g_iinc (pc := 134) (v := (nI (r + 1))) (lv2 := [(0, .ref (a 0)), (1, .int (nI t)), (2, .int (nI (min t tt))), (3, .int (nI z)), (4, .int (nI (r + 1))), (5, .int (nI p))]) C dX0_measure_134 rfl (nI_1 _) (Nat.le_of_ble_eq_true rfl) rfl ?_
          refine g_goto (pc := 137) (tgt := 72) C dX0_measure_137 (by decide) ?_
          refine g_lvs (lv2 := [(0, .ref (a 0)), (1, .int (nI t)), (2, .int (nI (min t tt))), (3, .int (nI z)), (4, .int (nI (r + 1)))]) [0, 1, 2, 3, 4] rfl ?_
          exact ih_r _ _ (by omega) ⟨fun h => absurd h (by omega), fun _ => ⟨hz0, hzf⟩⟩
        · refine g_iload_n (pc := 93) C dX0_measure_93 rfl ?_
          refine g_if_leN (pc := 94) (tgt := 134) C dX0_measure_94 (by decide) (by omega) (fun c5 => ?_) (fun c5 => ?_)
          · have hz0 : z = 0 := c5
            have hzf : ∀ j, j < 12 → f3 j = ladN gr tt (min t tt) j := fun j hj => by
              rcases Nat.lt_or_ge j p with q | q
              · exact hv_p.2.1 j q
              · rw [hv_p.2.2 j q hj, lad_of_left (n := p) (by rw [← hv_p.1]; exact hz0) q]
            refine g_iinc (pc := 134) (v := (nI (r + 1))) (lv2 := [(0, .ref (a 0)), (1, .int (nI t)), (2, .int (nI (min t tt))), (3, .int (nI z)), (4, .int (nI (r + 1))), (5, .int (nI p))]) C dX0_measure_134 rfl (nI_1 _) (Nat.le_of_ble_eq_true rfl) rfl ?_
            refine g_goto (pc := 137) (tgt := 72) C dX0_measure_137 (by decide) ?_
            refine g_lvs (lv2 := [(0, .ref (a 0)), (1, .int (nI t)), (2, .int (nI (min t tt))), (3, .int (nI z)), (4, .int (nI (r + 1)))]) [0, 1, 2, 3, 4] rfl ?_
            exact ih_r _ _ (by omega) ⟨fun h => absurd h (by omega), fun _ => ⟨hz0, hzf⟩⟩
          · refine g_aload_n (pc := 97) C dX0_measure_97 rfl ?_
            refine g_get0 (pc := 98) C dX0_measure_98 0 rfl 1 (by decide) fl_X0_15 rfl ?_
            refine g_iload (pc := 101) C dX0_measure_101 rfl ?_
            refine g_ialdM (pc := 103) C dX0_measure_103 2 rfl rfl (by omega) (by decide) ?_
            refine g_aload_n (pc := 104) C dX0_measure_104 rfl ?_
            refine g_get0 (pc := 105) C dX0_measure_105 0 rfl 0 (by decide) fl_X0_9 rfl ?_
            refine g_iload (pc := 108) C dX0_measure_108 rfl ?_
            refine g_ialdM (pc := 110) C dX0_measure_110 1 rfl rfl (by omega) (by decide) ?_
            have b6 := hgr p
            refine g_icmp_geN (pc := 111) (tgt := 128) C dX0_measure_111 (by decide) (by have := hv_p.2.2 p (Nat.le_refl p) c4; have := baseN_le (gr := gr) (p := p) hw; have := hgr p; omega) (by omega) (fun c7 => ?_) (fun c7 => ?_)
            · refine g_iinc (pc := 128) (v := (nI (p + 1))) (lv2 := [(0, .ref (a 0)), (1, .int (nI t)), (2, .int (nI (min t tt))), (3, .int (nI z)), (4, .int (nI r)), (5, .int (nI (p + 1)))]) C dX0_measure_128 rfl (nI_1 _) (Nat.le_of_ble_eq_true rfl) rfl ?_
              refine g_goto (pc := 131) (tgt := 86) C dX0_measure_131 (by decide) ?_
              exact ih_p _ _ (by omega) ⟨by rw [leftN, ← hv_p.1, if_neg (fun q => by have := hv_p.2.2 p (Nat.le_refl p) c4; omega)], fun j hj => by
                by_cases e : j = p
                · rw [e, ladN, ← hv_p.1, hv_p.2.2 p (Nat.le_refl p) c4, if_neg (fun q => by have := hv_p.2.2 p (Nat.le_refl p) c4; omega)]
                · exact hv_p.2.1 j (by omega), fun j hj h12 => hv_p.2.2 j (by omega) h12⟩
            · refine g_aload_n (pc := 114) C dX0_measure_114 rfl ?_
              refine g_get0 (pc := 115) C dX0_measure_115 0 rfl 1 (by decide) fl_X0_15 rfl ?_
              refine g_iload (pc := 118) C dX0_measure_118 rfl ?_
              refine g_dup2 (pc := 120) C dX0_measure_120 rfl rfl ?_
              refine g_ialdM (pc := 121) C dX0_measure_121 2 rfl rfl (by omega) (by decide) ?_
              refine g_iconst (pc := 122) (v := nI 1) C dX0_measure_122 (by decide) ?_
              refine g_iaddN (pc := 123) C dX0_measure_123 ?_
              refine g_iastM (pc := 124) (ws2 := (potV g a gr (updN f3 p ((f3 p) + 1)) kd pt wt mr tt yr mn)) C dX0_measure_124 2 rfl rfl (by omega) (by decide) rfl ?_
              refine g_iinc (pc := 125) (v := (nI (z - 1))) (lv2 := [(0, .ref (a 0)), (1, .int (nI t)), (2, .int (nI (min t tt))), (3, .int (nI (z - 1))), (4, .int (nI r)), (5, .int (nI p))]) C dX0_measure_125 rfl (sb_m1 (by omega)) (Nat.le_of_ble_eq_true rfl) rfl ?_
              refine g_iinc (pc := 128) (v := (nI (p + 1))) (lv2 := [(0, .ref (a 0)), (1, .int (nI t)), (2, .int (nI (min t tt))), (3, .int (nI (z - 1))), (4, .int (nI r)), (5, .int (nI (p + 1)))]) C dX0_measure_128 rfl (nI_1 _) (Nat.le_of_ble_eq_true rfl) rfl ?_
              refine g_goto (pc := 131) (tgt := 86) C dX0_measure_131 (by decide) ?_
              exact ih_p _ _ (by omega) ⟨by rw [leftN, ← hv_p.1, if_pos ⟨c5, by rw [← hv_p.2.2 p (Nat.le_refl p) c4]; exact c7⟩], fun j hj => by
                by_cases e : j = p
                · rw [e, updN_s, ladN, ← hv_p.1, hv_p.2.2 p (Nat.le_refl p) c4, if_pos ⟨c5, by rw [← hv_p.2.2 p (Nat.le_refl p) c4]; exact c7⟩]
                · rw [updN_n e]
                  exact hv_p.2.1 j (by omega), fun j hj h12 => by
                rw [updN_n (by omega)]
                exact hv_p.2.2 j (by omega) h12⟩
  · refine g_aload_n (pc := 21) C dX0_measure_21 rfl ?_
    refine g_get0 (pc := 22) C dX0_measure_22 0 rfl 1 (by decide) fl_X0_15 rfl ?_
    refine g_iload (pc := 25) C dX0_measure_25 rfl ?_
    refine g_aload_n (pc := 27) C dX0_measure_27 rfl ?_
    refine g_get0 (pc := 28) C dX0_measure_28 0 rfl 6 (by decide) fl_X0_30 rfl ?_
    refine g_if_neN (pc := 31) (tgt := 38) C dX0_measure_31 (by decide) (by omega) (fun c8 => ?_) (fun c8 => ?_)
    · refine g_aload_n (pc := 38) C dX0_measure_38 rfl ?_
      refine g_get0 (pc := 39) C dX0_measure_39 0 rfl 0 (by decide) fl_X0_9 rfl ?_
      refine g_iload (pc := 42) C dX0_measure_42 rfl ?_
      refine g_ialdM (pc := 44) C dX0_measure_44 1 rfl rfl (by omega) (by decide) ?_
      have b9 := hgr i
      refine g_iload_n (pc := 45) C dX0_measure_45 rfl ?_
      refine g_imulN (pc := 46) C dX0_measure_46 ?_
      refine g_aload_n (pc := 47) C dX0_measure_47 rfl ?_
      refine g_get0 (pc := 48) C dX0_measure_48 0 rfl 6 (by decide) fl_X0_30 rfl ?_
      refine g_idivN (pc := 51) C dX0_measure_51 (by have := Nat.mul_le_mul (hgr i) hw2; omega) (by omega) (by omega) ?_
      refine g_iastM (pc := 52) (ws2 := (potV g a gr (updN f i (((gr i) * (min t tt)) / tt)) kd pt wt mr tt yr mn)) C dX0_measure_52 2 rfl rfl (by omega) (by decide) rfl ?_
      refine g_iload_n (pc := 53) C dX0_measure_53 rfl ?_
      refine g_aload_n (pc := 54) C dX0_measure_54 rfl ?_
      refine g_get0 (pc := 55) C dX0_measure_55 0 rfl 1 (by decide) fl_X0_15 rfl ?_
      refine g_iload (pc := 58) C dX0_measure_58 rfl ?_
      refine g_ialdM (pc := 60) C dX0_measure_60 2 rfl rfl (by omega) (by decide) ?_
      refine g_top (y := nI (baseN gr tt (min t tt) i)) (by rw [updN_s]; first | rfl | (rw [baseN, c8, Nat.div_zero])) ?_
      refine g_isubN (pc := 61) C dX0_measure_61 (by have h9 := base_le (n := i + 1) hw hT (by omega); rw [sumN] at h9; omega) ?_
      refine g_top (y := nI (min t tt - sumN (baseN gr tt (min t tt)) (i + 1))) (by rw [sumN, Nat.sub_sub]) ?_
      refine g_istore_n (pc := 62) (lv2 := [(0, .ref (a 0)), (1, .int (nI t)), (2, .int (nI (min t tt))), (3, .int (nI (min t tt - sumN (baseN gr tt (min t tt)) (i + 1)))), (4, .int (nI i))]) C dX0_measure_62 rfl (Nat.le_of_ble_eq_true rfl) rfl ?_
      refine g_iinc (pc := 63) (v := (nI (i + 1))) (lv2 := [(0, .ref (a 0)), (1, .int (nI t)), (2, .int (nI (min t tt))), (3, .int (nI (min t tt - sumN (baseN gr tt (min t tt)) (i + 1)))), (4, .int (nI (i + 1)))]) C dX0_measure_63 rfl (nI_1 _) (Nat.le_of_ble_eq_true rfl) rfl ?_
      refine g_goto (pc := 66) (tgt := 14) C dX0_measure_66 (by decide) ?_
      exact ih_i _ (by omega) (fun j hj => by
        by_cases e : j = i
        · rw [e, updN_s]
          first | rfl | (rw [baseN, c8, Nat.div_zero])
        · rw [updN_n e]
          exact hv_i j (by omega))
    · refine g_iconst (pc := 34) (v := nI 0) C dX0_measure_34 (by decide) ?_
      refine g_goto (pc := 35) (tgt := 52) C dX0_measure_35 (by decide) ?_
      refine g_iastM (pc := 52) (ws2 := (potV g a gr (updN f i 0) kd pt wt mr tt yr mn)) C dX0_measure_52 2 rfl rfl (by omega) (by decide) rfl ?_
      refine g_iload_n (pc := 53) C dX0_measure_53 rfl ?_
      refine g_aload_n (pc := 54) C dX0_measure_54 rfl ?_
      refine g_get0 (pc := 55) C dX0_measure_55 0 rfl 1 (by decide) fl_X0_15 rfl ?_
      refine g_iload (pc := 58) C dX0_measure_58 rfl ?_
      refine g_ialdM (pc := 60) C dX0_measure_60 2 rfl rfl (by omega) (by decide) ?_
      refine g_top (y := nI (baseN gr tt (min t tt) i)) (by rw [updN_s]; first | rfl | (rw [baseN, c8, Nat.div_zero])) ?_
      refine g_isubN (pc := 61) C dX0_measure_61 (by have h9 := base_le (n := i + 1) hw hT (by omega); rw [sumN] at h9; omega) ?_
      refine g_top (y := nI (min t tt - sumN (baseN gr tt (min t tt)) (i + 1))) (by rw [sumN, Nat.sub_sub]) ?_
      refine g_istore_n (pc := 62) (lv2 := [(0, .ref (a 0)), (1, .int (nI t)), (2, .int (nI (min t tt))), (3, .int (nI (min t tt - sumN (baseN gr tt (min t tt)) (i + 1)))), (4, .int (nI i))]) C dX0_measure_62 rfl (Nat.le_of_ble_eq_true rfl) rfl ?_
      refine g_iinc (pc := 63) (v := (nI (i + 1))) (lv2 := [(0, .ref (a 0)), (1, .int (nI t)), (2, .int (nI (min t tt))), (3, .int (nI (min t tt - sumN (baseN gr tt (min t tt)) (i + 1)))), (4, .int (nI (i + 1)))]) C dX0_measure_63 rfl (nI_1 _) (Nat.le_of_ble_eq_true rfl) rfl ?_
      refine g_goto (pc := 66) (tgt := 14) C dX0_measure_66 (by decide) ?_
      exact ih_i _ (by omega) (fun j hj => by
        by_cases e : j = i
        · rw [e, updN_s]
          first | rfl | (rw [baseN, c8, Nat.div_zero])
        · rw [updN_n e]
          exact hv_i j (by omega))
set_option maxHeartbeats 400000 in
set_option maxRecDepth 100000 in
theorem c_takeOut (g : Gl) (a : Nat → Nat) (gr : Nat → Nat) (la : Nat → Nat) (kd : Nat → Nat) (pt : Nat → Nat) (wt : Nat → Nat) (mr : Nat → Nat) (tt : Nat) (yr : Nat) (mn : Nat) (t : Nat) (hB : PB gr kd pt wt mr tt yr mn) (ht : t ≤ 20000) : Ct g yX0_takeOut cX0_takeOut 4 (some .int) (rk 2 39) [.ref (a 0), .int (nI t)] (potV g a gr la kd pt wt mr tt yr mn) (fun r w2 => r = some (.int (nI (min t tt))) ∧ w2 = (potV g a (takeG gr tt (min t tt)) (ladN gr tt (min t tt)) kd pt wt mr (tt - min t tt) yr mn)) := by
  refine ct_of (by decide) (Nat.le_of_ble_eq_true rfl) ?_
  intro φ C0 Rr
  have C : Cx φ g cX0_takeOut 4 RX0 (rk 2 39) := C0
  show Go φ g 4 0 [(0, .ref (a 0)), (1, .int (nI t))] [] (potV g a gr la kd pt wt mr tt yr mn)
  obtain ⟨hT, hTle, hgr, hkd, hpt, hwt, hmr, hyr, hmn⟩ := id hB
  have hw : min t tt ≤ tt := Nat.min_le_right _ _
  refine g_aload_n (pc := 0) C dX0_takeOut_0 rfl ?_
  refine g_iload_n (pc := 1) C dX0_takeOut_1 rfl ?_
  refine g_vxi (pc := 2) (ws2 := (potV g a gr (ladN gr tt (min t tt)) kd pt wt mr tt yr mn)) C dX0_takeOut_2 ml_X0_57 mf_X0_measure (c_measure g a gr la kd pt wt mr tt yr mn t hB (by omega)) ⟨rfl, rfl, (Nat.le_of_ble_eq_true rfl), (Nat.le_of_ble_eq_true rfl)⟩ rfl rfl (Nat.le_of_ble_eq_true rfl) 0 rfl rfl rfl [0, 1, 2, 3, 4, 5, 6] [] [0, 1, 2, 3, 4, 5, 6] rfl rfl rfl rfl (by decide) rfl rfl ?_
  refine g_istore_n (pc := 5) (lv2 := [(0, .ref (a 0)), (1, .int (nI t)), (2, .int (nI (min t tt)))]) C dX0_takeOut_5 rfl (Nat.le_of_ble_eq_true rfl) rfl ?_
  refine g_iconst (pc := 6) (v := nI 0) C dX0_takeOut_6 (by decide) ?_
  refine g_istore_n (pc := 7) (lv2 := [(0, .ref (a 0)), (1, .int (nI t)), (2, .int (nI (min t tt))), (3, .int (nI 0))]) C dX0_takeOut_7 rfl (Nat.le_of_ble_eq_true rfl) rfl ?_
  refine g_loop1 (n := 12) (fun i f => (∀ j, j < i → f j = takeG gr tt (min t tt) j) ∧ (∀ j, i ≤ j → f j = gr j)) (fun i f => [(0, .ref (a 0)), (1, .int (nI t)), (2, .int (nI (min t tt))), (3, .int (nI i))]) (fun i f => (potV g a f (ladN gr tt (min t tt)) kd pt wt mr tt yr mn)) ?_ 0 gr (by omega) ⟨fun j hj => absurd hj (Nat.not_lt_zero j), fun j _ => rfl⟩
  intro i f hi_i hv_i ih_i
  show Go φ g 4 8 [(0, .ref (a 0)), (1, .int (nI t)), (2, .int (nI (min t tt))), (3, .int (nI i))] [] (potV g a f (ladN gr tt (min t tt)) kd pt wt mr tt yr mn)
  have hv_i : (∀ j, j < i → f j = takeG gr tt (min t tt) j) ∧ (∀ j, i ≤ j → f j = gr j) := hv_i
  refine g_iload_n (pc := 8) C dX0_takeOut_8 rfl ?_
  refine g_bipush (pc := 9) (v := nI 12) C dX0_takeOut_9 (by decide) ?_
  refine g_icmp_geN (pc := 11) (tgt := 35) C dX0_takeOut_11 (by decide) (by omega) (by omega) (fun c1 => ?_) (fun c1 => ?_)
  · refine g_arrc (q0 := 1) (f2 := fun j => nI (takeG gr tt (min t tt) j)) (ws2 := (potV g a (takeG gr tt (min t tt)) (ladN gr tt (min t tt)) kd pt wt mr tt yr mn)) rfl (fun j hj => congrArg nI (hv_i.1 j (by omega))) rfl ?_
    refine g_aload_n (pc := 35) C dX0_takeOut_35 rfl ?_
    refine g_dup (pc := 36) C dX0_takeOut_36 rfl ?_
    refine g_get0 (pc := 37) C dX0_takeOut_37 0 rfl 6 (by decide) fl_X0_30 rfl ?_
    refine g_iload_n (pc := 40) C dX0_takeOut_40 rfl ?_
    refine g_isubN (pc := 41) C dX0_takeOut_41 (by omega) ?_
    refine g_put0 (pc := 42) (ws2 := (potV g a (takeG gr tt (min t tt)) (ladN gr tt (min t tt)) kd pt wt mr (tt - (min t tt)) yr mn)) C dX0_takeOut_42 0 rfl 6 (by decide) fl_X0_30 rfl rfl rfl (Nat.le_of_ble_eq_true rfl) rfl ?_
    refine g_iload_n (pc := 45) C dX0_takeOut_45 rfl ?_
    exact g_iret C Rr dX0_takeOut_46 ⟨rfl, rfl⟩ rfl
  · refine g_aload_n (pc := 14) C dX0_takeOut_14 rfl ?_
    refine g_get0 (pc := 15) C dX0_takeOut_15 0 rfl 0 (by decide) fl_X0_9 rfl ?_
    refine g_iload_n (pc := 18) C dX0_takeOut_18 rfl ?_
    refine g_dup2 (pc := 19) C dX0_takeOut_19 rfl rfl ?_
    refine g_ialdM (pc := 20) C dX0_takeOut_20 1 rfl rfl (by omega) (by decide) ?_
    refine g_aload_n (pc := 21) C dX0_takeOut_21 rfl ?_
    refine g_get0 (pc := 22) C dX0_takeOut_22 0 rfl 1 (by decide) fl_X0_15 rfl ?_
    refine g_iload_n (pc := 25) C dX0_takeOut_25 rfl ?_
    refine g_ialdM (pc := 26) C dX0_takeOut_26 2 rfl rfl (by omega) (by decide) ?_
    refine g_isubN (pc := 27) C dX0_takeOut_27 (by rw [hv_i.2 i (Nat.le_refl i)]; exact lad_le hw) ?_
    refine g_iastM (pc := 28) (ws2 := (potV g a (updN f i ((f i) - ((ladN gr tt (min t tt)) i))) (ladN gr tt (min t tt)) kd pt wt mr tt yr mn)) C dX0_takeOut_28 1 rfl rfl (by omega) (by decide) rfl ?_
    refine g_iinc (pc := 29) (v := (nI (i + 1))) (lv2 := [(0, .ref (a 0)), (1, .int (nI t)), (2, .int (nI (min t tt))), (3, .int (nI (i + 1)))]) C dX0_takeOut_29 rfl (nI_1 _) (Nat.le_of_ble_eq_true rfl) rfl ?_
    refine g_goto (pc := 32) (tgt := 8) C dX0_takeOut_32 (by decide) ?_
    exact ih_i _ (by omega) ⟨fun j hj => by
      by_cases e : j = i
      · rw [e, updN_s, hv_i.2 i (Nat.le_refl i)]
        rfl
      · rw [updN_n e]
        exact hv_i.1 j (by omega), fun j hj => by
      rw [updN_n (by omega)]
      exact hv_i.2 j (by omega)⟩
