theorem sF_grc {mn yr : Nat} {gr g2 kd pt wt mr : Nat → Nat} (h : ∀ j, j < 12 → gr j = g2 j) : ∀ k, sF mn yr gr kd pt wt mr k = sF mn yr g2 kd pt wt mr k := fun k => by
  unfold sF
  by_cases h0 : k = 0
  · rw [if_pos h0, if_pos h0]
  by_cases h1 : k = 1
  · rw [if_neg h0, if_neg h0, if_pos h1, if_pos h1]
  by_cases h2 : k < 14
  · rw [if_neg h0, if_neg h0, if_neg h1, if_neg h1, if_pos h2, if_pos h2, h (k - 2) (by omega)]
  · rw [if_neg h0, if_neg h0, if_neg h1, if_neg h1, if_neg h2, if_neg h2]
set_option maxHeartbeats 400000 in
set_option maxRecDepth 100000 in
theorem m_takesOut (g : Gl) (a : Nat → Nat) (ks : Nat → Nat) (os : Nat → Nat) (sd : Nat → Nat) (sts : Nat → Nat) (kp : Nat) (tk : Nat → Nat) (tp : Nat → Nat) (tn : Nat) (fr : Nat) (to : Nat) (vl : Nat) (wr : Nat) (bo : Nat → Nat) (so : Nat → Nat) (nm : Nat → Int64) (mv : Nat → Int64) (mn : Nat) (yr : Nat) (gr : Nat → Nat) (kd : Nat → Nat) (pt : Nat → Nat) (wt : Nat → Nat) (mr : Nat → Nat) (t : Nat) (hB : PB gr kd pt wt mr (sumN gr 12) yr mn) (ht : t ≤ 20000) : Ct g yX4_takesOut cX4_takesOut 7 (some .int) (rk 1 22) [.ref (a 0), .int (nI t)] (mdV g a (sF mn yr gr kd pt wt mr) ks os sd sts kp tk tp tn fr to vl wr bo so nm mv) (fun r w2 => r = some (.int (nI (min t (sumN gr 12)))) ∧ w2 = (mdV g a (sF mn yr (takeG gr (sumN gr 12) (min t (sumN gr 12))) kd pt wt mr) ks os sd sts kp (ladN gr (sumN gr 12) (min t (sumN gr 12))) tp tn fr to vl wr bo so nm mv)) := by
  refine ct_of (by decide) (Nat.le_of_ble_eq_true rfl) ?_
  intro φ C0 Rr
  have C : Cx φ g cX4_takesOut 7 RX4 (rk 1 22) := C0
  show Go φ g 7 0 [(0, .ref (a 0)), (1, .int (nI t))] [] (mdV g a (sF mn yr gr kd pt wt mr) ks os sd sts kp tk tp tn fr to vl wr bo so nm mv)
  obtain ⟨-, hTle, hgr, hkd, hpt, hwt, hmr, hyr, hmn⟩ := id hB
  obtain ⟨w, hwe⟩ : ∃ w, w = min t (sumN gr 12) := ⟨_, rfl⟩
  have hw : w ≤ sumN gr 12 := by omega
  have hw2 : w ≤ 20000 := by omega
  rw [← hwe] at Rr
  refine g_aload_n (pc := 0) C dX4_takesOut_0 rfl ?_
  refine g_vxi (pc := 1) (ws2 := (mdV g a (sF mn yr gr kd pt wt mr) ks os sd sts kp tk tp tn fr to vl wr bo so nm mv)) C dX4_takesOut_1 ml_X4_70 mf_X4_all (m_all g a ks os sd sts kp tk tp tn fr to vl wr bo so nm mv mn yr gr kd pt wt mr) ⟨rfl, rfl, (Nat.le_of_ble_eq_true rfl), (Nat.le_of_ble_eq_true rfl)⟩ rfl rfl (Nat.le_of_ble_eq_true rfl) 0 rfl rfl rfl [0, 1, 2, 3, 4, 5, 6, 7, 8, 9, 10, 11] [] [0, 1, 2, 3, 4, 5, 6, 7, 8, 9, 10, 11] rfl rfl rfl rfl (by decide) rfl rfl ?_
  refine g_istore_n (pc := 4) (lv2 := [(0, .ref (a 0)), (1, .int (nI t)), (2, .int (nI (sumN gr 12)))]) C dX4_takesOut_4 rfl (Nat.le_of_ble_eq_true rfl) rfl ?_
  refine g_iload_n (pc := 5) C dX4_takesOut_5 rfl ?_
  refine g_iload_n (pc := 6) C dX4_takesOut_6 rfl ?_
  refine g_icmp_geN (pc := 7) (tgt := 14) C dX4_takesOut_7 (by decide) (by omega) (by omega) (fun c1 => ?_) (fun c1 => ?_)
  · refine g_iload_n (pc := 14) C dX4_takesOut_14 rfl ?_
    refine g_top (y := nI w) (congrArg nI (by omega)) ?_
    refine g_istore_n (pc := 15) (lv2 := [(0, .ref (a 0)), (1, .int (nI t)), (2, .int (nI (sumN gr 12))), (3, .int (nI w))]) C dX4_takesOut_15 rfl (Nat.le_of_ble_eq_true rfl) rfl ?_
    refine g_iload_n (pc := 16) C dX4_takesOut_16 rfl ?_
    refine g_istore (pc := 17) (lv2 := [(0, .ref (a 0)), (1, .int (nI t)), (2, .int (nI (sumN gr 12))), (3, .int (nI w)), (4, .int (nI w))]) C dX4_takesOut_17 (Nat.le_of_ble_eq_true rfl) rfl ?_
    refine g_iconst (pc := 19) (v := nI 0) C dX4_takesOut_19 (by decide) ?_
    refine g_istore (pc := 20) (lv2 := [(0, .ref (a 0)), (1, .int (nI t)), (2, .int (nI (sumN gr 12))), (3, .int (nI w)), (4, .int (nI w)), (5, .int (nI 0))]) C dX4_takesOut_20 (Nat.le_of_ble_eq_true rfl) rfl ?_
    refine g_loop1 (n := 12) (fun i f => ∀ j, j < i → f j = baseN gr (sumN gr 12) w j) (fun i f => [(0, .ref (a 0)), (1, .int (nI t)), (2, .int (nI (sumN gr 12))), (3, .int (nI w)), (4, .int (nI (w - sumN (baseN gr (sumN gr 12) w) i))), (5, .int (nI i))]) (fun i f => (mdV g a (sF mn yr gr kd pt wt mr) ks os sd sts kp f tp tn fr to vl wr bo so nm mv)) ?_ 0 tk (by omega) (fun j hj => absurd hj (Nat.not_lt_zero j))
    intro i f hi_i hv_i ih_i
    show Go φ g 7 22 [(0, .ref (a 0)), (1, .int (nI t)), (2, .int (nI (sumN gr 12))), (3, .int (nI w)), (4, .int (nI (w - sumN (baseN gr (sumN gr 12) w) i))), (5, .int (nI i))] [] (mdV g a (sF mn yr gr kd pt wt mr) ks os sd sts kp f tp tn fr to vl wr bo so nm mv)
    have hv_i : ∀ j, j < i → f j = baseN gr (sumN gr 12) w j := hv_i
    refine g_iload (pc := 22) C dX4_takesOut_22 rfl ?_
    refine g_bipush (pc := 24) (v := nI 12) C dX4_takesOut_24 (by decide) ?_
    refine g_icmp_geN (pc := 26) (tgt := 79) C dX4_takesOut_26 (by decide) (by omega) (by omega) (fun c2 => ?_) (fun c2 => ?_)
    · refine g_lvs (lv2 := [(0, .ref (a 0)), (1, .int (nI t)), (2, .int (nI (sumN gr 12))), (3, .int (nI w)), (4, .int (nI (w - sumN (baseN gr (sumN gr 12) w) i)))]) [0, 1, 2, 3, 4] rfl ?_
      refine g_loop2 (n := 1) (fun r x f2 => (r = 0 → x = lackN gr (sumN gr 12) w ∧ ∀ j, j < 12 → f2 j = baseN gr (sumN gr 12) w j) ∧ (r = 1 → x = 0 ∧ ∀ j, j < 12 → f2 j = ladN gr (sumN gr 12) w j)) (fun r x f2 => [(0, .ref (a 0)), (1, .int (nI t)), (2, .int (nI (sumN gr 12))), (3, .int (nI w)), (4, .int (nI x))]) (fun r x f2 => (mdV g a (sF mn yr gr kd pt wt mr) ks os sd sts kp f2 tp tn fr to vl wr bo so nm mv)) ?_ 0 (w - sumN (baseN gr (sumN gr 12) w) i) f (by omega) ⟨fun _ => ⟨by rw [lackN, show i = 12 by omega], fun j hj => hv_i j (by omega)⟩, fun h => absurd h (by decide)⟩
      intro r x f2 hi_r hv_r ih_r
      show Go φ g 7 79 [(0, .ref (a 0)), (1, .int (nI t)), (2, .int (nI (sumN gr 12))), (3, .int (nI w)), (4, .int (nI x))] [] (mdV g a (sF mn yr gr kd pt wt mr) ks os sd sts kp f2 tp tn fr to vl wr bo so nm mv)
      have hv_r : (r = 0 → x = lackN gr (sumN gr 12) w ∧ ∀ j, j < 12 → f2 j = baseN gr (sumN gr 12) w j) ∧ (r = 1 → x = 0 ∧ ∀ j, j < 12 → f2 j = ladN gr (sumN gr 12) w j) := hv_r
      have hx : x ≤ 20000 := by rcases Nat.lt_or_ge r 1 with q | q; exact (by rw [(hv_r.1 (by omega)).1, lackN]; omega); exact (by rw [(hv_r.2 (by omega)).1]; omega)
      refine g_iload (pc := 79) C dX4_takesOut_79 rfl ?_
      refine g_if_leN (pc := 81) (tgt := 153) C dX4_takesOut_81 (by decide) (by omega) (fun c3 => ?_) (fun c3 => ?_)
      · have hfin : ∀ j, j < 12 → f2 j = ladN gr (sumN gr 12) w j := by
          intro j hj
          rcases Nat.lt_or_ge r 1 with q | q
          · obtain ⟨e1, e2⟩ := hv_r.1 (by omega)
            rw [e2 j hj, lad_of_left (n := 0) (by show lackN gr (sumN gr 12) w = 0; omega) (Nat.zero_le j)]
          · exact (hv_r.2 (by omega)).2 j hj
        refine g_arrc (q0 := 6) (f2 := fun j => nI (ladN gr (sumN gr 12) w j)) (ws2 := (mdV g a (sF mn yr gr kd pt wt mr) ks os sd sts kp (ladN gr (sumN gr 12) w) tp tn fr to vl wr bo so nm mv)) rfl (fun j hj => congrArg nI (hfin j hj)) rfl ?_
        refine g_iconst (pc := 153) (v := nI 0) C dX4_takesOut_153 (by decide) ?_
        refine g_istore (pc := 154) (lv2 := [(0, .ref (a 0)), (1, .int (nI t)), (2, .int (nI (sumN gr 12))), (3, .int (nI w)), (4, .int (nI x)), (5, .int (nI 0))]) C dX4_takesOut_154 (Nat.le_of_ble_eq_true rfl) rfl ?_
        refine g_loop1 (n := 12) (fun q G => (∀ j, j < q → G j = takeG gr (sumN gr 12) w j) ∧ (∀ j, q ≤ j → G j = gr j)) (fun q G => [(0, .ref (a 0)), (1, .int (nI t)), (2, .int (nI (sumN gr 12))), (3, .int (nI w)), (4, .int (nI x)), (5, .int (nI q))]) (fun q G => (mdV g a (sF mn yr G kd pt wt mr) ks os sd sts kp (ladN gr (sumN gr 12) w) tp tn fr to vl wr bo so nm mv)) ?_ 0 gr (by omega) ⟨fun j hj => absurd hj (Nat.not_lt_zero j), fun j _ => rfl⟩
        intro q G hi_q hv_q ih_q
        show Go φ g 7 156 [(0, .ref (a 0)), (1, .int (nI t)), (2, .int (nI (sumN gr 12))), (3, .int (nI w)), (4, .int (nI x)), (5, .int (nI q))] [] (mdV g a (sF mn yr G kd pt wt mr) ks os sd sts kp (ladN gr (sumN gr 12) w) tp tn fr to vl wr bo so nm mv)
        have hv_q : (∀ j, j < q → G j = takeG gr (sumN gr 12) w j) ∧ (∀ j, q ≤ j → G j = gr j) := hv_q
        refine g_iload (pc := 156) C dX4_takesOut_156 rfl ?_
        refine g_bipush (pc := 158) (v := nI 12) C dX4_takesOut_158 (by decide) ?_
        refine g_icmp_geN (pc := 160) (tgt := 188) C dX4_takesOut_160 (by decide) (by omega) (by omega) (fun c4 => ?_) (fun c4 => ?_)
        · refine g_arrc (q0 := 1) (f2 := fun j => nI (sF mn yr (takeG gr (sumN gr 12) w) kd pt wt mr j)) (ws2 := (mdV g a (sF mn yr (takeG gr (sumN gr 12) w) kd pt wt mr) ks os sd sts kp (ladN gr (sumN gr 12) w) tp tn fr to vl wr bo so nm mv)) rfl (fun j hj => congrArg nI (sF_grc (fun j2 h2 => hv_q.1 j2 (by omega)) j)) rfl ?_
          refine g_iload_n (pc := 188) C dX4_takesOut_188 rfl ?_
          exact g_iret C Rr dX4_takesOut_189 ⟨by rw [hwe], by rw [hwe]⟩ rfl
        · refine g_aload_n (pc := 163) C dX4_takesOut_163 rfl ?_
          refine g_get4 (pc := 164) C dX4_takesOut_164 0 rfl 0 (by decide) fl_X4_7 rfl ?_
          refine g_iconst (pc := 167) (v := nI 2) C dX4_takesOut_167 (by decide) ?_
          refine g_iload (pc := 168) C dX4_takesOut_168 rfl ?_
          refine g_iaddN (pc := 170) C dX4_takesOut_170 ?_
          refine g_dup2 (pc := 171) C dX4_takesOut_171 rfl rfl ?_
          refine g_ialdM (pc := 172) C dX4_takesOut_172 1 rfl rfl (by omega) (by decide) ?_
          refine g_top (congrArg nI (sF_rg (by omega))) ?_
          refine g_aload_n (pc := 173) C dX4_takesOut_173 rfl ?_
          refine g_get4 (pc := 174) C dX4_takesOut_174 0 rfl 6 (by decide) fl_X4_25 rfl ?_
          refine g_iload (pc := 177) C dX4_takesOut_177 rfl ?_
          refine g_ialdM (pc := 179) C dX4_takesOut_179 6 rfl rfl (by omega) (by decide) ?_
          refine g_isubN (pc := 180) C dX4_takesOut_180 (by rw [hv_q.2 q (Nat.le_refl q)]; exact lad_le hw) ?_
          refine g_iastM (pc := 181) (ws2 := _) C dX4_takesOut_181 1 rfl rfl (by omega) (by decide) rfl ?_
          refine g_ws (ws := (mdV g a (updN (sF mn yr G kd pt wt mr) (2 + q) ((G q) - ((ladN gr (sumN gr 12) w) q))) ks os sd sts kp (ladN gr (sumN gr 12) w) tp tn fr to vl wr bo so nm mv)) (ws2 := (mdV g a (sF mn yr (updN G q ((G q) - ((ladN gr (sumN gr 12) w) q))) kd pt wt mr) ks os sd sts kp (ladN gr (sumN gr 12) w) tp tn fr to vl wr bo so nm mv)) (by rw [sF_wg (by omega)]) ?_
          refine g_iinc (pc := 182) (v := (nI (q + 1))) (lv2 := [(0, .ref (a 0)), (1, .int (nI t)), (2, .int (nI (sumN gr 12))), (3, .int (nI w)), (4, .int (nI x)), (5, .int (nI (q + 1)))]) C dX4_takesOut_182 rfl (nI_1 _) (Nat.le_of_ble_eq_true rfl) rfl ?_
          refine g_goto (pc := 185) (tgt := 156) C dX4_takesOut_185 (by decide) ?_
          exact ih_q _ (by omega) ⟨fun j hj => by
            by_cases e : j = q
            · rw [e, updN_s, hv_q.2 q (Nat.le_refl q)]
              rfl
            · rw [updN_n e]
              exact hv_q.1 j (by omega), fun j hj => by
            rw [updN_n (by omega)]
            exact hv_q.2 j (by omega)⟩
      · have hr0 : r = 0 := Nat.eq_zero_of_not_pos (fun q => by have := (hv_r.2 (by omega)).1; omega)
        refine g_iconst (pc := 84) (v := nI 0) C dX4_takesOut_84 (by decide) ?_
        refine g_istore (pc := 85) (lv2 := [(0, .ref (a 0)), (1, .int (nI t)), (2, .int (nI (sumN gr 12))), (3, .int (nI w)), (4, .int (nI x)), (5, .int (nI 0))]) C dX4_takesOut_85 (Nat.le_of_ble_eq_true rfl) rfl ?_
        refine g_lvs (lv2 := [(0, .ref (a 0)), (1, .int (nI t)), (2, .int (nI (sumN gr 12))), (3, .int (nI w)), (4, .int (nI x)), (5, .int (nI 0))]) [0, 1, 2, 3, 4, 5] rfl ?_
        refine g_loop2 (n := 12) (fun p x2 f3 => x2 = leftN gr (sumN gr 12) w p ∧ (∀ j, j < p → f3 j = ladN gr (sumN gr 12) w j) ∧ (∀ j, p ≤ j → j < 12 → f3 j = baseN gr (sumN gr 12) w j)) (fun p x2 f3 => [(0, .ref (a 0)), (1, .int (nI t)), (2, .int (nI (sumN gr 12))), (3, .int (nI w)), (4, .int (nI x2)), (5, .int (nI p))]) (fun p x2 f3 => (mdV g a (sF mn yr gr kd pt wt mr) ks os sd sts kp f3 tp tn fr to vl wr bo so nm mv)) ?_ 0 x f2 (by omega) ⟨(hv_r.1 hr0).1, fun j hj => absurd hj (Nat.not_lt_zero j), fun j _ hj => (hv_r.1 hr0).2 j hj⟩
        intro p x2 f3 hi_p hv_p ih_p
        show Go φ g 7 87 [(0, .ref (a 0)), (1, .int (nI t)), (2, .int (nI (sumN gr 12))), (3, .int (nI w)), (4, .int (nI x2)), (5, .int (nI p))] [] (mdV g a (sF mn yr gr kd pt wt mr) ks os sd sts kp f3 tp tn fr to vl wr bo so nm mv)
        have hv_p : x2 = leftN gr (sumN gr 12) w p ∧ (∀ j, j < p → f3 j = ladN gr (sumN gr 12) w j) ∧ (∀ j, p ≤ j → j < 12 → f3 j = baseN gr (sumN gr 12) w j) := hv_p
        have hz : x2 ≤ 20000 := by rw [hv_p.1, left_eq, lackN]; omega
        refine g_iload (pc := 87) C dX4_takesOut_87 rfl ?_
        refine g_bipush (pc := 89) (v := nI 12) C dX4_takesOut_89 (by decide) ?_
        refine g_icmp_geN (pc := 91) (tgt := 150) C dX4_takesOut_91 (by decide) (by omega) (by omega) (fun c5 => ?_) (fun c5 => ?_)
        · have hz0 : x2 = 0 := by rw [hv_p.1, show p = 12 by omega]; exact left_12 hw rfl
          have hzf : ∀ j, j < 12 → f3 j = ladN gr (sumN gr 12) w j := fun j hj => hv_p.2.1 j (by omega)
          refine g_goto (pc := 150) (tgt := 79) C dX4_takesOut_150 (by decide) ?_
          refine g_lvs (lv2 := [(0, .ref (a 0)), (1, .int (nI t)), (2, .int (nI (sumN gr 12))), (3, .int (nI w)), (4, .int (nI x2))]) [0, 1, 2, 3, 4] rfl ?_
          exact ih_r _ _ (by omega) ⟨fun h => absurd h (by omega), fun _ => ⟨hz0, hzf⟩⟩
        · refine g_iload (pc := 94) C dX4_takesOut_94 rfl ?_
          refine g_if_leN (pc := 96) (tgt := 122) C dX4_takesOut_96 (by decide) (by omega) (fun c6 => ?_) (fun c6 => ?_)
          · refine g_iconst (pc := 122) (v := nI 0) C dX4_takesOut_122 (by decide) ?_
            refine g_istore (pc := 123) (lv2 := [(0, .ref (a 0)), (1, .int (nI t)), (2, .int (nI (sumN gr 12))), (3, .int (nI w)), (4, .int (nI x2)), (5, .int (nI p)), (6, .int (nI 0))]) C dX4_takesOut_123 (Nat.le_of_ble_eq_true rfl) rfl ?_
            refine g_aload_n (pc := 125) C dX4_takesOut_125 rfl ?_
            refine g_get4 (pc := 126) C dX4_takesOut_126 0 rfl 6 (by decide) fl_X4_25 rfl ?_
            refine g_iload (pc := 129) C dX4_takesOut_129 rfl ?_
            refine g_dup2 (pc := 131) C dX4_takesOut_131 rfl rfl ?_
            refine g_ialdM (pc := 132) C dX4_takesOut_132 6 rfl rfl (by omega) (by decide) ?_
            refine g_iload (pc := 133) C dX4_takesOut_133 rfl ?_
            refine g_iaddN (pc := 135) C dX4_takesOut_135 ?_
            refine g_iastM (pc := 136) (ws2 := (mdV g a (sF mn yr gr kd pt wt mr) ks os sd sts kp (updN f3 p ((f3 p) + 0)) tp tn fr to vl wr bo so nm mv)) C dX4_takesOut_136 6 rfl rfl (by omega) (by decide) rfl ?_
            refine g_iload (pc := 137) C dX4_takesOut_137 rfl ?_
            refine g_iload (pc := 139) C dX4_takesOut_139 rfl ?_
            refine g_isubN (pc := 141) C dX4_takesOut_141 (by omega) ?_
            refine g_istore (pc := 142) (lv2 := [(0, .ref (a 0)), (1, .int (nI t)), (2, .int (nI (sumN gr 12))), (3, .int (nI w)), (4, .int (nI (x2 - 0))), (5, .int (nI p)), (6, .int (nI 0))]) C dX4_takesOut_142 (Nat.le_of_ble_eq_true rfl) rfl ?_
            refine g_iinc (pc := 144) (v := (nI (p + 1))) (lv2 := [(0, .ref (a 0)), (1, .int (nI t)), (2, .int (nI (sumN gr 12))), (3, .int (nI w)), (4, .int (nI (x2 - 0))), (5, .int (nI (p + 1))), (6, .int (nI 0))]) C dX4_takesOut_144 rfl (nI_1 _) (Nat.le_of_ble_eq_true rfl) rfl ?_
            refine g_goto (pc := 147) (tgt := 87) C dX4_takesOut_147 (by decide) ?_
            refine g_lvs (lv2 := [(0, .ref (a 0)), (1, .int (nI t)), (2, .int (nI (sumN gr 12))), (3, .int (nI w)), (4, .int (nI (x2 - 0))), (5, .int (nI (p + 1)))]) [0, 1, 2, 3, 4, 5] rfl ?_
            exact ih_p _ _ (by omega) ⟨by rw [Nat.sub_zero, leftN, ← hv_p.1, if_neg (fun q => by have := hv_p.2.2 p (Nat.le_refl p) (by omega); omega)], fun j hj => by
              by_cases e : j = p
              · rw [e, updN_s, Nat.add_zero, ladN, ← hv_p.1, hv_p.2.2 p (Nat.le_refl p) (by omega), if_neg (fun q => by have := hv_p.2.2 p (Nat.le_refl p) (by omega); omega)]
              · rw [updN_n e]
                exact hv_p.2.1 j (by omega), fun j hj h12 => by
              rw [updN_n (by omega)]
              exact hv_p.2.2 j (by omega) h12⟩
          · refine g_aload_n (pc := 99) C dX4_takesOut_99 rfl ?_
            refine g_get4 (pc := 100) C dX4_takesOut_100 0 rfl 0 (by decide) fl_X4_7 rfl ?_
            refine g_iconst (pc := 103) (v := nI 2) C dX4_takesOut_103 (by decide) ?_
            refine g_iload (pc := 104) C dX4_takesOut_104 rfl ?_
            refine g_iaddN (pc := 106) C dX4_takesOut_106 ?_
            refine g_ialdM (pc := 107) C dX4_takesOut_107 1 rfl rfl (by omega) (by decide) ?_
            refine g_top (congrArg nI (sF_rg (by omega))) ?_
            have b7 := hgr p
            refine g_aload_n (pc := 108) C dX4_takesOut_108 rfl ?_
            refine g_get4 (pc := 109) C dX4_takesOut_109 0 rfl 6 (by decide) fl_X4_25 rfl ?_
            refine g_iload (pc := 112) C dX4_takesOut_112 rfl ?_
            refine g_ialdM (pc := 114) C dX4_takesOut_114 6 rfl rfl (by omega) (by decide) ?_
            refine g_icmp_leN (pc := 115) (tgt := 122) C dX4_takesOut_115 (by decide) (by omega) (by have := hv_p.2.2 p (Nat.le_refl p) c5; have := baseN_le (gr := gr) (p := p) hw; omega) (fun c8 => ?_) (fun c8 => ?_)
            · refine g_iconst (pc := 122) (v := nI 0) C dX4_takesOut_122 (by decide) ?_
              refine g_istore (pc := 123) (lv2 := [(0, .ref (a 0)), (1, .int (nI t)), (2, .int (nI (sumN gr 12))), (3, .int (nI w)), (4, .int (nI x2)), (5, .int (nI p)), (6, .int (nI 0))]) C dX4_takesOut_123 (Nat.le_of_ble_eq_true rfl) rfl ?_
              refine g_aload_n (pc := 125) C dX4_takesOut_125 rfl ?_
              refine g_get4 (pc := 126) C dX4_takesOut_126 0 rfl 6 (by decide) fl_X4_25 rfl ?_
              refine g_iload (pc := 129) C dX4_takesOut_129 rfl ?_
              refine g_dup2 (pc := 131) C dX4_takesOut_131 rfl rfl ?_
              refine g_ialdM (pc := 132) C dX4_takesOut_132 6 rfl rfl (by omega) (by decide) ?_
              refine g_iload (pc := 133) C dX4_takesOut_133 rfl ?_
              refine g_iaddN (pc := 135) C dX4_takesOut_135 ?_
              refine g_iastM (pc := 136) (ws2 := (mdV g a (sF mn yr gr kd pt wt mr) ks os sd sts kp (updN f3 p ((f3 p) + 0)) tp tn fr to vl wr bo so nm mv)) C dX4_takesOut_136 6 rfl rfl (by omega) (by decide) rfl ?_
              refine g_iload (pc := 137) C dX4_takesOut_137 rfl ?_
              refine g_iload (pc := 139) C dX4_takesOut_139 rfl ?_
              refine g_isubN (pc := 141) C dX4_takesOut_141 (by omega) ?_
              refine g_istore (pc := 142) (lv2 := [(0, .ref (a 0)), (1, .int (nI t)), (2, .int (nI (sumN gr 12))), (3, .int (nI w)), (4, .int (nI (x2 - 0))), (5, .int (nI p)), (6, .int (nI 0))]) C dX4_takesOut_142 (Nat.le_of_ble_eq_true rfl) rfl ?_
              refine g_iinc (pc := 144) (v := (nI (p + 1))) (lv2 := [(0, .ref (a 0)), (1, .int (nI t)), (2, .int (nI (sumN gr 12))), (3, .int (nI w)), (4, .int (nI (x2 - 0))), (5, .int (nI (p + 1))), (6, .int (nI 0))]) C dX4_takesOut_144 rfl (nI_1 _) (Nat.le_of_ble_eq_true rfl) rfl ?_
              refine g_goto (pc := 147) (tgt := 87) C dX4_takesOut_147 (by decide) ?_
              refine g_lvs (lv2 := [(0, .ref (a 0)), (1, .int (nI t)), (2, .int (nI (sumN gr 12))), (3, .int (nI w)), (4, .int (nI (x2 - 0))), (5, .int (nI (p + 1)))]) [0, 1, 2, 3, 4, 5] rfl ?_
              exact ih_p _ _ (by omega) ⟨by rw [Nat.sub_zero, leftN, ← hv_p.1, if_neg (fun q => by have := hv_p.2.2 p (Nat.le_refl p) (by omega); omega)], fun j hj => by
                by_cases e : j = p
                · rw [e, updN_s, Nat.add_zero, ladN, ← hv_p.1, hv_p.2.2 p (Nat.le_refl p) (by omega), if_neg (fun q => by have := hv_p.2.2 p (Nat.le_refl p) (by omega); omega)]
                · rw [updN_n e]
                  exact hv_p.2.1 j (by omega), fun j hj h12 => by
                rw [updN_n (by omega)]
                exact hv_p.2.2 j (by omega) h12⟩
            · refine g_iconst (pc := 118) (v := nI 1) C dX4_takesOut_118 (by decide) ?_
              refine g_goto (pc := 119) (tgt := 123) C dX4_takesOut_119 (by decide) ?_
              refine g_istore (pc := 123) (lv2 := [(0, .ref (a 0)), (1, .int (nI t)), (2, .int (nI (sumN gr 12))), (3, .int (nI w)), (4, .int (nI x2)), (5, .int (nI p)), (6, .int (nI 1))]) C dX4_takesOut_123 (Nat.le_of_ble_eq_true rfl) rfl ?_
              refine g_aload_n (pc := 125) C dX4_takesOut_125 rfl ?_
              refine g_get4 (pc := 126) C dX4_takesOut_126 0 rfl 6 (by decide) fl_X4_25 rfl ?_
              refine g_iload (pc := 129) C dX4_takesOut_129 rfl ?_
              refine g_dup2 (pc := 131) C dX4_takesOut_131 rfl rfl ?_
              refine g_ialdM (pc := 132) C dX4_takesOut_132 6 rfl rfl (by omega) (by decide) ?_
              refine g_iload (pc := 133) C dX4_takesOut_133 rfl ?_
              refine g_iaddN (pc := 135) C dX4_takesOut_135 ?_
              refine g_iastM (pc := 136) (ws2 := (mdV g a (sF mn yr gr kd pt wt mr) ks os sd sts kp (updN f3 p ((f3 p) + 1)) tp tn fr to vl wr bo so nm mv)) C dX4_takesOut_136 6 rfl rfl (by omega) (by decide) rfl ?_
              refine g_iload (pc := 137) C dX4_takesOut_137 rfl ?_
              refine g_iload (pc := 139) C dX4_takesOut_139 rfl ?_
              refine g_isubN (pc := 141) C dX4_takesOut_141 (by omega) ?_
              refine g_istore (pc := 142) (lv2 := [(0, .ref (a 0)), (1, .int (nI t)), (2, .int (nI (sumN gr 12))), (3, .int (nI w)), (4, .int (nI (x2 - 1))), (5, .int (nI p)), (6, .int (nI 1))]) C dX4_takesOut_142 (Nat.le_of_ble_eq_true rfl) rfl ?_
              refine g_iinc (pc := 144) (v := (nI (p + 1))) (lv2 := [(0, .ref (a 0)), (1, .int (nI t)), (2, .int (nI (sumN gr 12))), (3, .int (nI w)), (4, .int (nI (x2 - 1))), (5, .int (nI (p + 1))), (6, .int (nI 1))]) C dX4_takesOut_144 rfl (nI_1 _) (Nat.le_of_ble_eq_true rfl) rfl ?_
              refine g_goto (pc := 147) (tgt := 87) C dX4_takesOut_147 (by decide) ?_
              refine g_lvs (lv2 := [(0, .ref (a 0)), (1, .int (nI t)), (2, .int (nI (sumN gr 12))), (3, .int (nI w)), (4, .int (nI (x2 - 1))), (5, .int (nI (p + 1)))]) [0, 1, 2, 3, 4, 5] rfl ?_
              exact ih_p _ _ (by omega) ⟨by rw [leftN, ← hv_p.1, if_pos ⟨c6, by rw [← hv_p.2.2 p (Nat.le_refl p) c5]; exact c8⟩], fun j hj => by
                by_cases e : j = p
                · rw [e, updN_s, ladN, ← hv_p.1, hv_p.2.2 p (Nat.le_refl p) c5, if_pos ⟨c6, by rw [← hv_p.2.2 p (Nat.le_refl p) c5]; exact c8⟩]
                · rw [updN_n e]
                  exact hv_p.2.1 j (by omega), fun j hj h12 => by
                rw [updN_n (by omega)]
                exact hv_p.2.2 j (by omega) h12⟩
    · refine g_aload_n (pc := 29) C dX4_takesOut_29 rfl ?_
      refine g_get4 (pc := 30) C dX4_takesOut_30 0 rfl 6 (by decide) fl_X4_25 rfl ?_
      refine g_iload (pc := 33) C dX4_takesOut_33 rfl ?_
      refine g_iload_n (pc := 35) C dX4_takesOut_35 rfl ?_
      refine g_if_neN (pc := 36) (tgt := 43) C dX4_takesOut_36 (by decide) (by omega) (fun c9 => ?_) (fun c9 => ?_)
      · refine g_aload_n (pc := 43) C dX4_takesOut_43 rfl ?_
        refine g_get4 (pc := 44) C dX4_takesOut_44 0 rfl 0 (by decide) fl_X4_7 rfl ?_
        refine g_iconst (pc := 47) (v := nI 2) C dX4_takesOut_47 (by decide) ?_
        refine g_iload (pc := 48) C dX4_takesOut_48 rfl ?_
        refine g_iaddN (pc := 50) C dX4_takesOut_50 ?_
        refine g_ialdM (pc := 51) C dX4_takesOut_51 1 rfl rfl (by omega) (by decide) ?_
        refine g_top (congrArg nI (sF_rg (by omega))) ?_
        have b10 := hgr i
        refine g_i2l (pc := 52) C dX4_takesOut_52 ?_
        refine g_iload_n (pc := 53) C dX4_takesOut_53 rfl ?_
        refine g_i2l (pc := 54) C dX4_takesOut_54 ?_
        refine g_lmul (pc := 55) C dX4_takesOut_55 ?_
        refine g_iload_n (pc := 56) C dX4_takesOut_56 rfl ?_
        refine g_i2l (pc := 57) C dX4_takesOut_57 ?_
        refine g_ldiv (pc := 58) C dX4_takesOut_58 (by rw [nI_l (by omega)]; intro h; exact absurd ((pk_lEQ (by omega) (by decide)).mp (h.trans (show (0 : Int64) = lN 0 from rfl))) (by omega)) ?_
        refine g_l2i (pc := 59) C dX4_takesOut_59 ?_
        refine g_top (y := nI (gr i * w / sumN gr 12)) (mul_div64 (hgr i) hw2 (by omega) (by omega)) ?_
        refine g_iastM (pc := 60) (ws2 := (mdV g a (sF mn yr gr kd pt wt mr) ks os sd sts kp (updN f i (gr i * w / sumN gr 12)) tp tn fr to vl wr bo so nm mv)) C dX4_takesOut_60 6 rfl rfl (by omega) (by decide) rfl ?_
        refine g_iload (pc := 61) C dX4_takesOut_61 rfl ?_
        refine g_aload_n (pc := 63) C dX4_takesOut_63 rfl ?_
        refine g_get4 (pc := 64) C dX4_takesOut_64 0 rfl 6 (by decide) fl_X4_25 rfl ?_
        refine g_iload (pc := 67) C dX4_takesOut_67 rfl ?_
        refine g_ialdM (pc := 69) C dX4_takesOut_69 6 rfl rfl (by omega) (by decide) ?_
        refine g_top (y := nI (baseN gr (sumN gr 12) w i)) (by rw [updN_s]; first | rfl | (rw [baseN, c9, Nat.div_zero])) ?_
        refine g_isubN (pc := 70) C dX4_takesOut_70 (by have h9 := base_le (n := i + 1) hw rfl (by omega); rw [sumN] at h9; omega) ?_
        refine g_top (y := nI (w - sumN (baseN gr (sumN gr 12) w) (i + 1))) (by rw [Nat.sub_sub]; rfl) ?_
        refine g_istore (pc := 71) (lv2 := [(0, .ref (a 0)), (1, .int (nI t)), (2, .int (nI (sumN gr 12))), (3, .int (nI w)), (4, .int (nI (w - sumN (baseN gr (sumN gr 12) w) (i + 1)))), (5, .int (nI i))]) C dX4_takesOut_71 (Nat.le_of_ble_eq_true rfl) rfl ?_
        refine g_iinc (pc := 73) (v := (nI (i + 1))) (lv2 := [(0, .ref (a 0)), (1, .int (nI t)), (2, .int (nI (sumN gr 12))), (3, .int (nI w)), (4, .int (nI (w - sumN (baseN gr (sumN gr 12) w) (i + 1)))), (5, .int (nI (i + 1)))]) C dX4_takesOut_73 rfl (nI_1 _) (Nat.le_of_ble_eq_true rfl) rfl ?_
        refine g_goto (pc := 76) (tgt := 22) C dX4_takesOut_76 (by decide) ?_
        exact ih_i _ (by omega) (fun j hj => by
          by_cases e : j = i
          · rw [e, updN_s]
            first | rfl | (rw [baseN, c9, Nat.div_zero])
          · rw [updN_n e]
            exact hv_i j (by omega))
      · refine g_iconst (pc := 39) (v := nI 0) C dX4_takesOut_39 (by decide) ?_
        refine g_goto (pc := 40) (tgt := 60) C dX4_takesOut_40 (by decide) ?_
        refine g_iastM (pc := 60) (ws2 := (mdV g a (sF mn yr gr kd pt wt mr) ks os sd sts kp (updN f i 0) tp tn fr to vl wr bo so nm mv)) C dX4_takesOut_60 6 rfl rfl (by omega) (by decide) rfl ?_
        refine g_iload (pc := 61) C dX4_takesOut_61 rfl ?_
        refine g_aload_n (pc := 63) C dX4_takesOut_63 rfl ?_
        refine g_get4 (pc := 64) C dX4_takesOut_64 0 rfl 6 (by decide) fl_X4_25 rfl ?_
        refine g_iload (pc := 67) C dX4_takesOut_67 rfl ?_
        refine g_ialdM (pc := 69) C dX4_takesOut_69 6 rfl rfl (by omega) (by decide) ?_
        refine g_top (y := nI (baseN gr (sumN gr 12) w i)) (by rw [updN_s]; first | rfl | (rw [baseN, c9, Nat.div_zero])) ?_
        refine g_isubN (pc := 70) C dX4_takesOut_70 (by have h9 := base_le (n := i + 1) hw rfl (by omega); rw [sumN] at h9; omega) ?_
        refine g_top (y := nI (w - sumN (baseN gr (sumN gr 12) w) (i + 1))) (by rw [Nat.sub_sub]; rfl) ?_
        refine g_istore (pc := 71) (lv2 := [(0, .ref (a 0)), (1, .int (nI t)), (2, .int (nI (sumN gr 12))), (3, .int (nI w)), (4, .int (nI (w - sumN (baseN gr (sumN gr 12) w) (i + 1)))), (5, .int (nI i))]) C dX4_takesOut_71 (Nat.le_of_ble_eq_true rfl) rfl ?_
        refine g_iinc (pc := 73) (v := (nI (i + 1))) (lv2 := [(0, .ref (a 0)), (1, .int (nI t)), (2, .int (nI (sumN gr 12))), (3, .int (nI w)), (4, .int (nI (w - sumN (baseN gr (sumN gr 12) w) (i + 1)))), (5, .int (nI (i + 1)))]) C dX4_takesOut_73 rfl (nI_1 _) (Nat.le_of_ble_eq_true rfl) rfl ?_
        refine g_goto (pc := 76) (tgt := 22) C dX4_takesOut_76 (by decide) ?_
        exact ih_i _ (by omega) (fun j hj => by
          by_cases e : j = i
          · rw [e, updN_s]
            first | rfl | (rw [baseN, c9, Nat.div_zero])
          · rw [updN_n e]
            exact hv_i j (by omega))
  · refine g_iload_n (pc := 10) C dX4_takesOut_10 rfl ?_
    refine g_goto (pc := 11) (tgt := 15) C dX4_takesOut_11 (by decide) ?_
    refine g_top (y := nI w) (congrArg nI (by omega)) ?_
    refine g_istore_n (pc := 15) (lv2 := [(0, .ref (a 0)), (1, .int (nI t)), (2, .int (nI (sumN gr 12))), (3, .int (nI w))]) C dX4_takesOut_15 rfl (Nat.le_of_ble_eq_true rfl) rfl ?_
    refine g_iload_n (pc := 16) C dX4_takesOut_16 rfl ?_
    refine g_istore (pc := 17) (lv2 := [(0, .ref (a 0)), (1, .int (nI t)), (2, .int (nI (sumN gr 12))), (3, .int (nI w)), (4, .int (nI w))]) C dX4_takesOut_17 (Nat.le_of_ble_eq_true rfl) rfl ?_
    refine g_iconst (pc := 19) (v := nI 0) C dX4_takesOut_19 (by decide) ?_
    refine g_istore (pc := 20) (lv2 := [(0, .ref (a 0)), (1, .int (nI t)), (2, .int (nI (sumN gr 12))), (3, .int (nI w)), (4, .int (nI w)), (5, .int (nI 0))]) C dX4_takesOut_20 (Nat.le_of_ble_eq_true rfl) rfl ?_
    refine g_loop1 (n := 12) (fun i f => ∀ j, j < i → f j = baseN gr (sumN gr 12) w j) (fun i f => [(0, .ref (a 0)), (1, .int (nI t)), (2, .int (nI (sumN gr 12))), (3, .int (nI w)), (4, .int (nI (w - sumN (baseN gr (sumN gr 12) w) i))), (5, .int (nI i))]) (fun i f => (mdV g a (sF mn yr gr kd pt wt mr) ks os sd sts kp f tp tn fr to vl wr bo so nm mv)) ?_ 0 tk (by omega) (fun j hj => absurd hj (Nat.not_lt_zero j))
    intro i f hi_i hv_i ih_i
    show Go φ g 7 22 [(0, .ref (a 0)), (1, .int (nI t)), (2, .int (nI (sumN gr 12))), (3, .int (nI w)), (4, .int (nI (w - sumN (baseN gr (sumN gr 12) w) i))), (5, .int (nI i))] [] (mdV g a (sF mn yr gr kd pt wt mr) ks os sd sts kp f tp tn fr to vl wr bo so nm mv)
    have hv_i : ∀ j, j < i → f j = baseN gr (sumN gr 12) w j := hv_i
    refine g_iload (pc := 22) C dX4_takesOut_22 rfl ?_
    refine g_bipush (pc := 24) (v := nI 12) C dX4_takesOut_24 (by decide) ?_
    refine g_icmp_geN (pc := 26) (tgt := 79) C dX4_takesOut_26 (by decide) (by omega) (by omega) (fun c11 => ?_) (fun c11 => ?_)
    · refine g_lvs (lv2 := [(0, .ref (a 0)), (1, .int (nI t)), (2, .int (nI (sumN gr 12))), (3, .int (nI w)), (4, .int (nI (w - sumN (baseN gr (sumN gr 12) w) i)))]) [0, 1, 2, 3, 4] rfl ?_
      refine g_loop2 (n := 1) (fun r x f2 => (r = 0 → x = lackN gr (sumN gr 12) w ∧ ∀ j, j < 12 → f2 j = baseN gr (sumN gr 12) w j) ∧ (r = 1 → x = 0 ∧ ∀ j, j < 12 → f2 j = ladN gr (sumN gr 12) w j)) (fun r x f2 => [(0, .ref (a 0)), (1, .int (nI t)), (2, .int (nI (sumN gr 12))), (3, .int (nI w)), (4, .int (nI x))]) (fun r x f2 => (mdV g a (sF mn yr gr kd pt wt mr) ks os sd sts kp f2 tp tn fr to vl wr bo so nm mv)) ?_ 0 (w - sumN (baseN gr (sumN gr 12) w) i) f (by omega) ⟨fun _ => ⟨by rw [lackN, show i = 12 by omega], fun j hj => hv_i j (by omega)⟩, fun h => absurd h (by decide)⟩
      intro r x f2 hi_r hv_r ih_r
      show Go φ g 7 79 [(0, .ref (a 0)), (1, .int (nI t)), (2, .int (nI (sumN gr 12))), (3, .int (nI w)), (4, .int (nI x))] [] (mdV g a (sF mn yr gr kd pt wt mr) ks os sd sts kp f2 tp tn fr to vl wr bo so nm mv)
      have hv_r : (r = 0 → x = lackN gr (sumN gr 12) w ∧ ∀ j, j < 12 → f2 j = baseN gr (sumN gr 12) w j) ∧ (r = 1 → x = 0 ∧ ∀ j, j < 12 → f2 j = ladN gr (sumN gr 12) w j) := hv_r
      have hx : x ≤ 20000 := by rcases Nat.lt_or_ge r 1 with q | q; exact (by rw [(hv_r.1 (by omega)).1, lackN]; omega); exact (by rw [(hv_r.2 (by omega)).1]; omega)
      refine g_iload (pc := 79) C dX4_takesOut_79 rfl ?_
      refine g_if_leN (pc := 81) (tgt := 153) C dX4_takesOut_81 (by decide) (by omega) (fun c12 => ?_) (fun c12 => ?_)
      · have hfin : ∀ j, j < 12 → f2 j = ladN gr (sumN gr 12) w j := by
          intro j hj
          rcases Nat.lt_or_ge r 1 with q | q
          · obtain ⟨e1, e2⟩ := hv_r.1 (by omega)
            rw [e2 j hj, lad_of_left (n := 0) (by show lackN gr (sumN gr 12) w = 0; omega) (Nat.zero_le j)]
          · exact (hv_r.2 (by omega)).2 j hj
        refine g_arrc (q0 := 6) (f2 := fun j => nI (ladN gr (sumN gr 12) w j)) (ws2 := (mdV g a (sF mn yr gr kd pt wt mr) ks os sd sts kp (ladN gr (sumN gr 12) w) tp tn fr to vl wr bo so nm mv)) rfl (fun j hj => congrArg nI (hfin j hj)) rfl ?_
        refine g_iconst (pc := 153) (v := nI 0) C dX4_takesOut_153 (by decide) ?_
        refine g_istore (pc := 154) (lv2 := [(0, .ref (a 0)), (1, .int (nI t)), (2, .int (nI (sumN gr 12))), (3, .int (nI w)), (4, .int (nI x)), (5, .int (nI 0))]) C dX4_takesOut_154 (Nat.le_of_ble_eq_true rfl) rfl ?_
        refine g_loop1 (n := 12) (fun q G => (∀ j, j < q → G j = takeG gr (sumN gr 12) w j) ∧ (∀ j, q ≤ j → G j = gr j)) (fun q G => [(0, .ref (a 0)), (1, .int (nI t)), (2, .int (nI (sumN gr 12))), (3, .int (nI w)), (4, .int (nI x)), (5, .int (nI q))]) (fun q G => (mdV g a (sF mn yr G kd pt wt mr) ks os sd sts kp (ladN gr (sumN gr 12) w) tp tn fr to vl wr bo so nm mv)) ?_ 0 gr (by omega) ⟨fun j hj => absurd hj (Nat.not_lt_zero j), fun j _ => rfl⟩
        intro q G hi_q hv_q ih_q
        show Go φ g 7 156 [(0, .ref (a 0)), (1, .int (nI t)), (2, .int (nI (sumN gr 12))), (3, .int (nI w)), (4, .int (nI x)), (5, .int (nI q))] [] (mdV g a (sF mn yr G kd pt wt mr) ks os sd sts kp (ladN gr (sumN gr 12) w) tp tn fr to vl wr bo so nm mv)
        have hv_q : (∀ j, j < q → G j = takeG gr (sumN gr 12) w j) ∧ (∀ j, q ≤ j → G j = gr j) := hv_q
        refine g_iload (pc := 156) C dX4_takesOut_156 rfl ?_
        refine g_bipush (pc := 158) (v := nI 12) C dX4_takesOut_158 (by decide) ?_
        refine g_icmp_geN (pc := 160) (tgt := 188) C dX4_takesOut_160 (by decide) (by omega) (by omega) (fun c13 => ?_) (fun c13 => ?_)
        · refine g_arrc (q0 := 1) (f2 := fun j => nI (sF mn yr (takeG gr (sumN gr 12) w) kd pt wt mr j)) (ws2 := (mdV g a (sF mn yr (takeG gr (sumN gr 12) w) kd pt wt mr) ks os sd sts kp (ladN gr (sumN gr 12) w) tp tn fr to vl wr bo so nm mv)) rfl (fun j hj => congrArg nI (sF_grc (fun j2 h2 => hv_q.1 j2 (by omega)) j)) rfl ?_
          refine g_iload_n (pc := 188) C dX4_takesOut_188 rfl ?_
          exact g_iret C Rr dX4_takesOut_189 ⟨by rw [hwe], by rw [hwe]⟩ rfl
        · refine g_aload_n (pc := 163) C dX4_takesOut_163 rfl ?_
          refine g_get4 (pc := 164) C dX4_takesOut_164 0 rfl 0 (by decide) fl_X4_7 rfl ?_
          refine g_iconst (pc := 167) (v := nI 2) C dX4_takesOut_167 (by decide) ?_
          refine g_iload (pc := 168) C dX4_takesOut_168 rfl ?_
          refine g_iaddN (pc := 170) C dX4_takesOut_170 ?_
          refine g_dup2 (pc := 171) C dX4_takesOut_171 rfl rfl ?_
          refine g_ialdM (pc := 172) C dX4_takesOut_172 1 rfl rfl (by omega) (by decide) ?_
          refine g_top (congrArg nI (sF_rg (by omega))) ?_
          refine g_aload_n (pc := 173) C dX4_takesOut_173 rfl ?_
          refine g_get4 (pc := 174) C dX4_takesOut_174 0 rfl 6 (by decide) fl_X4_25 rfl ?_
          refine g_iload (pc := 177) C dX4_takesOut_177 rfl ?_
          refine g_ialdM (pc := 179) C dX4_takesOut_179 6 rfl rfl (by omega) (by decide) ?_
          refine g_isubN (pc := 180) C dX4_takesOut_180 (by rw [hv_q.2 q (Nat.le_refl q)]; exact lad_le hw) ?_
          refine g_iastM (pc := 181) (ws2 := _) C dX4_takesOut_181 1 rfl rfl (by omega) (by decide) rfl ?_
          refine g_ws (ws := (mdV g a (updN (sF mn yr G kd pt wt mr) (2 + q) ((G q) - ((ladN gr (sumN gr 12) w) q))) ks os sd sts kp (ladN gr (sumN gr 12) w) tp tn fr to vl wr bo so nm mv)) (ws2 := (mdV g a (sF mn yr (updN G q ((G q) - ((ladN gr (sumN gr 12) w) q))) kd pt wt mr) ks os sd sts kp (ladN gr (sumN gr 12) w) tp tn fr to vl wr bo so nm mv)) (by rw [sF_wg (by omega)]) ?_
          refine g_iinc (pc := 182) (v := (nI (q + 1))) (lv2 := [(0, .ref (a 0)), (1, .int (nI t)), (2, .int (nI (sumN gr 12))), (3, .int (nI w)), (4, .int (nI x)), (5, .int (nI (q + 1)))]) C dX4_takesOut_182 rfl (nI_1 _) (Nat.le_of_ble_eq_true rfl) rfl ?_
          refine g_goto (pc := 185) (tgt := 156) C dX4_takesOut_185 (by decide) ?_
          exact ih_q _ (by omega) ⟨fun j hj => by
            by_cases e : j = q
            · rw [e, updN_s, hv_q.2 q (Nat.le_refl q)]
              rfl
            · rw [updN_n e]
              exact hv_q.1 j (by omega), fun j hj => by
            rw [updN_n (by omega)]
            exact hv_q.2 j (by omega)⟩
      · have hr0 : r = 0 := Nat.eq_zero_of_not_pos (fun q => by have := (hv_r.2 (by omega)).1; omega)
        refine g_iconst (pc := 84) (v := nI 0) C dX4_takesOut_84 (by decide) ?_
        refine g_istore (pc := 85) (lv2 := [(0, .ref (a 0)), (1, .int (nI t)), (2, .int (nI (sumN gr 12))), (3, .int (nI w)), (4, .int (nI x)), (5, .int (nI 0))]) C dX4_takesOut_85 (Nat.le_of_ble_eq_true rfl) rfl ?_
        refine g_lvs (lv2 := [(0, .ref (a 0)), (1, .int (nI t)), (2, .int (nI (sumN gr 12))), (3, .int (nI w)), (4, .int (nI x)), (5, .int (nI 0))]) [0, 1, 2, 3, 4, 5] rfl ?_
        refine g_loop2 (n := 12) (fun p x2 f3 => x2 = leftN gr (sumN gr 12) w p ∧ (∀ j, j < p → f3 j = ladN gr (sumN gr 12) w j) ∧ (∀ j, p ≤ j → j < 12 → f3 j = baseN gr (sumN gr 12) w j)) (fun p x2 f3 => [(0, .ref (a 0)), (1, .int (nI t)), (2, .int (nI (sumN gr 12))), (3, .int (nI w)), (4, .int (nI x2)), (5, .int (nI p))]) (fun p x2 f3 => (mdV g a (sF mn yr gr kd pt wt mr) ks os sd sts kp f3 tp tn fr to vl wr bo so nm mv)) ?_ 0 x f2 (by omega) ⟨(hv_r.1 hr0).1, fun j hj => absurd hj (Nat.not_lt_zero j), fun j _ hj => (hv_r.1 hr0).2 j hj⟩
        intro p x2 f3 hi_p hv_p ih_p
        show Go φ g 7 87 [(0, .ref (a 0)), (1, .int (nI t)), (2, .int (nI (sumN gr 12))), (3, .int (nI w)), (4, .int (nI x2)), (5, .int (nI p))] [] (mdV g a (sF mn yr gr kd pt wt mr) ks os sd sts kp f3 tp tn fr to vl wr bo so nm mv)
        have hv_p : x2 = leftN gr (sumN gr 12) w p ∧ (∀ j, j < p → f3 j = ladN gr (sumN gr 12) w j) ∧ (∀ j, p ≤ j → j < 12 → f3 j = baseN gr (sumN gr 12) w j) := hv_p
        have hz : x2 ≤ 20000 := by rw [hv_p.1, left_eq, lackN]; omega
        refine g_iload (pc := 87) C dX4_takesOut_87 rfl ?_
        refine g_bipush (pc := 89) (v := nI 12) C dX4_takesOut_89 (by decide) ?_
        refine g_icmp_geN (pc := 91) (tgt := 150) C dX4_takesOut_91 (by decide) (by omega) (by omega) (fun c14 => ?_) (fun c14 => ?_)
        · have hz0 : x2 = 0 := by rw [hv_p.1, show p = 12 by omega]; exact left_12 hw rfl
          have hzf : ∀ j, j < 12 → f3 j = ladN gr (sumN gr 12) w j := fun j hj => hv_p.2.1 j (by omega)
          refine g_goto (pc := 150) (tgt := 79) C dX4_takesOut_150 (by decide) ?_
          refine g_lvs (lv2 := [(0, .ref (a 0)), (1, .int (nI t)), (2, .int (nI (sumN gr 12))), (3, .int (nI w)), (4, .int (nI x2))]) [0, 1, 2, 3, 4] rfl ?_
          exact ih_r _ _ (by omega) ⟨fun h => absurd h (by omega), fun _ => ⟨hz0, hzf⟩⟩
        · refine g_iload (pc := 94) C dX4_takesOut_94 rfl ?_
          refine g_if_leN (pc := 96) (tgt := 122) C dX4_takesOut_96 (by decide) (by omega) (fun c15 => ?_) (fun c15 => ?_)
          · refine g_iconst (pc := 122) (v := nI 0) C dX4_takesOut_122 (by decide) ?_
            refine g_istore (pc := 123) (lv2 := [(0, .ref (a 0)), (1, .int (nI t)), (2, .int (nI (sumN gr 12))), (3, .int (nI w)), (4, .int (nI x2)), (5, .int (nI p)), (6, .int (nI 0))]) C dX4_takesOut_123 (Nat.le_of_ble_eq_true rfl) rfl ?_
            refine g_aload_n (pc := 125) C dX4_takesOut_125 rfl ?_
            refine g_get4 (pc := 126) C dX4_takesOut_126 0 rfl 6 (by decide) fl_X4_25 rfl ?_
            refine g_iload (pc := 129) C dX4_takesOut_129 rfl ?_
            refine g_dup2 (pc := 131) C dX4_takesOut_131 rfl rfl ?_
            refine g_ialdM (pc := 132) C dX4_takesOut_132 6 rfl rfl (by omega) (by decide) ?_
            refine g_iload (pc := 133) C dX4_takesOut_133 rfl ?_
            refine g_iaddN (pc := 135) C dX4_takesOut_135 ?_
            refine g_iastM (pc := 136) (ws2 := (mdV g a (sF mn yr gr kd pt wt mr) ks os sd sts kp (updN f3 p ((f3 p) + 0)) tp tn fr to vl wr bo so nm mv)) C dX4_takesOut_136 6 rfl rfl (by omega) (by decide) rfl ?_
            refine g_iload (pc := 137) C dX4_takesOut_137 rfl ?_
            refine g_iload (pc := 139) C dX4_takesOut_139 rfl ?_
            refine g_isubN (pc := 141) C dX4_takesOut_141 (by omega) ?_
            refine g_istore (pc := 142) (lv2 := [(0, .ref (a 0)), (1, .int (nI t)), (2, .int (nI (sumN gr 12))), (3, .int (nI w)), (4, .int (nI (x2 - 0))), (5, .int (nI p)), (6, .int (nI 0))]) C dX4_takesOut_142 (Nat.le_of_ble_eq_true rfl) rfl ?_
            refine g_iinc (pc := 144) (v := (nI (p + 1))) (lv2 := [(0, .ref (a 0)), (1, .int (nI t)), (2, .int (nI (sumN gr 12))), (3, .int (nI w)), (4, .int (nI (x2 - 0))), (5, .int (nI (p + 1))), (6, .int (nI 0))]) C dX4_takesOut_144 rfl (nI_1 _) (Nat.le_of_ble_eq_true rfl) rfl ?_
            refine g_goto (pc := 147) (tgt := 87) C dX4_takesOut_147 (by decide) ?_
            refine g_lvs (lv2 := [(0, .ref (a 0)), (1, .int (nI t)), (2, .int (nI (sumN gr 12))), (3, .int (nI w)), (4, .int (nI (x2 - 0))), (5, .int (nI (p + 1)))]) [0, 1, 2, 3, 4, 5] rfl ?_
            exact ih_p _ _ (by omega) ⟨by rw [Nat.sub_zero, leftN, ← hv_p.1, if_neg (fun q => by have := hv_p.2.2 p (Nat.le_refl p) (by omega); omega)], fun j hj => by
              by_cases e : j = p
              · rw [e, updN_s, Nat.add_zero, ladN, ← hv_p.1, hv_p.2.2 p (Nat.le_refl p) (by omega), if_neg (fun q => by have := hv_p.2.2 p (Nat.le_refl p) (by omega); omega)]
              · rw [updN_n e]
                exact hv_p.2.1 j (by omega), fun j hj h12 => by
              rw [updN_n (by omega)]
              exact hv_p.2.2 j (by omega) h12⟩
          · refine g_aload_n (pc := 99) C dX4_takesOut_99 rfl ?_
            refine g_get4 (pc := 100) C dX4_takesOut_100 0 rfl 0 (by decide) fl_X4_7 rfl ?_
            refine g_iconst (pc := 103) (v := nI 2) C dX4_takesOut_103 (by decide) ?_
            refine g_iload (pc := 104) C dX4_takesOut_104 rfl ?_
            refine g_iaddN (pc := 106) C dX4_takesOut_106 ?_
            refine g_ialdM (pc := 107) C dX4_takesOut_107 1 rfl rfl (by omega) (by decide) ?_
            refine g_top (congrArg nI (sF_rg (by omega))) ?_
            have b16 := hgr p
            refine g_aload_n (pc := 108) C dX4_takesOut_108 rfl ?_
            refine g_get4 (pc := 109) C dX4_takesOut_109 0 rfl 6 (by decide) fl_X4_25 rfl ?_
            refine g_iload (pc := 112) C dX4_takesOut_112 rfl ?_
            refine g_ialdM (pc := 114) C dX4_takesOut_114 6 rfl rfl (by omega) (by decide) ?_
            refine g_icmp_leN (pc := 115) (tgt := 122) C dX4_takesOut_115 (by decide) (by omega) (by have := hv_p.2.2 p (Nat.le_refl p) c14; have := baseN_le (gr := gr) (p := p) hw; omega) (fun c17 => ?_) (fun c17 => ?_)
            · refine g_iconst (pc := 122) (v := nI 0) C dX4_takesOut_122 (by decide) ?_
              refine g_istore (pc := 123) (lv2 := [(0, .ref (a 0)), (1, .int (nI t)), (2, .int (nI (sumN gr 12))), (3, .int (nI w)), (4, .int (nI x2)), (5, .int (nI p)), (6, .int (nI 0))]) C dX4_takesOut_123 (Nat.le_of_ble_eq_true rfl) rfl ?_
              refine g_aload_n (pc := 125) C dX4_takesOut_125 rfl ?_
              refine g_get4 (pc := 126) C dX4_takesOut_126 0 rfl 6 (by decide) fl_X4_25 rfl ?_
              refine g_iload (pc := 129) C dX4_takesOut_129 rfl ?_
              refine g_dup2 (pc := 131) C dX4_takesOut_131 rfl rfl ?_
              refine g_ialdM (pc := 132) C dX4_takesOut_132 6 rfl rfl (by omega) (by decide) ?_
              refine g_iload (pc := 133) C dX4_takesOut_133 rfl ?_
              refine g_iaddN (pc := 135) C dX4_takesOut_135 ?_
              refine g_iastM (pc := 136) (ws2 := (mdV g a (sF mn yr gr kd pt wt mr) ks os sd sts kp (updN f3 p ((f3 p) + 0)) tp tn fr to vl wr bo so nm mv)) C dX4_takesOut_136 6 rfl rfl (by omega) (by decide) rfl ?_
              refine g_iload (pc := 137) C dX4_takesOut_137 rfl ?_
              refine g_iload (pc := 139) C dX4_takesOut_139 rfl ?_
              refine g_isubN (pc := 141) C dX4_takesOut_141 (by omega) ?_
              refine g_istore (pc := 142) (lv2 := [(0, .ref (a 0)), (1, .int (nI t)), (2, .int (nI (sumN gr 12))), (3, .int (nI w)), (4, .int (nI (x2 - 0))), (5, .int (nI p)), (6, .int (nI 0))]) C dX4_takesOut_142 (Nat.le_of_ble_eq_true rfl) rfl ?_
              refine g_iinc (pc := 144) (v := (nI (p + 1))) (lv2 := [(0, .ref (a 0)), (1, .int (nI t)), (2, .int (nI (sumN gr 12))), (3, .int (nI w)), (4, .int (nI (x2 - 0))), (5, .int (nI (p + 1))), (6, .int (nI 0))]) C dX4_takesOut_144 rfl (nI_1 _) (Nat.le_of_ble_eq_true rfl) rfl ?_
              refine g_goto (pc := 147) (tgt := 87) C dX4_takesOut_147 (by decide) ?_
              refine g_lvs (lv2 := [(0, .ref (a 0)), (1, .int (nI t)), (2, .int (nI (sumN gr 12))), (3, .int (nI w)), (4, .int (nI (x2 - 0))), (5, .int (nI (p + 1)))]) [0, 1, 2, 3, 4, 5] rfl ?_
              exact ih_p _ _ (by omega) ⟨by rw [Nat.sub_zero, leftN, ← hv_p.1, if_neg (fun q => by have := hv_p.2.2 p (Nat.le_refl p) (by omega); omega)], fun j hj => by
                by_cases e : j = p
                · rw [e, updN_s, Nat.add_zero, ladN, ← hv_p.1, hv_p.2.2 p (Nat.le_refl p) (by omega), if_neg (fun q => by have := hv_p.2.2 p (Nat.le_refl p) (by omega); omega)]
                · rw [updN_n e]
                  exact hv_p.2.1 j (by omega), fun j hj h12 => by
                rw [updN_n (by omega)]
                exact hv_p.2.2 j (by omega) h12⟩
            · refine g_iconst (pc := 118) (v := nI 1) C dX4_takesOut_118 (by decide) ?_
              refine g_goto (pc := 119) (tgt := 123) C dX4_takesOut_119 (by decide) ?_
              refine g_istore (pc := 123) (lv2 := [(0, .ref (a 0)), (1, .int (nI t)), (2, .int (nI (sumN gr 12))), (3, .int (nI w)), (4, .int (nI x2)), (5, .int (nI p)), (6, .int (nI 1))]) C dX4_takesOut_123 (Nat.le_of_ble_eq_true rfl) rfl ?_
              refine g_aload_n (pc := 125) C dX4_takesOut_125 rfl ?_
              refine g_get4 (pc := 126) C dX4_takesOut_126 0 rfl 6 (by decide) fl_X4_25 rfl ?_
              refine g_iload (pc := 129) C dX4_takesOut_129 rfl ?_
              refine g_dup2 (pc := 131) C dX4_takesOut_131 rfl rfl ?_
              refine g_ialdM (pc := 132) C dX4_takesOut_132 6 rfl rfl (by omega) (by decide) ?_
              refine g_iload (pc := 133) C dX4_takesOut_133 rfl ?_
              refine g_iaddN (pc := 135) C dX4_takesOut_135 ?_
              refine g_iastM (pc := 136) (ws2 := (mdV g a (sF mn yr gr kd pt wt mr) ks os sd sts kp (updN f3 p ((f3 p) + 1)) tp tn fr to vl wr bo so nm mv)) C dX4_takesOut_136 6 rfl rfl (by omega) (by decide) rfl ?_
              refine g_iload (pc := 137) C dX4_takesOut_137 rfl ?_
              refine g_iload (pc := 139) C dX4_takesOut_139 rfl ?_
              refine g_isubN (pc := 141) C dX4_takesOut_141 (by omega) ?_
              refine g_istore (pc := 142) (lv2 := [(0, .ref (a 0)), (1, .int (nI t)), (2, .int (nI (sumN gr 12))), (3, .int (nI w)), (4, .int (nI (x2 - 1))), (5, .int (nI p)), (6, .int (nI 1))]) C dX4_takesOut_142 (Nat.le_of_ble_eq_true rfl) rfl ?_
              refine g_iinc (pc := 144) (v := (nI (p + 1))) (lv2 := [(0, .ref (a 0)), (1, .int (nI t)), (2, .int (nI (sumN gr 12))), (3, .int (nI w)), (4, .int (nI (x2 - 1))), (5, .int (nI (p + 1))), (6, .int (nI 1))]) C dX4_takesOut_144 rfl (nI_1 _) (Nat.le_of_ble_eq_true rfl) rfl ?_
              refine g_goto (pc := 147) (tgt := 87) C dX4_takesOut_147 (by decide) ?_
              refine g_lvs (lv2 := [(0, .ref (a 0)), (1, .int (nI t)), (2, .int (nI (sumN gr 12))), (3, .int (nI w)), (4, .int (nI (x2 - 1))), (5, .int (nI (p + 1)))]) [0, 1, 2, 3, 4, 5] rfl ?_
              exact ih_p _ _ (by omega) ⟨by rw [leftN, ← hv_p.1, if_pos ⟨c15, by rw [← hv_p.2.2 p (Nat.le_refl p) c14]; exact c17⟩], fun j hj => by
                by_cases e : j = p
                · rw [e, updN_s, ladN, ← hv_p.1, hv_p.2.2 p (Nat.le_refl p) c14, if_pos ⟨c15, by rw [← hv_p.2.2 p (Nat.le_refl p) c14]; exact c17⟩]
                · rw [updN_n e]
                  exact hv_p.2.1 j (by omega), fun j hj h12 => by
                rw [updN_n (by omega)]
                exact hv_p.2.2 j (by omega) h12⟩
    · refine g_aload_n (pc := 29) C dX4_takesOut_29 rfl ?_
      refine g_get4 (pc := 30) C dX4_takesOut_30 0 rfl 6 (by decide) fl_X4_25 rfl ?_
      refine g_iload (pc := 33) C dX4_takesOut_33 rfl ?_
      refine g_iload_n (pc := 35) C dX4_takesOut_35 rfl ?_
      refine g_if_neN (pc := 36) (tgt := 43) C dX4_takesOut_36 (by decide) (by omega) (fun c18 => ?_) (fun c18 => ?_)
      · refine g_aload_n (pc := 43) C dX4_takesOut_43 rfl ?_
        refine g_get4 (pc := 44) C dX4_takesOut_44 0 rfl 0 (by decide) fl_X4_7 rfl ?_
        refine g_iconst (pc := 47) (v := nI 2) C dX4_takesOut_47 (by decide) ?_
        refine g_iload (pc := 48) C dX4_takesOut_48 rfl ?_
        refine g_iaddN (pc := 50) C dX4_takesOut_50 ?_
        refine g_ialdM (pc := 51) C dX4_takesOut_51 1 rfl rfl (by omega) (by decide) ?_
        refine g_top (congrArg nI (sF_rg (by omega))) ?_
        have b19 := hgr i
        refine g_i2l (pc := 52) C dX4_takesOut_52 ?_
        refine g_iload_n (pc := 53) C dX4_takesOut_53 rfl ?_
        refine g_i2l (pc := 54) C dX4_takesOut_54 ?_
        refine g_lmul (pc := 55) C dX4_takesOut_55 ?_
        refine g_iload_n (pc := 56) C dX4_takesOut_56 rfl ?_
        refine g_i2l (pc := 57) C dX4_takesOut_57 ?_
        refine g_ldiv (pc := 58) C dX4_takesOut_58 (by rw [nI_l (by omega)]; intro h; exact absurd ((pk_lEQ (by omega) (by decide)).mp (h.trans (show (0 : Int64) = lN 0 from rfl))) (by omega)) ?_
        refine g_l2i (pc := 59) C dX4_takesOut_59 ?_
        refine g_top (y := nI (gr i * w / sumN gr 12)) (mul_div64 (hgr i) hw2 (by omega) (by omega)) ?_
        refine g_iastM (pc := 60) (ws2 := (mdV g a (sF mn yr gr kd pt wt mr) ks os sd sts kp (updN f i (gr i * w / sumN gr 12)) tp tn fr to vl wr bo so nm mv)) C dX4_takesOut_60 6 rfl rfl (by omega) (by decide) rfl ?_
        refine g_iload (pc := 61) C dX4_takesOut_61 rfl ?_
        refine g_aload_n (pc := 63) C dX4_takesOut_63 rfl ?_
        refine g_get4 (pc := 64) C dX4_takesOut_64 0 rfl 6 (by decide) fl_X4_25 rfl ?_
        refine g_iload (pc := 67) C dX4_takesOut_67 rfl ?_
        refine g_ialdM (pc := 69) C dX4_takesOut_69 6 rfl rfl (by omega) (by decide) ?_
        refine g_top (y := nI (baseN gr (sumN gr 12) w i)) (by rw [updN_s]; first | rfl | (rw [baseN, c18, Nat.div_zero])) ?_
        refine g_isubN (pc := 70) C dX4_takesOut_70 (by have h9 := base_le (n := i + 1) hw rfl (by omega); rw [sumN] at h9; omega) ?_
        refine g_top (y := nI (w - sumN (baseN gr (sumN gr 12) w) (i + 1))) (by rw [Nat.sub_sub]; rfl) ?_
        refine g_istore (pc := 71) (lv2 := [(0, .ref (a 0)), (1, .int (nI t)), (2, .int (nI (sumN gr 12))), (3, .int (nI w)), (4, .int (nI (w - sumN (baseN gr (sumN gr 12) w) (i + 1)))), (5, .int (nI i))]) C dX4_takesOut_71 (Nat.le_of_ble_eq_true rfl) rfl ?_
        refine g_iinc (pc := 73) (v := (nI (i + 1))) (lv2 := [(0, .ref (a 0)), (1, .int (nI t)), (2, .int (nI (sumN gr 12))), (3, .int (nI w)), (4, .int (nI (w - sumN (baseN gr (sumN gr 12) w) (i + 1)))), (5, .int (nI (i + 1)))]) C dX4_takesOut_73 rfl (nI_1 _) (Nat.le_of_ble_eq_true rfl) rfl ?_
        refine g_goto (pc := 76) (tgt := 22) C dX4_takesOut_76 (by decide) ?_
        exact ih_i _ (by omega) (fun j hj => by
          by_cases e : j = i
          · rw [e, updN_s]
            first | rfl | (rw [baseN, c18, Nat.div_zero])
          · rw [updN_n e]
            exact hv_i j (by omega))
      · refine g_iconst (pc := 39) (v := nI 0) C dX4_takesOut_39 (by decide) ?_
        refine g_goto (pc := 40) (tgt := 60) C dX4_takesOut_40 (by decide) ?_
        refine g_iastM (pc := 60) (ws2 := (mdV g a (sF mn yr gr kd pt wt mr) ks os sd sts kp (updN f i 0) tp tn fr to vl wr bo so nm mv)) C dX4_takesOut_60 6 rfl rfl (by omega) (by decide) rfl ?_
        refine g_iload (pc := 61) C dX4_takesOut_61 rfl ?_
        refine g_aload_n (pc := 63) C dX4_takesOut_63 rfl ?_
        refine g_get4 (pc := 64) C dX4_takesOut_64 0 rfl 6 (by decide) fl_X4_25 rfl ?_
        refine g_iload (pc := 67) C dX4_takesOut_67 rfl ?_
        refine g_ialdM (pc := 69) C dX4_takesOut_69 6 rfl rfl (by omega) (by decide) ?_
        refine g_top (y := nI (baseN gr (sumN gr 12) w i)) (by rw [updN_s]; first | rfl | (rw [baseN, c18, Nat.div_zero])) ?_
        refine g_isubN (pc := 70) C dX4_takesOut_70 (by have h9 := base_le (n := i + 1) hw rfl (by omega); rw [sumN] at h9; omega) ?_
        refine g_top (y := nI (w - sumN (baseN gr (sumN gr 12) w) (i + 1))) (by rw [Nat.sub_sub]; rfl) ?_
        refine g_istore (pc := 71) (lv2 := [(0, .ref (a 0)), (1, .int (nI t)), (2, .int (nI (sumN gr 12))), (3, .int (nI w)), (4, .int (nI (w - sumN (baseN gr (sumN gr 12) w) (i + 1)))), (5, .int (nI i))]) C dX4_takesOut_71 (Nat.le_of_ble_eq_true rfl) rfl ?_
        refine g_iinc (pc := 73) (v := (nI (i + 1))) (lv2 := [(0, .ref (a 0)), (1, .int (nI t)), (2, .int (nI (sumN gr 12))), (3, .int (nI w)), (4, .int (nI (w - sumN (baseN gr (sumN gr 12) w) (i + 1)))), (5, .int (nI (i + 1)))]) C dX4_takesOut_73 rfl (nI_1 _) (Nat.le_of_ble_eq_true rfl) rfl ?_
        refine g_goto (pc := 76) (tgt := 22) C dX4_takesOut_76 (by decide) ?_
        exact ih_i _ (by omega) (fun j hj => by
          by_cases e : j = i
          · rw [e, updN_s]
            first | rfl | (rw [baseN, c18, Nat.div_zero])
          · rw [updN_n e]
            exact hv_i j (by omega))
