set_option maxHeartbeats 400000 in
set_option maxRecDepth 100000 in
theorem c_serve (g : Gl) (a : Nat → Nat) (gr : Nat → Nat) (la : Nat → Nat) (kd : Nat → Nat) (pt : Nat → Nat) (wt : Nat → Nat) (mr : Nat → Nat) (tt : Nat) (yr : Nat) (mn : Nat) (c : Nat) (hB : PB gr kd pt wt mr tt yr mn) (hc : c < 8) : Ct g yX0_serve cX0_serve 5 none (rk 3 62) [.ref (a 0), .int (nI c)] (potV g a gr la kd pt wt mr tt yr mn) (fun r w2 => r = none ∧ w2 = (potV g a (serveG kd pt wt mr gr tt yr c) (ladN gr tt (min (wantsN kd wt yr c) tt)) kd pt wt mr (sumN (serveG kd pt wt mr gr tt yr c) 12) yr mn)) := by
  refine ct_of (by decide) (Nat.le_of_ble_eq_true rfl) ?_
  intro φ C0 Rr
  have C : Cx φ g cX0_serve 5 RX0 (rk 3 62) := C0
  show Go φ g 5 0 [(0, .ref (a 0)), (1, .int (nI c))] [] (potV g a gr la kd pt wt mr tt yr mn)
  obtain ⟨hT, hTle, hgr, hkd, hpt, hwt, hmr, hyr, hmn⟩ := id hB
  have hw : min (wantsN kd wt yr c) tt ≤ tt := Nat.min_le_right _ _
  have hw2 := wantsN_le (kd := kd) (yr := yr) (hwt c)
  have hmm : min (min (wantsN kd wt yr c) tt) tt = min (wantsN kd wt yr c) tt := Nat.min_eq_left hw
  have hpu := putsN_le (kd := kd) (t := min (wantsN kd wt yr c) tt) (hmr c)
  have hwl := whatN_lt (kd := kd) (tt := tt) (yr := yr) (hpt c)
  refine g_aload_n (pc := 0) C dX0_serve_0 rfl ?_
  refine g_iload_n (pc := 1) C dX0_serve_1 rfl ?_
  refine g_vxi (pc := 2) (ws2 := (potV g a gr la kd pt wt mr tt yr mn)) C dX0_serve_2 ml_X0_74 mf_X0_partPutBy (c_partPutBy g a gr la kd pt wt mr tt yr mn c hB (by omega)) ⟨rfl, rfl, (Nat.le_of_ble_eq_true rfl), (Nat.le_of_ble_eq_true rfl)⟩ rfl rfl (Nat.le_of_ble_eq_true rfl) 0 rfl rfl rfl [0, 1, 2, 3, 4, 5, 6] [] [0, 1, 2, 3, 4, 5, 6] rfl rfl rfl rfl (by decide) rfl rfl ?_
  refine g_istore_n (pc := 5) (lv2 := [(0, .ref (a 0)), (1, .int (nI c)), (2, .int (nI (whatN kd pt tt yr c)))]) C dX0_serve_5 rfl (Nat.le_of_ble_eq_true rfl) rfl ?_
  refine g_aload_n (pc := 6) C dX0_serve_6 rfl ?_
  refine g_aload_n (pc := 7) C dX0_serve_7 rfl ?_
  refine g_iload_n (pc := 8) C dX0_serve_8 rfl ?_
  refine g_vxi (pc := 9) (ws2 := (potV g a gr la kd pt wt mr tt yr mn)) C dX0_serve_9 ml_X0_77 mf_X0_takesBy (c_takesBy g a gr la kd pt wt mr tt yr mn c hB (by omega)) ⟨rfl, rfl, (Nat.le_of_ble_eq_true rfl), (Nat.le_of_ble_eq_true rfl)⟩ rfl rfl (Nat.le_of_ble_eq_true rfl) 0 rfl rfl rfl [0, 1, 2, 3, 4, 5, 6] [] [0, 1, 2, 3, 4, 5, 6] rfl rfl rfl rfl (by decide) rfl rfl ?_
  refine g_vxi (pc := 12) (ws2 := (potV g a (takeG gr tt (min (min (wantsN kd wt yr c) tt) tt)) (ladN gr tt (min (min (wantsN kd wt yr c) tt) tt)) kd pt wt mr (tt - min (min (wantsN kd wt yr c) tt) tt) yr mn)) C dX0_serve_12 ml_X0_80 mf_X0_takeOut (c_takeOut g a gr la kd pt wt mr tt yr mn (min (wantsN kd wt yr c) tt) hB (by omega)) ⟨rfl, rfl, (Nat.le_of_ble_eq_true rfl), (Nat.le_of_ble_eq_true rfl)⟩ rfl rfl (Nat.le_of_ble_eq_true rfl) 0 rfl rfl rfl [0, 1, 2, 3, 4, 5, 6] [] [0, 1, 2, 3, 4, 5, 6] rfl rfl rfl rfl (by decide) rfl rfl ?_
  rw [hmm]
  refine g_istore_n (pc := 15) (lv2 := [(0, .ref (a 0)), (1, .int (nI c)), (2, .int (nI (whatN kd pt tt yr c))), (3, .int (nI (min (wantsN kd wt yr c) tt)))]) C dX0_serve_15 rfl (Nat.le_of_ble_eq_true rfl) rfl ?_
  refine g_aload_n (pc := 16) C dX0_serve_16 rfl ?_
  refine g_iload_n (pc := 17) C dX0_serve_17 rfl ?_
  refine g_iload_n (pc := 18) C dX0_serve_18 rfl ?_
  refine g_vxi (pc := 19) (ws2 := (potV g a (takeG gr tt (min (wantsN kd wt yr c) tt)) (ladN gr tt (min (wantsN kd wt yr c) tt)) kd pt wt mr (tt - min (wantsN kd wt yr c) tt) yr mn)) C dX0_serve_19 ml_X0_83 mf_X0_putsBy (c_putsBy g a (takeG gr tt (min (wantsN kd wt yr c) tt)) (ladN gr tt (min (wantsN kd wt yr c) tt)) kd pt wt mr (tt - min (wantsN kd wt yr c) tt) yr mn c (min (wantsN kd wt yr c) tt) (PB_take hB hw) (by omega) (by omega)) ⟨rfl, rfl, (Nat.le_of_ble_eq_true rfl), (Nat.le_of_ble_eq_true rfl)⟩ rfl rfl (Nat.le_of_ble_eq_true rfl) 0 rfl rfl rfl [0, 1, 2, 3, 4, 5, 6] [] [0, 1, 2, 3, 4, 5, 6] rfl rfl rfl rfl (by decide) rfl rfl ?_
  refine g_ldc (pc := 22) (v2 := nI 99999) C dX0_serve_22 ck_X0_46 (by decide) ?_
  refine g_aload_n (pc := 24) C dX0_serve_24 rfl ?_
  refine g_get0 (pc := 25) C dX0_serve_25 0 rfl 6 (by decide) fl_X0_30 rfl ?_
  refine g_isubN (pc := 28) C dX0_serve_28 (by omega) ?_
  refine g_mminN (pc := 29) C dX0_serve_29 ml_X0_51 (Nat.le_of_ble_eq_true rfl) (Nat.le_of_ble_eq_true rfl) (by omega) (by omega) ?_
  refine g_istore (pc := 32) (lv2 := [(0, .ref (a 0)), (1, .int (nI c)), (2, .int (nI (whatN kd pt tt yr c))), (3, .int (nI (min (wantsN kd wt yr c) tt))), (4, .int (nI (min (putsN kd mr c (min (wantsN kd wt yr c) tt)) (99999 - (tt - min (wantsN kd wt yr c) tt)))))]) C dX0_serve_32 (Nat.le_of_ble_eq_true rfl) rfl ?_
  refine g_aload_n (pc := 34) C dX0_serve_34 rfl ?_
  refine g_iload_n (pc := 35) C dX0_serve_35 rfl ?_
  refine g_aload_n (pc := 36) C dX0_serve_36 rfl ?_
  refine g_get0 (pc := 37) C dX0_serve_37 0 rfl 0 (by decide) fl_X0_9 rfl ?_
  refine g_iload_n (pc := 40) C dX0_serve_40 rfl ?_
  refine g_ialdM (pc := 41) C dX0_serve_41 1 rfl rfl (by omega) (by decide) ?_
  refine g_iload (pc := 42) C dX0_serve_42 rfl ?_
  refine g_iaddN (pc := 44) C dX0_serve_44 ?_
  refine g_vxn (pc := 45) (ws2 := (potV g a (updN (takeG gr tt (min (wantsN kd wt yr c) tt)) (whatN kd pt tt yr c) (((takeG gr tt (min (wantsN kd wt yr c) tt)) (whatN kd pt tt yr c)) + (min (putsN kd mr c (min (wantsN kd wt yr c) tt)) (99999 - (tt - min (wantsN kd wt yr c) tt))))) (ladN gr tt (min (wantsN kd wt yr c) tt)) kd pt wt mr ((tt - min (wantsN kd wt yr c) tt) - (takeG gr tt (min (wantsN kd wt yr c) tt)) (whatN kd pt tt yr c) + (((takeG gr tt (min (wantsN kd wt yr c) tt)) (whatN kd pt tt yr c)) + (min (putsN kd mr c (min (wantsN kd wt yr c) tt)) (99999 - (tt - min (wantsN kd wt yr c) tt))))) yr mn)) C dX0_serve_45 ml_X0_86 mf_X0_fill (c_fill g a (takeG gr tt (min (wantsN kd wt yr c) tt)) (ladN gr tt (min (wantsN kd wt yr c) tt)) kd pt wt mr (tt - min (wantsN kd wt yr c) tt) yr mn (whatN kd pt tt yr c) (((takeG gr tt (min (wantsN kd wt yr c) tt)) (whatN kd pt tt yr c)) + (min (putsN kd mr c (min (wantsN kd wt yr c) tt)) (99999 - (tt - min (wantsN kd wt yr c) tt)))) (PB_take hB hw) (by omega)) ⟨rfl, rfl, (Nat.le_of_ble_eq_true rfl), (Nat.le_of_ble_eq_true rfl)⟩ rfl rfl (Nat.le_of_ble_eq_true rfl) 0 rfl rfl rfl [0, 1, 2, 3, 4, 5, 6] [] [0, 1, 2, 3, 4, 5, 6] rfl rfl rfl rfl (by decide) rfl rfl ?_
  exact g_vret C Rr dX0_serve_48 ⟨rfl, by rw [serve_sum hB]; unfold serveG; congr 1; have := (PB_take hB hw).2.2.1 (whatN kd pt tt yr c); have := sumN_ge (takeG gr tt (min (wantsN kd wt yr c) tt)) hwl; have := (PB_take hB hw).1; omega⟩ rfl
set_option maxHeartbeats 400000 in
set_option maxRecDepth 100000 in
theorem c_goOn (g : Gl) (a : Nat → Nat) (gr : Nat → Nat) (la : Nat → Nat) (kd : Nat → Nat) (pt : Nat → Nat) (wt : Nat → Nat) (mr : Nat → Nat) (yr : Nat) (mn : Nat) (n : Nat) (hB : PB gr kd pt wt mr (sumN gr 12) yr mn) (hn : yr + n ≤ 20000) : Ct g yX0_goOn cX0_goOn 3 none (rk 4 86) [.ref (a 0), .int (nI n)] (potV g a gr la kd pt wt mr (sumN gr 12) yr mn) (fun r w2 => ∃ (f : Nat → Nat), r = none ∧ w2 = (potV g a (yearsG kd pt wt mr mn gr yr n) f kd pt wt mr (sumN (yearsG kd pt wt mr mn gr yr n) 12) (yr + n) mn)) := by
  refine ct_of (by decide) (Nat.le_of_ble_eq_true rfl) ?_
  intro φ C0 Rr
  have C : Cx φ g cX0_goOn 3 RX0 (rk 4 86) := C0
  show Go φ g 3 0 [(0, .ref (a 0)), (1, .int (nI n))] [] (potV g a gr la kd pt wt mr (sumN gr 12) yr mn)
  have hmn : mn ≤ 8 := hB.2.2.2.2.2.2.2.2
  refine g_iconst (pc := 0) (v := nI 0) C dX0_goOn_0 (by decide) ?_
  refine g_istore_n (pc := 1) (lv2 := [(0, .ref (a 0)), (1, .int (nI n)), (2, .int (nI 0))]) C dX0_goOn_1 rfl (Nat.le_of_ble_eq_true rfl) rfl ?_
  refine g_loop2 (n := n) (fun i G f => G = yearsG kd pt wt mr mn gr yr i) (fun i G f => [(0, .ref (a 0)), (1, .int (nI n)), (2, .int (nI i))]) (fun i G f => (potV g a G f kd pt wt mr (sumN G 12) (yr + i) mn)) ?_ 0 gr la (by omega) rfl
  intro i G f hi_i hv_i ih_i
  show Go φ g 3 2 [(0, .ref (a 0)), (1, .int (nI n)), (2, .int (nI i))] [] (potV g a G f kd pt wt mr (sumN G 12) (yr + i) mn)
  have hv_i : G = yearsG kd pt wt mr mn gr yr i := hv_i
  have hBi : PB G kd pt wt mr (sumN G 12) (yr + i) mn := by rw [hv_i]; exact PB_yrs hB i (by omega)
  refine g_iload_n (pc := 2) C dX0_goOn_2 rfl ?_
  refine g_iload_n (pc := 3) C dX0_goOn_3 rfl ?_
  refine g_icmp_geN (pc := 4) (tgt := 43) C dX0_goOn_4 (by decide) (by omega) (by omega) (fun c1 => ?_) (fun c1 => ?_)
  · exact g_vret C Rr dX0_goOn_43 ⟨_, rfl, by rw [hv_i, show i = n by omega]⟩ rfl
  · refine g_aload_n (pc := 7) C dX0_goOn_7 rfl ?_
    refine g_get0 (pc := 8) C dX0_goOn_8 0 rfl 8 (by decide) fl_X0_43 rfl ?_
    refine g_if_leN (pc := 11) (tgt := 27) C dX0_goOn_11 (by decide) (by omega) (fun c2 => ?_) (fun c2 => ?_)
    · refine g_aload_n (pc := 27) C dX0_goOn_27 rfl ?_
      refine g_dup (pc := 28) C dX0_goOn_28 rfl ?_
      refine g_get0 (pc := 29) C dX0_goOn_29 0 rfl 7 (by decide) fl_X0_40 rfl ?_
      refine g_iconst (pc := 32) (v := nI 1) C dX0_goOn_32 (by decide) ?_
      refine g_iaddN (pc := 33) C dX0_goOn_33 ?_
      refine g_put0 (pc := 34) (ws2 := (potV g a G f kd pt wt mr (sumN G 12) ((yr + i) + 1) mn)) C dX0_goOn_34 0 rfl 7 (by decide) fl_X0_40 rfl rfl rfl (Nat.le_of_ble_eq_true rfl) rfl ?_
      refine g_iinc (pc := 37) (v := (nI (i + 1))) (lv2 := [(0, .ref (a 0)), (1, .int (nI n)), (2, .int (nI (i + 1)))]) C dX0_goOn_37 rfl (nI_1 _) (Nat.le_of_ble_eq_true rfl) rfl ?_
      refine g_goto (pc := 40) (tgt := 2) C dX0_goOn_40 (by decide) ?_
      exact ih_i _ _ (by omega) (by rw [yearsG, ← hv_i, yearG, if_pos c2])
    · refine g_aload_n (pc := 14) C dX0_goOn_14 rfl ?_
      refine g_aload_n (pc := 15) C dX0_goOn_15 rfl ?_
      refine g_get0 (pc := 16) C dX0_goOn_16 0 rfl 7 (by decide) fl_X0_40 rfl ?_
      refine g_aload_n (pc := 19) C dX0_goOn_19 rfl ?_
      refine g_get0 (pc := 20) C dX0_goOn_20 0 rfl 8 (by decide) fl_X0_43 rfl ?_
      refine g_iremN (pc := 23) C dX0_goOn_23 (by omega) (by omega) (by omega) ?_
      refine g_vxn (pc := 24) (ws2 := (potV g a (serveG kd pt wt mr G (sumN G 12) (yr + i) ((yr + i) % mn)) (ladN G (sumN G 12) (min (wantsN kd wt (yr + i) ((yr + i) % mn)) (sumN G 12))) kd pt wt mr (sumN (serveG kd pt wt mr G (sumN G 12) (yr + i) ((yr + i) % mn)) 12) (yr + i) mn)) C dX0_goOn_24 ml_X0_70 mf_X0_serve (c_serve g a G f kd pt wt mr (sumN G 12) (yr + i) mn ((yr + i) % mn) hBi (by have := Nat.mod_lt (yr + i) (show 0 < mn by omega); omega)) ⟨rfl, rfl, (Nat.le_of_ble_eq_true rfl), (Nat.le_of_ble_eq_true rfl)⟩ rfl rfl (Nat.le_of_ble_eq_true rfl) 0 rfl rfl rfl [0, 1, 2, 3, 4, 5, 6] [] [0, 1, 2, 3, 4, 5, 6] rfl rfl rfl rfl (by decide) rfl rfl ?_
      refine g_aload_n (pc := 27) C dX0_goOn_27 rfl ?_
      refine g_dup (pc := 28) C dX0_goOn_28 rfl ?_
      refine g_get0 (pc := 29) C dX0_goOn_29 0 rfl 7 (by decide) fl_X0_40 rfl ?_
      refine g_iconst (pc := 32) (v := nI 1) C dX0_goOn_32 (by decide) ?_
      refine g_iaddN (pc := 33) C dX0_goOn_33 ?_
      refine g_put0 (pc := 34) (ws2 := (potV g a (serveG kd pt wt mr G (sumN G 12) (yr + i) ((yr + i) % mn)) (ladN G (sumN G 12) (min (wantsN kd wt (yr + i) ((yr + i) % mn)) (sumN G 12))) kd pt wt mr (sumN (serveG kd pt wt mr G (sumN G 12) (yr + i) ((yr + i) % mn)) 12) ((yr + i) + 1) mn)) C dX0_goOn_34 0 rfl 7 (by decide) fl_X0_40 rfl rfl rfl (Nat.le_of_ble_eq_true rfl) rfl ?_
      refine g_iinc (pc := 37) (v := (nI (i + 1))) (lv2 := [(0, .ref (a 0)), (1, .int (nI n)), (2, .int (nI (i + 1)))]) C dX0_goOn_37 rfl (nI_1 _) (Nat.le_of_ble_eq_true rfl) rfl ?_
      refine g_goto (pc := 40) (tgt := 2) C dX0_goOn_40 (by decide) ?_
      exact ih_i _ _ (by omega) (by rw [yearsG, ← hv_i, yearG, if_neg (by omega)])
