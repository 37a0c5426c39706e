def wrtB (N : Nat → Int64) (t : Nat → Nat) : Nat → Bool
  | 0 => true
  | k + 1 => wrtB N t k && (N k == (nI (t k)).toInt64)
theorem wrt_no {N : Nat → Int64} {t : Nat → Nat} {i : Nat} : ∀ {m : Nat}, i < m → ¬ (nI (t i)).toInt64 = N i → ¬ wrtB N t m = true
  | 0, h, _ => absurd h (Nat.not_lt_zero i)
  | m + 1, h, hn => by
    rw [wrtB, Bool.and_eq_true, beq_iff_eq]
    rintro ⟨h1, h2⟩
    rcases Nat.lt_or_ge i m with q | q
    · exact wrt_no q hn h1
    · rw [show i = m by omega] at hn
      exact hn h2.symm
def ctB (P : Nat → Bool) : Nat → Nat
  | 0 => 0
  | k + 1 => ctB P k + if P k = true then 1 else 0
theorem cntL_ex (P : Nat → Bool) (n : Nat) : ∃ m, m = ctB P n := ⟨_, rfl⟩
noncomputable def cntL (P : Nat → Bool) (n : Nat) : Nat := Classical.choose (cntL_ex P n)
theorem cntL_eq (P : Nat → Bool) (n : Nat) : cntL P n = ctB P n := Classical.choose_spec (cntL_ex P n)
def rdP (N : Nat → Int64) (z : Nat) (kd pt wt mr : Nat → Nat) (mn : Nat) (gr : Nat → Nat) (yr c p : Nat) : Nat → Bool := fun q => wrtB N (tstF (updN kd c (min (q / 12) 5)) (updN pt c (q % 12)) wt mr mn gr yr p) z
theorem rdP_at {N : Nat → Int64} {z : Nat} {kd pt wt mr : Nat → Nat} {mn : Nat} {gr : Nat → Nat} {yr c p i j : Nat} (hi : i < 6) (hj : j < 12) : rdP N z kd pt wt mr mn gr yr c p (12 * i + j) = wrtB N (tstF (updN kd c i) (updN pt c j) wt mr mn gr yr p) z := by
  rw [rdP, show (12 * i + j) / 12 = i by omega, show (12 * i + j) % 12 = j by omega, Nat.min_eq_left (by omega)]
noncomputable def f_read (X : Xs) (s p c : Int32) : Int32 × Xs := match X with
  | ((mn, yr, gr, kd, pt, wt, mr), _, _, (wd, sz, nm), _) =>
    if inR s 0 3 then if wd (ix s) = 0 then fnd X 5 else if inR p 0 11 && inR c 0 ((mn : Int) - 1) then (nI (cntL (rdP (nm (ix s)) (sz (ix s)) kd pt wt mr mn gr yr (ix c) (ix p)) 72), X) else fnd X 0 else fnd X 0
set_option maxHeartbeats 400000 in
set_option maxRecDepth 100000 in
theorem c_asWritten (g : Gl) (ao : Nat → Nat) (ap : Nat → Nat) (ak : Nat → Nat) (at' : Nat → Nat) (au : Nat → Nat) (ae : Nat → Nat) (ay : Nat → Nat) (kp : Nat) (gr : Nat → Nat) (la : Nat → Nat) (kd : Nat → Nat) (pt : Nat → Nat) (wt : Nat → Nat) (mr : Nat → Nat) (yr : Nat) (mn : Nat) (a0 : Nat → Nat) (N : Nat → Int64) (wd : Nat) (sz : Nat) (p : Nat) (hB : PB gr kd pt wt mr (sumN gr 12) yr mn) (hz : sz ≤ 40) (hy : yr ≤ 9999) (hp : p < 12) : Ct g yX3_tastesAsWritten cX3_tastesAsWritten 4 (some .boolean) (rk 5 108) [.ref (ao 0), .ref (a0 0), .int (nI p)] (fl [spO g ao ap ak at' au ae ay kp, potV g at' gr la kd pt wt mr (sumN gr 12) yr mn, shV g a0 N wd sz]) (fun r w2 => ∃ (f : Nat → Nat) (k : Nat), r = some (.int (bI (wrtB N (tstF kd pt wt mr mn gr yr p) sz = true))) ∧ w2 = (fl [spO g ao ap ak at' au ae ay kp, potV g at' (yearsG kd pt wt mr mn gr yr k) f kd pt wt mr (sumN (yearsG kd pt wt mr mn gr yr k) 12) (yr + k) mn, shV g a0 N wd sz])) := by
  refine ct_of (by decide) (Nat.le_of_ble_eq_true rfl) ?_
  intro φ C0 Rr
  have C : Cx φ g cX3_tastesAsWritten 4 RX3 (rk 5 108) := C0
  show Go φ g 4 0 [(0, .ref (ao 0)), (1, .ref (a0 0)), (2, .int (nI p))] [] (fl [spO g ao ap ak at' au ae ay kp, potV g at' gr la kd pt wt mr (sumN gr 12) yr mn, shV g a0 N wd sz])
  refine g_iconst (pc := 0) (v := nI 0) C dX3_tastesAsWritten_0 (by decide) ?_
  refine g_istore_n (pc := 1) (lv2 := [(0, .ref (ao 0)), (1, .ref (a0 0)), (2, .int (nI p)), (3, .int (nI 0))]) C dX3_tastesAsWritten_1 rfl (Nat.le_of_ble_eq_true rfl) rfl ?_
  refine g_loop2 (n := sz) (fun (i : Nat) (G : Nat → Nat) (f : Nat → Nat) => G = yearsG kd pt wt mr mn gr yr i ∧ wrtB N (tstF kd pt wt mr mn gr yr p) i = true) (fun (i : Nat) (G : Nat → Nat) (f : Nat → Nat) => [(0, .ref (ao 0)), (1, .ref (a0 0)), (2, .int (nI p)), (3, .int (nI i))]) (fun (i : Nat) (G : Nat → Nat) (f : Nat → Nat) => (fl [spO g ao ap ak at' au ae ay kp, potV g at' G f kd pt wt mr (sumN G 12) (yr + i) mn, shV g a0 N wd sz])) ?_ 0 gr la (by omega) ⟨rfl, rfl⟩
  intro i G f hi_i hv_i ih_i
  show Go φ g 4 2 [(0, .ref (ao 0)), (1, .ref (a0 0)), (2, .int (nI p)), (3, .int (nI i))] [] (fl [spO g ao ap ak at' au ae ay kp, potV g at' G f kd pt wt mr (sumN G 12) (yr + i) mn, shV g a0 N wd sz])
  have hv_i : G = yearsG kd pt wt mr mn gr yr i ∧ wrtB N (tstF kd pt wt mr mn gr yr p) i = true := hv_i
  have hBi : PB G kd pt wt mr (sumN G 12) (yr + i) mn := by rw [hv_i.1]; exact PB_yrs hB i (by omega)
  refine g_iload_n (pc := 2) C dX3_tastesAsWritten_2 rfl ?_
  refine g_aload_n (pc := 3) C dX3_tastesAsWritten_3 rfl ?_
  refine g_get1 (pc := 4) C dX3_tastesAsWritten_4 8 rfl 2 (by decide) fl_X3_181 rfl ?_
  refine g_icmp_geN (pc := 7) (tgt := 45) C dX3_tastesAsWritten_7 (by decide) (by omega) (by omega) (fun c1 => ?_) (fun c1 => ?_)
  · refine g_iconst (pc := 45) (v := nI 1) C dX3_tastesAsWritten_45 (by decide) ?_
    exact g_zret C Rr dX3_tastesAsWritten_46 (by first | rfl | decide) ⟨f, i, by rw [bI_t (by rw [show sz = i by omega]; exact hv_i.2)], by rw [hv_i.1]⟩ rfl
  · refine g_aload_n (pc := 10) C dX3_tastesAsWritten_10 rfl ?_
    refine g_get3 (pc := 11) C dX3_tastesAsWritten_11 0 rfl 2 (by decide) fl_X3_19 rfl ?_
    refine g_iload_n (pc := 14) C dX3_tastesAsWritten_14 rfl ?_
    refine g_bxi (pc := 15) (cs := [potV g at' G f kd pt wt mr (sumN G 12) (yr + i) mn]) (ds := [potV g at' G f kd pt wt mr (sumN G 12) (yr + i) mn]) (bs2 := [spO g ao ap ak at' au ae ay kp, potV g at' G f kd pt wt mr (sumN G 12) (yr + i) mn, shV g a0 N wd sz]) C dX3_tastesAsWritten_15 ml_X3_64 mf_X0_tasteOf (c_tasteOf g at' G f kd pt wt mr (sumN G 12) (yr + i) mn p hBi (by omega)) ⟨rfl, rfl, (Nat.le_of_ble_eq_true rfl), (Nat.le_of_ble_eq_true rfl)⟩ rfl rfl (Nat.le_of_ble_eq_true rfl) (fl1 _) (fl1 _) 0 rfl rfl rfl [1] rfl rfl rfl rfl ?_
    refine g_i2l (pc := 18) C dX3_tastesAsWritten_18 ?_
    refine g_aload_n (pc := 19) C dX3_tastesAsWritten_19 rfl ?_
    refine g_get1 (pc := 20) C dX3_tastesAsWritten_20 8 rfl 0 (by decide) fl_X3_187 rfl ?_
    refine g_iload_n (pc := 23) C dX3_tastesAsWritten_23 rfl ?_
    refine g_laldN (pc := 24) C dX3_tastesAsWritten_24 9 rfl rfl (by omega) (by decide) ?_
    refine g_lcmp (pc := 25) C dX3_tastesAsWritten_25 ?_
    refine g_if_eqL (pc := 26) (tgt := 31) C dX3_tastesAsWritten_26 (by decide) (fun c2 => ?_) (fun c2 => ?_)
    · refine g_aload_n (pc := 31) C dX3_tastesAsWritten_31 rfl ?_
      refine g_get3 (pc := 32) C dX3_tastesAsWritten_32 0 rfl 2 (by decide) fl_X3_19 rfl ?_
      refine g_iconst (pc := 35) (v := nI 1) C dX3_tastesAsWritten_35 (by decide) ?_
      refine g_bV (pc := 36) (cs := [potV g at' G f kd pt wt mr (sumN G 12) (yr + i) mn]) (rest := []) C dX3_tastesAsWritten_36 ml_X3_125 mf_X0_goOn (c_goOn g at' G f kd pt wt mr (yr + i) mn 1 hBi (by omega)) ⟨rfl, rfl, (Nat.le_of_ble_eq_true rfl), (Nat.le_of_ble_eq_true rfl)⟩ rfl rfl (Nat.le_of_ble_eq_true rfl) (fl1 _) 0 rfl rfl rfl [1] rfl rfl ?_
      intro r9 w9 h9
      obtain ⟨f_3, rfl, rfl⟩ := h9
      refine ⟨[potV g at' (yearsG kd pt wt mr mn G (yr + i) 1) f_3 kd pt wt mr (sumN (yearsG kd pt wt mr mn G (yr + i) 1) 12) ((yr + i) + 1) mn], (fl1 _), rfl, ?_⟩
      show Go φ g 4 39 [(0, .ref (ao 0)), (1, .ref (a0 0)), (2, .int (nI p)), (3, .int (nI i))] [] (fl [spO g ao ap ak at' au ae ay kp, potV g at' (yearsG kd pt wt mr mn G (yr + i) 1) f_3 kd pt wt mr (sumN (yearsG kd pt wt mr mn G (yr + i) 1) 12) ((yr + i) + 1) mn, shV g a0 N wd sz])
      refine g_iinc (pc := 39) (v := (nI (i + 1))) (lv2 := [(0, .ref (ao 0)), (1, .ref (a0 0)), (2, .int (nI p)), (3, .int (nI (i + 1)))]) C dX3_tastesAsWritten_39 rfl (nI_1 _) (Nat.le_of_ble_eq_true rfl) rfl ?_
      refine g_goto (pc := 42) (tgt := 2) C dX3_tastesAsWritten_42 (by decide) ?_
      exact ih_i _ _ (by omega) ⟨by rw [hv_i.1]; rfl, by rw [wrtB, hv_i.2, tstF, ← hv_i.1, c2, beq_self_eq_true]; rfl⟩
    · refine g_iconst (pc := 29) (v := nI 0) C dX3_tastesAsWritten_29 (by decide) ?_
      exact g_zret C Rr dX3_tastesAsWritten_30 (by first | rfl | decide) ⟨f, i, by rw [bI_f (wrt_no (i := i) (by omega) (by rw [tstF, ← hv_i.1]; exact (fun q => c2 q)))], by rw [hv_i.1]⟩ rfl
set_option maxHeartbeats 400000 in
set_option maxRecDepth 100000 in
theorem m_isBook (g : Gl) (a : Nat → Nat) (ks : Nat → Nat) (os : Nat → Nat) (sd : Nat → Nat) (sts : Nat → Nat) (kp : Nat) (tk : Nat → Nat) (tp : Nat → Nat) (tn : Nat) (fr : Nat) (to : Nat) (vl : Nat) (wr : Nat) (bo : Nat → Nat) (so : Nat → Nat) (mv : Nat → Int64) (mn : Nat) (yr : Nat) (gr : Nat → Nat) (kd : Nat → Nat) (pt : Nat → Nat) (wt : Nat → Nat) (mr : Nat → Nat) (nm : Nat → Nat → Int64) (q : Nat) (p : Nat) (hB : PB gr kd pt wt mr (sumN gr 12) yr mn) (hz : so q ≤ 40) (hy : yr ≤ 9999) (hq : q ≤ 3) (hp : p < 12) : Ct g yX4_isBook cX4_isBook 4 (some .boolean) (rk 4 91) [.ref (a 0), .int (nI q), .int (nI p)] (mdV g a (sF mn yr gr kd pt wt mr) ks os sd sts kp tk tp tn fr to vl wr bo so (flat nm) mv) (fun r w2 => ∃ (f : Nat → Nat) (k : Nat), r = some (.int (bI (wrtB (nm q) (tstF kd pt wt mr mn gr yr p) (so q) = true))) ∧ w2 = (mdV g a (sF mn (yr + k) (yearsG kd pt wt mr mn gr yr k) kd pt wt mr) ks os sd sts kp f tp tn fr to vl wr bo so (flat nm) mv)) := by
  refine ct_of (by decide) (Nat.le_of_ble_eq_true rfl) ?_
  intro φ C0 Rr
  have C : Cx φ g cX4_isBook 4 RX4 (rk 4 91) := C0
  show Go φ g 4 0 [(0, .ref (a 0)), (1, .int (nI q)), (2, .int (nI p))] [] (mdV g a (sF mn yr gr kd pt wt mr) ks os sd sts kp tk tp tn fr to vl wr bo so (flat nm) mv)
  obtain ⟨-, hTle, hgr, hkd, hpt, hwt, hmr, hyr, hmn⟩ := id hB
  refine g_iconst (pc := 0) (v := nI 0) C dX4_isBook_0 (by decide) ?_
  refine g_istore_n (pc := 1) (lv2 := [(0, .ref (a 0)), (1, .int (nI q)), (2, .int (nI p)), (3, .int (nI 0))]) C dX4_isBook_1 rfl (Nat.le_of_ble_eq_true rfl) rfl ?_
  refine g_loop2 (n := (so q)) (fun (i : Nat) (G : Nat → Nat) (f : Nat → Nat) => G = yearsG kd pt wt mr mn gr yr i ∧ wrtB (nm q) (tstF kd pt wt mr mn gr yr p) i = true) (fun (i : Nat) (G : Nat → Nat) (f : Nat → Nat) => [(0, .ref (a 0)), (1, .int (nI q)), (2, .int (nI p)), (3, .int (nI i))]) (fun (i : Nat) (G : Nat → Nat) (f : Nat → Nat) => (mdV g a (sF mn (yr + i) G kd pt wt mr) ks os sd sts kp f tp tn fr to vl wr bo so (flat nm) mv)) ?_ 0 gr tk (by omega) ⟨rfl, rfl⟩
  intro i G f hi_i hv_i ih_i
  show Go φ g 4 2 [(0, .ref (a 0)), (1, .int (nI q)), (2, .int (nI p)), (3, .int (nI i))] [] (mdV g a (sF mn (yr + i) G kd pt wt mr) ks os sd sts kp f tp tn fr to vl wr bo so (flat nm) mv)
  have hv_i : G = yearsG kd pt wt mr mn gr yr i ∧ wrtB (nm q) (tstF kd pt wt mr mn gr yr p) i = true := hv_i
  have hBi : PB G kd pt wt mr (sumN G 12) (yr + i) mn := by rw [hv_i.1]; exact PB_yrs hB i (by omega)
  refine g_iload_n (pc := 2) C dX4_isBook_2 rfl ?_
  refine g_aload_n (pc := 3) C dX4_isBook_3 rfl ?_
  refine g_get4 (pc := 4) C dX4_isBook_4 0 rfl 14 (by decide) fl_X4_34 rfl ?_
  refine g_iload_n (pc := 7) C dX4_isBook_7 rfl ?_
  refine g_ialdM (pc := 8) C dX4_isBook_8 9 rfl rfl (by omega) (by decide) ?_
  refine g_icmp_geN (pc := 9) (tgt := 45) C dX4_isBook_9 (by decide) (by omega) (by omega) (fun c1 => ?_) (fun c1 => ?_)
  · refine g_iconst (pc := 45) (v := nI 1) C dX4_isBook_45 (by decide) ?_
    exact g_zret C Rr dX4_isBook_46 (by first | rfl | decide) ⟨f, i, by rw [bI_t (by rw [show so q = i by omega]; exact hv_i.2)], by rw [hv_i.1]⟩ rfl
  · refine g_aload_n (pc := 12) C dX4_isBook_12 rfl ?_
    refine g_get4 (pc := 13) C dX4_isBook_13 0 rfl 15 (by decide) fl_X4_37 rfl ?_
    refine g_bipush (pc := 16) (v := nI 40) C dX4_isBook_16 (by decide) ?_
    refine g_iload_n (pc := 18) C dX4_isBook_18 rfl ?_
    refine g_imulN (pc := 19) C dX4_isBook_19 ?_
    refine g_iload_n (pc := 20) C dX4_isBook_20 rfl ?_
    refine g_iaddN (pc := 21) C dX4_isBook_21 ?_
    refine g_laldN (pc := 22) C dX4_isBook_22 10 rfl rfl (by omega) (by decide) ?_
    refine g_topL (y := (nm q i)) (flat_at (by omega)) ?_
    refine g_aload_n (pc := 23) C dX4_isBook_23 rfl ?_
    refine g_iload_n (pc := 24) C dX4_isBook_24 rfl ?_
    refine g_vxi (pc := 25) (ws2 := (mdV g a (sF mn (yr + i) G kd pt wt mr) ks os sd sts kp f tp tn fr to vl wr bo so (flat nm) mv)) C dX4_isBook_25 ml_X4_79 mf_X4_tasteOf (m_tasteOf g a ks os sd sts kp f tp tn fr to vl wr bo so (flat nm) mv mn (yr + i) G kd pt wt mr p hBi (by omega)) ⟨rfl, rfl, (Nat.le_of_ble_eq_true rfl), (Nat.le_of_ble_eq_true rfl)⟩ rfl rfl (Nat.le_of_ble_eq_true rfl) 0 rfl rfl rfl [0, 1, 2, 3, 4, 5, 6, 7, 8, 9, 10, 11] [] [0, 1, 2, 3, 4, 5, 6, 7, 8, 9, 10, 11] rfl rfl rfl rfl (by decide) rfl rfl ?_
    refine g_i2l (pc := 28) C dX4_isBook_28 ?_
    refine g_lcmp (pc := 29) C dX4_isBook_29 ?_
    refine g_if_eqL (pc := 30) (tgt := 35) C dX4_isBook_30 (by decide) (fun c2 => ?_) (fun c2 => ?_)
    · refine g_aload_n (pc := 35) C dX4_isBook_35 rfl ?_
      refine g_rV (pc := 36) (rest := []) C dX4_isBook_36 ml_X4_138 mf_X4_year (m_year g a ks os sd sts kp f tp tn fr to vl wr bo so (flat nm) mv mn (yr + i) G kd pt wt mr hBi) ⟨rfl, rfl, (Nat.le_of_ble_eq_true rfl), (Nat.le_of_ble_eq_true rfl)⟩ rfl rfl (Nat.le_of_ble_eq_true rfl) 0 rfl rfl rfl [0, 1, 2, 3, 4, 5, 6, 7, 8, 9, 10, 11] [] rfl rfl rfl rfl (by decide) ?_
      intro r9 w9 h9
      obtain ⟨f_3, rfl, rfl⟩ := h9
      refine g_sub (ws2 := (mdV g a (sF mn ((yr + i) + 1) (yearG kd pt wt mr mn G (yr + i)) kd pt wt mr) ks os sd sts kp f_3 tp tn fr to vl wr bo so (flat nm) mv)) [0, 1, 2, 3, 4, 5, 6, 7, 8, 9, 10, 11] rfl rfl ?_
      show Go φ g 4 39 [(0, .ref (a 0)), (1, .int (nI q)), (2, .int (nI p)), (3, .int (nI i))] [] (mdV g a (sF mn ((yr + i) + 1) (yearG kd pt wt mr mn G (yr + i)) kd pt wt mr) ks os sd sts kp f_3 tp tn fr to vl wr bo so (flat nm) mv)
      refine g_iinc (pc := 39) (v := (nI (i + 1))) (lv2 := [(0, .ref (a 0)), (1, .int (nI q)), (2, .int (nI p)), (3, .int (nI (i + 1)))]) C dX4_isBook_39 rfl (nI_1 _) (Nat.le_of_ble_eq_true rfl) rfl ?_
      refine g_goto (pc := 42) (tgt := 2) C dX4_isBook_42 (by decide) ?_
      exact ih_i _ _ (by omega) ⟨by rw [hv_i.1]; rfl, by rw [wrtB, hv_i.2, tstF, ← hv_i.1, ← c2, beq_self_eq_true]; rfl⟩
    · refine g_iconst (pc := 33) (v := nI 0) C dX4_isBook_33 (by decide) ?_
      exact g_zret C Rr dX4_isBook_34 (by first | rfl | decide) ⟨f, i, by rw [bI_f (wrt_no (i := i) (by omega) (by rw [tstF, ← hv_i.1]; exact (fun q => c2 q.symm)))], by rw [hv_i.1]⟩ rfl
