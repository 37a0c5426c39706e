theorem sq_of {tb : Nat → Nat} {tn i f1 : Nat} {S S1 : St} {q : St × Nat × Nat} (e : stP tb tn S i = (S1, f1)) (h : itemP tb tn S1 f1 = q) : sqP tb tn S i = q := by
  unfold sqP
  rw [e]
  exact h
theorem m1_neg : ∀ f, f ≤ 120 → (-1 : Int32) - nI f < 0 := by decide +kernel
/-- what the reading of the tape answers, and what has come to the college by then -/
def ansP (tb : Nat → Nat) (tn : Nat) (S S2 : St) (ans : Int32) : Prop := ∃ e, (∀ j, j < e → goP tb tn S j) ∧ ¬ goP tb tn S e ∧ e ≤ 60 ∧ ∃ (S3 : St) (f w : Nat), sqP tb tn S e = (S3, f, w) ∧ f ≤ tn ∧ ((w = 0 ∧ tn ≤ f ∧ ans = nI (e + 1) ∧ S3 = S2) ∨ (¬ (w = 0 ∧ tn ≤ f) ∧ ans = (-1) - nI f))
set_option maxHeartbeats 400000 in
set_option maxRecDepth 100000 in
theorem c_tellTo (g : Gl) (au : Nat → Nat) (tn : Nat) (pl : Nat) (tk : Nat) (sr : Nat) (vl : Nat) (at' : Nat → Nat) (gr : Nat → Nat) (la : Nat → Nat) (kd : Nat → Nat) (pt : Nat → Nat) (wt : Nat → Nat) (mr : Nat → Nat) (yr : Nat) (mn : Nat) (tb : Nat → Nat) (htb : ∀ j, tb j < 256) (htn : tn ≤ 120) (hB : PB gr kd pt wt mr (sumN gr 12) yr mn) : Ct g yX2_tellTo cX2_tellTo 3 (some .int) (rk 7 154) [.ref (au 0), .ref (at' 0)] (fl [tpV g au (tbB tb) tn pl tk sr vl, potV g at' gr la kd pt wt mr (sumN gr 12) yr mn]) (fun r w2 => ∃ (ans : Int32) (mn2 : Nat) (gr2 : Nat → Nat) (kd2 : Nat → Nat) (pt2 : Nat → Nat) (wt2 : Nat → Nat) (mr2 : Nat → Nat) (pl2 : Nat) (tk2 : Nat) (sr2 : Nat) (vl2 : Nat), ansP tb tn (mn, yr, gr, kd, pt, wt, mr) (mn2, yr, gr2, kd2, pt2, wt2, mr2) ans ∧ r = some (.int ans) ∧ w2 = (fl [tpV g au (tbB tb) tn pl2 tk2 sr2 vl2, potV g at' gr2 la kd2 pt2 wt2 mr2 (sumN gr2 12) yr mn2])) := by
  refine ct_of (by decide) (Nat.le_of_ble_eq_true rfl) ?_
  intro φ C0 Rr
  have C : Cx φ g cX2_tellTo 3 RX2 (rk 7 154) := C0
  show Go φ g 3 0 [(0, .ref (au 0)), (1, .ref (at' 0))] [] (fl [tpV g au (tbB tb) tn pl tk sr vl, potV g at' gr la kd pt wt mr (sumN gr 12) yr mn])
  refine g_aload_n (pc := 0) C dX2_tellTo_0 rfl ?_
  refine g_iconst (pc := 1) (v := nI 0) C dX2_tellTo_1 (by decide) ?_
  refine g_put2 (pc := 2) (ws2 := (fl [tpV g au (tbB tb) tn 0 tk sr vl, potV g at' gr la kd pt wt mr (sumN gr 12) yr mn])) C dX2_tellTo_2 0 rfl 2 (by decide) fl_X2_19 rfl rfl rfl (Nat.le_of_ble_eq_true rfl) rfl ?_
  refine g_aload_n (pc := 5) C dX2_tellTo_5 rfl ?_
  refine g_bxn (pc := 6) (cs := [tpV g au (tbB tb) tn 0 tk sr vl]) (ds := [tpV g au (tbB tb) tn (tkE tb tn (spE tb tn 0)) (tkT tb tn (spE tb tn 0)) (spE tb tn 0) (tkV tb tn (spE tb tn 0) vl)]) (bs2 := [tpV g au (tbB tb) tn (tkE tb tn (spE tb tn 0)) (tkT tb tn (spE tb tn 0)) (spE tb tn 0) (tkV tb tn (spE tb tn 0) vl), potV g at' gr la kd pt wt mr (sumN gr 12) yr mn]) C dX2_tellTo_6 ml_X2_22 mf_X2_step (c_step g au tn 0 tk sr vl tb htb htn (by omega)) ⟨rfl, rfl, (Nat.le_of_ble_eq_true rfl), (Nat.le_of_ble_eq_true rfl)⟩ rfl rfl (Nat.le_of_ble_eq_true rfl) (fl1 _) (fl1 _) 0 rfl rfl rfl [0] rfl rfl rfl rfl ?_
  refine g_iconst (pc := 9) (v := nI 1) C dX2_tellTo_9 (by decide) ?_
  refine g_istore_n (pc := 10) (lv2 := [(0, .ref (au 0)), (1, .ref (at' 0)), (2, .int (nI 1))]) C dX2_tellTo_10 rfl (Nat.le_of_ble_eq_true rfl) rfl ?_
  refine g_loop8 (n := 60) (fun (i : Nat) (mnL : Nat) (grL : Nat → Nat) (kdL : Nat → Nat) (ptL : Nat → Nat) (wtL : Nat → Nat) (mrL : Nat → Nat) (frL : Nat) (vL : Nat) => stP tb tn (mn, yr, gr, kd, pt, wt, mr) i = ((mnL, yr, grL, kdL, ptL, wtL, mrL), frL) ∧ ∀ j, j < i → goP tb tn (mn, yr, gr, kd, pt, wt, mr) j) (fun (i : Nat) (mnL : Nat) (grL : Nat → Nat) (kdL : Nat → Nat) (ptL : Nat → Nat) (wtL : Nat → Nat) (mrL : Nat → Nat) (frL : Nat) (vL : Nat) => [(0, .ref (au 0)), (1, .ref (at' 0)), (2, .int (nI (i + 1)))]) (fun (i : Nat) (mnL : Nat) (grL : Nat → Nat) (kdL : Nat → Nat) (ptL : Nat → Nat) (wtL : Nat → Nat) (mrL : Nat → Nat) (frL : Nat) (vL : Nat) => (fl [tpV g au (tbB tb) tn (tkE tb tn frL) (tkT tb tn frL) frL (tkV tb tn frL vL), potV g at' grL la kdL ptL wtL mrL (sumN grL 12) yr mnL])) ?_ 0 mn gr kd pt wt mr (spE tb tn 0) vl (by omega) ⟨rfl, fun j hj => absurd hj (Nat.not_lt_zero j)⟩
  intro i mnL grL kdL ptL wtL mrL frL vL hi_i hv_i ih_i
  show Go φ g 3 11 [(0, .ref (au 0)), (1, .ref (at' 0)), (2, .int (nI (i + 1)))] [] (fl [tpV g au (tbB tb) tn (tkE tb tn frL) (tkT tb tn frL) frL (tkV tb tn frL vL), potV g at' grL la kdL ptL wtL mrL (sumN grL 12) yr mnL])
  have hv_i : stP tb tn (mn, yr, gr, kd, pt, wt, mr) i = ((mnL, yr, grL, kdL, ptL, wtL, mrL), frL) ∧ ∀ j, j < i → goP tb tn (mn, yr, gr, kd, pt, wt, mr) j := hv_i
  have hok := st_ok (tb := tb) (tn := tn) (S := (mn, yr, gr, kd, pt, wt, mr)) hB i hv_i.2
  rw [hv_i.1] at hok
  have hBL : PB grL kdL ptL wtL mrL (sumN grL 12) yr mnL := hok.1
  have hfL : frL ≤ tn := hok.2.1
  have hiL : 2 * i ≤ frL := hok.2.2
  refine g_iload_n (pc := 11) C dX2_tellTo_11 rfl ?_
  refine g_bipush (pc := 12) (v := nI 120) C dX2_tellTo_12 (by decide) ?_
  refine g_icmp_gtN (pc := 14) (tgt := 58) C dX2_tellTo_14 (by decide) (by omega) (by omega) (fun c1 => ?_) (fun c1 => ?_)
  · exact absurd c1 (by omega)
  · refine g_aload_n (pc := 17) C dX2_tellTo_17 rfl ?_
    refine g_aload_n (pc := 18) C dX2_tellTo_18 rfl ?_
    refine g_bV (pc := 19) (cs := [tpV g au (tbB tb) tn (tkE tb tn frL) (tkT tb tn frL) frL (tkV tb tn frL vL), potV g at' grL la kdL ptL wtL mrL (sumN grL 12) yr mnL]) (rest := []) C dX2_tellTo_19 ml_X2_25 mf_X2_passItem (c_passItem g au tn at' grL la kdL ptL wtL mrL yr mnL tb frL vL htb htn (by omega) hBL) ⟨rfl, rfl, (Nat.le_of_ble_eq_true rfl), (Nat.le_of_ble_eq_true rfl)⟩ rfl rfl (Nat.le_of_ble_eq_true rfl) rfl 0 rfl rfl rfl [0, 1] rfl rfl ?_
    intro r9 w9 h9
    obtain ⟨mnN, grN, kdN, ptN, wtN, mrN, frN, wrN, vN, hp_n, rfl, rfl⟩ := h9
    refine ⟨[tpV g au (tbB tb) tn (tkE tb tn frN) (tkT tb tn frN) frN (tkV tb tn frN vN), potV g at' grN la kdN ptN wtN mrN (sumN grN 12) yr mnN], rfl, rfl, ?_⟩
    show Go φ g 3 22 [(0, .ref (au 0)), (1, .ref (at' 0)), (2, .int (nI (i + 1)))] [.int (bI (wrN = 0))] (fl [tpV g au (tbB tb) tn (tkE tb tn frN) (tkT tb tn frN) frN (tkV tb tn frN vN), potV g at' grN la kdN ptN wtN mrN (sumN grN 12) yr mnN])
    have hsq := sq_of hv_i.1 hp_n
    have hsk := sq_ok (S := (mn, yr, gr, kd, pt, wt, mr)) (S2 := (mnN, yr, grN, kdN, ptN, wtN, mrN)) (f := frN) (w := wrN) hB hv_i.2 hsq
    have hskf : frN ≤ tn := hsk.2.1
    have hski : 2 * i ≤ frN := hsk.2.2.2
    have htk := tkT_le tb tn frN
    refine g_if_neB (pc := 22) (tgt := 28) C dX2_tellTo_22 (by decide) (fun c2 => ?_) (fun c2 => ?_)
    · refine g_aload_n (pc := 28) C dX2_tellTo_28 rfl ?_
      refine g_get2 (pc := 29) C dX2_tellTo_29 0 rfl 3 (by decide) fl_X2_29 rfl ?_
      refine g_if_neN (pc := 32) (tgt := 37) C dX2_tellTo_32 (by decide) (by omega) (fun c3 => ?_) (fun c3 => ?_)
      · refine g_aload_n (pc := 37) C dX2_tellTo_37 rfl ?_
        refine g_get2 (pc := 38) C dX2_tellTo_38 0 rfl 3 (by decide) fl_X2_29 rfl ?_
        refine g_iconst (pc := 41) (v := nI 3) C dX2_tellTo_41 (by decide) ?_
        refine g_icmp_eqN (pc := 42) (tgt := 48) C dX2_tellTo_42 (by decide) (by omega) (by omega) (fun c4 => ?_) (fun c4 => ?_)
        · have h3 := tkT3.mp c4
          have hq2 := tkE_ge tb hskf
          refine g_aload_n (pc := 48) C dX2_tellTo_48 rfl ?_
          refine g_bxn (pc := 49) (cs := [tpV g au (tbB tb) tn (tkE tb tn frN) (tkT tb tn frN) frN (tkV tb tn frN vN)]) (ds := [tpV g au (tbB tb) tn (tkE tb tn (spE tb tn (tkE tb tn frN))) (tkT tb tn (spE tb tn (tkE tb tn frN))) (spE tb tn (tkE tb tn frN)) (tkV tb tn (spE tb tn (tkE tb tn frN)) (tkV tb tn frN vN))]) (bs2 := [tpV g au (tbB tb) tn (tkE tb tn (spE tb tn (tkE tb tn frN))) (tkT tb tn (spE tb tn (tkE tb tn frN))) (spE tb tn (tkE tb tn frN)) (tkV tb tn (spE tb tn (tkE tb tn frN)) (tkV tb tn frN vN)), potV g at' grN la kdN ptN wtN mrN (sumN grN 12) yr mnN]) C dX2_tellTo_49 ml_X2_22 mf_X2_step (c_step g au tn (tkE tb tn frN) (tkT tb tn frN) frN (tkV tb tn frN vN) tb htb htn (by omega)) ⟨rfl, rfl, (Nat.le_of_ble_eq_true rfl), (Nat.le_of_ble_eq_true rfl)⟩ rfl rfl (Nat.le_of_ble_eq_true rfl) (fl1 _) (fl1 _) 0 rfl rfl rfl [0] rfl rfl rfl rfl ?_
          refine g_iinc (pc := 52) (v := (nI (i + 1 + 1))) (lv2 := [(0, .ref (au 0)), (1, .ref (at' 0)), (2, .int (nI (i + 1 + 1)))]) C dX2_tellTo_52 rfl (nI_1 _) (Nat.le_of_ble_eq_true rfl) rfl ?_
          refine g_goto (pc := 55) (tgt := 11) C dX2_tellTo_55 (by decide) ?_
          exact ih_i _ _ _ _ _ _ _ _ (by omega) ⟨st_next hsq, go_next hv_i.2 ((go_iff hsq).mpr ⟨c2, tkT3.mp c4⟩)⟩
        · refine g_goto (pc := 45) (tgt := 58) C dX2_tellTo_45 (by decide) ?_
          refine g_iconst (pc := 58) (v := -1) C dX2_tellTo_58 (by decide) ?_
          refine g_aload_n (pc := 59) C dX2_tellTo_59 rfl ?_
          refine g_get2 (pc := 60) C dX2_tellTo_60 0 rfl 4 (by decide) fl_X2_32 rfl ?_
          refine g_isub (pc := 63) C dX2_tellTo_63 ?_
          exact g_iret C Rr dX2_tellTo_64 ⟨((-1) - (nI frN)), mnN, grN, kdN, ptN, wtN, mrN, (tkE tb tn frN), (tkT tb tn frN), frN, (tkV tb tn frN vN), ⟨i, hv_i.2, (fun z => c4 (tkT3.mpr ((go_iff hsq).mp z).2)), by omega, _, _, _, hsq, hskf, Or.inr ⟨fun z => c3 (tkT0.mpr z.2), rfl⟩⟩, rfl, rfl⟩ rfl
      · refine g_iload_n (pc := 35) C dX2_tellTo_35 rfl ?_
        exact g_iret C Rr dX2_tellTo_36 ⟨(nI (i + 1)), mnN, grN, kdN, ptN, wtN, mrN, (tkE tb tn frN), (tkT tb tn frN), frN, (tkV tb tn frN vN), ⟨i, hv_i.2, (fun z => absurd (tkT0.mp c3) (Nat.not_le.mpr ((go_iff hsq).mp z).2.1)), by omega, _, _, _, hsq, hskf, Or.inl ⟨c2, tkT0.mp c3, rfl, rfl⟩⟩, rfl, rfl⟩ rfl
    · refine g_goto (pc := 25) (tgt := 58) C dX2_tellTo_25 (by decide) ?_
      refine g_iconst (pc := 58) (v := -1) C dX2_tellTo_58 (by decide) ?_
      refine g_aload_n (pc := 59) C dX2_tellTo_59 rfl ?_
      refine g_get2 (pc := 60) C dX2_tellTo_60 0 rfl 4 (by decide) fl_X2_32 rfl ?_
      refine g_isub (pc := 63) C dX2_tellTo_63 ?_
      exact g_iret C Rr dX2_tellTo_64 ⟨((-1) - (nI frN)), mnN, grN, kdN, ptN, wtN, mrN, (tkE tb tn frN), (tkT tb tn frN), frN, (tkV tb tn frN vN), ⟨i, hv_i.2, (fun z => c2 ((go_iff hsq).mp z).1), by omega, _, _, _, hsq, hskf, Or.inr ⟨fun z => c2 z.1, rfl⟩⟩, rfl, rfl⟩ rfl
set_option maxHeartbeats 400000 in
set_option maxRecDepth 100000 in
theorem x_college (g : Gl) (A : Ac) (X : Xs) (J : Jc) (hX : InvX X) (hJ : OkJ X J) : Ct g yX3_college cX3_college 2 (some .int) (rk 8 176) [.ref (A.1 0)] (spX g A X J) (fun r w2 => ∃ J2, OkJ (f_college X).2 J2 ∧ r = some (.int (f_college X).1) ∧ w2 = spX g A (f_college X).2 J2) := by
  obtain ⟨ao, ap, ak, at', au, ae, a0, a1, a2, a3, ay⟩ := A
  obtain ⟨⟨mn, yr, gr, kd, pt, wt, mr⟩, ⟨ks, kp⟩, ⟨tb, tn⟩, ⟨wd, sz, nm⟩, tl⟩ := X
  obtain ⟨la, ⟨⟨kmn, kyr, kgr, kkd, kpt, kwt, kmr⟩, kla⟩, ⟨⟨tmn, tyr, tgr, tkd, tpt, twt, tmr⟩, tla⟩, ⟨pl, tk, sr, vl⟩⟩ := J
  obtain ⟨hB, hy, hkp, htb, htn, hwd, hsz⟩ := id hX
  obtain ⟨-, hTle, hgr, hkd, hpt, hwt, hmr, hyr, hmn⟩ := id hB
  refine ct_of (by decide) (Nat.le_of_ble_eq_true rfl) ?_
  intro φ C0 Rr
  have C : Cx φ g cX3_college 2 RX3 (rk 8 176) := C0
  show Go φ g 2 0 [(0, .ref (ao 0))] [] (fl [spO g ao ap ak at' au ae ay kp, potV g ap gr la kd pt wt mr (sumN gr 12) yr mn, potV g ak kgr kla kkd kpt kwt kmr (sumN kgr 12) kyr kmn, potV g at' tgr tla tkd tpt twt tmr (sumN tgr 12) tyr tmn, tpV g au (tbB tb) tn pl tk sr vl, shA g ae a0 a1 a2 a3, shV g a0 (nm 0) (wd 0) (sz 0), shV g a1 (nm 1) (wd 1) (sz 1), shV g a2 (nm 2) (wd 2) (sz 2), shV g a3 (nm 3) (wd 3) (sz 3), arr7 g ay tl])
  refine g_aload_n (pc := 0) C dX3_college_0 rfl ?_
  refine g_bxn (pc := 1) (cs := [spO g ao ap ak at' au ae ay kp, potV g ap gr la kd pt wt mr (sumN gr 12) yr mn, potV g at' tgr tla tkd tpt twt tmr (sumN tgr 12) tyr tmn]) (ds := [spO g ao ap ak at' au ae ay kp, potV g ap gr la kd pt wt mr (sumN gr 12) yr mn, potV g at' gr tla kd pt wt mr (sumN gr 12) yr mn]) (bs2 := [spO g ao ap ak at' au ae ay kp, potV g ap gr la kd pt wt mr (sumN gr 12) yr mn, potV g ak kgr kla kkd kpt kwt kmr (sumN kgr 12) kyr kmn, potV g at' gr tla kd pt wt mr (sumN gr 12) yr mn, tpV g au (tbB tb) tn pl tk sr vl, shA g ae a0 a1 a2 a3, shV g a0 (nm 0) (wd 0) (sz 0), shV g a1 (nm 1) (wd 1) (sz 1), shV g a2 (nm 2) (wd 2) (sz 2), shV g a3 (nm 3) (wd 3) (sz 3), arr7 g ay tl]) C dX3_college_1 ml_X3_145 mf_X3_startTrial (c_startTrial g ao ap ak at' au ae ay kp gr la kd pt wt mr yr mn tgr tla tkd tpt twt tmr tyr tmn) ⟨rfl, rfl, (Nat.le_of_ble_eq_true rfl), (Nat.le_of_ble_eq_true rfl)⟩ rfl rfl (Nat.le_of_ble_eq_true rfl) rfl rfl 0 rfl rfl rfl [0, 1, 3] rfl rfl rfl rfl ?_
  refine g_aload_n (pc := 4) C dX3_college_4 rfl ?_
  refine g_get3 (pc := 5) C dX3_college_5 0 rfl 3 (by decide) fl_X3_25 rfl ?_
  refine g_aload_n (pc := 8) C dX3_college_8 rfl ?_
  refine g_get3 (pc := 9) C dX3_college_9 0 rfl 2 (by decide) fl_X3_19 rfl ?_
  refine g_bV (pc := 12) (cs := [tpV g au (tbB tb) tn pl tk sr vl, potV g at' gr tla kd pt wt mr (sumN gr 12) yr mn]) (rest := []) C dX3_college_12 ml_X3_164 mf_X2_tellTo (c_tellTo g au tn pl tk sr vl at' gr tla kd pt wt mr yr mn tb htb htn hB) ⟨rfl, rfl, (Nat.le_of_ble_eq_true rfl), (Nat.le_of_ble_eq_true rfl)⟩ rfl rfl (Nat.le_of_ble_eq_true rfl) rfl 0 rfl rfl rfl [4, 3] rfl rfl ?_
  intro r9 w9 h9
  obtain ⟨ans, mn2, gr2, kd2, pt2, wt2, mr2, pl2, tk2, sr2, vl2, hr_, rfl, rfl⟩ := h9
  refine ⟨[tpV g au (tbB tb) tn pl2 tk2 sr2 vl2, potV g at' gr2 tla kd2 pt2 wt2 mr2 (sumN gr2 12) yr mn2], rfl, rfl, ?_⟩
  show Go φ g 2 15 [(0, .ref (ao 0))] [.int ans] (fl [spO g ao ap ak at' au ae ay kp, potV g ap gr la kd pt wt mr (sumN gr 12) yr mn, potV g ak kgr kla kkd kpt kwt kmr (sumN kgr 12) kyr kmn, potV g at' gr2 tla kd2 pt2 wt2 mr2 (sumN gr2 12) yr mn2, tpV g au (tbB tb) tn pl2 tk2 sr2 vl2, shA g ae a0 a1 a2 a3, shV g a0 (nm 0) (wd 0) (sz 0), shV g a1 (nm 1) (wd 1) (sz 1), shV g a2 (nm 2) (wd 2) (sz 2), shV g a3 (nm 3) (wd 3) (sz 3), arr7 g ay tl])
  obtain ⟨e_, h1_, h2_, he_, S3_, f_, w_, hs_, hfl_, hor_⟩ := hr_
  rcases hor_ with ⟨rfl, hf_, rfl, rfl⟩ | ⟨hn_, rfl⟩
  · refine g_istore_n (pc := 15) (lv2 := [(0, .ref (ao 0)), (1, .int (nI (e_ + 1)))]) C dX3_college_15 rfl (Nat.le_of_ble_eq_true rfl) rfl ?_
    refine g_aload_n (pc := 16) C dX3_college_16 rfl ?_
    refine g_get3 (pc := 17) C dX3_college_17 0 rfl 3 (by decide) fl_X3_25 rfl ?_
    refine g_iconst (pc := 20) (v := nI 0) C dX3_college_20 (by decide) ?_
    refine g_put2 (pc := 21) (ws2 := (fl [spO g ao ap ak at' au ae ay kp, potV g ap gr la kd pt wt mr (sumN gr 12) yr mn, potV g ak kgr kla kkd kpt kwt kmr (sumN kgr 12) kyr kmn, potV g at' gr2 tla kd2 pt2 wt2 mr2 (sumN gr2 12) yr mn2, tpV g au (tbB tb) 0 pl2 tk2 sr2 vl2, shA g ae a0 a1 a2 a3, shV g a0 (nm 0) (wd 0) (sz 0), shV g a1 (nm 1) (wd 1) (sz 1), shV g a2 (nm 2) (wd 2) (sz 2), shV g a3 (nm 3) (wd 3) (sz 3), arr7 g ay tl])) C dX3_college_21 22 rfl 1 (by decide) fl_X3_157 rfl rfl rfl (Nat.le_of_ble_eq_true rfl) rfl ?_
    refine g_iload_n (pc := 24) C dX3_college_24 rfl ?_
    refine g_if_ltN (pc := 25) (tgt := 39) C dX3_college_25 (by decide) (by omega) (fun h => absurd h (by simp)) (fun _ => ?_)
    refine g_aload_n (pc := 28) C dX3_college_28 rfl ?_
    refine g_get3 (pc := 29) C dX3_college_29 0 rfl 0 (by decide) fl_X3_10 rfl ?_
    refine g_aload_n (pc := 32) C dX3_college_32 rfl ?_
    refine g_get3 (pc := 33) C dX3_college_33 0 rfl 2 (by decide) fl_X3_19 rfl ?_
    refine g_bxn (pc := 36) (cs := [potV g ap gr la kd pt wt mr (sumN gr 12) yr mn, potV g at' gr2 tla kd2 pt2 wt2 mr2 (sumN gr2 12) yr mn2]) (ds := [potV g ap gr2 la kd2 pt2 wt2 mr2 (sumN gr2 12) yr mn2, potV g at' gr2 tla kd2 pt2 wt2 mr2 (sumN gr2 12) yr mn2]) (bs2 := [spO g ao ap ak at' au ae ay kp, potV g ap gr2 la kd2 pt2 wt2 mr2 (sumN gr2 12) yr mn2, potV g ak kgr kla kkd kpt kwt kmr (sumN kgr 12) kyr kmn, potV g at' gr2 tla kd2 pt2 wt2 mr2 (sumN gr2 12) yr mn2, tpV g au (tbB tb) 0 pl2 tk2 sr2 vl2, shA g ae a0 a1 a2 a3, shV g a0 (nm 0) (wd 0) (sz 0), shV g a1 (nm 1) (wd 1) (sz 1), shV g a2 (nm 2) (wd 2) (sz 2), shV g a3 (nm 3) (wd 3) (sz 3), arr7 g ay tl]) C dX3_college_36 ml_X3_168 mf_X0_become (c_become g ap gr la kd pt wt mr (sumN gr 12) yr mn at' gr2 tla kd2 pt2 wt2 mr2 (sumN gr2 12) yr mn2) ⟨rfl, rfl, (Nat.le_of_ble_eq_true rfl), (Nat.le_of_ble_eq_true rfl)⟩ rfl rfl (Nat.le_of_ble_eq_true rfl) rfl rfl 0 rfl rfl rfl [1, 3] rfl rfl rfl rfl ?_
    refine g_iload_n (pc := 39) C dX3_college_39 rfl ?_
    have hf : f_college ((mn, yr, gr, kd, pt, wt, mr), (ks, kp), (tb, tn), (wd, sz, nm), tl) = ((nI (e_ + 1)), ((mn2, yr, gr2, kd2, pt2, wt2, mr2), (ks, kp), (tb, 0), (wd, sz, nm), tl)) := by exact f_college_ok h1_ h2_ hs_ hf_
    exact g_iret C Rr dX3_college_40 ⟨(la, ((kmn, kyr, kgr, kkd, kpt, kwt, kmr), kla), ((mn2, yr, gr2, kd2, pt2, wt2, mr2), tla), (pl2, tk2, sr2, vl2)), by rw [hf]; exact (fun h => hJ h), by rw [hf], by rw [hf]; rfl⟩ (spX_ad g (ao, ap, ak, at', au, ae, a0, a1, a2, a3, ay) ((mn2, yr, gr2, kd2, pt2, wt2, mr2), (ks, kp), (tb, 0), (wd, sz, nm), tl) ((mn, yr, gr, kd, pt, wt, mr), (ks, kp), (tb, tn), (wd, sz, nm), tl) (la, ((kmn, kyr, kgr, kkd, kpt, kwt, kmr), kla), ((mn2, yr, gr2, kd2, pt2, wt2, mr2), tla), (pl2, tk2, sr2, vl2)) (la, ((kmn, kyr, kgr, kkd, kpt, kwt, kmr), kla), ((tmn, tyr, tgr, tkd, tpt, twt, tmr), tla), (pl, tk, sr, vl)))
  · refine g_istore_n (pc := 15) (lv2 := [(0, .ref (ao 0)), (1, .int ((-1) - (nI f_)))]) C dX3_college_15 rfl (Nat.le_of_ble_eq_true rfl) rfl ?_
    refine g_aload_n (pc := 16) C dX3_college_16 rfl ?_
    refine g_get3 (pc := 17) C dX3_college_17 0 rfl 3 (by decide) fl_X3_25 rfl ?_
    refine g_iconst (pc := 20) (v := nI 0) C dX3_college_20 (by decide) ?_
    refine g_put2 (pc := 21) (ws2 := (fl [spO g ao ap ak at' au ae ay kp, potV g ap gr la kd pt wt mr (sumN gr 12) yr mn, potV g ak kgr kla kkd kpt kwt kmr (sumN kgr 12) kyr kmn, potV g at' gr2 tla kd2 pt2 wt2 mr2 (sumN gr2 12) yr mn2, tpV g au (tbB tb) 0 pl2 tk2 sr2 vl2, shA g ae a0 a1 a2 a3, shV g a0 (nm 0) (wd 0) (sz 0), shV g a1 (nm 1) (wd 1) (sz 1), shV g a2 (nm 2) (wd 2) (sz 2), shV g a3 (nm 3) (wd 3) (sz 3), arr7 g ay tl])) C dX3_college_21 22 rfl 1 (by decide) fl_X3_157 rfl rfl rfl (Nat.le_of_ble_eq_true rfl) rfl ?_
    refine g_iload_n (pc := 24) C dX3_college_24 rfl ?_
    refine g_if_lt (pc := 25) (tgt := 39) C dX3_college_25 (by decide) (fun c2 => ?_) (fun c2 => ?_)
    · refine g_iload_n (pc := 39) C dX3_college_39 rfl ?_
      have hf : f_college ((mn, yr, gr, kd, pt, wt, mr), (ks, kp), (tb, tn), (wd, sz, nm), tl) = (((-1) - (nI f_)), ((mn, yr, gr, kd, pt, wt, mr), (ks, kp), (tb, 0), (wd, sz, nm), tl)) := by exact f_college_no h1_ h2_ hs_ hn_
      exact g_iret C Rr dX3_college_40 ⟨(la, ((kmn, kyr, kgr, kkd, kpt, kwt, kmr), kla), ((mn2, yr, gr2, kd2, pt2, wt2, mr2), tla), (pl2, tk2, sr2, vl2)), by rw [hf]; exact (fun h => hJ h), by rw [hf], by rw [hf]; rfl⟩ (spX_ad g (ao, ap, ak, at', au, ae, a0, a1, a2, a3, ay) ((mn, yr, gr, kd, pt, wt, mr), (ks, kp), (tb, 0), (wd, sz, nm), tl) ((mn, yr, gr, kd, pt, wt, mr), (ks, kp), (tb, tn), (wd, sz, nm), tl) (la, ((kmn, kyr, kgr, kkd, kpt, kwt, kmr), kla), ((mn2, yr, gr2, kd2, pt2, wt2, mr2), tla), (pl2, tk2, sr2, vl2)) (la, ((kmn, kyr, kgr, kkd, kpt, kwt, kmr), kla), ((tmn, tyr, tgr, tkd, tpt, twt, tmr), tla), (pl, tk, sr, vl)))
    · exact absurd (m1_neg f_ (by omega)) c2
