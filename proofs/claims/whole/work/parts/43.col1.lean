/-! the text of a college: its reading as a mathematical function -/
theorem ct_post {g : Gl} {y : MethodName} {cc : ByteArray} {maxL : Nat} {ret : Option FieldType} {rm : Room} {av : List Value} {w : va_W} {post post2 : Option Value → va_W → Prop} (h : Ct g y cc maxL ret rm av w post) (hp : ∀ r w2, post r w2 → post2 r w2) : Ct g y cc maxL ret rm av w post2 := by
  intro l sz p e ha hc hk s m args below hf happ hP hK
  obtain ⟨n, o, h1, h2, h3, ⟨⟨r, w2, ho, hq, had, hPw⟩, hF⟩, hL⟩ := h l sz p e ha hc hk s m args below hf happ hP hK
  exact ⟨n, o, h1, h2, h3, ⟨⟨r, w2, ho, hp r w2 hq, had, hPw⟩, hF⟩, hL⟩
/-- where the next token begins, behind the one at fr -/
noncomputable abbrev nxT (tb : Nat → Nat) (tn fr : Nat) : Nat := spE tb tn (tkE tb tn fr)
/-- the number at fr -/
noncomputable abbrev numP (tb : Nat → Nat) (tn fr : Nat) : Nat := refV tb fr (tkE tb tn fr - fr)
/-- perhaps a word and a number, which comes to a row at c; the row, the place, 1 if it is wrong -/
noncomputable def trP (tb : Nat → Nat) (tn : Nat) (w : Int64) (h c : Nat) (r : Nat → Nat) (fr wr : Nat) : (Nat → Nat) × Nat × Nat :=
  if wr = 0 then if wdL tb tn fr (tkE tb tn fr) = w then if nOk tb tn (nxT tb tn fr) (tkE tb tn (nxT tb tn fr)) h then (updN r c (numP tb tn (nxT tb tn fr)), nxT tb tn (nxT tb tn fr), 0) else (r, nxT tb tn fr, 1) else (r, fr, 0) else (r, fr, wr)
theorem trP_dead (tb : Nat → Nat) (tn : Nat) (w : Int64) (h c : Nat) (r : Nat → Nat) (fr : Nat) : trP tb tn w h c r fr 1 = (r, fr, 1) := by rw [trP, if_neg (by decide)]
noncomputable def cookP (tb : Nat → Nat) (tn k : Nat) (S : St) (fr : Nat) : St × Nat × Nat := match S with
  | (mn, yr, gr, kd, pt, wt, mr) => if mn < 8 then
      match trP tb tn 546451 11 mn (updN pt mn 1) (nxT tb tn fr) 0 with
      | (p1, f1, w1) => match trP tb tn 777297172 999 mn (updN wt mn 100) f1 w1 with
        | (p2, f2, w2) => match trP tb tn 13814068 9 mn (updN mr mn 5) f2 w2 with
          | (p3, f3, w3) => ((mn + 1, yr, gr, updN kd mn k, p1, p2, p3), f3, w3)
    else ((mn, yr, gr, kd, pt, wt, mr), fr, 1)
noncomputable def grP (tb : Nat → Nat) (tn : Nat) (gr : Nat → Nat) (fr : Nat) : (Nat → Nat) × Nat × Nat :=
  if nOk tb tn (nxT tb tn fr) (tkE tb tn (nxT tb tn fr)) 11 then
    if nOk tb tn (nxT tb tn (nxT tb tn fr)) (tkE tb tn (nxT tb tn (nxT tb tn fr))) (min (99999 - sumN gr 12 + gr (numP tb tn (nxT tb tn fr))) 9999) then (updN gr (numP tb tn (nxT tb tn fr)) (numP tb tn (nxT tb tn (nxT tb tn fr))), nxT tb tn (nxT tb tn (nxT tb tn fr)), 0) else (gr, nxT tb tn (nxT tb tn fr), 1)
  else (gr, nxT tb tn fr, 1)
noncomputable def itemP (tb : Nat → Nat) (tn : Nat) (S : St) (fr : Nat) : St × Nat × Nat :=
  if kdW (wdL tb tn fr (tkE tb tn fr)) = -1 then
    if wdL tb tn fr (tkE tb tn fr) = 525908 then
      match S with
      | (mn, yr, gr, kd, pt, wt, mr) => match grP tb tn gr fr with
        | (g2, f2, w2) => ((mn, yr, g2, kd, pt, wt, mr), f2, w2)
    else (S, fr, 1)
  else cookP tb tn (ix (kdW (wdL tb tn fr (tkE tb tn fr)))) S fr
theorem kdW_or (w : Int64) : kdW w = -1 ∨ ∃ k : Nat, k ≤ 5 ∧ kdW w = nI k := by
  unfold kdW
  split
  · exact Or.inr ⟨0, by decide, rfl⟩
  split
  · exact Or.inr ⟨1, by decide, rfl⟩
  split
  · exact Or.inr ⟨2, by decide, rfl⟩
  split
  · exact Or.inr ⟨3, by decide, rfl⟩
  split
  · exact Or.inr ⟨4, by decide, rfl⟩
  split
  · exact Or.inr ⟨5, by decide, rfl⟩
  · exact Or.inl rfl
theorem m_piE1 (g : Gl) (a : Nat → Nat) (ks : Nat → Nat) (os : Nat → Nat) (sd : Nat → Nat) (sts : Nat → Nat) (kp : Nat) (tk : Nat → Nat) (tp : Nat → Nat) (tn : Nat) (fr : Nat) (vl : Nat) (bo : Nat → Nat) (so : Nat → Nat) (nm : Nat → Int64) (mv : Nat → Int64) (mn : Nat) (yr : Nat) (gr : Nat → Nat) (kd : Nat → Nat) (pt : Nat → Nat) (wt : Nat → Nat) (mr : Nat → Nat) (w : Int64) (c : Nat) (h : Nat) (htb : ∀ j, tp j < 256) (htn : tn ≤ 120) (hft : fr ≤ tn) (hc : c < 8) (hh : h ≤ 9999) : Ct g yX4_partItem cX4_partItem 5 none (rk 5 113) [.ref (a 0), .long w, .int (nI (14 + 4 * c + 1)), .int (nI h)] (mdV g a (sF mn yr gr kd pt wt mr) ks os sd sts kp tk tp tn fr (tkE tp tn fr) vl 0 bo so nm mv) (fun r w2 => ∃ (r2 : Nat → Nat) (fr2 : Nat) (wr2 : Nat) (vl2 : Nat), trP tp tn w h c pt fr 0 = (r2, fr2, wr2) ∧ (wr2 = 0 ∨ wr2 = 1) ∧ fr2 ≤ tn ∧ r = none ∧ w2 = (mdV g a (sF mn yr gr kd r2 wt mr) ks os sd sts kp tk tp tn fr2 (tkE tp tn fr2) vl2 wr2 bo so nm mv)) :=
  ct_post (m_pi1 g a ks os sd sts kp tk tp tn fr (tkE tp tn fr) vl bo so nm mv mn yr gr kd pt wt mr w c h htb htn hft rfl (tkE_ge tp hft).2 hc hh) (fun r w2 h9 => by
    obtain ⟨rfl, rfl⟩ := h9
    have hf1 := spE_ge tp (tkE_ge tp hft).2
    have hf2 := spE_ge tp (tkE_ge tp hf1.2).2
    by_cases c1 : wdL tp tn fr (tkE tp tn fr) = w
    · by_cases c2 : nOk tp tn (spE tp tn (tkE tp tn fr)) (tkE tp tn (spE tp tn (tkE tp tn fr))) h
      · simp only [if_pos c1, if_pos c2]
        exact ⟨_, _, _, _, by rw [trP, if_pos rfl, if_pos c1, if_pos c2], Or.inl rfl, hf2.2, trivial, rfl⟩
      · simp only [if_pos c1, if_neg c2]
        exact ⟨_, _, _, _, by rw [trP, if_pos rfl, if_pos c1, if_neg c2], Or.inr rfl, hf1.2, trivial, rfl⟩
    · simp only [if_neg c1]
      exact ⟨_, _, _, _, by rw [trP, if_pos rfl, if_neg c1], Or.inl rfl, hft, trivial, rfl⟩)
theorem m_piE2 (g : Gl) (a : Nat → Nat) (ks : Nat → Nat) (os : Nat → Nat) (sd : Nat → Nat) (sts : Nat → Nat) (kp : Nat) (tk : Nat → Nat) (tp : Nat → Nat) (tn : Nat) (fr : Nat) (vl : Nat) (bo : Nat → Nat) (so : Nat → Nat) (nm : Nat → Int64) (mv : Nat → Int64) (mn : Nat) (yr : Nat) (gr : Nat → Nat) (kd : Nat → Nat) (pt : Nat → Nat) (wt : Nat → Nat) (mr : Nat → Nat) (w : Int64) (c : Nat) (h : Nat) (htb : ∀ j, tp j < 256) (htn : tn ≤ 120) (hft : fr ≤ tn) (hc : c < 8) (hh : h ≤ 9999) : Ct g yX4_partItem cX4_partItem 5 none (rk 5 113) [.ref (a 0), .long w, .int (nI (14 + 4 * c + 2)), .int (nI h)] (mdV g a (sF mn yr gr kd pt wt mr) ks os sd sts kp tk tp tn fr (tkE tp tn fr) vl 0 bo so nm mv) (fun r w2 => ∃ (r2 : Nat → Nat) (fr2 : Nat) (wr2 : Nat) (vl2 : Nat), trP tp tn w h c wt fr 0 = (r2, fr2, wr2) ∧ (wr2 = 0 ∨ wr2 = 1) ∧ fr2 ≤ tn ∧ r = none ∧ w2 = (mdV g a (sF mn yr gr kd pt r2 mr) ks os sd sts kp tk tp tn fr2 (tkE tp tn fr2) vl2 wr2 bo so nm mv)) :=
  ct_post (m_pi2 g a ks os sd sts kp tk tp tn fr (tkE tp tn fr) vl bo so nm mv mn yr gr kd pt wt mr w c h htb htn hft rfl (tkE_ge tp hft).2 hc hh) (fun r w2 h9 => by
    obtain ⟨rfl, rfl⟩ := h9
    have hf1 := spE_ge tp (tkE_ge tp hft).2
    have hf2 := spE_ge tp (tkE_ge tp hf1.2).2
    by_cases c1 : wdL tp tn fr (tkE tp tn fr) = w
    · by_cases c2 : nOk tp tn (spE tp tn (tkE tp tn fr)) (tkE tp tn (spE tp tn (tkE tp tn fr))) h
      · simp only [if_pos c1, if_pos c2]
        exact ⟨_, _, _, _, by rw [trP, if_pos rfl, if_pos c1, if_pos c2], Or.inl rfl, hf2.2, trivial, rfl⟩
      · simp only [if_pos c1, if_neg c2]
        exact ⟨_, _, _, _, by rw [trP, if_pos rfl, if_pos c1, if_neg c2], Or.inr rfl, hf1.2, trivial, rfl⟩
    · simp only [if_neg c1]
      exact ⟨_, _, _, _, by rw [trP, if_pos rfl, if_neg c1], Or.inl rfl, hft, trivial, rfl⟩)
theorem m_piE3 (g : Gl) (a : Nat → Nat) (ks : Nat → Nat) (os : Nat → Nat) (sd : Nat → Nat) (sts : Nat → Nat) (kp : Nat) (tk : Nat → Nat) (tp : Nat → Nat) (tn : Nat) (fr : Nat) (vl : Nat) (bo : Nat → Nat) (so : Nat → Nat) (nm : Nat → Int64) (mv : Nat → Int64) (mn : Nat) (yr : Nat) (gr : Nat → Nat) (kd : Nat → Nat) (pt : Nat → Nat) (wt : Nat → Nat) (mr : Nat → Nat) (w : Int64) (c : Nat) (h : Nat) (htb : ∀ j, tp j < 256) (htn : tn ≤ 120) (hft : fr ≤ tn) (hc : c < 8) (hh : h ≤ 9999) : Ct g yX4_partItem cX4_partItem 5 none (rk 5 113) [.ref (a 0), .long w, .int (nI (14 + 4 * c + 3)), .int (nI h)] (mdV g a (sF mn yr gr kd pt wt mr) ks os sd sts kp tk tp tn fr (tkE tp tn fr) vl 0 bo so nm mv) (fun r w2 => ∃ (r2 : Nat → Nat) (fr2 : Nat) (wr2 : Nat) (vl2 : Nat), trP tp tn w h c mr fr 0 = (r2, fr2, wr2) ∧ (wr2 = 0 ∨ wr2 = 1) ∧ fr2 ≤ tn ∧ r = none ∧ w2 = (mdV g a (sF mn yr gr kd pt wt r2) ks os sd sts kp tk tp tn fr2 (tkE tp tn fr2) vl2 wr2 bo so nm mv)) :=
  ct_post (m_pi3 g a ks os sd sts kp tk tp tn fr (tkE tp tn fr) vl bo so nm mv mn yr gr kd pt wt mr w c h htb htn hft rfl (tkE_ge tp hft).2 hc hh) (fun r w2 h9 => by
    obtain ⟨rfl, rfl⟩ := h9
    have hf1 := spE_ge tp (tkE_ge tp hft).2
    have hf2 := spE_ge tp (tkE_ge tp hf1.2).2
    by_cases c1 : wdL tp tn fr (tkE tp tn fr) = w
    · by_cases c2 : nOk tp tn (spE tp tn (tkE tp tn fr)) (tkE tp tn (spE tp tn (tkE tp tn fr))) h
      · simp only [if_pos c1, if_pos c2]
        exact ⟨_, _, _, _, by rw [trP, if_pos rfl, if_pos c1, if_pos c2], Or.inl rfl, hf2.2, trivial, rfl⟩
      · simp only [if_pos c1, if_neg c2]
        exact ⟨_, _, _, _, by rw [trP, if_pos rfl, if_pos c1, if_neg c2], Or.inr rfl, hf1.2, trivial, rfl⟩
    · simp only [if_neg c1]
      exact ⟨_, _, _, _, by rw [trP, if_pos rfl, if_neg c1], Or.inl rfl, hft, trivial, rfl⟩)
theorem m_grE (g : Gl) (a : Nat → Nat) (ks : Nat → Nat) (os : Nat → Nat) (sd : Nat → Nat) (sts : Nat → Nat) (kp : Nat) (tk : Nat → Nat) (tp : Nat → Nat) (tn : Nat) (fr : Nat) (vl : Nat) (bo : Nat → Nat) (so : Nat → Nat) (nm : Nat → Int64) (mv : Nat → Int64) (mn : Nat) (yr : Nat) (gr : Nat → Nat) (kd : Nat → Nat) (pt : Nat → Nat) (wt : Nat → Nat) (mr : Nat → Nat) (hB : PB gr kd pt wt mr (sumN gr 12) yr mn) (htb : ∀ j, tp j < 256) (htn : tn ≤ 120) (hft : fr ≤ tn) : Ct g yX4_grainsItem cX4_grainsItem 3 none (rk 5 113) [.ref (a 0)] (mdV g a (sF mn yr gr kd pt wt mr) ks os sd sts kp tk tp tn fr (tkE tp tn fr) vl 0 bo so nm mv) (fun r w2 => ∃ (r2 : Nat → Nat) (fr2 : Nat) (wr2 : Nat) (vl2 : Nat), grP tp tn gr fr = (r2, fr2, wr2) ∧ r = none ∧ w2 = (mdV g a (sF mn yr r2 kd pt wt mr) ks os sd sts kp tk tp tn fr2 (tkE tp tn fr2) vl2 wr2 bo so nm mv)) :=
  ct_post (m_grainsItem g a ks os sd sts kp tk tp tn fr (tkE tp tn fr) vl bo so nm mv mn yr gr kd pt wt mr hB htb htn (tkE_ge tp hft).2) (fun r w2 h9 => by
    obtain ⟨rfl, rfl⟩ := h9
    by_cases c1 : nOk tp tn (nxT tp tn fr) (tkE tp tn (nxT tp tn fr)) 11
    · by_cases c2 : nOk tp tn (nxT tp tn (nxT tp tn fr)) (tkE tp tn (nxT tp tn (nxT tp tn fr))) (min (99999 - sumN gr 12 + gr (numP tp tn (nxT tp tn fr))) 9999)
      · simp only [if_pos c1, if_pos c2]
        exact ⟨_, _, _, _, by rw [grP, if_pos c1, if_pos c2], trivial, rfl⟩
      · simp only [if_pos c1, if_neg c2]
        exact ⟨_, _, _, _, by rw [grP, if_pos c1, if_neg c2], trivial, rfl⟩
    · simp only [if_neg c1]
      exact ⟨_, _, _, _, by rw [grP, if_neg c1], trivial, rfl⟩)
set_option maxHeartbeats 400000 in
set_option maxRecDepth 100000 in
theorem m_cookItem (g : Gl) (a : Nat → Nat) (ks : Nat → Nat) (os : Nat → Nat) (sd : Nat → Nat) (sts : Nat → Nat) (kp : Nat) (tk : Nat → Nat) (tp : Nat → Nat) (tn : Nat) (fr : Nat) (vl : Nat) (bo : Nat → Nat) (so : Nat → Nat) (nm : Nat → Int64) (mv : Nat → Int64) (mn : Nat) (yr : Nat) (gr : Nat → Nat) (kd : Nat → Nat) (pt : Nat → Nat) (wt : Nat → Nat) (mr : Nat → Nat) (k : Nat) (htb : ∀ j, tp j < 256) (htn : tn ≤ 120) (hft : fr ≤ tn) (hmn : mn ≤ 8) : Ct g yX4_cookItem cX4_cookItem 3 none (rk 6 137) [.ref (a 0), .int (nI k)] (mdV g a (sF mn yr gr kd pt wt mr) ks os sd sts kp tk tp tn fr (tkE tp tn fr) vl 0 bo so nm mv) (fun r w2 => ∃ (mn2 : Nat) (kd2 : Nat → Nat) (pt2 : Nat → Nat) (wt2 : Nat → Nat) (mr2 : Nat → Nat) (fr2 : Nat) (wr2 : Nat) (vl2 : Nat), cookP tp tn k (mn, yr, gr, kd, pt, wt, mr) fr = ((mn2, yr, gr, kd2, pt2, wt2, mr2), fr2, wr2) ∧ r = none ∧ w2 = (mdV g a (sF mn2 yr gr kd2 pt2 wt2 mr2) ks os sd sts kp tk tp tn fr2 (tkE tp tn fr2) vl2 wr2 bo so nm mv)) := by
  refine ct_of (by decide) (Nat.le_of_ble_eq_true rfl) ?_
  intro φ C0 Rr
  have C : Cx φ g cX4_cookItem 3 RX4 (rk 6 137) := C0
  show Go φ g 3 0 [(0, .ref (a 0)), (1, .int (nI k))] [] (mdV g a (sF mn yr gr kd pt wt mr) ks os sd sts kp tk tp tn fr (tkE tp tn fr) vl 0 bo so nm mv)
  have ht0 := tkE_ge tp hft
  have hf0 := spE_ge tp ht0.2
  refine g_aload_n (pc := 0) C dX4_cookItem_0 rfl ?_
  refine g_aload_n (pc := 1) C dX4_cookItem_1 rfl ?_
  refine g_get4 (pc := 2) C dX4_cookItem_2 0 rfl 0 (by decide) fl_X4_7 rfl ?_
  refine g_iconst (pc := 5) (v := nI 0) C dX4_cookItem_5 (by decide) ?_
  refine g_ialdM (pc := 6) C dX4_cookItem_6 1 rfl rfl (by omega) (by decide) ?_
  refine g_top (congrArg nI sF_r0) ?_
  refine g_bipush (pc := 7) (v := nI 8) C dX4_cookItem_7 (by decide) ?_
  refine g_icmp_geN (pc := 9) (tgt := 16) C dX4_cookItem_9 (by decide) (by omega) (by omega) (fun c1 => ?_) (fun c1 => ?_)
  · refine g_iconst (pc := 16) (v := nI 0) C dX4_cookItem_16 (by decide) ?_
    refine g_vxn (pc := 17) (ws2 := (mdV g a (sF mn yr gr kd pt wt mr) ks os sd sts kp tk tp tn fr (tkE tp tn fr) vl 1 bo so nm mv)) C dX4_cookItem_17 ml_X4_225 mf_X4_must (m_must0 g a (sF mn yr gr kd pt wt mr) ks os sd sts kp tk tp tn fr (tkE tp tn fr) vl bo so nm mv) ⟨rfl, rfl, (Nat.le_of_ble_eq_true rfl), (Nat.le_of_ble_eq_true rfl)⟩ rfl rfl (Nat.le_of_ble_eq_true rfl) 0 rfl rfl rfl [0, 1, 2, 3, 4, 5, 6, 7, 8, 9, 10, 11] [] [0, 1, 2, 3, 4, 5, 6, 7, 8, 9, 10, 11] rfl rfl rfl rfl (by decide) rfl rfl ?_
    refine g_aload_n (pc := 20) C dX4_cookItem_20 rfl ?_
    refine g_get4 (pc := 21) C dX4_cookItem_21 0 rfl 12 (by decide) fl_X4_211 rfl ?_
    refine g_if_eqN (pc := 24) (tgt := 28) C dX4_cookItem_24 (by decide) (by decide) (fun h => absurd h (by decide)) (fun _ => ?_)
    exact g_vret C Rr dX4_cookItem_27 ⟨_, _, _, _, _, _, _, _, by rw [cookP, if_neg (by omega)], rfl, rfl⟩ rfl
  · refine g_iconst (pc := 12) (v := nI 1) C dX4_cookItem_12 (by decide) ?_
    refine g_goto (pc := 13) (tgt := 17) C dX4_cookItem_13 (by decide) ?_
    refine g_vxn (pc := 17) (ws2 := (mdV g a (sF mn yr gr kd pt wt mr) ks os sd sts kp tk tp tn (spE tp tn (tkE tp tn fr)) (tkE tp tn (spE tp tn (tkE tp tn fr))) vl 0 bo so nm mv)) C dX4_cookItem_17 ml_X4_225 mf_X4_must (m_must1 g a (sF mn yr gr kd pt wt mr) ks os sd sts kp tk tp tn fr (tkE tp tn fr) vl bo so nm mv htb htn (by omega)) ⟨rfl, rfl, (Nat.le_of_ble_eq_true rfl), (Nat.le_of_ble_eq_true rfl)⟩ rfl rfl (Nat.le_of_ble_eq_true rfl) 0 rfl rfl rfl [0, 1, 2, 3, 4, 5, 6, 7, 8, 9, 10, 11] [] [0, 1, 2, 3, 4, 5, 6, 7, 8, 9, 10, 11] rfl rfl rfl rfl (by decide) rfl rfl ?_
    refine g_aload_n (pc := 20) C dX4_cookItem_20 rfl ?_
    refine g_get4 (pc := 21) C dX4_cookItem_21 0 rfl 12 (by decide) fl_X4_211 rfl ?_
    refine g_if_eqN (pc := 24) (tgt := 28) C dX4_cookItem_24 (by decide) (by decide) (fun _ => ?_) (fun h => absurd h (by decide))
    have hm8 : mn < 8 := by omega
    refine g_aload_n (pc := 28) C dX4_cookItem_28 rfl ?_
    refine g_iload_n (pc := 29) C dX4_cookItem_29 rfl ?_
    refine g_vxi (pc := 30) (ws2 := (mdV g a (sF (mn + 1) yr gr (updN kd mn k) (updN pt mn 1) (updN wt mn 100) (updN mr mn 5)) ks os sd sts kp tk tp tn (spE tp tn (tkE tp tn fr)) (tkE tp tn (spE tp tn (tkE tp tn fr))) vl 0 bo so nm mv)) C dX4_cookItem_30 ml_X4_99 mf_X4_adds (m_adds g a ks os sd sts kp tk tp tn (spE tp tn (tkE tp tn fr)) (tkE tp tn (spE tp tn (tkE tp tn fr))) vl 0 bo so nm mv mn yr gr kd pt wt mr k (by omega)) ⟨rfl, rfl, (Nat.le_of_ble_eq_true rfl), (Nat.le_of_ble_eq_true rfl)⟩ rfl rfl (Nat.le_of_ble_eq_true rfl) 0 rfl rfl rfl [0, 1, 2, 3, 4, 5, 6, 7, 8, 9, 10, 11] [] [0, 1, 2, 3, 4, 5, 6, 7, 8, 9, 10, 11] rfl rfl rfl rfl (by decide) rfl rfl ?_
    refine g_istore_n (pc := 33) (lv2 := [(0, .ref (a 0)), (1, .int (nI k)), (2, .int (nI mn))]) C dX4_cookItem_33 rfl (Nat.le_of_ble_eq_true rfl) rfl ?_
    refine g_aload_n (pc := 34) C dX4_cookItem_34 rfl ?_
    refine g_ldc2 (pc := 35) C dX4_cookItem_35 ckl_X4_248 rfl ?_
    refine g_iload_n (pc := 38) C dX4_cookItem_38 rfl ?_
    refine g_iconst (pc := 39) (v := nI 1) C dX4_cookItem_39 (by decide) ?_
    refine g_s0i (pc := 40) C dX4_cookItem_40 ml_X4_57 mf_X4_spotOf (m_spotOf g mn 1) ⟨rfl, rfl, (Nat.le_of_ble_eq_true rfl), (Nat.le_of_ble_eq_true rfl)⟩ rfl rfl (Nat.le_of_ble_eq_true rfl) ?_
    refine g_bipush (pc := 43) (v := nI 11) C dX4_cookItem_43 (by decide) ?_
    refine g_rV (pc := 45) (rest := []) C dX4_cookItem_45 ml_X4_250 mf_X4_partItem (m_piE1 g a ks os sd sts kp tk tp tn (spE tp tn (tkE tp tn fr)) vl bo so nm mv (mn + 1) yr gr (updN kd mn k) (updN pt mn 1) (updN wt mn 100) (updN mr mn 5) (546451) mn 11 htb htn (by omega) (by omega) (by omega)) ⟨rfl, rfl, (Nat.le_of_ble_eq_true rfl), (Nat.le_of_ble_eq_true rfl)⟩ rfl rfl (Nat.le_of_ble_eq_true rfl) 0 rfl rfl rfl [0, 1, 2, 3, 4, 5, 6, 7, 8, 9, 10, 11] [] rfl rfl rfl rfl (by decide) ?_
    intro r9 w9 h9
    obtain ⟨r1_, f1_, w1_, v1_, hp1_, hw1_, hf1_, rfl, rfl⟩ := h9
    refine g_sub (ws2 := (mdV g a (sF (mn + 1) yr gr (updN kd mn k) r1_ (updN wt mn 100) (updN mr mn 5)) ks os sd sts kp tk tp tn f1_ (tkE tp tn f1_) v1_ w1_ bo so nm mv)) [0, 1, 2, 3, 4, 5, 6, 7, 8, 9, 10, 11] rfl rfl ?_
    show Go φ g 3 48 [(0, .ref (a 0)), (1, .int (nI k)), (2, .int (nI mn))] [] (mdV g a (sF (mn + 1) yr gr (updN kd mn k) r1_ (updN wt mn 100) (updN mr mn 5)) ks os sd sts kp tk tp tn f1_ (tkE tp tn f1_) v1_ w1_ bo so nm mv)
    rcases hw1_ with rfl | rfl
    · refine g_aload_n (pc := 48) C dX4_cookItem_48 rfl ?_
      refine g_ldc2 (pc := 49) C dX4_cookItem_49 ckl_X4_254 rfl ?_
      refine g_iload_n (pc := 52) C dX4_cookItem_52 rfl ?_
      refine g_iconst (pc := 53) (v := nI 2) C dX4_cookItem_53 (by decide) ?_
      refine g_s0i (pc := 54) C dX4_cookItem_54 ml_X4_57 mf_X4_spotOf (m_spotOf g mn 2) ⟨rfl, rfl, (Nat.le_of_ble_eq_true rfl), (Nat.le_of_ble_eq_true rfl)⟩ rfl rfl (Nat.le_of_ble_eq_true rfl) ?_
      refine g_sipush (pc := 57) (v := nI 999) C dX4_cookItem_57 (by decide) ?_
      refine g_rV (pc := 60) (rest := []) C dX4_cookItem_60 ml_X4_250 mf_X4_partItem (m_piE2 g a ks os sd sts kp tk tp tn f1_ v1_ bo so nm mv (mn + 1) yr gr (updN kd mn k) r1_ (updN wt mn 100) (updN mr mn 5) (777297172) mn 999 htb htn (by omega) (by omega) (by omega)) ⟨rfl, rfl, (Nat.le_of_ble_eq_true rfl), (Nat.le_of_ble_eq_true rfl)⟩ rfl rfl (Nat.le_of_ble_eq_true rfl) 0 rfl rfl rfl [0, 1, 2, 3, 4, 5, 6, 7, 8, 9, 10, 11] [] rfl rfl rfl rfl (by decide) ?_
      intro r9 w9 h9
      obtain ⟨r2_, f2_, w2_, v2_, hp2_, hw2_, hf2_, rfl, rfl⟩ := h9
      refine g_sub (ws2 := (mdV g a (sF (mn + 1) yr gr (updN kd mn k) r1_ r2_ (updN mr mn 5)) ks os sd sts kp tk tp tn f2_ (tkE tp tn f2_) v2_ w2_ bo so nm mv)) [0, 1, 2, 3, 4, 5, 6, 7, 8, 9, 10, 11] rfl rfl ?_
      show Go φ g 3 63 [(0, .ref (a 0)), (1, .int (nI k)), (2, .int (nI mn))] [] (mdV g a (sF (mn + 1) yr gr (updN kd mn k) r1_ r2_ (updN mr mn 5)) ks os sd sts kp tk tp tn f2_ (tkE tp tn f2_) v2_ w2_ bo so nm mv)
      rcases hw2_ with rfl | rfl
      · refine g_aload_n (pc := 63) C dX4_cookItem_63 rfl ?_
        refine g_ldc2 (pc := 64) C dX4_cookItem_64 ckl_X4_256 rfl ?_
        refine g_iload_n (pc := 67) C dX4_cookItem_67 rfl ?_
        refine g_iconst (pc := 68) (v := nI 3) C dX4_cookItem_68 (by decide) ?_
        refine g_s0i (pc := 69) C dX4_cookItem_69 ml_X4_57 mf_X4_spotOf (m_spotOf g mn 3) ⟨rfl, rfl, (Nat.le_of_ble_eq_true rfl), (Nat.le_of_ble_eq_true rfl)⟩ rfl rfl (Nat.le_of_ble_eq_true rfl) ?_
        refine g_bipush (pc := 72) (v := nI 9) C dX4_cookItem_72 (by decide) ?_
        refine g_rV (pc := 74) (rest := []) C dX4_cookItem_74 ml_X4_250 mf_X4_partItem (m_piE3 g a ks os sd sts kp tk tp tn f2_ v2_ bo so nm mv (mn + 1) yr gr (updN kd mn k) r1_ r2_ (updN mr mn 5) (13814068) mn 9 htb htn (by omega) (by omega) (by omega)) ⟨rfl, rfl, (Nat.le_of_ble_eq_true rfl), (Nat.le_of_ble_eq_true rfl)⟩ rfl rfl (Nat.le_of_ble_eq_true rfl) 0 rfl rfl rfl [0, 1, 2, 3, 4, 5, 6, 7, 8, 9, 10, 11] [] rfl rfl rfl rfl (by decide) ?_
        intro r9 w9 h9
        obtain ⟨r3_, f3_, w3_, v3_, hp3_, hw3_, hf3_, rfl, rfl⟩ := h9
        refine g_sub (ws2 := (mdV g a (sF (mn + 1) yr gr (updN kd mn k) r1_ r2_ r3_) ks os sd sts kp tk tp tn f3_ (tkE tp tn f3_) v3_ w3_ bo so nm mv)) [0, 1, 2, 3, 4, 5, 6, 7, 8, 9, 10, 11] rfl rfl ?_
        show Go φ g 3 77 [(0, .ref (a 0)), (1, .int (nI k)), (2, .int (nI mn))] [] (mdV g a (sF (mn + 1) yr gr (updN kd mn k) r1_ r2_ r3_) ks os sd sts kp tk tp tn f3_ (tkE tp tn f3_) v3_ w3_ bo so nm mv)
        exact g_vret C Rr dX4_cookItem_77 ⟨_, _, _, _, _, _, _, _, by simp only [cookP, if_pos hm8, hp1_, hp2_, hp3_, trP_dead], rfl, rfl⟩ rfl
      · have ht2_ := tkE_ge tp hf2_
        refine g_aload_n (pc := 63) C dX4_cookItem_63 rfl ?_
        refine g_ldc2 (pc := 64) C dX4_cookItem_64 ckl_X4_256 rfl ?_
        refine g_iload_n (pc := 67) C dX4_cookItem_67 rfl ?_
        refine g_iconst (pc := 68) (v := nI 3) C dX4_cookItem_68 (by decide) ?_
        refine g_s0i (pc := 69) C dX4_cookItem_69 ml_X4_57 mf_X4_spotOf (m_spotOf g mn 3) ⟨rfl, rfl, (Nat.le_of_ble_eq_true rfl), (Nat.le_of_ble_eq_true rfl)⟩ rfl rfl (Nat.le_of_ble_eq_true rfl) ?_
        refine g_bipush (pc := 72) (v := nI 9) C dX4_cookItem_72 (by decide) ?_
        refine g_vxn (pc := 74) (ws2 := (mdV g a (sF (mn + 1) yr gr (updN kd mn k) r1_ r2_ (updN mr mn 5)) ks os sd sts kp tk tp tn f2_ (tkE tp tn f2_) v2_ 1 bo so nm mv)) C dX4_cookItem_74 ml_X4_250 mf_X4_partItem (m_piD g a (sF (mn + 1) yr gr (updN kd mn k) r1_ r2_ (updN mr mn 5)) ks os sd sts kp tk tp tn f2_ (tkE tp tn f2_) v2_ bo so nm mv (13814068) (nI (14 + 4 * mn + 3)) (nI 9) htb htn (by omega) (by omega) (by decide)) ⟨rfl, rfl, (Nat.le_of_ble_eq_true rfl), (Nat.le_of_ble_eq_true rfl)⟩ rfl rfl (Nat.le_of_ble_eq_true rfl) 0 rfl rfl rfl [0, 1, 2, 3, 4, 5, 6, 7, 8, 9, 10, 11] [] [0, 1, 2, 3, 4, 5, 6, 7, 8, 9, 10, 11] rfl rfl rfl rfl (by decide) rfl rfl ?_
        exact g_vret C Rr dX4_cookItem_77 ⟨_, _, _, _, _, _, _, _, by simp only [cookP, if_pos hm8, hp1_, hp2_, trP_dead], rfl, rfl⟩ rfl
    · have ht1_ := tkE_ge tp hf1_
      refine g_aload_n (pc := 48) C dX4_cookItem_48 rfl ?_
      refine g_ldc2 (pc := 49) C dX4_cookItem_49 ckl_X4_254 rfl ?_
      refine g_iload_n (pc := 52) C dX4_cookItem_52 rfl ?_
      refine g_iconst (pc := 53) (v := nI 2) C dX4_cookItem_53 (by decide) ?_
      refine g_s0i (pc := 54) C dX4_cookItem_54 ml_X4_57 mf_X4_spotOf (m_spotOf g mn 2) ⟨rfl, rfl, (Nat.le_of_ble_eq_true rfl), (Nat.le_of_ble_eq_true rfl)⟩ rfl rfl (Nat.le_of_ble_eq_true rfl) ?_
      refine g_sipush (pc := 57) (v := nI 999) C dX4_cookItem_57 (by decide) ?_
      refine g_vxn (pc := 60) (ws2 := (mdV g a (sF (mn + 1) yr gr (updN kd mn k) r1_ (updN wt mn 100) (updN mr mn 5)) ks os sd sts kp tk tp tn f1_ (tkE tp tn f1_) v1_ 1 bo so nm mv)) C dX4_cookItem_60 ml_X4_250 mf_X4_partItem (m_piD g a (sF (mn + 1) yr gr (updN kd mn k) r1_ (updN wt mn 100) (updN mr mn 5)) ks os sd sts kp tk tp tn f1_ (tkE tp tn f1_) v1_ bo so nm mv (777297172) (nI (14 + 4 * mn + 2)) (nI 999) htb htn (by omega) (by omega) (by decide)) ⟨rfl, rfl, (Nat.le_of_ble_eq_true rfl), (Nat.le_of_ble_eq_true rfl)⟩ rfl rfl (Nat.le_of_ble_eq_true rfl) 0 rfl rfl rfl [0, 1, 2, 3, 4, 5, 6, 7, 8, 9, 10, 11] [] [0, 1, 2, 3, 4, 5, 6, 7, 8, 9, 10, 11] rfl rfl rfl rfl (by decide) rfl rfl ?_
      refine g_aload_n (pc := 63) C dX4_cookItem_63 rfl ?_
      refine g_ldc2 (pc := 64) C dX4_cookItem_64 ckl_X4_256 rfl ?_
      refine g_iload_n (pc := 67) C dX4_cookItem_67 rfl ?_
      refine g_iconst (pc := 68) (v := nI 3) C dX4_cookItem_68 (by decide) ?_
      refine g_s0i (pc := 69) C dX4_cookItem_69 ml_X4_57 mf_X4_spotOf (m_spotOf g mn 3) ⟨rfl, rfl, (Nat.le_of_ble_eq_true rfl), (Nat.le_of_ble_eq_true rfl)⟩ rfl rfl (Nat.le_of_ble_eq_true rfl) ?_
      refine g_bipush (pc := 72) (v := nI 9) C dX4_cookItem_72 (by decide) ?_
      refine g_vxn (pc := 74) (ws2 := (mdV g a (sF (mn + 1) yr gr (updN kd mn k) r1_ (updN wt mn 100) (updN mr mn 5)) ks os sd sts kp tk tp tn f1_ (tkE tp tn f1_) v1_ 1 bo so nm mv)) C dX4_cookItem_74 ml_X4_250 mf_X4_partItem (m_piD g a (sF (mn + 1) yr gr (updN kd mn k) r1_ (updN wt mn 100) (updN mr mn 5)) ks os sd sts kp tk tp tn f1_ (tkE tp tn f1_) v1_ bo so nm mv (13814068) (nI (14 + 4 * mn + 3)) (nI 9) htb htn (by omega) (by omega) (by decide)) ⟨rfl, rfl, (Nat.le_of_ble_eq_true rfl), (Nat.le_of_ble_eq_true rfl)⟩ rfl rfl (Nat.le_of_ble_eq_true rfl) 0 rfl rfl rfl [0, 1, 2, 3, 4, 5, 6, 7, 8, 9, 10, 11] [] [0, 1, 2, 3, 4, 5, 6, 7, 8, 9, 10, 11] rfl rfl rfl rfl (by decide) rfl rfl ?_
      exact g_vret C Rr dX4_cookItem_77 ⟨_, _, _, _, _, _, _, _, by simp only [cookP, if_pos hm8, hp1_, trP_dead], rfl, rfl⟩ rfl
set_option maxHeartbeats 400000 in
set_option maxRecDepth 100000 in
theorem m_item (g : Gl) (a : Nat → Nat) (ks : Nat → Nat) (os : Nat → Nat) (sd : Nat → Nat) (sts : Nat → Nat) (kp : Nat) (tk : Nat → Nat) (tp : Nat → Nat) (tn : Nat) (fr : Nat) (vl : Nat) (bo : Nat → Nat) (so : Nat → Nat) (nm : Nat → Int64) (mv : Nat → Int64) (mn : Nat) (yr : Nat) (gr : Nat → Nat) (kd : Nat → Nat) (pt : Nat → Nat) (wt : Nat → Nat) (mr : Nat → Nat) (hB : PB gr kd pt wt mr (sumN gr 12) yr mn) (htb : ∀ j, tp j < 256) (htn : tn ≤ 120) (hft : fr ≤ tn) : Ct g yX4_item cX4_item 2 none (rk 7 159) [.ref (a 0)] (mdV g a (sF mn yr gr kd pt wt mr) ks os sd sts kp tk tp tn fr (tkE tp tn fr) vl 0 bo so nm mv) (fun r w2 => ∃ (mn2 : Nat) (gr2 : Nat → Nat) (kd2 : Nat → Nat) (pt2 : Nat → Nat) (wt2 : Nat → Nat) (mr2 : Nat → Nat) (fr2 : Nat) (wr2 : Nat) (vl2 : Nat), itemP tp tn (mn, yr, gr, kd, pt, wt, mr) fr = ((mn2, yr, gr2, kd2, pt2, wt2, mr2), fr2, wr2) ∧ r = none ∧ w2 = (mdV g a (sF mn2 yr gr2 kd2 pt2 wt2 mr2) ks os sd sts kp tk tp tn fr2 (tkE tp tn fr2) vl2 wr2 bo so nm mv)) := by
  refine ct_of (by decide) (Nat.le_of_ble_eq_true rfl) ?_
  intro φ C0 Rr
  have C : Cx φ g cX4_item 2 RX4 (rk 7 159) := C0
  show Go φ g 2 0 [(0, .ref (a 0))] [] (mdV g a (sF mn yr gr kd pt wt mr) ks os sd sts kp tk tp tn fr (tkE tp tn fr) vl 0 bo so nm mv)
  obtain ⟨-, hTle, hgr, hkd, hpt, hwt, hmr, hyr, hmn⟩ := id hB
  have ht0 := tkE_ge tp hft
  refine g_aload_n (pc := 0) C dX4_item_0 rfl ?_
  refine g_vxi (pc := 1) (ws2 := (mdV g a (sF mn yr gr kd pt wt mr) ks os sd sts kp tk tp tn fr (tkE tp tn fr) vl 0 bo so nm mv)) C dX4_item_1 ml_X4_258 mf_X4_kindHere (m_kindHere g a (sF mn yr gr kd pt wt mr) ks os sd sts kp tk tp tn fr (tkE tp tn fr) vl bo so nm mv htb htn (by omega) rfl (by omega)) ⟨rfl, rfl, (Nat.le_of_ble_eq_true rfl), (Nat.le_of_ble_eq_true rfl)⟩ rfl rfl (Nat.le_of_ble_eq_true rfl) 0 rfl rfl rfl [0, 1, 2, 3, 4, 5, 6, 7, 8, 9, 10, 11] [] [0, 1, 2, 3, 4, 5, 6, 7, 8, 9, 10, 11] rfl rfl rfl rfl (by decide) rfl rfl ?_
  rcases kdW_or (wdL tp tn fr (tkE tp tn fr)) with hk | ⟨k_, hk5, hk⟩
  · refine g_top (y := (-1)) hk ?_
    refine g_istore_n (pc := 4) (lv2 := [(0, .ref (a 0)), (1, .int (-1))]) C dX4_item_4 rfl (Nat.le_of_ble_eq_true rfl) rfl ?_
    refine g_iload_n (pc := 5) C dX4_item_5 rfl ?_
    refine g_if_lt (pc := 6) (tgt := 17) C dX4_item_6 (by decide) (fun _ => ?_) (fun h => absurd (by decide) h)
    refine g_aload_n (pc := 17) C dX4_item_17 rfl ?_
    refine g_vxl (pc := 18) (ws2 := (mdV g a (sF mn yr gr kd pt wt mr) ks os sd sts kp tk tp tn fr (tkE tp tn fr) vl 0 bo so nm mv)) C dX4_item_18 ml_X4_229 mf_X4_word (m_word g a (sF mn yr gr kd pt wt mr) ks os sd sts kp tk tp tn fr (tkE tp tn fr) vl bo so nm mv htb htn (by omega) rfl (by omega)) ⟨rfl, rfl, (Nat.le_of_ble_eq_true rfl), (Nat.le_of_ble_eq_true rfl)⟩ rfl rfl (Nat.le_of_ble_eq_true rfl) 0 rfl rfl rfl [0, 1, 2, 3, 4, 5, 6, 7, 8, 9, 10, 11] [] [0, 1, 2, 3, 4, 5, 6, 7, 8, 9, 10, 11] rfl rfl rfl rfl (by decide) rfl rfl ?_
    refine g_ldc2 (pc := 21) C dX4_item_21 ckl_X4_264 rfl ?_
    refine g_lcmp (pc := 24) C dX4_item_24 ?_
    refine g_if_neL (pc := 25) (tgt := 35) C dX4_item_25 (by decide) (fun c2 => ?_) (fun c2 => ?_)
    · refine g_aload_n (pc := 35) C dX4_item_35 rfl ?_
      refine g_iconst (pc := 36) (v := nI 0) C dX4_item_36 (by decide) ?_
      refine g_vxn (pc := 37) (ws2 := (mdV g a (sF mn yr gr kd pt wt mr) ks os sd sts kp tk tp tn fr (tkE tp tn fr) vl 1 bo so nm mv)) C dX4_item_37 ml_X4_225 mf_X4_must (m_must0 g a (sF mn yr gr kd pt wt mr) ks os sd sts kp tk tp tn fr (tkE tp tn fr) vl bo so nm mv) ⟨rfl, rfl, (Nat.le_of_ble_eq_true rfl), (Nat.le_of_ble_eq_true rfl)⟩ rfl rfl (Nat.le_of_ble_eq_true rfl) 0 rfl rfl rfl [0, 1, 2, 3, 4, 5, 6, 7, 8, 9, 10, 11] [] [0, 1, 2, 3, 4, 5, 6, 7, 8, 9, 10, 11] rfl rfl rfl rfl (by decide) rfl rfl ?_
      exact g_vret C Rr dX4_item_40 ⟨_, _, _, _, _, _, _, _, _, by simp only [itemP, hk, if_true, if_neg c2], rfl, rfl⟩ rfl
    · refine g_aload_n (pc := 28) C dX4_item_28 rfl ?_
      refine g_rV (pc := 29) (rest := []) C dX4_item_29 ml_X4_266 mf_X4_grainsItem (m_grE g a ks os sd sts kp tk tp tn fr vl bo so nm mv mn yr gr kd pt wt mr hB htb htn (by omega)) ⟨rfl, rfl, (Nat.le_of_ble_eq_true rfl), (Nat.le_of_ble_eq_true rfl)⟩ rfl rfl (Nat.le_of_ble_eq_true rfl) 0 rfl rfl rfl [0, 1, 2, 3, 4, 5, 6, 7, 8, 9, 10, 11] [] rfl rfl rfl rfl (by decide) ?_
      intro r9 w9 h9
      obtain ⟨r2_3, fr2_4, wr2_5, vl2_6, hp_g, rfl, rfl⟩ := h9
      refine g_sub (ws2 := (mdV g a (sF mn yr r2_3 kd pt wt mr) ks os sd sts kp tk tp tn fr2_4 (tkE tp tn fr2_4) vl2_6 wr2_5 bo so nm mv)) [0, 1, 2, 3, 4, 5, 6, 7, 8, 9, 10, 11] rfl rfl ?_
      show Go φ g 2 32 [(0, .ref (a 0)), (1, .int (-1))] [] (mdV g a (sF mn yr r2_3 kd pt wt mr) ks os sd sts kp tk tp tn fr2_4 (tkE tp tn fr2_4) vl2_6 wr2_5 bo so nm mv)
      refine g_goto (pc := 32) (tgt := 40) C dX4_item_32 (by decide) ?_
      exact g_vret C Rr dX4_item_40 ⟨_, _, _, _, _, _, _, _, _, by simp only [itemP, hk, if_true, if_pos c2, hp_g], rfl, rfl⟩ rfl
  · refine g_top (y := (nI k_)) hk ?_
    refine g_istore_n (pc := 4) (lv2 := [(0, .ref (a 0)), (1, .int (nI k_))]) C dX4_item_4 rfl (Nat.le_of_ble_eq_true rfl) rfl ?_
    refine g_iload_n (pc := 5) C dX4_item_5 rfl ?_
    refine g_if_ltN (pc := 6) (tgt := 17) C dX4_item_6 (by decide) (by omega) (fun h => absurd h (by simp)) (fun _ => ?_)
    refine g_aload_n (pc := 9) C dX4_item_9 rfl ?_
    refine g_iload_n (pc := 10) C dX4_item_10 rfl ?_
    refine g_rV (pc := 11) (rest := []) C dX4_item_11 ml_X4_261 mf_X4_cookItem (m_cookItem g a ks os sd sts kp tk tp tn fr vl bo so nm mv mn yr gr kd pt wt mr k_ htb htn (by omega) (by omega)) ⟨rfl, rfl, (Nat.le_of_ble_eq_true rfl), (Nat.le_of_ble_eq_true rfl)⟩ rfl rfl (Nat.le_of_ble_eq_true rfl) 0 rfl rfl rfl [0, 1, 2, 3, 4, 5, 6, 7, 8, 9, 10, 11] [] rfl rfl rfl rfl (by decide) ?_
    intro r9 w9 h9
    obtain ⟨mn2_8, kd2_9, pt2_10, wt2_11, mr2_12, fr2_13, wr2_14, vl2_15, hp_c, rfl, rfl⟩ := h9
    refine g_sub (ws2 := (mdV g a (sF mn2_8 yr gr kd2_9 pt2_10 wt2_11 mr2_12) ks os sd sts kp tk tp tn fr2_13 (tkE tp tn fr2_13) vl2_15 wr2_14 bo so nm mv)) [0, 1, 2, 3, 4, 5, 6, 7, 8, 9, 10, 11] rfl rfl ?_
    show Go φ g 2 14 [(0, .ref (a 0)), (1, .int (nI k_))] [] (mdV g a (sF mn2_8 yr gr kd2_9 pt2_10 wt2_11 mr2_12) ks os sd sts kp tk tp tn fr2_13 (tkE tp tn fr2_13) vl2_15 wr2_14 bo so nm mv)
    refine g_goto (pc := 14) (tgt := 40) C dX4_item_14 (by decide) ?_
    exact g_vret C Rr dX4_item_40 ⟨_, _, _, _, _, _, _, _, _, by rw [itemP, hk, if_neg (m1_ne (by omega)), ix_nI (by omega)]; exact hp_c, rfl, rfl⟩ rfl
