theorem inR_cook {v : Int32} {mn : Nat} (h : inR v 0 ((mn : Int) - 1) = true) : ∃ j : Nat, j < mn ∧ v = nI j := by
  replace h := inR_iff.mp h
  have h3 := Int32.toInt_lt v
  refine ⟨v.toInt.toNat, by omega, ?_⟩
  apply Int32.toInt_inj.mp
  rw [nI_toInt (by omega)]
  omega
set_option maxHeartbeats 400000 in
set_option maxRecDepth 100000 in
theorem n_grains (g : Gl) (a : Nat → Nat) (X : Xs) (J : Jm) (p : Int32) (hX : InvX X) (hJ : OkM X J) : Ct g yX4_grains cX4_grains 2 (some .int) (rk 2 45) [.ref (a 0), .int p] (mdX g a X J) (fun r w2 => ∃ J2, OkM (f_grains X p).2 J2 ∧ r = some (.int (f_grains X p).1) ∧ w2 = mdX g a (f_grains X p).2 J2) := by
  obtain ⟨⟨mn, yr, gr, kd, pt, wt, mr⟩, ⟨⟨kmn, kyr, kgr, kkd, kpt, kwt, kmr⟩, kp⟩, ⟨tb, tn⟩, ⟨wd, sz, nm⟩, tl⟩ := X
  obtain ⟨kc, os, sd, tk, fr, to, vl, wr, mv⟩ := J
  obtain ⟨hB, hy, hkp, htb, htn, hwd, hsz⟩ := id hX
  obtain ⟨-, hTle, hgr, hkd, hpt, hwt, hmr, hyr, hmn⟩ := id hB
  refine ct_of (by decide) (Nat.le_of_ble_eq_true rfl) ?_
  intro φ C0 Rr
  have C : Cx φ g cX4_grains 2 RX4 (rk 2 45) := C0
  show Go φ g 2 0 [(0, .ref (a 0)), (1, .int p)] [] (mdV g a (sF mn yr gr kd pt wt mr) kc os sd tl kp tk tb tn fr to vl wr wd sz (flat nm) mv)
  refine g_iload_n (pc := 0) C dX4_grains_0 rfl ?_
  refine g_s0i (pc := 1) C dX4_grains_1 ml_X4_61 mf_X4_isPart (m_isPart g p) ⟨rfl, rfl, (Nat.le_of_ble_eq_true rfl), (Nat.le_of_ble_eq_true rfl)⟩ rfl rfl (Nat.le_of_ble_eq_true rfl) ?_
  refine g_if_eqB (pc := 4) (tgt := 18) C dX4_grains_4 (by decide) (fun c1 => ?_) (fun c1 => ?_)
  · refine g_aload_n (pc := 18) C dX4_grains_18 rfl ?_
    refine g_ldc (pc := 19) C dX4_grains_19 ck_X4_44 rfl ?_
    refine g_vxi (pc := 21) (ws2 := (mdV g a (sF mn yr gr kd pt wt mr) kc os sd (updN tl 0 (tl 0 + 1)) kp tk tb tn fr to vl wr wd sz (flat nm) mv)) C dX4_grains_21 ml_X4_64 mf_X4_finds (m_finds g a (sF mn yr gr kd pt wt mr) kc os sd tl kp tk tb tn fr to vl wr wd sz (flat nm) mv 0 (by decide)) ⟨rfl, rfl, (Nat.le_of_ble_eq_true rfl), (Nat.le_of_ble_eq_true rfl)⟩ rfl rfl (Nat.le_of_ble_eq_true rfl) 0 rfl rfl rfl [0, 1, 2, 3, 4, 5, 6, 7, 8, 9, 10, 11] [] [0, 1, 2, 3, 4, 5, 6, 7, 8, 9, 10, 11] rfl rfl rfl rfl (by decide) rfl rfl ?_
    have hf : f_grains ((mn, yr, gr, kd, pt, wt, mr), ((kmn, kyr, kgr, kkd, kpt, kwt, kmr), kp), (tb, tn), (wd, sz, nm), tl) p = ((fd 0), ((mn, yr, gr, kd, pt, wt, mr), ((kmn, kyr, kgr, kkd, kpt, kwt, kmr), kp), (tb, tn), (wd, sz, nm), updN tl 0 (tl 0 + 1))) := by simp [f_grains, fnd, c1]
    exact g_iret C Rr dX4_grains_24 ⟨(kc, os, sd, tk, fr, to, vl, wr, mv), by rw [hf]; exact hJ, by rw [hf], by rw [hf]; rfl⟩ rfl
  · obtain ⟨p_, hl_p, hu_p, rfl⟩ := inR_nat (lo := 0) (hi := 11) c1
    refine g_aload_n (pc := 7) C dX4_grains_7 rfl ?_
    refine g_get4 (pc := 8) C dX4_grains_8 0 rfl 0 (by decide) fl_X4_7 rfl ?_
    refine g_iconst (pc := 11) (v := nI 2) C dX4_grains_11 (by decide) ?_
    refine g_iload_n (pc := 12) C dX4_grains_12 rfl ?_
    refine g_iaddN (pc := 13) C dX4_grains_13 ?_
    refine g_ialdM (pc := 14) C dX4_grains_14 1 rfl rfl (by omega) (by decide) ?_
    refine g_top (congrArg nI (sF_rg (by omega))) ?_
    have b2 := hgr p_
    refine g_goto (pc := 15) (tgt := 24) C dX4_grains_15 (by decide) ?_
    have hf : f_grains ((mn, yr, gr, kd, pt, wt, mr), ((kmn, kyr, kgr, kkd, kpt, kwt, kmr), kp), (tb, tn), (wd, sz, nm), tl) (nI p_) = ((nI (gr p_)), ((mn, yr, gr, kd, pt, wt, mr), ((kmn, kyr, kgr, kkd, kpt, kwt, kmr), kp), (tb, tn), (wd, sz, nm), tl)) := by simp [f_grains, fnd, c1, ix_nI (show p_ < 2 ^ 31 by omega)]
    exact g_iret C Rr dX4_grains_24 ⟨(kc, os, sd, tk, fr, to, vl, wr, mv), by rw [hf]; exact hJ, by rw [hf], by rw [hf]; rfl⟩ rfl
set_option maxHeartbeats 400000 in
set_option maxRecDepth 100000 in
theorem n_pour (g : Gl) (a : Nat → Nat) (X : Xs) (J : Jm) (p : Int32) (v : Int32) (hX : InvX X) (hJ : OkM X J) : Ct g yX4_pour cX4_pour 3 (some .int) (rk 2 45) [.ref (a 0), .int p, .int v] (mdX g a X J) (fun r w2 => ∃ J2, OkM (f_pour X p v).2 J2 ∧ r = some (.int (f_pour X p v).1) ∧ w2 = mdX g a (f_pour X p v).2 J2) := by
  obtain ⟨⟨mn, yr, gr, kd, pt, wt, mr⟩, ⟨⟨kmn, kyr, kgr, kkd, kpt, kwt, kmr⟩, kp⟩, ⟨tb, tn⟩, ⟨wd, sz, nm⟩, tl⟩ := X
  obtain ⟨kc, os, sd, tk, fr, to, vl, wr, mv⟩ := J
  obtain ⟨hB, hy, hkp, htb, htn, hwd, hsz⟩ := id hX
  obtain ⟨-, hTle, hgr, hkd, hpt, hwt, hmr, hyr, hmn⟩ := id hB
  refine ct_of (by decide) (Nat.le_of_ble_eq_true rfl) ?_
  intro φ C0 Rr
  have C : Cx φ g cX4_pour 3 RX4 (rk 2 45) := C0
  show Go φ g 3 0 [(0, .ref (a 0)), (1, .int p), (2, .int v)] [] (mdV g a (sF mn yr gr kd pt wt mr) kc os sd tl kp tk tb tn fr to vl wr wd sz (flat nm) mv)
  refine g_iload_n (pc := 0) C dX4_pour_0 rfl ?_
  refine g_s0i (pc := 1) C dX4_pour_1 ml_X4_61 mf_X4_isPart (m_isPart g p) ⟨rfl, rfl, (Nat.le_of_ble_eq_true rfl), (Nat.le_of_ble_eq_true rfl)⟩ rfl rfl (Nat.le_of_ble_eq_true rfl) ?_
  refine g_if_eqB (pc := 4) (tgt := 19) C dX4_pour_4 (by decide) (fun c1 => ?_) (fun c1 => ?_)
  · refine g_aload_n (pc := 19) C dX4_pour_19 rfl ?_
    refine g_ldc (pc := 20) C dX4_pour_20 ck_X4_44 rfl ?_
    refine g_vxi (pc := 22) (ws2 := (mdV g a (sF mn yr gr kd pt wt mr) kc os sd (updN tl 0 (tl 0 + 1)) kp tk tb tn fr to vl wr wd sz (flat nm) mv)) C dX4_pour_22 ml_X4_64 mf_X4_finds (m_finds g a (sF mn yr gr kd pt wt mr) kc os sd tl kp tk tb tn fr to vl wr wd sz (flat nm) mv 0 (by decide)) ⟨rfl, rfl, (Nat.le_of_ble_eq_true rfl), (Nat.le_of_ble_eq_true rfl)⟩ rfl rfl (Nat.le_of_ble_eq_true rfl) 0 rfl rfl rfl [0, 1, 2, 3, 4, 5, 6, 7, 8, 9, 10, 11] [] [0, 1, 2, 3, 4, 5, 6, 7, 8, 9, 10, 11] rfl rfl rfl rfl (by decide) rfl rfl ?_
    have hf : f_pour ((mn, yr, gr, kd, pt, wt, mr), ((kmn, kyr, kgr, kkd, kpt, kwt, kmr), kp), (tb, tn), (wd, sz, nm), tl) p v = ((fd 0), ((mn, yr, gr, kd, pt, wt, mr), ((kmn, kyr, kgr, kkd, kpt, kwt, kmr), kp), (tb, tn), (wd, sz, nm), updN tl 0 (tl 0 + 1))) := by simp [f_pour, fnd, c1]
    exact g_iret C Rr dX4_pour_25 ⟨(kc, os, sd, tk, fr, to, vl, wr, mv), by rw [hf]; exact hJ, by rw [hf], by rw [hf]; rfl⟩ rfl
  · obtain ⟨p_, hl_p, hu_p, rfl⟩ := inR_nat (lo := 0) (hi := 11) c1
    have hgp := sumN_ge gr (show p_ < 12 by omega)
    refine g_iload_n (pc := 7) C dX4_pour_7 rfl ?_
    refine g_i2l (pc := 8) C dX4_pour_8 ?_
    refine g_lconst (pc := 9) (v := 0) C dX4_pour_9 (by decide) ?_
    refine g_ldc2 (pc := 10) C dX4_pour_10 ckl_X4_68 rfl ?_
    refine g_s0i (pc := 13) C dX4_pour_13 ml_X4_47 mf_X4_in (m_in g ((v).toInt64) 0 (99999)) ⟨rfl, rfl, (Nat.le_of_ble_eq_true rfl), (Nat.le_of_ble_eq_true rfl)⟩ rfl rfl (Nat.le_of_ble_eq_true rfl) ?_
    refine g_top (y := bI (inR v 0 99999 = true)) (bI_iff (w64.trans inR_iff.symm)) ?_
    refine g_if_neB (pc := 16) (tgt := 26) C dX4_pour_16 (by decide) (fun c2 => ?_) (fun c2 => ?_)
    · obtain ⟨v_, hl_v, hu_v, rfl⟩ := inR_nat (lo := 0) (hi := 99999) c2
      refine g_aload_n (pc := 26) C dX4_pour_26 rfl ?_
      refine g_vxi (pc := 27) (ws2 := (mdV g a (sF mn yr gr kd pt wt mr) kc os sd tl kp tk tb tn fr to vl wr wd sz (flat nm) mv)) C dX4_pour_27 ml_X4_70 mf_X4_all (m_all g a kc os sd tl kp tk tb tn fr to vl wr wd sz (flat nm) mv mn yr gr kd pt wt mr) ⟨rfl, rfl, (Nat.le_of_ble_eq_true rfl), (Nat.le_of_ble_eq_true rfl)⟩ rfl rfl (Nat.le_of_ble_eq_true rfl) 0 rfl rfl rfl [0, 1, 2, 3, 4, 5, 6, 7, 8, 9, 10, 11] [] [0, 1, 2, 3, 4, 5, 6, 7, 8, 9, 10, 11] rfl rfl rfl rfl (by decide) rfl rfl ?_
      refine g_aload_n (pc := 30) C dX4_pour_30 rfl ?_
      refine g_get4 (pc := 31) C dX4_pour_31 0 rfl 0 (by decide) fl_X4_7 rfl ?_
      refine g_iconst (pc := 34) (v := nI 2) C dX4_pour_34 (by decide) ?_
      refine g_iload_n (pc := 35) C dX4_pour_35 rfl ?_
      refine g_iaddN (pc := 36) C dX4_pour_36 ?_
      refine g_ialdM (pc := 37) C dX4_pour_37 1 rfl rfl (by omega) (by decide) ?_
      refine g_top (congrArg nI (sF_rg (by omega))) ?_
      have b3 := hgr p_
      refine g_isubN (pc := 38) C dX4_pour_38 (by omega) ?_
      refine g_iload_n (pc := 39) C dX4_pour_39 rfl ?_
      refine g_iaddN (pc := 40) C dX4_pour_40 ?_
      refine g_ldc (pc := 41) (v2 := nI 99999) C dX4_pour_41 ck_X4_74 (by decide) ?_
      refine g_icmp_leN (pc := 43) (tgt := 55) C dX4_pour_43 (by decide) (by omega) (by omega) (fun c4 => ?_) (fun c4 => ?_)
      · refine g_aload_n (pc := 55) C dX4_pour_55 rfl ?_
        refine g_iconst (pc := 56) (v := nI 2) C dX4_pour_56 (by decide) ?_
        refine g_iload_n (pc := 57) C dX4_pour_57 rfl ?_
        refine g_iaddN (pc := 58) C dX4_pour_58 ?_
        refine g_iload_n (pc := 59) C dX4_pour_59 rfl ?_
        refine g_vxi (pc := 60) (ws2 := (mdV g a (updN (sF mn yr gr kd pt wt mr) (2 + p_) v_) kc os sd tl kp tk tb tn fr to vl wr wd sz (flat nm) mv)) C dX4_pour_60 ml_X4_76 mf_X4_becomes (m_becomes g a (sF mn yr gr kd pt wt mr) kc os sd tl kp tk tb tn fr to vl wr wd sz (flat nm) mv (2 + p_) v_ (by omega)) ⟨rfl, rfl, (Nat.le_of_ble_eq_true rfl), (Nat.le_of_ble_eq_true rfl)⟩ rfl rfl (Nat.le_of_ble_eq_true rfl) 0 rfl rfl rfl [0, 1, 2, 3, 4, 5, 6, 7, 8, 9, 10, 11] [] [0, 1, 2, 3, 4, 5, 6, 7, 8, 9, 10, 11] rfl rfl rfl rfl (by decide) rfl rfl ?_
        refine g_ws (ws := (mdV g a (updN (sF mn yr gr kd pt wt mr) (2 + p_) v_) kc os sd tl kp tk tb tn fr to vl wr wd sz (flat nm) mv)) (ws2 := (mdV g a (sF mn yr (updN gr p_ v_) kd pt wt mr) kc os sd tl kp tk tb tn fr to vl wr wd sz (flat nm) mv)) (by rw [sF_wg (by omega)]) ?_
        refine g_top (y := nI (gr p_)) (congrArg nI (sF_rg (by omega))) ?_
        have b5 := hgr p_
        have hf : f_pour ((mn, yr, gr, kd, pt, wt, mr), ((kmn, kyr, kgr, kkd, kpt, kwt, kmr), kp), (tb, tn), (wd, sz, nm), tl) (nI p_) (nI v_) = ((nI (gr p_)), ((mn, yr, (updN gr p_ v_), kd, pt, wt, mr), ((kmn, kyr, kgr, kkd, kpt, kwt, kmr), kp), (tb, tn), (wd, sz, nm), tl)) := by simp [f_pour, fnd, c1, c2, c4, Nat.not_lt.mpr c4, ix_nI (show p_ < 2 ^ 31 by omega), ix_nI (show v_ < 2 ^ 31 by omega)]
        exact g_iret C Rr dX4_pour_63 ⟨(kc, os, sd, tk, fr, to, vl, wr, mv), by rw [hf]; exact hJ, by rw [hf], by rw [hf]; rfl⟩ rfl
      · refine g_aload_n (pc := 46) C dX4_pour_46 rfl ?_
        refine g_ldc (pc := 47) C dX4_pour_47 ck_X4_75 rfl ?_
        refine g_vxi (pc := 49) (ws2 := (mdV g a (sF mn yr gr kd pt wt mr) kc os sd (updN tl 1 (tl 1 + 1)) kp tk tb tn fr to vl wr wd sz (flat nm) mv)) C dX4_pour_49 ml_X4_64 mf_X4_finds (m_finds g a (sF mn yr gr kd pt wt mr) kc os sd tl kp tk tb tn fr to vl wr wd sz (flat nm) mv 1 (by decide)) ⟨rfl, rfl, (Nat.le_of_ble_eq_true rfl), (Nat.le_of_ble_eq_true rfl)⟩ rfl rfl (Nat.le_of_ble_eq_true rfl) 0 rfl rfl rfl [0, 1, 2, 3, 4, 5, 6, 7, 8, 9, 10, 11] [] [0, 1, 2, 3, 4, 5, 6, 7, 8, 9, 10, 11] rfl rfl rfl rfl (by decide) rfl rfl ?_
        refine g_goto (pc := 52) (tgt := 63) C dX4_pour_52 (by decide) ?_
        have hf : f_pour ((mn, yr, gr, kd, pt, wt, mr), ((kmn, kyr, kgr, kkd, kpt, kwt, kmr), kp), (tb, tn), (wd, sz, nm), tl) (nI p_) (nI v_) = ((fd 1), ((mn, yr, gr, kd, pt, wt, mr), ((kmn, kyr, kgr, kkd, kpt, kwt, kmr), kp), (tb, tn), (wd, sz, nm), updN tl 1 (tl 1 + 1))) := by simp [f_pour, fnd, c1, c2, c4, Nat.not_le.mpr c4, ix_nI (show p_ < 2 ^ 31 by omega), ix_nI (show v_ < 2 ^ 31 by omega)]
        exact g_iret C Rr dX4_pour_63 ⟨(kc, os, sd, tk, fr, to, vl, wr, mv), by rw [hf]; exact hJ, by rw [hf], by rw [hf]; rfl⟩ rfl
    · refine g_aload_n (pc := 19) C dX4_pour_19 rfl ?_
      refine g_ldc (pc := 20) C dX4_pour_20 ck_X4_44 rfl ?_
      refine g_vxi (pc := 22) (ws2 := (mdV g a (sF mn yr gr kd pt wt mr) kc os sd (updN tl 0 (tl 0 + 1)) kp tk tb tn fr to vl wr wd sz (flat nm) mv)) C dX4_pour_22 ml_X4_64 mf_X4_finds (m_finds g a (sF mn yr gr kd pt wt mr) kc os sd tl kp tk tb tn fr to vl wr wd sz (flat nm) mv 0 (by decide)) ⟨rfl, rfl, (Nat.le_of_ble_eq_true rfl), (Nat.le_of_ble_eq_true rfl)⟩ rfl rfl (Nat.le_of_ble_eq_true rfl) 0 rfl rfl rfl [0, 1, 2, 3, 4, 5, 6, 7, 8, 9, 10, 11] [] [0, 1, 2, 3, 4, 5, 6, 7, 8, 9, 10, 11] rfl rfl rfl rfl (by decide) rfl rfl ?_
      have hf : f_pour ((mn, yr, gr, kd, pt, wt, mr), ((kmn, kyr, kgr, kkd, kpt, kwt, kmr), kp), (tb, tn), (wd, sz, nm), tl) (nI p_) v = ((fd 0), ((mn, yr, gr, kd, pt, wt, mr), ((kmn, kyr, kgr, kkd, kpt, kwt, kmr), kp), (tb, tn), (wd, sz, nm), updN tl 0 (tl 0 + 1))) := by simp [f_pour, fnd, c1, c2, ix_nI (show p_ < 2 ^ 31 by omega)]
      exact g_iret C Rr dX4_pour_25 ⟨(kc, os, sd, tk, fr, to, vl, wr, mv), by rw [hf]; exact hJ, by rw [hf], by rw [hf]; rfl⟩ rfl
set_option maxHeartbeats 400000 in
set_option maxRecDepth 100000 in
theorem n_taste (g : Gl) (a : Nat → Nat) (X : Xs) (J : Jm) (p : Int32) (hX : InvX X) (hJ : OkM X J) : Ct g yX4_taste cX4_taste 2 (some .int) (rk 2 45) [.ref (a 0), .int p] (mdX g a X J) (fun r w2 => ∃ J2, OkM (f_taste X p).2 J2 ∧ r = some (.int (f_taste X p).1) ∧ w2 = mdX g a (f_taste X p).2 J2) := by
  obtain ⟨⟨mn, yr, gr, kd, pt, wt, mr⟩, ⟨⟨kmn, kyr, kgr, kkd, kpt, kwt, kmr⟩, kp⟩, ⟨tb, tn⟩, ⟨wd, sz, nm⟩, tl⟩ := X
  obtain ⟨kc, os, sd, tk, fr, to, vl, wr, mv⟩ := J
  obtain ⟨hB, hy, hkp, htb, htn, hwd, hsz⟩ := id hX
  obtain ⟨-, hTle, hgr, hkd, hpt, hwt, hmr, hyr, hmn⟩ := id hB
  refine ct_of (by decide) (Nat.le_of_ble_eq_true rfl) ?_
  intro φ C0 Rr
  have C : Cx φ g cX4_taste 2 RX4 (rk 2 45) := C0
  show Go φ g 2 0 [(0, .ref (a 0)), (1, .int p)] [] (mdV g a (sF mn yr gr kd pt wt mr) kc os sd tl kp tk tb tn fr to vl wr wd sz (flat nm) mv)
  refine g_iload_n (pc := 0) C dX4_taste_0 rfl ?_
  refine g_s0i (pc := 1) C dX4_taste_1 ml_X4_61 mf_X4_isPart (m_isPart g p) ⟨rfl, rfl, (Nat.le_of_ble_eq_true rfl), (Nat.le_of_ble_eq_true rfl)⟩ rfl rfl (Nat.le_of_ble_eq_true rfl) ?_
  refine g_if_eqB (pc := 4) (tgt := 15) C dX4_taste_4 (by decide) (fun c1 => ?_) (fun c1 => ?_)
  · refine g_aload_n (pc := 15) C dX4_taste_15 rfl ?_
    refine g_ldc (pc := 16) C dX4_taste_16 ck_X4_44 rfl ?_
    refine g_vxi (pc := 18) (ws2 := (mdV g a (sF mn yr gr kd pt wt mr) kc os sd (updN tl 0 (tl 0 + 1)) kp tk tb tn fr to vl wr wd sz (flat nm) mv)) C dX4_taste_18 ml_X4_64 mf_X4_finds (m_finds g a (sF mn yr gr kd pt wt mr) kc os sd tl kp tk tb tn fr to vl wr wd sz (flat nm) mv 0 (by decide)) ⟨rfl, rfl, (Nat.le_of_ble_eq_true rfl), (Nat.le_of_ble_eq_true rfl)⟩ rfl rfl (Nat.le_of_ble_eq_true rfl) 0 rfl rfl rfl [0, 1, 2, 3, 4, 5, 6, 7, 8, 9, 10, 11] [] [0, 1, 2, 3, 4, 5, 6, 7, 8, 9, 10, 11] rfl rfl rfl rfl (by decide) rfl rfl ?_
    have hf : f_taste ((mn, yr, gr, kd, pt, wt, mr), ((kmn, kyr, kgr, kkd, kpt, kwt, kmr), kp), (tb, tn), (wd, sz, nm), tl) p = ((fd 0), ((mn, yr, gr, kd, pt, wt, mr), ((kmn, kyr, kgr, kkd, kpt, kwt, kmr), kp), (tb, tn), (wd, sz, nm), updN tl 0 (tl 0 + 1))) := by simp [f_taste, fnd, c1]
    exact g_iret C Rr dX4_taste_21 ⟨(kc, os, sd, tk, fr, to, vl, wr, mv), by rw [hf]; exact hJ, by rw [hf], by rw [hf]; rfl⟩ rfl
  · obtain ⟨p_, hl_p, hu_p, rfl⟩ := inR_nat (lo := 0) (hi := 11) c1
    refine g_aload_n (pc := 7) C dX4_taste_7 rfl ?_
    refine g_iload_n (pc := 8) C dX4_taste_8 rfl ?_
    refine g_vxi (pc := 9) (ws2 := (mdV g a (sF mn yr gr kd pt wt mr) kc os sd tl kp tk tb tn fr to vl wr wd sz (flat nm) mv)) C dX4_taste_9 ml_X4_79 mf_X4_tasteOf (m_tasteOf g a kc os sd tl kp tk tb tn fr to vl wr wd sz (flat nm) mv mn yr gr kd pt wt mr p_ hB (by omega)) ⟨rfl, rfl, (Nat.le_of_ble_eq_true rfl), (Nat.le_of_ble_eq_true rfl)⟩ rfl rfl (Nat.le_of_ble_eq_true rfl) 0 rfl rfl rfl [0, 1, 2, 3, 4, 5, 6, 7, 8, 9, 10, 11] [] [0, 1, 2, 3, 4, 5, 6, 7, 8, 9, 10, 11] rfl rfl rfl rfl (by decide) rfl rfl ?_
    refine g_goto (pc := 12) (tgt := 21) C dX4_taste_12 (by decide) ?_
    have hf : f_taste ((mn, yr, gr, kd, pt, wt, mr), ((kmn, kyr, kgr, kkd, kpt, kwt, kmr), kp), (tb, tn), (wd, sz, nm), tl) (nI p_) = ((nI (tasteN gr (sumN gr 12) p_)), ((mn, yr, gr, kd, pt, wt, mr), ((kmn, kyr, kgr, kkd, kpt, kwt, kmr), kp), (tb, tn), (wd, sz, nm), tl)) := by simp [f_taste, fnd, c1, ix_nI (show p_ < 2 ^ 31 by omega)]
    exact g_iret C Rr dX4_taste_21 ⟨(kc, os, sd, tk, fr, to, vl, wr, mv), by rw [hf]; exact hJ, by rw [hf], by rw [hf]; rfl⟩ rfl
set_option maxHeartbeats 400000 in
set_option maxRecDepth 100000 in
theorem n_spoon (g : Gl) (a : Nat → Nat) (X : Xs) (J : Jm) (t : Int32) (hX : InvX X) (hJ : OkM X J) : Ct g yX4_spoon cX4_spoon 2 (some .int) (rk 2 48) [.ref (a 0), .int t] (mdX g a X J) (fun r w2 => ∃ J2, OkM (f_spoon X t).2 J2 ∧ r = some (.int (f_spoon X t).1) ∧ w2 = mdX g a (f_spoon X t).2 J2) := by
  obtain ⟨⟨mn, yr, gr, kd, pt, wt, mr⟩, ⟨⟨kmn, kyr, kgr, kkd, kpt, kwt, kmr⟩, kp⟩, ⟨tb, tn⟩, ⟨wd, sz, nm⟩, tl⟩ := X
  obtain ⟨kc, os, sd, tk, fr, to, vl, wr, mv⟩ := J
  obtain ⟨hB, hy, hkp, htb, htn, hwd, hsz⟩ := id hX
  obtain ⟨-, hTle, hgr, hkd, hpt, hwt, hmr, hyr, hmn⟩ := id hB
  refine ct_of (by decide) (Nat.le_of_ble_eq_true rfl) ?_
  intro φ C0 Rr
  have C : Cx φ g cX4_spoon 2 RX4 (rk 2 48) := C0
  show Go φ g 2 0 [(0, .ref (a 0)), (1, .int t)] [] (mdV g a (sF mn yr gr kd pt wt mr) kc os sd tl kp tk tb tn fr to vl wr wd sz (flat nm) mv)
  refine g_iload_n (pc := 0) C dX4_spoon_0 rfl ?_
  refine g_s0i (pc := 1) C dX4_spoon_1 ml_X4_84 mf_X4_isSpoon (m_isSpoon g t) ⟨rfl, rfl, (Nat.le_of_ble_eq_true rfl), (Nat.le_of_ble_eq_true rfl)⟩ rfl rfl (Nat.le_of_ble_eq_true rfl) ?_
  refine g_if_eqB (pc := 4) (tgt := 15) C dX4_spoon_4 (by decide) (fun c1 => ?_) (fun c1 => ?_)
  · refine g_aload_n (pc := 15) C dX4_spoon_15 rfl ?_
    refine g_ldc (pc := 16) C dX4_spoon_16 ck_X4_44 rfl ?_
    refine g_vxi (pc := 18) (ws2 := (mdV g a (sF mn yr gr kd pt wt mr) kc os sd (updN tl 0 (tl 0 + 1)) kp tk tb tn fr to vl wr wd sz (flat nm) mv)) C dX4_spoon_18 ml_X4_64 mf_X4_finds (m_finds g a (sF mn yr gr kd pt wt mr) kc os sd tl kp tk tb tn fr to vl wr wd sz (flat nm) mv 0 (by decide)) ⟨rfl, rfl, (Nat.le_of_ble_eq_true rfl), (Nat.le_of_ble_eq_true rfl)⟩ rfl rfl (Nat.le_of_ble_eq_true rfl) 0 rfl rfl rfl [0, 1, 2, 3, 4, 5, 6, 7, 8, 9, 10, 11] [] [0, 1, 2, 3, 4, 5, 6, 7, 8, 9, 10, 11] rfl rfl rfl rfl (by decide) rfl rfl ?_
    have hf : f_spoon ((mn, yr, gr, kd, pt, wt, mr), ((kmn, kyr, kgr, kkd, kpt, kwt, kmr), kp), (tb, tn), (wd, sz, nm), tl) t = ((fd 0), ((mn, yr, gr, kd, pt, wt, mr), ((kmn, kyr, kgr, kkd, kpt, kwt, kmr), kp), (tb, tn), (wd, sz, nm), updN tl 0 (tl 0 + 1))) := by simp [f_spoon, fnd, c1]
    exact g_iret C Rr dX4_spoon_21 ⟨(kc, os, sd, tk, fr, to, vl, wr, mv), by rw [hf]; exact hJ, by rw [hf], by rw [hf]; rfl⟩ rfl
  · obtain ⟨t_, hl_t, hu_t, rfl⟩ := inR_nat (lo := 1) (hi := 999) c1
    refine g_aload_n (pc := 7) C dX4_spoon_7 rfl ?_
    refine g_iload_n (pc := 8) C dX4_spoon_8 rfl ?_
    refine g_vxi (pc := 9) (ws2 := (mdV g a (sF mn yr (takeG gr (sumN gr 12) (min t_ (sumN gr 12))) kd pt wt mr) kc os sd tl kp (ladN gr (sumN gr 12) (min t_ (sumN gr 12))) tb tn fr to vl wr wd sz (flat nm) mv)) C dX4_spoon_9 ml_X4_87 mf_X4_takesOut (m_takesOut g a kc os sd tl kp tk tb tn fr to vl wr wd sz (flat nm) mv mn yr gr kd pt wt mr t_ hB (by omega)) ⟨rfl, rfl, (Nat.le_of_ble_eq_true rfl), (Nat.le_of_ble_eq_true rfl)⟩ rfl rfl (Nat.le_of_ble_eq_true rfl) 0 rfl rfl rfl [0, 1, 2, 3, 4, 5, 6, 7, 8, 9, 10, 11] [] [0, 1, 2, 3, 4, 5, 6, 7, 8, 9, 10, 11] rfl rfl rfl rfl (by decide) rfl rfl ?_
    refine g_goto (pc := 12) (tgt := 21) C dX4_spoon_12 (by decide) ?_
    have hf : f_spoon ((mn, yr, gr, kd, pt, wt, mr), ((kmn, kyr, kgr, kkd, kpt, kwt, kmr), kp), (tb, tn), (wd, sz, nm), tl) (nI t_) = ((nI (min t_ (sumN gr 12))), ((mn, yr, (takeG gr (sumN gr 12) (min t_ (sumN gr 12))), kd, pt, wt, mr), ((kmn, kyr, kgr, kkd, kpt, kwt, kmr), kp), (tb, tn), (wd, sz, nm), tl)) := by simp [f_spoon, fnd, c1, ix_nI (show t_ < 2 ^ 31 by omega)]
    exact g_iret C Rr dX4_spoon_21 ⟨(kc, os, sd, ladN gr (sumN gr 12) (min t_ (sumN gr 12)), fr, to, vl, wr, mv), by rw [hf]; exact hJ, by rw [hf], by rw [hf]; rfl⟩ rfl
set_option maxHeartbeats 400000 in
set_option maxRecDepth 100000 in
theorem n_spoonOf (g : Gl) (a : Nat → Nat) (X : Xs) (J : Jm) (p : Int32) (t : Int32) (hX : InvX X) (hJ : OkM X J) : Ct g yX4_spoonOf cX4_spoonOf 4 (some .int) (rk 2 48) [.ref (a 0), .int p, .int t] (mdX g a X J) (fun r w2 => ∃ J2, OkM (f_spoonOf X p t).2 J2 ∧ r = some (.int (f_spoonOf X p t).1) ∧ w2 = mdX g a (f_spoonOf X p t).2 J2) := by
  obtain ⟨⟨mn, yr, gr, kd, pt, wt, mr⟩, ⟨⟨kmn, kyr, kgr, kkd, kpt, kwt, kmr⟩, kp⟩, ⟨tb, tn⟩, ⟨wd, sz, nm⟩, tl⟩ := X
  obtain ⟨kc, os, sd, tk, fr, to, vl, wr, mv⟩ := J
  obtain ⟨hB, hy, hkp, htb, htn, hwd, hsz⟩ := id hX
  obtain ⟨-, hTle, hgr, hkd, hpt, hwt, hmr, hyr, hmn⟩ := id hB
  refine ct_of (by decide) (Nat.le_of_ble_eq_true rfl) ?_
  intro φ C0 Rr
  have C : Cx φ g cX4_spoonOf 4 RX4 (rk 2 48) := C0
  show Go φ g 4 0 [(0, .ref (a 0)), (1, .int p), (2, .int t)] [] (mdV g a (sF mn yr gr kd pt wt mr) kc os sd tl kp tk tb tn fr to vl wr wd sz (flat nm) mv)
  refine g_iload_n (pc := 0) C dX4_spoonOf_0 rfl ?_
  refine g_s0i (pc := 1) C dX4_spoonOf_1 ml_X4_61 mf_X4_isPart (m_isPart g p) ⟨rfl, rfl, (Nat.le_of_ble_eq_true rfl), (Nat.le_of_ble_eq_true rfl)⟩ rfl rfl (Nat.le_of_ble_eq_true rfl) ?_
  refine g_if_eqB (pc := 4) (tgt := 14) C dX4_spoonOf_4 (by decide) (fun c1 => ?_) (fun c1 => ?_)
  · refine g_aload_n (pc := 14) C dX4_spoonOf_14 rfl ?_
    refine g_ldc (pc := 15) C dX4_spoonOf_15 ck_X4_44 rfl ?_
    refine g_vxi (pc := 17) (ws2 := (mdV g a (sF mn yr gr kd pt wt mr) kc os sd (updN tl 0 (tl 0 + 1)) kp tk tb tn fr to vl wr wd sz (flat nm) mv)) C dX4_spoonOf_17 ml_X4_64 mf_X4_finds (m_finds g a (sF mn yr gr kd pt wt mr) kc os sd tl kp tk tb tn fr to vl wr wd sz (flat nm) mv 0 (by decide)) ⟨rfl, rfl, (Nat.le_of_ble_eq_true rfl), (Nat.le_of_ble_eq_true rfl)⟩ rfl rfl (Nat.le_of_ble_eq_true rfl) 0 rfl rfl rfl [0, 1, 2, 3, 4, 5, 6, 7, 8, 9, 10, 11] [] [0, 1, 2, 3, 4, 5, 6, 7, 8, 9, 10, 11] rfl rfl rfl rfl (by decide) rfl rfl ?_
    have hf : f_spoonOf ((mn, yr, gr, kd, pt, wt, mr), ((kmn, kyr, kgr, kkd, kpt, kwt, kmr), kp), (tb, tn), (wd, sz, nm), tl) p t = ((fd 0), ((mn, yr, gr, kd, pt, wt, mr), ((kmn, kyr, kgr, kkd, kpt, kwt, kmr), kp), (tb, tn), (wd, sz, nm), updN tl 0 (tl 0 + 1))) := by simp [f_spoonOf, fnd, c1]
    exact g_iret C Rr dX4_spoonOf_20 ⟨(kc, os, sd, tk, fr, to, vl, wr, mv), by rw [hf]; exact hJ, by rw [hf], by rw [hf]; rfl⟩ rfl
  · obtain ⟨p_, hl_p, hu_p, rfl⟩ := inR_nat (lo := 0) (hi := 11) c1
    refine g_iload_n (pc := 7) C dX4_spoonOf_7 rfl ?_
    refine g_s0i (pc := 8) C dX4_spoonOf_8 ml_X4_84 mf_X4_isSpoon (m_isSpoon g t) ⟨rfl, rfl, (Nat.le_of_ble_eq_true rfl), (Nat.le_of_ble_eq_true rfl)⟩ rfl rfl (Nat.le_of_ble_eq_true rfl) ?_
    refine g_if_neB (pc := 11) (tgt := 21) C dX4_spoonOf_11 (by decide) (fun c2 => ?_) (fun c2 => ?_)
    · obtain ⟨t_, hl_t, hu_t, rfl⟩ := inR_nat (lo := 1) (hi := 999) c2
      refine g_aload_n (pc := 21) C dX4_spoonOf_21 rfl ?_
      refine g_vxn (pc := 22) (ws2 := (mdV g a (sF mn yr gr kd pt wt mr) kc os (sF mn yr gr kd pt wt mr) tl kp tk tb tn fr to vl wr wd sz (flat nm) mv)) C dX4_spoonOf_22 ml_X4_90 mf_X4_laysAside (m_laysAside g a kc os sd tl kp tk tb tn fr to vl wr wd sz (flat nm) mv mn yr gr kd pt wt mr) ⟨rfl, rfl, (Nat.le_of_ble_eq_true rfl), (Nat.le_of_ble_eq_true rfl)⟩ rfl rfl (Nat.le_of_ble_eq_true rfl) 0 rfl rfl rfl [0, 1, 2, 3, 4, 5, 6, 7, 8, 9, 10, 11] [] [0, 1, 2, 3, 4, 5, 6, 7, 8, 9, 10, 11] rfl rfl rfl rfl (by decide) rfl rfl ?_
      refine g_aload_n (pc := 25) C dX4_spoonOf_25 rfl ?_
      refine g_iload_n (pc := 26) C dX4_spoonOf_26 rfl ?_
      refine g_vxi (pc := 27) (ws2 := (mdV g a (sF mn yr (takeG gr (sumN gr 12) (min t_ (sumN gr 12))) kd pt wt mr) kc os (sF mn yr gr kd pt wt mr) tl kp (ladN gr (sumN gr 12) (min t_ (sumN gr 12))) tb tn fr to vl wr wd sz (flat nm) mv)) C dX4_spoonOf_27 ml_X4_87 mf_X4_takesOut (m_takesOut g a kc os (sF mn yr gr kd pt wt mr) tl kp tk tb tn fr to vl wr wd sz (flat nm) mv mn yr gr kd pt wt mr t_ hB (by omega)) ⟨rfl, rfl, (Nat.le_of_ble_eq_true rfl), (Nat.le_of_ble_eq_true rfl)⟩ rfl rfl (Nat.le_of_ble_eq_true rfl) 0 rfl rfl rfl [0, 1, 2, 3, 4, 5, 6, 7, 8, 9, 10, 11] [] [0, 1, 2, 3, 4, 5, 6, 7, 8, 9, 10, 11] rfl rfl rfl rfl (by decide) rfl rfl ?_
      refine g_istore_n (pc := 30) (lv2 := [(0, .ref (a 0)), (1, .int (nI p_)), (2, .int (nI t_)), (3, .int (nI (min t_ (sumN gr 12))))]) C dX4_spoonOf_30 rfl (Nat.le_of_ble_eq_true rfl) rfl ?_
      refine g_aload_n (pc := 31) C dX4_spoonOf_31 rfl ?_
      refine g_aload_n (pc := 32) C dX4_spoonOf_32 rfl ?_
      refine g_get4 (pc := 33) C dX4_spoonOf_33 0 rfl 6 (by decide) fl_X4_25 rfl ?_
      refine g_iload_n (pc := 36) C dX4_spoonOf_36 rfl ?_
      refine g_ialdM (pc := 37) C dX4_spoonOf_37 6 rfl rfl (by omega) (by decide) ?_
      refine g_vxi (pc := 38) (ws2 := (mdV g a (sF mn yr gr kd pt wt mr) kc os (sF mn yr gr kd pt wt mr) tl kp (ladN gr (sumN gr 12) (min t_ (sumN gr 12))) tb tn fr to vl wr wd sz (flat nm) mv)) C dX4_spoonOf_38 ml_X4_93 mf_X4_takesBack (m_takesBack g a kc os tl kp (ladN gr (sumN gr 12) (min t_ (sumN gr 12))) tb tn fr to vl wr wd sz (flat nm) mv mn yr (takeG gr (sumN gr 12) (min t_ (sumN gr 12))) kd pt wt mr mn yr gr kd pt wt mr ((ladN gr (sumN gr 12) (min t_ (sumN gr 12))) p_)) ⟨rfl, rfl, (Nat.le_of_ble_eq_true rfl), (Nat.le_of_ble_eq_true rfl)⟩ rfl rfl (Nat.le_of_ble_eq_true rfl) 0 rfl rfl rfl [0, 1, 2, 3, 4, 5, 6, 7, 8, 9, 10, 11] [] [0, 1, 2, 3, 4, 5, 6, 7, 8, 9, 10, 11] rfl rfl rfl rfl (by decide) rfl rfl ?_
      have hf : f_spoonOf ((mn, yr, gr, kd, pt, wt, mr), ((kmn, kyr, kgr, kkd, kpt, kwt, kmr), kp), (tb, tn), (wd, sz, nm), tl) (nI p_) (nI t_) = ((nI ((ladN gr (sumN gr 12) (min t_ (sumN gr 12))) p_)), ((mn, yr, gr, kd, pt, wt, mr), ((kmn, kyr, kgr, kkd, kpt, kwt, kmr), kp), (tb, tn), (wd, sz, nm), tl)) := by simp [f_spoonOf, fnd, c1, c2, ix_nI (show p_ < 2 ^ 31 by omega), ix_nI (show t_ < 2 ^ 31 by omega)]
      exact g_iret C Rr dX4_spoonOf_41 ⟨(kc, os, sF mn yr gr kd pt wt mr, ladN gr (sumN gr 12) (min t_ (sumN gr 12)), fr, to, vl, wr, mv), by rw [hf]; exact hJ, by rw [hf], by rw [hf]; rfl⟩ rfl
    · refine g_aload_n (pc := 14) C dX4_spoonOf_14 rfl ?_
      refine g_ldc (pc := 15) C dX4_spoonOf_15 ck_X4_44 rfl ?_
      refine g_vxi (pc := 17) (ws2 := (mdV g a (sF mn yr gr kd pt wt mr) kc os sd (updN tl 0 (tl 0 + 1)) kp tk tb tn fr to vl wr wd sz (flat nm) mv)) C dX4_spoonOf_17 ml_X4_64 mf_X4_finds (m_finds g a (sF mn yr gr kd pt wt mr) kc os sd tl kp tk tb tn fr to vl wr wd sz (flat nm) mv 0 (by decide)) ⟨rfl, rfl, (Nat.le_of_ble_eq_true rfl), (Nat.le_of_ble_eq_true rfl)⟩ rfl rfl (Nat.le_of_ble_eq_true rfl) 0 rfl rfl rfl [0, 1, 2, 3, 4, 5, 6, 7, 8, 9, 10, 11] [] [0, 1, 2, 3, 4, 5, 6, 7, 8, 9, 10, 11] rfl rfl rfl rfl (by decide) rfl rfl ?_
      have hf : f_spoonOf ((mn, yr, gr, kd, pt, wt, mr), ((kmn, kyr, kgr, kkd, kpt, kwt, kmr), kp), (tb, tn), (wd, sz, nm), tl) (nI p_) t = ((fd 0), ((mn, yr, gr, kd, pt, wt, mr), ((kmn, kyr, kgr, kkd, kpt, kwt, kmr), kp), (tb, tn), (wd, sz, nm), updN tl 0 (tl 0 + 1))) := by simp [f_spoonOf, fnd, c1, c2, ix_nI (show p_ < 2 ^ 31 by omega)]
      exact g_iret C Rr dX4_spoonOf_20 ⟨(kc, os, sd, tk, fr, to, vl, wr, mv), by rw [hf]; exact hJ, by rw [hf], by rw [hf]; rfl⟩ rfl
set_option maxHeartbeats 400000 in
set_option maxRecDepth 100000 in
theorem n_cook (g : Gl) (a : Nat → Nat) (X : Xs) (J : Jm) (k : Int32) (hX : InvX X) (hJ : OkM X J) : Ct g yX4_cook cX4_cook 2 (some .int) (rk 2 45) [.ref (a 0), .int k] (mdX g a X J) (fun r w2 => ∃ J2, OkM (f_cook X k).2 J2 ∧ r = some (.int (f_cook X k).1) ∧ w2 = mdX g a (f_cook X k).2 J2) := by
  obtain ⟨⟨mn, yr, gr, kd, pt, wt, mr⟩, ⟨⟨kmn, kyr, kgr, kkd, kpt, kwt, kmr⟩, kp⟩, ⟨tb, tn⟩, ⟨wd, sz, nm⟩, tl⟩ := X
  obtain ⟨kc, os, sd, tk, fr, to, vl, wr, mv⟩ := J
  obtain ⟨hB, hy, hkp, htb, htn, hwd, hsz⟩ := id hX
  obtain ⟨-, hTle, hgr, hkd, hpt, hwt, hmr, hyr, hmn⟩ := id hB
  refine ct_of (by decide) (Nat.le_of_ble_eq_true rfl) ?_
  intro φ C0 Rr
  have C : Cx φ g cX4_cook 2 RX4 (rk 2 45) := C0
  show Go φ g 2 0 [(0, .ref (a 0)), (1, .int k)] [] (mdV g a (sF mn yr gr kd pt wt mr) kc os sd tl kp tk tb tn fr to vl wr wd sz (flat nm) mv)
  refine g_iload_n (pc := 0) C dX4_cook_0 rfl ?_
  refine g_s0i (pc := 1) C dX4_cook_1 ml_X4_96 mf_X4_isKind (m_isKind g k) ⟨rfl, rfl, (Nat.le_of_ble_eq_true rfl), (Nat.le_of_ble_eq_true rfl)⟩ rfl rfl (Nat.le_of_ble_eq_true rfl) ?_
  refine g_if_neB (pc := 4) (tgt := 14) C dX4_cook_4 (by decide) (fun c1 => ?_) (fun c1 => ?_)
  · obtain ⟨k_, hl_k, hu_k, rfl⟩ := inR_nat (lo := 0) (hi := 5) c1
    refine g_aload_n (pc := 14) C dX4_cook_14 rfl ?_
    refine g_get4 (pc := 15) C dX4_cook_15 0 rfl 0 (by decide) fl_X4_7 rfl ?_
    refine g_iconst (pc := 18) (v := nI 0) C dX4_cook_18 (by decide) ?_
    refine g_ialdM (pc := 19) C dX4_cook_19 1 rfl rfl (by omega) (by decide) ?_
    refine g_top (congrArg nI sF_r0) ?_
    refine g_bipush (pc := 20) (v := nI 8) C dX4_cook_20 (by decide) ?_
    refine g_icmp_neN (pc := 22) (tgt := 34) C dX4_cook_22 (by decide) (by omega) (by omega) (fun c2 => ?_) (fun c2 => ?_)
    · refine g_aload_n (pc := 34) C dX4_cook_34 rfl ?_
      refine g_iload_n (pc := 35) C dX4_cook_35 rfl ?_
      refine g_vxi (pc := 36) (ws2 := (mdV g a (sF (mn + 1) yr gr (updN kd mn k_) (updN pt mn 1) (updN wt mn 100) (updN mr mn 5)) kc os sd tl kp tk tb tn fr to vl wr wd sz (flat nm) mv)) C dX4_cook_36 ml_X4_99 mf_X4_adds (m_adds g a kc os sd tl kp tk tb tn fr to vl wr wd sz (flat nm) mv mn yr gr kd pt wt mr k_ (by omega)) ⟨rfl, rfl, (Nat.le_of_ble_eq_true rfl), (Nat.le_of_ble_eq_true rfl)⟩ rfl rfl (Nat.le_of_ble_eq_true rfl) 0 rfl rfl rfl [0, 1, 2, 3, 4, 5, 6, 7, 8, 9, 10, 11] [] [0, 1, 2, 3, 4, 5, 6, 7, 8, 9, 10, 11] rfl rfl rfl rfl (by decide) rfl rfl ?_
      have hf : f_cook ((mn, yr, gr, kd, pt, wt, mr), ((kmn, kyr, kgr, kkd, kpt, kwt, kmr), kp), (tb, tn), (wd, sz, nm), tl) (nI k_) = ((nI mn), (((mn + 1), yr, gr, (updN kd mn k_), (updN pt mn 1), (updN wt mn 100), (updN mr mn 5)), ((kmn, kyr, kgr, kkd, kpt, kwt, kmr), kp), (tb, tn), (wd, sz, nm), tl)) := by first | (simp [f_cook, fnd, c1, c2, ix_nI (show k_ < 2 ^ 31 by omega)]; done) | (simp [f_cook, fnd, c1, c2, ix_nI (show k_ < 2 ^ 31 by omega), show mn < 8 by omega]; done) | (simp [f_cook, fnd, c1, c2, ix_nI (show k_ < 2 ^ 31 by omega), show ¬ mn < 8 by omega]; done)
      exact g_iret C Rr dX4_cook_39 ⟨(kc, os, sd, tk, fr, to, vl, wr, mv), by rw [hf]; exact hJ, by rw [hf], by rw [hf]; rfl⟩ rfl
    · refine g_aload_n (pc := 25) C dX4_cook_25 rfl ?_
      refine g_ldc (pc := 26) C dX4_cook_26 ck_X4_75 rfl ?_
      refine g_vxi (pc := 28) (ws2 := (mdV g a (sF mn yr gr kd pt wt mr) kc os sd (updN tl 1 (tl 1 + 1)) kp tk tb tn fr to vl wr wd sz (flat nm) mv)) C dX4_cook_28 ml_X4_64 mf_X4_finds (m_finds g a (sF mn yr gr kd pt wt mr) kc os sd tl kp tk tb tn fr to vl wr wd sz (flat nm) mv 1 (by decide)) ⟨rfl, rfl, (Nat.le_of_ble_eq_true rfl), (Nat.le_of_ble_eq_true rfl)⟩ rfl rfl (Nat.le_of_ble_eq_true rfl) 0 rfl rfl rfl [0, 1, 2, 3, 4, 5, 6, 7, 8, 9, 10, 11] [] [0, 1, 2, 3, 4, 5, 6, 7, 8, 9, 10, 11] rfl rfl rfl rfl (by decide) rfl rfl ?_
      refine g_goto (pc := 31) (tgt := 39) C dX4_cook_31 (by decide) ?_
      have hf : f_cook ((mn, yr, gr, kd, pt, wt, mr), ((kmn, kyr, kgr, kkd, kpt, kwt, kmr), kp), (tb, tn), (wd, sz, nm), tl) (nI k_) = ((fd 1), ((mn, yr, gr, kd, pt, wt, mr), ((kmn, kyr, kgr, kkd, kpt, kwt, kmr), kp), (tb, tn), (wd, sz, nm), updN tl 1 (tl 1 + 1))) := by first | (simp [f_cook, fnd, c1, c2, ix_nI (show k_ < 2 ^ 31 by omega)]; done) | (simp [f_cook, fnd, c1, c2, ix_nI (show k_ < 2 ^ 31 by omega), show mn < 8 by omega]; done) | (simp [f_cook, fnd, c1, c2, ix_nI (show k_ < 2 ^ 31 by omega), show ¬ mn < 8 by omega]; done)
      exact g_iret C Rr dX4_cook_39 ⟨(kc, os, sd, tk, fr, to, vl, wr, mv), by rw [hf]; exact hJ, by rw [hf], by rw [hf]; rfl⟩ rfl
  · refine g_aload_n (pc := 7) C dX4_cook_7 rfl ?_
    refine g_ldc (pc := 8) C dX4_cook_8 ck_X4_44 rfl ?_
    refine g_vxi (pc := 10) (ws2 := (mdV g a (sF mn yr gr kd pt wt mr) kc os sd (updN tl 0 (tl 0 + 1)) kp tk tb tn fr to vl wr wd sz (flat nm) mv)) C dX4_cook_10 ml_X4_64 mf_X4_finds (m_finds g a (sF mn yr gr kd pt wt mr) kc os sd tl kp tk tb tn fr to vl wr wd sz (flat nm) mv 0 (by decide)) ⟨rfl, rfl, (Nat.le_of_ble_eq_true rfl), (Nat.le_of_ble_eq_true rfl)⟩ rfl rfl (Nat.le_of_ble_eq_true rfl) 0 rfl rfl rfl [0, 1, 2, 3, 4, 5, 6, 7, 8, 9, 10, 11] [] [0, 1, 2, 3, 4, 5, 6, 7, 8, 9, 10, 11] rfl rfl rfl rfl (by decide) rfl rfl ?_
    have hf : f_cook ((mn, yr, gr, kd, pt, wt, mr), ((kmn, kyr, kgr, kkd, kpt, kwt, kmr), kp), (tb, tn), (wd, sz, nm), tl) k = ((fd 0), ((mn, yr, gr, kd, pt, wt, mr), ((kmn, kyr, kgr, kkd, kpt, kwt, kmr), kp), (tb, tn), (wd, sz, nm), updN tl 0 (tl 0 + 1))) := by first | (simp [f_cook, fnd, c1]; done) | (simp [f_cook, fnd, c1, show mn < 8 by omega]; done) | (simp [f_cook, fnd, c1, show ¬ mn < 8 by omega]; done)
    exact g_iret C Rr dX4_cook_13 ⟨(kc, os, sd, tk, fr, to, vl, wr, mv), by rw [hf]; exact hJ, by rw [hf], by rw [hf]; rfl⟩ rfl
set_option maxHeartbeats 400000 in
set_option maxRecDepth 100000 in
theorem n_turn (g : Gl) (a : Nat → Nat) (X : Xs) (J : Jm) (c : Int32) (k : Int32) (hX : InvX X) (hJ : OkM X J) : Ct g yX4_turn cX4_turn 3 (some .int) (rk 2 46) [.ref (a 0), .int c, .int k] (mdX g a X J) (fun r w2 => ∃ J2, OkM (f_turn X c k).2 J2 ∧ r = some (.int (f_turn X c k).1) ∧ w2 = mdX g a (f_turn X c k).2 J2) := by
  obtain ⟨⟨mn, yr, gr, kd, pt, wt, mr⟩, ⟨⟨kmn, kyr, kgr, kkd, kpt, kwt, kmr⟩, kp⟩, ⟨tb, tn⟩, ⟨wd, sz, nm⟩, tl⟩ := X
  obtain ⟨kc, os, sd, tk, fr, to, vl, wr, mv⟩ := J
  obtain ⟨hB, hy, hkp, htb, htn, hwd, hsz⟩ := id hX
  obtain ⟨-, hTle, hgr, hkd, hpt, hwt, hmr, hyr, hmn⟩ := id hB
  refine ct_of (by decide) (Nat.le_of_ble_eq_true rfl) ?_
  intro φ C0 Rr
  have C : Cx φ g cX4_turn 3 RX4 (rk 2 46) := C0
  show Go φ g 3 0 [(0, .ref (a 0)), (1, .int c), (2, .int k)] [] (mdV g a (sF mn yr gr kd pt wt mr) kc os sd tl kp tk tb tn fr to vl wr wd sz (flat nm) mv)
  refine g_aload_n (pc := 0) C dX4_turn_0 rfl ?_
  refine g_iload_n (pc := 1) C dX4_turn_1 rfl ?_
  refine g_vxi (pc := 2) (ws2 := (mdV g a (sF mn yr gr kd pt wt mr) kc os sd tl kp tk tb tn fr to vl wr wd sz (flat nm) mv)) C dX4_turn_2 ml_X4_51 mf_X4_isCook (m_isCook g a kc os sd tl kp tk tb tn fr to vl wr wd sz (flat nm) mv mn yr gr kd pt wt mr c hB) ⟨rfl, rfl, (Nat.le_of_ble_eq_true rfl), (Nat.le_of_ble_eq_true rfl)⟩ rfl rfl (Nat.le_of_ble_eq_true rfl) 0 rfl rfl rfl [0, 1, 2, 3, 4, 5, 6, 7, 8, 9, 10, 11] [] [0, 1, 2, 3, 4, 5, 6, 7, 8, 9, 10, 11] rfl rfl rfl rfl (by decide) rfl rfl ?_
  refine g_if_eqB (pc := 5) (tgt := 28) C dX4_turn_5 (by decide) (fun c1 => ?_) (fun c1 => ?_)
  · refine g_aload_n (pc := 28) C dX4_turn_28 rfl ?_
    refine g_ldc (pc := 29) C dX4_turn_29 ck_X4_44 rfl ?_
    refine g_vxi (pc := 31) (ws2 := (mdV g a (sF mn yr gr kd pt wt mr) kc os sd (updN tl 0 (tl 0 + 1)) kp tk tb tn fr to vl wr wd sz (flat nm) mv)) C dX4_turn_31 ml_X4_64 mf_X4_finds (m_finds g a (sF mn yr gr kd pt wt mr) kc os sd tl kp tk tb tn fr to vl wr wd sz (flat nm) mv 0 (by decide)) ⟨rfl, rfl, (Nat.le_of_ble_eq_true rfl), (Nat.le_of_ble_eq_true rfl)⟩ rfl rfl (Nat.le_of_ble_eq_true rfl) 0 rfl rfl rfl [0, 1, 2, 3, 4, 5, 6, 7, 8, 9, 10, 11] [] [0, 1, 2, 3, 4, 5, 6, 7, 8, 9, 10, 11] rfl rfl rfl rfl (by decide) rfl rfl ?_
    have hf : f_turn ((mn, yr, gr, kd, pt, wt, mr), ((kmn, kyr, kgr, kkd, kpt, kwt, kmr), kp), (tb, tn), (wd, sz, nm), tl) c k = ((fd 0), ((mn, yr, gr, kd, pt, wt, mr), ((kmn, kyr, kgr, kkd, kpt, kwt, kmr), kp), (tb, tn), (wd, sz, nm), updN tl 0 (tl 0 + 1))) := by simp [f_turn, fnd, c1]
    exact g_iret C Rr dX4_turn_34 ⟨(kc, os, sd, tk, fr, to, vl, wr, mv), by rw [hf]; exact hJ, by rw [hf], by rw [hf]; rfl⟩ rfl
  · obtain ⟨c_, hu_c, rfl⟩ := inR_cook c1
    have hc8 : c_ < 8 := by omega
    refine g_iload_n (pc := 8) C dX4_turn_8 rfl ?_
    refine g_s0i (pc := 9) C dX4_turn_9 ml_X4_96 mf_X4_isKind (m_isKind g k) ⟨rfl, rfl, (Nat.le_of_ble_eq_true rfl), (Nat.le_of_ble_eq_true rfl)⟩ rfl rfl (Nat.le_of_ble_eq_true rfl) ?_
    refine g_if_eqB (pc := 12) (tgt := 28) C dX4_turn_12 (by decide) (fun c2 => ?_) (fun c2 => ?_)
    · refine g_aload_n (pc := 28) C dX4_turn_28 rfl ?_
      refine g_ldc (pc := 29) C dX4_turn_29 ck_X4_44 rfl ?_
      refine g_vxi (pc := 31) (ws2 := (mdV g a (sF mn yr gr kd pt wt mr) kc os sd (updN tl 0 (tl 0 + 1)) kp tk tb tn fr to vl wr wd sz (flat nm) mv)) C dX4_turn_31 ml_X4_64 mf_X4_finds (m_finds g a (sF mn yr gr kd pt wt mr) kc os sd tl kp tk tb tn fr to vl wr wd sz (flat nm) mv 0 (by decide)) ⟨rfl, rfl, (Nat.le_of_ble_eq_true rfl), (Nat.le_of_ble_eq_true rfl)⟩ rfl rfl (Nat.le_of_ble_eq_true rfl) 0 rfl rfl rfl [0, 1, 2, 3, 4, 5, 6, 7, 8, 9, 10, 11] [] [0, 1, 2, 3, 4, 5, 6, 7, 8, 9, 10, 11] rfl rfl rfl rfl (by decide) rfl rfl ?_
      have hf : f_turn ((mn, yr, gr, kd, pt, wt, mr), ((kmn, kyr, kgr, kkd, kpt, kwt, kmr), kp), (tb, tn), (wd, sz, nm), tl) (nI c_) k = ((fd 0), ((mn, yr, gr, kd, pt, wt, mr), ((kmn, kyr, kgr, kkd, kpt, kwt, kmr), kp), (tb, tn), (wd, sz, nm), updN tl 0 (tl 0 + 1))) := by simp [f_turn, fnd, c1, c2, ix_nI (show c_ < 2 ^ 31 by omega)]
      exact g_iret C Rr dX4_turn_34 ⟨(kc, os, sd, tk, fr, to, vl, wr, mv), by rw [hf]; exact hJ, by rw [hf], by rw [hf]; rfl⟩ rfl
    · obtain ⟨k_, hl_k, hu_k, rfl⟩ := inR_nat (lo := 0) (hi := 5) c2
      refine g_aload_n (pc := 15) C dX4_turn_15 rfl ?_
      refine g_iload_n (pc := 16) C dX4_turn_16 rfl ?_
      refine g_iconst (pc := 17) (v := nI 0) C dX4_turn_17 (by decide) ?_
      refine g_s0i (pc := 18) C dX4_turn_18 ml_X4_57 mf_X4_spotOf (m_spotOf g c_ 0) ⟨rfl, rfl, (Nat.le_of_ble_eq_true rfl), (Nat.le_of_ble_eq_true rfl)⟩ rfl rfl (Nat.le_of_ble_eq_true rfl) ?_
      refine g_iload_n (pc := 21) C dX4_turn_21 rfl ?_
      refine g_vxi (pc := 22) (ws2 := (mdV g a (updN (sF mn yr gr kd pt wt mr) (14 + 4 * c_ + 0) k_) kc os sd tl kp tk tb tn fr to vl wr wd sz (flat nm) mv)) C dX4_turn_22 ml_X4_76 mf_X4_becomes (m_becomes g a (sF mn yr gr kd pt wt mr) kc os sd tl kp tk tb tn fr to vl wr wd sz (flat nm) mv (14 + 4 * c_ + 0) k_ (by omega)) ⟨rfl, rfl, (Nat.le_of_ble_eq_true rfl), (Nat.le_of_ble_eq_true rfl)⟩ rfl rfl (Nat.le_of_ble_eq_true rfl) 0 rfl rfl rfl [0, 1, 2, 3, 4, 5, 6, 7, 8, 9, 10, 11] [] [0, 1, 2, 3, 4, 5, 6, 7, 8, 9, 10, 11] rfl rfl rfl rfl (by decide) rfl rfl ?_
      refine g_ws (ws := (mdV g a (updN (sF mn yr gr kd pt wt mr) (14 + 4 * c_ + 0) k_) kc os sd tl kp tk tb tn fr to vl wr wd sz (flat nm) mv)) (ws2 := (mdV g a (sF mn yr gr (updN kd c_ k_) pt wt mr) kc os sd tl kp tk tb tn fr to vl wr wd sz (flat nm) mv)) (by rw [sF_wk]) ?_
      refine g_top (y := nI (kd c_)) (congrArg nI sF_rk) ?_
      have b3 := hkd c_
      refine g_goto (pc := 25) (tgt := 34) C dX4_turn_25 (by decide) ?_
      have hf : f_turn ((mn, yr, gr, kd, pt, wt, mr), ((kmn, kyr, kgr, kkd, kpt, kwt, kmr), kp), (tb, tn), (wd, sz, nm), tl) (nI c_) (nI k_) = ((nI (kd c_)), ((mn, yr, gr, (updN kd c_ k_), pt, wt, mr), ((kmn, kyr, kgr, kkd, kpt, kwt, kmr), kp), (tb, tn), (wd, sz, nm), tl)) := by simp [f_turn, fnd, c1, c2, ix_nI (show c_ < 2 ^ 31 by omega), ix_nI (show k_ < 2 ^ 31 by omega)]
      exact g_iret C Rr dX4_turn_34 ⟨(kc, os, sd, tk, fr, to, vl, wr, mv), by rw [hf]; exact hJ, by rw [hf], by rw [hf]; rfl⟩ rfl
set_option maxHeartbeats 400000 in
set_option maxRecDepth 100000 in
theorem n_as (g : Gl) (a : Nat → Nat) (X : Xs) (J : Jm) (c : Int32) (k : Int32) (hX : InvX X) (hJ : OkM X J) : Ct g yX4_as cX4_as 3 (some .int) (rk 2 46) [.ref (a 0), .int c, .int k] (mdX g a X J) (fun r w2 => ∃ J2, OkM (f_as X c k).2 J2 ∧ r = some (.int (f_as X c k).1) ∧ w2 = mdX g a (f_as X c k).2 J2) := by
  obtain ⟨⟨mn, yr, gr, kd, pt, wt, mr⟩, ⟨⟨kmn, kyr, kgr, kkd, kpt, kwt, kmr⟩, kp⟩, ⟨tb, tn⟩, ⟨wd, sz, nm⟩, tl⟩ := X
  obtain ⟨kc, os, sd, tk, fr, to, vl, wr, mv⟩ := J
  obtain ⟨hB, hy, hkp, htb, htn, hwd, hsz⟩ := id hX
  obtain ⟨-, hTle, hgr, hkd, hpt, hwt, hmr, hyr, hmn⟩ := id hB
  refine ct_of (by decide) (Nat.le_of_ble_eq_true rfl) ?_
  intro φ C0 Rr
  have C : Cx φ g cX4_as 3 RX4 (rk 2 46) := C0
  show Go φ g 3 0 [(0, .ref (a 0)), (1, .int c), (2, .int k)] [] (mdV g a (sF mn yr gr kd pt wt mr) kc os sd tl kp tk tb tn fr to vl wr wd sz (flat nm) mv)
  refine g_aload_n (pc := 0) C dX4_as_0 rfl ?_
  refine g_iload_n (pc := 1) C dX4_as_1 rfl ?_
  refine g_vxi (pc := 2) (ws2 := (mdV g a (sF mn yr gr kd pt wt mr) kc os sd tl kp tk tb tn fr to vl wr wd sz (flat nm) mv)) C dX4_as_2 ml_X4_51 mf_X4_isCook (m_isCook g a kc os sd tl kp tk tb tn fr to vl wr wd sz (flat nm) mv mn yr gr kd pt wt mr c hB) ⟨rfl, rfl, (Nat.le_of_ble_eq_true rfl), (Nat.le_of_ble_eq_true rfl)⟩ rfl rfl (Nat.le_of_ble_eq_true rfl) 0 rfl rfl rfl [0, 1, 2, 3, 4, 5, 6, 7, 8, 9, 10, 11] [] [0, 1, 2, 3, 4, 5, 6, 7, 8, 9, 10, 11] rfl rfl rfl rfl (by decide) rfl rfl ?_
  refine g_if_eqB (pc := 5) (tgt := 15) C dX4_as_5 (by decide) (fun c1 => ?_) (fun c1 => ?_)
  · refine g_aload_n (pc := 15) C dX4_as_15 rfl ?_
    refine g_ldc (pc := 16) C dX4_as_16 ck_X4_44 rfl ?_
    refine g_vxi (pc := 18) (ws2 := (mdV g a (sF mn yr gr kd pt wt mr) kc os sd (updN tl 0 (tl 0 + 1)) kp tk tb tn fr to vl wr wd sz (flat nm) mv)) C dX4_as_18 ml_X4_64 mf_X4_finds (m_finds g a (sF mn yr gr kd pt wt mr) kc os sd tl kp tk tb tn fr to vl wr wd sz (flat nm) mv 0 (by decide)) ⟨rfl, rfl, (Nat.le_of_ble_eq_true rfl), (Nat.le_of_ble_eq_true rfl)⟩ rfl rfl (Nat.le_of_ble_eq_true rfl) 0 rfl rfl rfl [0, 1, 2, 3, 4, 5, 6, 7, 8, 9, 10, 11] [] [0, 1, 2, 3, 4, 5, 6, 7, 8, 9, 10, 11] rfl rfl rfl rfl (by decide) rfl rfl ?_
    have hf : f_as ((mn, yr, gr, kd, pt, wt, mr), ((kmn, kyr, kgr, kkd, kpt, kwt, kmr), kp), (tb, tn), (wd, sz, nm), tl) c k = ((fd 0), ((mn, yr, gr, kd, pt, wt, mr), ((kmn, kyr, kgr, kkd, kpt, kwt, kmr), kp), (tb, tn), (wd, sz, nm), updN tl 0 (tl 0 + 1))) := by simp [f_as, fnd, c1]
    exact g_iret C Rr dX4_as_21 ⟨(kc, os, sd, tk, fr, to, vl, wr, mv), by rw [hf]; exact hJ, by rw [hf], by rw [hf]; rfl⟩ rfl
  · obtain ⟨c_, hu_c, rfl⟩ := inR_cook c1
    have hc8 : c_ < 8 := by omega
    refine g_iload_n (pc := 8) C dX4_as_8 rfl ?_
    refine g_s0i (pc := 9) C dX4_as_9 ml_X4_96 mf_X4_isKind (m_isKind g k) ⟨rfl, rfl, (Nat.le_of_ble_eq_true rfl), (Nat.le_of_ble_eq_true rfl)⟩ rfl rfl (Nat.le_of_ble_eq_true rfl) ?_
    refine g_if_neB (pc := 12) (tgt := 22) C dX4_as_12 (by decide) (fun c2 => ?_) (fun c2 => ?_)
    · obtain ⟨k_, hl_k, hu_k, rfl⟩ := inR_nat (lo := 0) (hi := 5) c2
      refine g_aload_n (pc := 22) C dX4_as_22 rfl ?_
      refine g_iload_n (pc := 23) C dX4_as_23 rfl ?_
      refine g_iconst (pc := 24) (v := nI 0) C dX4_as_24 (by decide) ?_
      refine g_vxi (pc := 25) (ws2 := (mdV g a (sF mn yr gr kd pt wt mr) kc os sd tl kp tk tb tn fr to vl wr wd sz (flat nm) mv)) C dX4_as_25 ml_X4_102 mf_X4_its (m_its g a kc os sd tl kp tk tb tn fr to vl wr wd sz (flat nm) mv mn yr gr kd pt wt mr c_ 0 (by omega) (by omega)) ⟨rfl, rfl, (Nat.le_of_ble_eq_true rfl), (Nat.le_of_ble_eq_true rfl)⟩ rfl rfl (Nat.le_of_ble_eq_true rfl) 0 rfl rfl rfl [0, 1, 2, 3, 4, 5, 6, 7, 8, 9, 10, 11] [] [0, 1, 2, 3, 4, 5, 6, 7, 8, 9, 10, 11] rfl rfl rfl rfl (by decide) rfl rfl ?_
      refine g_top (y := nI (kd c_)) rfl ?_
      have b3 := hkd c_
      refine g_iload_n (pc := 28) C dX4_as_28 rfl ?_
      refine g_s0i (pc := 29) C dX4_as_29 ml_X4_126 mf_X4_isUnder (m_isUnder g (kd c_) k_ (by omega) (by omega)) ⟨rfl, rfl, (Nat.le_of_ble_eq_true rfl), (Nat.le_of_ble_eq_true rfl)⟩ rfl rfl (Nat.le_of_ble_eq_true rfl) ?_
      refine g_if_eqB (pc := 32) (tgt := 44) C dX4_as_32 (by decide) (fun c4 => ?_) (fun c4 => ?_)
      · refine g_aload_n (pc := 44) C dX4_as_44 rfl ?_
        refine g_ldc (pc := 45) C dX4_as_45 ck_X4_130 rfl ?_
        refine g_vxi (pc := 47) (ws2 := (mdV g a (sF mn yr gr kd pt wt mr) kc os sd (updN tl 2 (tl 2 + 1)) kp tk tb tn fr to vl wr wd sz (flat nm) mv)) C dX4_as_47 ml_X4_64 mf_X4_finds (m_finds g a (sF mn yr gr kd pt wt mr) kc os sd tl kp tk tb tn fr to vl wr wd sz (flat nm) mv 2 (by decide)) ⟨rfl, rfl, (Nat.le_of_ble_eq_true rfl), (Nat.le_of_ble_eq_true rfl)⟩ rfl rfl (Nat.le_of_ble_eq_true rfl) 0 rfl rfl rfl [0, 1, 2, 3, 4, 5, 6, 7, 8, 9, 10, 11] [] [0, 1, 2, 3, 4, 5, 6, 7, 8, 9, 10, 11] rfl rfl rfl rfl (by decide) rfl rfl ?_
        have hf : f_as ((mn, yr, gr, kd, pt, wt, mr), ((kmn, kyr, kgr, kkd, kpt, kwt, kmr), kp), (tb, tn), (wd, sz, nm), tl) (nI c_) (nI k_) = ((fd 2), ((mn, yr, gr, kd, pt, wt, mr), ((kmn, kyr, kgr, kkd, kpt, kwt, kmr), kp), (tb, tn), (wd, sz, nm), updN tl 2 (tl 2 + 1))) := by simp [f_as, fnd, c1, c2, c4, ix_nI (show c_ < 2 ^ 31 by omega), ix_nI (show k_ < 2 ^ 31 by omega)]
        exact g_iret C Rr dX4_as_50 ⟨(kc, os, sd, tk, fr, to, vl, wr, mv), by rw [hf]; exact hJ, by rw [hf], by rw [hf]; rfl⟩ rfl
      · refine g_aload_n (pc := 35) C dX4_as_35 rfl ?_
        refine g_iload_n (pc := 36) C dX4_as_36 rfl ?_
        refine g_iconst (pc := 37) (v := nI 2) C dX4_as_37 (by decide) ?_
        refine g_vxi (pc := 38) (ws2 := (mdV g a (sF mn yr gr kd pt wt mr) kc os sd tl kp tk tb tn fr to vl wr wd sz (flat nm) mv)) C dX4_as_38 ml_X4_102 mf_X4_its (m_its g a kc os sd tl kp tk tb tn fr to vl wr wd sz (flat nm) mv mn yr gr kd pt wt mr c_ 2 (by omega) (by omega)) ⟨rfl, rfl, (Nat.le_of_ble_eq_true rfl), (Nat.le_of_ble_eq_true rfl)⟩ rfl rfl (Nat.le_of_ble_eq_true rfl) 0 rfl rfl rfl [0, 1, 2, 3, 4, 5, 6, 7, 8, 9, 10, 11] [] [0, 1, 2, 3, 4, 5, 6, 7, 8, 9, 10, 11] rfl rfl rfl rfl (by decide) rfl rfl ?_
        refine g_top (y := nI (wt c_)) rfl ?_
        have b5 := hwt c_
        refine g_goto (pc := 41) (tgt := 50) C dX4_as_41 (by decide) ?_
        have hf : f_as ((mn, yr, gr, kd, pt, wt, mr), ((kmn, kyr, kgr, kkd, kpt, kwt, kmr), kp), (tb, tn), (wd, sz, nm), tl) (nI c_) (nI k_) = ((nI (wt c_)), ((mn, yr, gr, kd, pt, wt, mr), ((kmn, kyr, kgr, kkd, kpt, kwt, kmr), kp), (tb, tn), (wd, sz, nm), tl)) := by simp [f_as, fnd, c1, c2, c4, ix_nI (show c_ < 2 ^ 31 by omega), ix_nI (show k_ < 2 ^ 31 by omega)]
        exact g_iret C Rr dX4_as_50 ⟨(kc, os, sd, tk, fr, to, vl, wr, mv), by rw [hf]; exact hJ, by rw [hf], by rw [hf]; rfl⟩ rfl
    · refine g_aload_n (pc := 15) C dX4_as_15 rfl ?_
      refine g_ldc (pc := 16) C dX4_as_16 ck_X4_44 rfl ?_
      refine g_vxi (pc := 18) (ws2 := (mdV g a (sF mn yr gr kd pt wt mr) kc os sd (updN tl 0 (tl 0 + 1)) kp tk tb tn fr to vl wr wd sz (flat nm) mv)) C dX4_as_18 ml_X4_64 mf_X4_finds (m_finds g a (sF mn yr gr kd pt wt mr) kc os sd tl kp tk tb tn fr to vl wr wd sz (flat nm) mv 0 (by decide)) ⟨rfl, rfl, (Nat.le_of_ble_eq_true rfl), (Nat.le_of_ble_eq_true rfl)⟩ rfl rfl (Nat.le_of_ble_eq_true rfl) 0 rfl rfl rfl [0, 1, 2, 3, 4, 5, 6, 7, 8, 9, 10, 11] [] [0, 1, 2, 3, 4, 5, 6, 7, 8, 9, 10, 11] rfl rfl rfl rfl (by decide) rfl rfl ?_
      have hf : f_as ((mn, yr, gr, kd, pt, wt, mr), ((kmn, kyr, kgr, kkd, kpt, kwt, kmr), kp), (tb, tn), (wd, sz, nm), tl) (nI c_) k = ((fd 0), ((mn, yr, gr, kd, pt, wt, mr), ((kmn, kyr, kgr, kkd, kpt, kwt, kmr), kp), (tb, tn), (wd, sz, nm), updN tl 0 (tl 0 + 1))) := by simp [f_as, fnd, c1, c2, ix_nI (show c_ < 2 ^ 31 by omega)]
      exact g_iret C Rr dX4_as_21 ⟨(kc, os, sd, tk, fr, to, vl, wr, mv), by rw [hf]; exact hJ, by rw [hf], by rw [hf]; rfl⟩ rfl
set_option maxHeartbeats 400000 in
set_option maxRecDepth 100000 in
theorem n_swap (g : Gl) (a : Nat → Nat) (X : Xs) (J : Jm) (c : Int32) (o : Int32) (hX : InvX X) (hJ : OkM X J) : Ct g yX4_swap cX4_swap 3 (some .int) (rk 3 68) [.ref (a 0), .int c, .int o] (mdX g a X J) (fun r w2 => ∃ J2, OkM (f_swap X c o).2 J2 ∧ r = some (.int (f_swap X c o).1) ∧ w2 = mdX g a (f_swap X c o).2 J2) := by
  obtain ⟨⟨mn, yr, gr, kd, pt, wt, mr⟩, ⟨⟨kmn, kyr, kgr, kkd, kpt, kwt, kmr⟩, kp⟩, ⟨tb, tn⟩, ⟨wd, sz, nm⟩, tl⟩ := X
  obtain ⟨kc, os, sd, tk, fr, to, vl, wr, mv⟩ := J
  obtain ⟨hB, hy, hkp, htb, htn, hwd, hsz⟩ := id hX
  obtain ⟨-, hTle, hgr, hkd, hpt, hwt, hmr, hyr, hmn⟩ := id hB
  refine ct_of (by decide) (Nat.le_of_ble_eq_true rfl) ?_
  intro φ C0 Rr
  have C : Cx φ g cX4_swap 3 RX4 (rk 3 68) := C0
  show Go φ g 3 0 [(0, .ref (a 0)), (1, .int c), (2, .int o)] [] (mdV g a (sF mn yr gr kd pt wt mr) kc os sd tl kp tk tb tn fr to vl wr wd sz (flat nm) mv)
  refine g_aload_n (pc := 0) C dX4_swap_0 rfl ?_
  refine g_iload_n (pc := 1) C dX4_swap_1 rfl ?_
  refine g_iload_n (pc := 2) C dX4_swap_2 rfl ?_
  refine g_vxi (pc := 3) (ws2 := (mdV g a (sF mn yr gr kd pt wt mr) kc os sd tl kp tk tb tn fr to vl wr wd sz (flat nm) mv)) C dX4_swap_3 ml_X4_131 mf_X4_areTwo (m_areTwo g a kc os sd tl kp tk tb tn fr to vl wr wd sz (flat nm) mv mn yr gr kd pt wt mr c o hB) ⟨rfl, rfl, (Nat.le_of_ble_eq_true rfl), (Nat.le_of_ble_eq_true rfl)⟩ rfl rfl (Nat.le_of_ble_eq_true rfl) 0 rfl rfl rfl [0, 1, 2, 3, 4, 5, 6, 7, 8, 9, 10, 11] [] [0, 1, 2, 3, 4, 5, 6, 7, 8, 9, 10, 11] rfl rfl rfl rfl (by decide) rfl rfl ?_
  refine g_if_neB (pc := 6) (tgt := 16) C dX4_swap_6 (by decide) (fun c1 => ?_) (fun c1 => ?_)
  · obtain ⟨c_, hu_c, rfl⟩ := inR_cook c1.1
    have hc8 : c_ < 8 := by omega
    obtain ⟨o_, hu_o, rfl⟩ := inR_cook c1.2.1
    have ho8 : o_ < 8 := by omega
    refine g_aload_n (pc := 16) C dX4_swap_16 rfl ?_
    refine g_iload_n (pc := 17) C dX4_swap_17 rfl ?_
    refine g_iload_n (pc := 18) C dX4_swap_18 rfl ?_
    refine g_vxn (pc := 19) (ws2 := (mdV g a (sF mn yr gr (exchN kd c_ o_) (exchN pt c_ o_) (exchN wt c_ o_) (exchN mr c_ o_)) kc os sd tl kp tk tb tn fr to vl wr wd sz (flat nm) mv)) C dX4_swap_19 ml_X4_134 mf_X4_swaps (m_swaps g a kc os sd tl kp tk tb tn fr to vl wr wd sz (flat nm) mv mn yr gr kd pt wt mr c_ o_ (by omega) (by omega)) ⟨rfl, rfl, (Nat.le_of_ble_eq_true rfl), (Nat.le_of_ble_eq_true rfl)⟩ rfl rfl (Nat.le_of_ble_eq_true rfl) 0 rfl rfl rfl [0, 1, 2, 3, 4, 5, 6, 7, 8, 9, 10, 11] [] [0, 1, 2, 3, 4, 5, 6, 7, 8, 9, 10, 11] rfl rfl rfl rfl (by decide) rfl rfl ?_
    refine g_iconst (pc := 22) (v := nI 1) C dX4_swap_22 (by decide) ?_
    have hf : f_swap ((mn, yr, gr, kd, pt, wt, mr), ((kmn, kyr, kgr, kkd, kpt, kwt, kmr), kp), (tb, tn), (wd, sz, nm), tl) (nI c_) (nI o_) = ((nI 1), ((mn, yr, gr, (exchN kd c_ o_), (exchN pt c_ o_), (exchN wt c_ o_), (exchN mr c_ o_)), ((kmn, kyr, kgr, kkd, kpt, kwt, kmr), kp), (tb, tn), (wd, sz, nm), tl)) := by first | (simp [f_swap, fnd, c1, ix_nI (show c_ < 2 ^ 31 by omega), ix_nI (show o_ < 2 ^ 31 by omega)]; done) | (simp only [f_swap]; rw [if_neg (fun q => c1 (by simpa [and_assoc] using q))]; rfl)
    exact g_iret C Rr dX4_swap_23 ⟨(kc, os, sd, tk, fr, to, vl, wr, mv), by rw [hf]; exact hJ, by rw [hf], by rw [hf]; rfl⟩ rfl
  · refine g_aload_n (pc := 9) C dX4_swap_9 rfl ?_
    refine g_ldc (pc := 10) C dX4_swap_10 ck_X4_44 rfl ?_
    refine g_vxi (pc := 12) (ws2 := (mdV g a (sF mn yr gr kd pt wt mr) kc os sd (updN tl 0 (tl 0 + 1)) kp tk tb tn fr to vl wr wd sz (flat nm) mv)) C dX4_swap_12 ml_X4_64 mf_X4_finds (m_finds g a (sF mn yr gr kd pt wt mr) kc os sd tl kp tk tb tn fr to vl wr wd sz (flat nm) mv 0 (by decide)) ⟨rfl, rfl, (Nat.le_of_ble_eq_true rfl), (Nat.le_of_ble_eq_true rfl)⟩ rfl rfl (Nat.le_of_ble_eq_true rfl) 0 rfl rfl rfl [0, 1, 2, 3, 4, 5, 6, 7, 8, 9, 10, 11] [] [0, 1, 2, 3, 4, 5, 6, 7, 8, 9, 10, 11] rfl rfl rfl rfl (by decide) rfl rfl ?_
    have hf : f_swap ((mn, yr, gr, kd, pt, wt, mr), ((kmn, kyr, kgr, kkd, kpt, kwt, kmr), kp), (tb, tn), (wd, sz, nm), tl) c o = ((fd 0), ((mn, yr, gr, kd, pt, wt, mr), ((kmn, kyr, kgr, kkd, kpt, kwt, kmr), kp), (tb, tn), (wd, sz, nm), updN tl 0 (tl 0 + 1))) := by first | (simp [f_swap, fnd, c1]; done) | (simp only [f_swap]; rw [if_neg (fun q => c1 (by simpa [and_assoc] using q))]; rfl)
    exact g_iret C Rr dX4_swap_15 ⟨(kc, os, sd, tk, fr, to, vl, wr, mv), by rw [hf]; exact hJ, by rw [hf], by rw [hf]; rfl⟩ rfl
set_option maxHeartbeats 400000 in
set_option maxRecDepth 100000 in
theorem n_years (g : Gl) (a : Nat → Nat) (X : Xs) (J : Jm) (n : Int32) (hX : InvX X) (hJ : OkM X J) : Ct g yX4_years cX4_years 2 (some .int) (rk 5 113) [.ref (a 0), .int n] (mdX g a X J) (fun r w2 => ∃ J2, OkM (f_years X n).2 J2 ∧ r = some (.int (f_years X n).1) ∧ w2 = mdX g a (f_years X n).2 J2) := by
  obtain ⟨⟨mn, yr, gr, kd, pt, wt, mr⟩, ⟨⟨kmn, kyr, kgr, kkd, kpt, kwt, kmr⟩, kp⟩, ⟨tb, tn⟩, ⟨wd, sz, nm⟩, tl⟩ := X
  obtain ⟨kc, os, sd, tk, fr, to, vl, wr, mv⟩ := J
  obtain ⟨hB, hy, hkp, htb, htn, hwd, hsz⟩ := id hX
  obtain ⟨-, hTle, hgr, hkd, hpt, hwt, hmr, hyr, hmn⟩ := id hB
  refine ct_of (by decide) (Nat.le_of_ble_eq_true rfl) ?_
  intro φ C0 Rr
  have C : Cx φ g cX4_years 2 RX4 (rk 5 113) := C0
  show Go φ g 2 0 [(0, .ref (a 0)), (1, .int n)] [] (mdV g a (sF mn yr gr kd pt wt mr) kc os sd tl kp tk tb tn fr to vl wr wd sz (flat nm) mv)
  refine g_iload_n (pc := 0) C dX4_years_0 rfl ?_
  refine g_i2l (pc := 1) C dX4_years_1 ?_
  refine g_lconst (pc := 2) (v := 1) C dX4_years_2 (by decide) ?_
  refine g_ldc2 (pc := 3) C dX4_years_3 ckl_X4_141 rfl ?_
  refine g_s0i (pc := 6) C dX4_years_6 ml_X4_47 mf_X4_in (m_in g ((n).toInt64) 1 (100)) ⟨rfl, rfl, (Nat.le_of_ble_eq_true rfl), (Nat.le_of_ble_eq_true rfl)⟩ rfl rfl (Nat.le_of_ble_eq_true rfl) ?_
  refine g_top (y := bI (inR n 1 100 = true)) (bI_iff (w64.trans inR_iff.symm)) ?_
  refine g_if_neB (pc := 9) (tgt := 19) C dX4_years_9 (by decide) (fun c1 => ?_) (fun c1 => ?_)
  · obtain ⟨n_, hl_n, hu_n, rfl⟩ := inR_nat (lo := 1) (hi := 100) c1
    refine g_aload_n (pc := 19) C dX4_years_19 rfl ?_
    refine g_get4 (pc := 20) C dX4_years_20 0 rfl 0 (by decide) fl_X4_7 rfl ?_
    refine g_iconst (pc := 23) (v := nI 1) C dX4_years_23 (by decide) ?_
    refine g_ialdM (pc := 24) C dX4_years_24 1 rfl rfl (by omega) (by decide) ?_
    refine g_top (congrArg nI sF_r1) ?_
    refine g_iload_n (pc := 25) C dX4_years_25 rfl ?_
    refine g_iaddN (pc := 26) C dX4_years_26 ?_
    refine g_sipush (pc := 27) (v := nI 9999) C dX4_years_27 (by decide) ?_
    refine g_icmp_leN (pc := 30) (tgt := 40) C dX4_years_30 (by decide) (by omega) (by omega) (fun c2 => ?_) (fun c2 => ?_)
    · refine g_aload_n (pc := 40) C dX4_years_40 rfl ?_
      refine g_iload_n (pc := 41) C dX4_years_41 rfl ?_
      refine g_rV (pc := 42) (rest := []) C dX4_years_42 ml_X4_144 mf_X4_yearsGo (m_yearsGo g a kc os sd tl kp tk tb tn fr to vl wr wd sz (flat nm) mv mn yr gr kd pt wt mr n_ hB (by omega)) ⟨rfl, rfl, (Nat.le_of_ble_eq_true rfl), (Nat.le_of_ble_eq_true rfl)⟩ rfl rfl (Nat.le_of_ble_eq_true rfl) 0 rfl rfl rfl [0, 1, 2, 3, 4, 5, 6, 7, 8, 9, 10, 11] [] rfl rfl rfl rfl (by decide) ?_
      intro r9 w9 h9
      obtain ⟨f_3, rfl, rfl⟩ := h9
      refine g_sub (ws2 := (mdV g a (sF mn (yr + n_) (yearsG kd pt wt mr mn gr yr n_) kd pt wt mr) kc os sd tl kp f_3 tb tn fr to vl wr wd sz (flat nm) mv)) [0, 1, 2, 3, 4, 5, 6, 7, 8, 9, 10, 11] rfl rfl ?_
      show Go φ g 2 45 [(0, .ref (a 0)), (1, .int (nI n_))] [] (mdV g a (sF mn (yr + n_) (yearsG kd pt wt mr mn gr yr n_) kd pt wt mr) kc os sd tl kp f_3 tb tn fr to vl wr wd sz (flat nm) mv)
      refine g_aload_n (pc := 45) C dX4_years_45 rfl ?_
      refine g_vxi (pc := 46) (ws2 := (mdV g a (sF mn (yr + n_) (yearsG kd pt wt mr mn gr yr n_) kd pt wt mr) kc os sd tl kp f_3 tb tn fr to vl wr wd sz (flat nm) mv)) C dX4_years_46 ml_X4_70 mf_X4_all (m_all g a kc os sd tl kp f_3 tb tn fr to vl wr wd sz (flat nm) mv mn (yr + n_) (yearsG kd pt wt mr mn gr yr n_) kd pt wt mr) ⟨rfl, rfl, (Nat.le_of_ble_eq_true rfl), (Nat.le_of_ble_eq_true rfl)⟩ rfl rfl (Nat.le_of_ble_eq_true rfl) 0 rfl rfl rfl [0, 1, 2, 3, 4, 5, 6, 7, 8, 9, 10, 11] [] [0, 1, 2, 3, 4, 5, 6, 7, 8, 9, 10, 11] rfl rfl rfl rfl (by decide) rfl rfl ?_
      have hf : f_years ((mn, yr, gr, kd, pt, wt, mr), ((kmn, kyr, kgr, kkd, kpt, kwt, kmr), kp), (tb, tn), (wd, sz, nm), tl) (nI n_) = ((nI (sumN (yearsG kd pt wt mr mn gr yr n_) 12)), ((mn, (yr + n_), (yearsG kd pt wt mr mn gr yr n_), kd, pt, wt, mr), ((kmn, kyr, kgr, kkd, kpt, kwt, kmr), kp), (tb, tn), (wd, sz, nm), tl)) := by simp [f_years, fnd, c1, c2, Nat.not_lt.mpr c2, ix_nI (show n_ < 2 ^ 31 by omega)]
      exact g_iret C Rr dX4_years_49 ⟨(kc, os, sd, f_3, fr, to, vl, wr, mv), by rw [hf]; exact hJ, by rw [hf], by rw [hf]; rfl⟩ rfl
    · refine g_aload_n (pc := 33) C dX4_years_33 rfl ?_
      refine g_ldc (pc := 34) C dX4_years_34 ck_X4_143 rfl ?_
      refine g_vxi (pc := 36) (ws2 := (mdV g a (sF mn yr gr kd pt wt mr) kc os sd (updN tl 4 (tl 4 + 1)) kp tk tb tn fr to vl wr wd sz (flat nm) mv)) C dX4_years_36 ml_X4_64 mf_X4_finds (m_finds g a (sF mn yr gr kd pt wt mr) kc os sd tl kp tk tb tn fr to vl wr wd sz (flat nm) mv 4 (by decide)) ⟨rfl, rfl, (Nat.le_of_ble_eq_true rfl), (Nat.le_of_ble_eq_true rfl)⟩ rfl rfl (Nat.le_of_ble_eq_true rfl) 0 rfl rfl rfl [0, 1, 2, 3, 4, 5, 6, 7, 8, 9, 10, 11] [] [0, 1, 2, 3, 4, 5, 6, 7, 8, 9, 10, 11] rfl rfl rfl rfl (by decide) rfl rfl ?_
      have hf : f_years ((mn, yr, gr, kd, pt, wt, mr), ((kmn, kyr, kgr, kkd, kpt, kwt, kmr), kp), (tb, tn), (wd, sz, nm), tl) (nI n_) = ((fd 4), ((mn, yr, gr, kd, pt, wt, mr), ((kmn, kyr, kgr, kkd, kpt, kwt, kmr), kp), (tb, tn), (wd, sz, nm), updN tl 4 (tl 4 + 1))) := by simp [f_years, fnd, c1, c2, Nat.not_le.mpr c2, ix_nI (show n_ < 2 ^ 31 by omega)]
      exact g_iret C Rr dX4_years_39 ⟨(kc, os, sd, tk, fr, to, vl, wr, mv), by rw [hf]; exact hJ, by rw [hf], by rw [hf]; rfl⟩ rfl
  · refine g_aload_n (pc := 12) C dX4_years_12 rfl ?_
    refine g_ldc (pc := 13) C dX4_years_13 ck_X4_44 rfl ?_
    refine g_vxi (pc := 15) (ws2 := (mdV g a (sF mn yr gr kd pt wt mr) kc os sd (updN tl 0 (tl 0 + 1)) kp tk tb tn fr to vl wr wd sz (flat nm) mv)) C dX4_years_15 ml_X4_64 mf_X4_finds (m_finds g a (sF mn yr gr kd pt wt mr) kc os sd tl kp tk tb tn fr to vl wr wd sz (flat nm) mv 0 (by decide)) ⟨rfl, rfl, (Nat.le_of_ble_eq_true rfl), (Nat.le_of_ble_eq_true rfl)⟩ rfl rfl (Nat.le_of_ble_eq_true rfl) 0 rfl rfl rfl [0, 1, 2, 3, 4, 5, 6, 7, 8, 9, 10, 11] [] [0, 1, 2, 3, 4, 5, 6, 7, 8, 9, 10, 11] rfl rfl rfl rfl (by decide) rfl rfl ?_
    have hf : f_years ((mn, yr, gr, kd, pt, wt, mr), ((kmn, kyr, kgr, kkd, kpt, kwt, kmr), kp), (tb, tn), (wd, sz, nm), tl) n = ((fd 0), ((mn, yr, gr, kd, pt, wt, mr), ((kmn, kyr, kgr, kkd, kpt, kwt, kmr), kp), (tb, tn), (wd, sz, nm), updN tl 0 (tl 0 + 1))) := by simp [f_years, fnd, c1]
    exact g_iret C Rr dX4_years_18 ⟨(kc, os, sd, tk, fr, to, vl, wr, mv), by rw [hf]; exact hJ, by rw [hf], by rw [hf]; rfl⟩ rfl
set_option maxHeartbeats 400000 in
set_option maxRecDepth 100000 in
theorem n_on (g : Gl) (a : Nat → Nat) (X : Xs) (J : Jm) (p : Int32) (n : Int32) (w : Int32) (hX : InvX X) (hJ : OkM X J) : Ct g yX4_on cX4_on 4 (some .int) (rk 5 113) [.ref (a 0), .int p, .int n, .int w] (mdX g a X J) (fun r w2 => ∃ J2, OkM (f_on X p n w).2 J2 ∧ r = some (.int (f_on X p n w).1) ∧ w2 = mdX g a (f_on X p n w).2 J2) := by
  obtain ⟨⟨mn, yr, gr, kd, pt, wt, mr⟩, ⟨⟨kmn, kyr, kgr, kkd, kpt, kwt, kmr⟩, kp⟩, ⟨tb, tn⟩, ⟨wd, sz, nm⟩, tl⟩ := X
  obtain ⟨kc, os, sd, tk, fr, to, vl, wr, mv⟩ := J
  obtain ⟨hB, hy, hkp, htb, htn, hwd, hsz⟩ := id hX
  obtain ⟨-, hTle, hgr, hkd, hpt, hwt, hmr, hyr, hmn⟩ := id hB
  refine ct_of (by decide) (Nat.le_of_ble_eq_true rfl) ?_
  intro φ C0 Rr
  have C : Cx φ g cX4_on 4 RX4 (rk 5 113) := C0
  show Go φ g 4 0 [(0, .ref (a 0)), (1, .int p), (2, .int n), (3, .int w)] [] (mdV g a (sF mn yr gr kd pt wt mr) kc os sd tl kp tk tb tn fr to vl wr wd sz (flat nm) mv)
  refine g_iload_n (pc := 0) C dX4_on_0 rfl ?_
  refine g_s0i (pc := 1) C dX4_on_1 ml_X4_61 mf_X4_isPart (m_isPart g p) ⟨rfl, rfl, (Nat.le_of_ble_eq_true rfl), (Nat.le_of_ble_eq_true rfl)⟩ rfl rfl (Nat.le_of_ble_eq_true rfl) ?_
  refine g_if_eqB (pc := 4) (tgt := 29) C dX4_on_4 (by decide) (fun c1 => ?_) (fun c1 => ?_)
  · refine g_aload_n (pc := 29) C dX4_on_29 rfl ?_
    refine g_ldc (pc := 30) C dX4_on_30 ck_X4_44 rfl ?_
    refine g_vxi (pc := 32) (ws2 := (mdV g a (sF mn yr gr kd pt wt mr) kc os sd (updN tl 0 (tl 0 + 1)) kp tk tb tn fr to vl wr wd sz (flat nm) mv)) C dX4_on_32 ml_X4_64 mf_X4_finds (m_finds g a (sF mn yr gr kd pt wt mr) kc os sd tl kp tk tb tn fr to vl wr wd sz (flat nm) mv 0 (by decide)) ⟨rfl, rfl, (Nat.le_of_ble_eq_true rfl), (Nat.le_of_ble_eq_true rfl)⟩ rfl rfl (Nat.le_of_ble_eq_true rfl) 0 rfl rfl rfl [0, 1, 2, 3, 4, 5, 6, 7, 8, 9, 10, 11] [] [0, 1, 2, 3, 4, 5, 6, 7, 8, 9, 10, 11] rfl rfl rfl rfl (by decide) rfl rfl ?_
    have hf : f_on ((mn, yr, gr, kd, pt, wt, mr), ((kmn, kyr, kgr, kkd, kpt, kwt, kmr), kp), (tb, tn), (wd, sz, nm), tl) p n w = ((fd 0), ((mn, yr, gr, kd, pt, wt, mr), ((kmn, kyr, kgr, kkd, kpt, kwt, kmr), kp), (tb, tn), (wd, sz, nm), updN tl 0 (tl 0 + 1))) := by first | (simp [f_on, fnd, c1]; done) | (simp [f_on, fnd, ]; simp [c1])
    exact g_iret C Rr dX4_on_35 ⟨(kc, os, sd, tk, fr, to, vl, wr, mv), by rw [hf]; exact hJ, by rw [hf], by rw [hf]; rfl⟩ rfl
  · obtain ⟨p_, hl_p, hu_p, rfl⟩ := inR_nat (lo := 0) (hi := 11) c1
    refine g_iload_n (pc := 7) C dX4_on_7 rfl ?_
    refine g_i2l (pc := 8) C dX4_on_8 ?_
    refine g_lconst (pc := 9) (v := 0) C dX4_on_9 (by decide) ?_
    refine g_ldc2 (pc := 10) C dX4_on_10 ckl_X4_141 rfl ?_
    refine g_s0i (pc := 13) C dX4_on_13 ml_X4_47 mf_X4_in (m_in g ((n).toInt64) 0 (100)) ⟨rfl, rfl, (Nat.le_of_ble_eq_true rfl), (Nat.le_of_ble_eq_true rfl)⟩ rfl rfl (Nat.le_of_ble_eq_true rfl) ?_
    refine g_top (y := bI (inR n 0 100 = true)) (bI_iff (w64.trans inR_iff.symm)) ?_
    refine g_if_eqB (pc := 16) (tgt := 29) C dX4_on_16 (by decide) (fun c2 => ?_) (fun c2 => ?_)
    · refine g_aload_n (pc := 29) C dX4_on_29 rfl ?_
      refine g_ldc (pc := 30) C dX4_on_30 ck_X4_44 rfl ?_
      refine g_vxi (pc := 32) (ws2 := (mdV g a (sF mn yr gr kd pt wt mr) kc os sd (updN tl 0 (tl 0 + 1)) kp tk tb tn fr to vl wr wd sz (flat nm) mv)) C dX4_on_32 ml_X4_64 mf_X4_finds (m_finds g a (sF mn yr gr kd pt wt mr) kc os sd tl kp tk tb tn fr to vl wr wd sz (flat nm) mv 0 (by decide)) ⟨rfl, rfl, (Nat.le_of_ble_eq_true rfl), (Nat.le_of_ble_eq_true rfl)⟩ rfl rfl (Nat.le_of_ble_eq_true rfl) 0 rfl rfl rfl [0, 1, 2, 3, 4, 5, 6, 7, 8, 9, 10, 11] [] [0, 1, 2, 3, 4, 5, 6, 7, 8, 9, 10, 11] rfl rfl rfl rfl (by decide) rfl rfl ?_
      have hf : f_on ((mn, yr, gr, kd, pt, wt, mr), ((kmn, kyr, kgr, kkd, kpt, kwt, kmr), kp), (tb, tn), (wd, sz, nm), tl) (nI p_) n w = ((fd 0), ((mn, yr, gr, kd, pt, wt, mr), ((kmn, kyr, kgr, kkd, kpt, kwt, kmr), kp), (tb, tn), (wd, sz, nm), updN tl 0 (tl 0 + 1))) := by first | (simp [f_on, fnd, c1, c2, ix_nI (show p_ < 2 ^ 31 by omega)]; done) | (simp [f_on, fnd, c1, ix_nI (show p_ < 2 ^ 31 by omega)]; simp [c2])
      exact g_iret C Rr dX4_on_35 ⟨(kc, os, sd, tk, fr, to, vl, wr, mv), by rw [hf]; exact hJ, by rw [hf], by rw [hf]; rfl⟩ rfl
    · obtain ⟨n_, hl_n, hu_n, rfl⟩ := inR_nat (lo := 0) (hi := 100) c2
      refine g_iload_n (pc := 19) C dX4_on_19 rfl ?_
      refine g_i2l (pc := 20) C dX4_on_20 ?_
      refine g_lconst (pc := 21) (v := 0) C dX4_on_21 (by decide) ?_
      refine g_lconst (pc := 22) (v := 1) C dX4_on_22 (by decide) ?_
      refine g_s0i (pc := 23) C dX4_on_23 ml_X4_47 mf_X4_in (m_in g ((w).toInt64) 0 1) ⟨rfl, rfl, (Nat.le_of_ble_eq_true rfl), (Nat.le_of_ble_eq_true rfl)⟩ rfl rfl (Nat.le_of_ble_eq_true rfl) ?_
      refine g_top (y := bI (inR w 0 1 = true)) (bI_iff (w64.trans inR_iff.symm)) ?_
      refine g_if_neB (pc := 26) (tgt := 36) C dX4_on_26 (by decide) (fun c3 => ?_) (fun c3 => ?_)
      · obtain ⟨w_, hl_w, hu_w, rfl⟩ := inR_nat (lo := 0) (hi := 1) c3
        refine g_aload_n (pc := 36) C dX4_on_36 rfl ?_
        refine g_vxn (pc := 37) (ws2 := (mdV g a (sF mn yr gr kd pt wt mr) kc os (sF mn yr gr kd pt wt mr) tl kp tk tb tn fr to vl wr wd sz (flat nm) mv)) C dX4_on_37 ml_X4_90 mf_X4_laysAside (m_laysAside g a kc os sd tl kp tk tb tn fr to vl wr wd sz (flat nm) mv mn yr gr kd pt wt mr) ⟨rfl, rfl, (Nat.le_of_ble_eq_true rfl), (Nat.le_of_ble_eq_true rfl)⟩ rfl rfl (Nat.le_of_ble_eq_true rfl) 0 rfl rfl rfl [0, 1, 2, 3, 4, 5, 6, 7, 8, 9, 10, 11] [] [0, 1, 2, 3, 4, 5, 6, 7, 8, 9, 10, 11] rfl rfl rfl rfl (by decide) rfl rfl ?_
        refine g_aload_n (pc := 40) C dX4_on_40 rfl ?_
        refine g_iload_n (pc := 41) C dX4_on_41 rfl ?_
        refine g_rV (pc := 42) (rest := []) C dX4_on_42 ml_X4_144 mf_X4_yearsGo (m_yearsGo g a kc os (sF mn yr gr kd pt wt mr) tl kp tk tb tn fr to vl wr wd sz (flat nm) mv mn yr gr kd pt wt mr n_ hB (by omega)) ⟨rfl, rfl, (Nat.le_of_ble_eq_true rfl), (Nat.le_of_ble_eq_true rfl)⟩ rfl rfl (Nat.le_of_ble_eq_true rfl) 0 rfl rfl rfl [0, 1, 2, 3, 4, 5, 6, 7, 8, 9, 10, 11] [] rfl rfl rfl rfl (by decide) ?_
        intro r9 w9 h9
        obtain ⟨f_4, rfl, rfl⟩ := h9
        refine g_sub (ws2 := (mdV g a (sF mn (yr + n_) (yearsG kd pt wt mr mn gr yr n_) kd pt wt mr) kc os (sF mn yr gr kd pt wt mr) tl kp f_4 tb tn fr to vl wr wd sz (flat nm) mv)) [0, 1, 2, 3, 4, 5, 6, 7, 8, 9, 10, 11] rfl rfl ?_
        show Go φ g 4 45 [(0, .ref (a 0)), (1, .int (nI p_)), (2, .int (nI n_)), (3, .int (nI w_))] [] (mdV g a (sF mn (yr + n_) (yearsG kd pt wt mr mn gr yr n_) kd pt wt mr) kc os (sF mn yr gr kd pt wt mr) tl kp f_4 tb tn fr to vl wr wd sz (flat nm) mv)
        refine g_aload_n (pc := 45) C dX4_on_45 rfl ?_
        refine g_iload_n (pc := 46) C dX4_on_46 rfl ?_
        refine g_if_neN (pc := 47) (tgt := 61) C dX4_on_47 (by decide) (by omega) (fun c5 => ?_) (fun c5 => ?_)
        · refine g_aload_n (pc := 61) C dX4_on_61 rfl ?_
          refine g_iload_n (pc := 62) C dX4_on_62 rfl ?_
          refine g_vxi (pc := 63) (ws2 := (mdV g a (sF mn (yr + n_) (yearsG kd pt wt mr mn gr yr n_) kd pt wt mr) kc os (sF mn yr gr kd pt wt mr) tl kp f_4 tb tn fr to vl wr wd sz (flat nm) mv)) C dX4_on_63 ml_X4_79 mf_X4_tasteOf (m_tasteOf g a kc os (sF mn yr gr kd pt wt mr) tl kp f_4 tb tn fr to vl wr wd sz (flat nm) mv mn (yr + n_) (yearsG kd pt wt mr mn gr yr n_) kd pt wt mr p_ (PB_yrs hB n_ (by omega)) (by omega)) ⟨rfl, rfl, (Nat.le_of_ble_eq_true rfl), (Nat.le_of_ble_eq_true rfl)⟩ rfl rfl (Nat.le_of_ble_eq_true rfl) 0 rfl rfl rfl [0, 1, 2, 3, 4, 5, 6, 7, 8, 9, 10, 11] [] [0, 1, 2, 3, 4, 5, 6, 7, 8, 9, 10, 11] rfl rfl rfl rfl (by decide) rfl rfl ?_
          refine g_vxi (pc := 66) (ws2 := (mdV g a (sF mn yr gr kd pt wt mr) kc os (sF mn yr gr kd pt wt mr) tl kp f_4 tb tn fr to vl wr wd sz (flat nm) mv)) C dX4_on_66 ml_X4_93 mf_X4_takesBack (m_takesBack g a kc os tl kp f_4 tb tn fr to vl wr wd sz (flat nm) mv mn (yr + n_) (yearsG kd pt wt mr mn gr yr n_) kd pt wt mr mn yr gr kd pt wt mr (tasteN (yearsG kd pt wt mr mn gr yr n_) (sumN (yearsG kd pt wt mr mn gr yr n_) 12) p_)) ⟨rfl, rfl, (Nat.le_of_ble_eq_true rfl), (Nat.le_of_ble_eq_true rfl)⟩ rfl rfl (Nat.le_of_ble_eq_true rfl) 0 rfl rfl rfl [0, 1, 2, 3, 4, 5, 6, 7, 8, 9, 10, 11] [] [0, 1, 2, 3, 4, 5, 6, 7, 8, 9, 10, 11] rfl rfl rfl rfl (by decide) rfl rfl ?_
          have hf : f_on ((mn, yr, gr, kd, pt, wt, mr), ((kmn, kyr, kgr, kkd, kpt, kwt, kmr), kp), (tb, tn), (wd, sz, nm), tl) (nI p_) (nI n_) (nI w_) = ((nI (tasteN (yearsG kd pt wt mr mn gr yr n_) (sumN (yearsG kd pt wt mr mn gr yr n_) 12) p_)), ((mn, yr, gr, kd, pt, wt, mr), ((kmn, kyr, kgr, kkd, kpt, kwt, kmr), kp), (tb, tn), (wd, sz, nm), tl)) := by first | (simp [f_on, fnd, c1, c2, c3, c5, ix_nI (show p_ < 2 ^ 31 by omega), ix_nI (show n_ < 2 ^ 31 by omega), ix_nI (show w_ < 2 ^ 31 by omega)]; done) | (simp [f_on, fnd, c1, c2, c3, ix_nI (show p_ < 2 ^ 31 by omega), ix_nI (show n_ < 2 ^ 31 by omega), ix_nI (show w_ < 2 ^ 31 by omega)]; simp [c5])
          exact g_iret C Rr dX4_on_69 ⟨(kc, os, sF mn yr gr kd pt wt mr, f_4, fr, to, vl, wr, mv), by rw [hf]; exact hJ, by rw [hf], by rw [hf]; rfl⟩ rfl
        · refine g_aload_n (pc := 50) C dX4_on_50 rfl ?_
          refine g_get4 (pc := 51) C dX4_on_51 0 rfl 0 (by decide) fl_X4_7 rfl ?_
          refine g_iconst (pc := 54) (v := nI 2) C dX4_on_54 (by decide) ?_
          refine g_iload_n (pc := 55) C dX4_on_55 rfl ?_
          refine g_iaddN (pc := 56) C dX4_on_56 ?_
          refine g_ialdM (pc := 57) C dX4_on_57 1 rfl rfl (by omega) (by decide) ?_
          refine g_top (congrArg nI (sF_rg (by omega))) ?_
          refine g_goto (pc := 58) (tgt := 66) C dX4_on_58 (by decide) ?_
          refine g_vxi (pc := 66) (ws2 := (mdV g a (sF mn yr gr kd pt wt mr) kc os (sF mn yr gr kd pt wt mr) tl kp f_4 tb tn fr to vl wr wd sz (flat nm) mv)) C dX4_on_66 ml_X4_93 mf_X4_takesBack (m_takesBack g a kc os tl kp f_4 tb tn fr to vl wr wd sz (flat nm) mv mn (yr + n_) (yearsG kd pt wt mr mn gr yr n_) kd pt wt mr mn yr gr kd pt wt mr ((yearsG kd pt wt mr mn gr yr n_) p_)) ⟨rfl, rfl, (Nat.le_of_ble_eq_true rfl), (Nat.le_of_ble_eq_true rfl)⟩ rfl rfl (Nat.le_of_ble_eq_true rfl) 0 rfl rfl rfl [0, 1, 2, 3, 4, 5, 6, 7, 8, 9, 10, 11] [] [0, 1, 2, 3, 4, 5, 6, 7, 8, 9, 10, 11] rfl rfl rfl rfl (by decide) rfl rfl ?_
          have hf : f_on ((mn, yr, gr, kd, pt, wt, mr), ((kmn, kyr, kgr, kkd, kpt, kwt, kmr), kp), (tb, tn), (wd, sz, nm), tl) (nI p_) (nI n_) (nI w_) = ((nI ((yearsG kd pt wt mr mn gr yr n_) p_)), ((mn, yr, gr, kd, pt, wt, mr), ((kmn, kyr, kgr, kkd, kpt, kwt, kmr), kp), (tb, tn), (wd, sz, nm), tl)) := by first | (simp [f_on, fnd, c1, c2, c3, c5, ix_nI (show p_ < 2 ^ 31 by omega), ix_nI (show n_ < 2 ^ 31 by omega), ix_nI (show w_ < 2 ^ 31 by omega)]; done) | (simp [f_on, fnd, c1, c2, c3, ix_nI (show p_ < 2 ^ 31 by omega), ix_nI (show n_ < 2 ^ 31 by omega), ix_nI (show w_ < 2 ^ 31 by omega)]; simp [c5])
          exact g_iret C Rr dX4_on_69 ⟨(kc, os, sF mn yr gr kd pt wt mr, f_4, fr, to, vl, wr, mv), by rw [hf]; exact hJ, by rw [hf], by rw [hf]; rfl⟩ rfl
      · refine g_aload_n (pc := 29) C dX4_on_29 rfl ?_
        refine g_ldc (pc := 30) C dX4_on_30 ck_X4_44 rfl ?_
        refine g_vxi (pc := 32) (ws2 := (mdV g a (sF mn yr gr kd pt wt mr) kc os sd (updN tl 0 (tl 0 + 1)) kp tk tb tn fr to vl wr wd sz (flat nm) mv)) C dX4_on_32 ml_X4_64 mf_X4_finds (m_finds g a (sF mn yr gr kd pt wt mr) kc os sd tl kp tk tb tn fr to vl wr wd sz (flat nm) mv 0 (by decide)) ⟨rfl, rfl, (Nat.le_of_ble_eq_true rfl), (Nat.le_of_ble_eq_true rfl)⟩ rfl rfl (Nat.le_of_ble_eq_true rfl) 0 rfl rfl rfl [0, 1, 2, 3, 4, 5, 6, 7, 8, 9, 10, 11] [] [0, 1, 2, 3, 4, 5, 6, 7, 8, 9, 10, 11] rfl rfl rfl rfl (by decide) rfl rfl ?_
        have hf : f_on ((mn, yr, gr, kd, pt, wt, mr), ((kmn, kyr, kgr, kkd, kpt, kwt, kmr), kp), (tb, tn), (wd, sz, nm), tl) (nI p_) (nI n_) w = ((fd 0), ((mn, yr, gr, kd, pt, wt, mr), ((kmn, kyr, kgr, kkd, kpt, kwt, kmr), kp), (tb, tn), (wd, sz, nm), updN tl 0 (tl 0 + 1))) := by first | (simp [f_on, fnd, c1, c2, c3, ix_nI (show p_ < 2 ^ 31 by omega), ix_nI (show n_ < 2 ^ 31 by omega)]; done) | (simp [f_on, fnd, c1, c2, ix_nI (show p_ < 2 ^ 31 by omega), ix_nI (show n_ < 2 ^ 31 by omega)]; simp [c3])
        exact g_iret C Rr dX4_on_35 ⟨(kc, os, sd, tk, fr, to, vl, wr, mv), by rw [hf]; exact hJ, by rw [hf], by rw [hf]; rfl⟩ rfl
set_option maxHeartbeats 400000 in
set_option maxRecDepth 100000 in
theorem n_wipe (g : Gl) (a : Nat → Nat) (X : Xs) (J : Jm) (hX : InvX X) (hJ : OkM X J) : Ct g yX4_wipe cX4_wipe 2 (some .int) (rk 0 0) [.ref (a 0)] (mdX g a X J) (fun r w2 => ∃ J2, OkM (f_wipe X).2 J2 ∧ r = some (.int (f_wipe X).1) ∧ w2 = mdX g a (f_wipe X).2 J2) := by
  obtain ⟨⟨mn, yr, gr, kd, pt, wt, mr⟩, ⟨⟨kmn, kyr, kgr, kkd, kpt, kwt, kmr⟩, kp⟩, ⟨tb, tn⟩, ⟨wd, sz, nm⟩, tl⟩ := X
  obtain ⟨kc, os, sd, tk, fr, to, vl, wr, mv⟩ := J
  obtain ⟨hB, hy, hkp, htb, htn, hwd, hsz⟩ := id hX
  obtain ⟨-, hTle, hgr, hkd, hpt, hwt, hmr, hyr, hmn⟩ := id hB
  refine ct_of (by decide) (Nat.le_of_ble_eq_true rfl) ?_
  intro φ C0 Rr
  have C : Cx φ g cX4_wipe 2 RX4 (rk 0 0) := C0
  show Go φ g 2 0 [(0, .ref (a 0))] [] (mdV g a (sF mn yr gr kd pt wt mr) kc os sd tl kp tk tb tn fr to vl wr wd sz (flat nm) mv)
  refine g_aload_n (pc := 0) C dX4_wipe_0 rfl ?_
  refine g_get4 (pc := 1) C dX4_wipe_1 0 rfl 8 (by decide) fl_X4_184 rfl ?_
  refine g_istore_n (pc := 4) (lv2 := [(0, .ref (a 0)), (1, .int (nI tn))]) C dX4_wipe_4 rfl (Nat.le_of_ble_eq_true rfl) rfl ?_
  refine g_aload_n (pc := 5) C dX4_wipe_5 rfl ?_
  refine g_iconst (pc := 6) (v := nI 0) C dX4_wipe_6 (by decide) ?_
  refine g_put4 (pc := 7) (ws2 := (mdV g a (sF mn yr gr kd pt wt mr) kc os sd tl kp tk tb 0 fr to vl wr wd sz (flat nm) mv)) C dX4_wipe_7 0 rfl 8 (by decide) fl_X4_184 rfl rfl rfl (Nat.le_of_ble_eq_true rfl) rfl ?_
  refine g_iload_n (pc := 10) C dX4_wipe_10 rfl ?_
  have hf : f_wipe ((mn, yr, gr, kd, pt, wt, mr), ((kmn, kyr, kgr, kkd, kpt, kwt, kmr), kp), (tb, tn), (wd, sz, nm), tl) = ((nI tn), ((mn, yr, gr, kd, pt, wt, mr), ((kmn, kyr, kgr, kkd, kpt, kwt, kmr), kp), (tb, 0), (wd, sz, nm), tl)) := by simp [f_wipe, fnd, ]
  exact g_iret C Rr dX4_wipe_11 ⟨(kc, os, sd, tk, fr, to, vl, wr, mv), by rw [hf]; exact hJ, by rw [hf], by rw [hf]; rfl⟩ rfl
