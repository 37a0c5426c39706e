theorem sum_fill {gr : Nat → Nat} {p v : Nat} (hp : p < 12) : sumN gr 12 - gr p + v = sumN (updN gr p v) 12 := by
  have h1 := sumN_upd gr v hp
  have h2 := sumN_ge gr hp
  omega
set_option maxHeartbeats 400000 in
set_option maxRecDepth 100000 in
theorem x_grains (g : Gl) (A : Ac) (X : Xs) (J : Jc) (p : Int32) (hX : InvX X) (hJ : OkJ X J) : Ct g yX3_grains cX3_grains 2 (some .int) (rk 2 42) [.ref (A.1 0), .int p] (spX g A X J) (fun r w2 => ∃ J2, OkJ (f_grains X p).2 J2 ∧ r = some (.int (f_grains X p).1) ∧ w2 = spX g A (f_grains X p).2 J2) := by
  obtain ⟨ao, ap, ak, at', au, ae, a0, a1, a2, a3, ay⟩ := A
  obtain ⟨⟨mn, yr, gr, kd, pt, wt, mr⟩, ⟨ks, kp⟩, ⟨tb, tn⟩, ⟨wd, sz, nm⟩, tl⟩ := X
  obtain ⟨la, ⟨⟨kmn, kyr, kgr, kkd, kpt, kwt, kmr⟩, kla⟩, ⟨⟨tmn, tyr, tgr, tkd, tpt, twt, tmr⟩, tla⟩, ⟨pl, tk, sr, vl⟩⟩ := J
  obtain ⟨hB, hy, hkp, htb, htn, hwd, hsz⟩ := id hX
  obtain ⟨-, hTle, hgr, hkd, hpt, hwt, hmr, hyr, hmn⟩ := id hB
  refine ct_of (by decide) (Nat.le_of_ble_eq_true rfl) ?_
  intro φ C0 Rr
  have C : Cx φ g cX3_grains 2 RX3 (rk 2 42) := C0
  show Go φ g 2 0 [(0, .ref (ao 0)), (1, .int p)] [] (fl [spO g ao ap ak at' au ae ay kp, potV g ap gr la kd pt wt mr (sumN gr 12) yr mn, potV g ak kgr kla kkd kpt kwt kmr (sumN kgr 12) kyr kmn, potV g at' tgr tla tkd tpt twt tmr (sumN tgr 12) tyr tmn, tpV g au (tbB tb) tn pl tk sr vl, shA g ae a0 a1 a2 a3, shV g a0 (nm 0) (wd 0) (sz 0), shV g a1 (nm 1) (wd 1) (sz 1), shV g a2 (nm 2) (wd 2) (sz 2), shV g a3 (nm 3) (wd 3) (sz 3), arr7 g ay tl])
  refine g_iload_n (pc := 0) C dX3_grains_0 rfl ?_
  refine g_s0i (pc := 1) C dX3_grains_1 ml_X3_40 mf_X3_isPart (c_isPart g p) ⟨rfl, rfl, (Nat.le_of_ble_eq_true rfl), (Nat.le_of_ble_eq_true rfl)⟩ rfl rfl (Nat.le_of_ble_eq_true rfl) ?_
  refine g_if_eqB (pc := 4) (tgt := 19) C dX3_grains_4 (by decide) (fun c1 => ?_) (fun c1 => ?_)
  · refine g_aload_n (pc := 19) C dX3_grains_19 rfl ?_
    refine g_iconst (pc := 20) (v := nI 0) C dX3_grains_20 (by decide) ?_
    refine g_bxi (pc := 21) (cs := [spO g ao ap ak at' au ae ay kp, arr7 g ay tl]) (ds := [spO g ao ap ak at' au ae ay kp, arr7 g ay (updN tl 0 (tl 0 + 1))]) (bs2 := [spO g ao ap ak at' au ae ay kp, potV g ap gr la kd pt wt mr (sumN gr 12) yr mn, potV g ak kgr kla kkd kpt kwt kmr (sumN kgr 12) kyr kmn, potV g at' tgr tla tkd tpt twt tmr (sumN tgr 12) tyr tmn, tpV g au (tbB tb) tn pl tk sr vl, shA g ae a0 a1 a2 a3, shV g a0 (nm 0) (wd 0) (sz 0), shV g a1 (nm 1) (wd 1) (sz 1), shV g a2 (nm 2) (wd 2) (sz 2), shV g a3 (nm 3) (wd 3) (sz 3), arr7 g ay (updN tl 0 (tl 0 + 1))]) C dX3_grains_21 ml_X3_47 mf_X3_finding (c_finding g ao ap ak at' au ae ay kp tl 0 (by decide)) ⟨rfl, rfl, (Nat.le_of_ble_eq_true rfl), (Nat.le_of_ble_eq_true rfl)⟩ rfl rfl (Nat.le_of_ble_eq_true rfl) rfl rfl 0 rfl rfl rfl [0, 10] rfl rfl rfl rfl ?_
    have hf : f_grains ((mn, yr, gr, kd, pt, wt, mr), (ks, kp), (tb, tn), (wd, sz, nm), tl) p = ((fd 0), ((mn, yr, gr, kd, pt, wt, mr), (ks, kp), (tb, tn), (wd, sz, nm), updN tl 0 (tl 0 + 1))) := by simp [f_grains, fnd, c1]
    exact g_iret C Rr dX3_grains_24 ⟨(la, ((kmn, kyr, kgr, kkd, kpt, kwt, kmr), kla), ((tmn, tyr, tgr, tkd, tpt, twt, tmr), tla), (pl, tk, sr, vl)), by rw [hf]; exact (fun h => hJ h), by rw [hf], by rw [hf]; rfl⟩ (spX_ad g (ao, ap, ak, at', au, ae, a0, a1, a2, a3, ay) ((mn, yr, gr, kd, pt, wt, mr), (ks, kp), (tb, tn), (wd, sz, nm), updN tl 0 (tl 0 + 1)) ((mn, yr, gr, kd, pt, wt, mr), (ks, kp), (tb, tn), (wd, sz, nm), tl) (la, ((kmn, kyr, kgr, kkd, kpt, kwt, kmr), kla), ((tmn, tyr, tgr, tkd, tpt, twt, tmr), tla), (pl, tk, sr, vl)) (la, ((kmn, kyr, kgr, kkd, kpt, kwt, kmr), kla), ((tmn, tyr, tgr, tkd, tpt, twt, tmr), tla), (pl, tk, sr, vl)))
  · obtain ⟨p_, hl_p, hu_p, rfl⟩ := inR_nat (lo := 0) (hi := 11) c1
    refine g_aload_n (pc := 7) C dX3_grains_7 rfl ?_
    refine g_get3 (pc := 8) C dX3_grains_8 0 rfl 0 (by decide) fl_X3_10 rfl ?_
    refine g_get0 (pc := 11) C dX3_grains_11 1 rfl 0 (by decide) fl_X3_44 rfl ?_
    refine g_iload_n (pc := 14) C dX3_grains_14 rfl ?_
    refine g_ialdM (pc := 15) C dX3_grains_15 2 rfl rfl (by omega) (by decide) ?_
    have b2 := hgr p_
    refine g_goto (pc := 16) (tgt := 24) C dX3_grains_16 (by decide) ?_
    have hf : f_grains ((mn, yr, gr, kd, pt, wt, mr), (ks, kp), (tb, tn), (wd, sz, nm), tl) (nI p_) = ((nI (gr p_)), ((mn, yr, gr, kd, pt, wt, mr), (ks, kp), (tb, tn), (wd, sz, nm), tl)) := by simp [f_grains, fnd, c1, ix_nI (show p_ < 2 ^ 31 by omega)]
    exact g_iret C Rr dX3_grains_24 ⟨(la, ((kmn, kyr, kgr, kkd, kpt, kwt, kmr), kla), ((tmn, tyr, tgr, tkd, tpt, twt, tmr), tla), (pl, tk, sr, vl)), by rw [hf]; exact (fun h => hJ h), by rw [hf], by rw [hf]; rfl⟩ (spX_ad g (ao, ap, ak, at', au, ae, a0, a1, a2, a3, ay) ((mn, yr, gr, kd, pt, wt, mr), (ks, kp), (tb, tn), (wd, sz, nm), tl) ((mn, yr, gr, kd, pt, wt, mr), (ks, kp), (tb, tn), (wd, sz, nm), tl) (la, ((kmn, kyr, kgr, kkd, kpt, kwt, kmr), kla), ((tmn, tyr, tgr, tkd, tpt, twt, tmr), tla), (pl, tk, sr, vl)) (la, ((kmn, kyr, kgr, kkd, kpt, kwt, kmr), kla), ((tmn, tyr, tgr, tkd, tpt, twt, tmr), tla), (pl, tk, sr, vl)))
set_option maxHeartbeats 400000 in
set_option maxRecDepth 100000 in
theorem x_pour (g : Gl) (A : Ac) (X : Xs) (J : Jc) (p : Int32) (v : Int32) (hX : InvX X) (hJ : OkJ X J) : Ct g yX3_pour cX3_pour 4 (some .int) (rk 2 42) [.ref (A.1 0), .int p, .int v] (spX g A X J) (fun r w2 => ∃ J2, OkJ (f_pour X p v).2 J2 ∧ r = some (.int (f_pour X p v).1) ∧ w2 = spX g A (f_pour X p v).2 J2) := by
  obtain ⟨ao, ap, ak, at', au, ae, a0, a1, a2, a3, ay⟩ := A
  obtain ⟨⟨mn, yr, gr, kd, pt, wt, mr⟩, ⟨ks, kp⟩, ⟨tb, tn⟩, ⟨wd, sz, nm⟩, tl⟩ := X
  obtain ⟨la, ⟨⟨kmn, kyr, kgr, kkd, kpt, kwt, kmr⟩, kla⟩, ⟨⟨tmn, tyr, tgr, tkd, tpt, twt, tmr⟩, tla⟩, ⟨pl, tk, sr, vl⟩⟩ := J
  obtain ⟨hB, hy, hkp, htb, htn, hwd, hsz⟩ := id hX
  obtain ⟨-, hTle, hgr, hkd, hpt, hwt, hmr, hyr, hmn⟩ := id hB
  refine ct_of (by decide) (Nat.le_of_ble_eq_true rfl) ?_
  intro φ C0 Rr
  have C : Cx φ g cX3_pour 4 RX3 (rk 2 42) := C0
  show Go φ g 4 0 [(0, .ref (ao 0)), (1, .int p), (2, .int v)] [] (fl [spO g ao ap ak at' au ae ay kp, potV g ap gr la kd pt wt mr (sumN gr 12) yr mn, potV g ak kgr kla kkd kpt kwt kmr (sumN kgr 12) kyr kmn, potV g at' tgr tla tkd tpt twt tmr (sumN tgr 12) tyr tmn, tpV g au (tbB tb) tn pl tk sr vl, shA g ae a0 a1 a2 a3, shV g a0 (nm 0) (wd 0) (sz 0), shV g a1 (nm 1) (wd 1) (sz 1), shV g a2 (nm 2) (wd 2) (sz 2), shV g a3 (nm 3) (wd 3) (sz 3), arr7 g ay tl])
  refine g_iload_n (pc := 0) C dX3_pour_0 rfl ?_
  refine g_s0i (pc := 1) C dX3_pour_1 ml_X3_40 mf_X3_isPart (c_isPart g p) ⟨rfl, rfl, (Nat.le_of_ble_eq_true rfl), (Nat.le_of_ble_eq_true rfl)⟩ rfl rfl (Nat.le_of_ble_eq_true rfl) ?_
  refine g_if_eqB (pc := 4) (tgt := 17) C dX3_pour_4 (by decide) (fun c1 => ?_) (fun c1 => ?_)
  · refine g_aload_n (pc := 17) C dX3_pour_17 rfl ?_
    refine g_iconst (pc := 18) (v := nI 0) C dX3_pour_18 (by decide) ?_
    refine g_bxi (pc := 19) (cs := [spO g ao ap ak at' au ae ay kp, arr7 g ay tl]) (ds := [spO g ao ap ak at' au ae ay kp, arr7 g ay (updN tl 0 (tl 0 + 1))]) (bs2 := [spO g ao ap ak at' au ae ay kp, potV g ap gr la kd pt wt mr (sumN gr 12) yr mn, potV g ak kgr kla kkd kpt kwt kmr (sumN kgr 12) kyr kmn, potV g at' tgr tla tkd tpt twt tmr (sumN tgr 12) tyr tmn, tpV g au (tbB tb) tn pl tk sr vl, shA g ae a0 a1 a2 a3, shV g a0 (nm 0) (wd 0) (sz 0), shV g a1 (nm 1) (wd 1) (sz 1), shV g a2 (nm 2) (wd 2) (sz 2), shV g a3 (nm 3) (wd 3) (sz 3), arr7 g ay (updN tl 0 (tl 0 + 1))]) C dX3_pour_19 ml_X3_47 mf_X3_finding (c_finding g ao ap ak at' au ae ay kp tl 0 (by decide)) ⟨rfl, rfl, (Nat.le_of_ble_eq_true rfl), (Nat.le_of_ble_eq_true rfl)⟩ rfl rfl (Nat.le_of_ble_eq_true rfl) rfl rfl 0 rfl rfl rfl [0, 10] rfl rfl rfl rfl ?_
    have hf : f_pour ((mn, yr, gr, kd, pt, wt, mr), (ks, kp), (tb, tn), (wd, sz, nm), tl) p v = ((fd 0), ((mn, yr, gr, kd, pt, wt, mr), (ks, kp), (tb, tn), (wd, sz, nm), updN tl 0 (tl 0 + 1))) := by simp [f_pour, fnd, c1]
    exact g_iret C Rr dX3_pour_22 ⟨(la, ((kmn, kyr, kgr, kkd, kpt, kwt, kmr), kla), ((tmn, tyr, tgr, tkd, tpt, twt, tmr), tla), (pl, tk, sr, vl)), by rw [hf]; exact (fun h => hJ h), by rw [hf], by rw [hf]; rfl⟩ (spX_ad g (ao, ap, ak, at', au, ae, a0, a1, a2, a3, ay) ((mn, yr, gr, kd, pt, wt, mr), (ks, kp), (tb, tn), (wd, sz, nm), updN tl 0 (tl 0 + 1)) ((mn, yr, gr, kd, pt, wt, mr), (ks, kp), (tb, tn), (wd, sz, nm), tl) (la, ((kmn, kyr, kgr, kkd, kpt, kwt, kmr), kla), ((tmn, tyr, tgr, tkd, tpt, twt, tmr), tla), (pl, tk, sr, vl)) (la, ((kmn, kyr, kgr, kkd, kpt, kwt, kmr), kla), ((tmn, tyr, tgr, tkd, tpt, twt, tmr), tla), (pl, tk, sr, vl)))
  · obtain ⟨p_, hl_p, hu_p, rfl⟩ := inR_nat (lo := 0) (hi := 11) c1
    have hgp := sumN_ge gr (show p_ < 12 by omega)
    refine g_iload_n (pc := 7) C dX3_pour_7 rfl ?_
    refine g_iconst (pc := 8) (v := nI 0) C dX3_pour_8 (by decide) ?_
    refine g_ldc (pc := 9) (v2 := nI 99999) C dX3_pour_9 ck_X3_51 (by decide) ?_
    refine g_s0i (pc := 11) C dX3_pour_11 ml_X3_52 mf_X3_isWithin (c_isWithin g v (nI 0) (nI 99999)) ⟨rfl, rfl, (Nat.le_of_ble_eq_true rfl), (Nat.le_of_ble_eq_true rfl)⟩ rfl rfl (Nat.le_of_ble_eq_true rfl) ?_
    refine g_top (y := bI (inR v 0 99999 = true)) (bI_iff (isW_iff (by decide) (by decide))) ?_
    refine g_if_neB (pc := 14) (tgt := 23) C dX3_pour_14 (by decide) (fun c2 => ?_) (fun c2 => ?_)
    · obtain ⟨v_, hl_v, hu_v, rfl⟩ := inR_nat (lo := 0) (hi := 99999) c2
      refine g_aload_n (pc := 23) C dX3_pour_23 rfl ?_
      refine g_get3 (pc := 24) C dX3_pour_24 0 rfl 0 (by decide) fl_X3_10 rfl ?_
      refine g_iload_n (pc := 27) C dX3_pour_27 rfl ?_
      refine g_iload_n (pc := 28) C dX3_pour_28 rfl ?_
      refine g_bxi (pc := 29) (cs := [potV g ap gr la kd pt wt mr (sumN gr 12) yr mn]) (ds := [potV g ap gr la kd pt wt mr (sumN gr 12) yr mn]) (bs2 := [spO g ao ap ak at' au ae ay kp, potV g ap gr la kd pt wt mr (sumN gr 12) yr mn, potV g ak kgr kla kkd kpt kwt kmr (sumN kgr 12) kyr kmn, potV g at' tgr tla tkd tpt twt tmr (sumN tgr 12) tyr tmn, tpV g au (tbB tb) tn pl tk sr vl, shA g ae a0 a1 a2 a3, shV g a0 (nm 0) (wd 0) (sz 0), shV g a1 (nm 1) (wd 1) (sz 1), shV g a2 (nm 2) (wd 2) (sz 2), shV g a3 (nm 3) (wd 3) (sz 3), arr7 g ay tl]) C dX3_pour_29 ml_X3_56 mf_X0_hasRoom (c_hasRoom g ap gr la kd pt wt mr (sumN gr 12) yr mn p_ v_ hB (by omega) (by omega)) ⟨rfl, rfl, (Nat.le_of_ble_eq_true rfl), (Nat.le_of_ble_eq_true rfl)⟩ rfl rfl (Nat.le_of_ble_eq_true rfl) (fl1 _) (fl1 _) 0 rfl rfl rfl [1] rfl rfl rfl rfl ?_
      refine g_if_neB (pc := 32) (tgt := 41) C dX3_pour_32 (by decide) (fun c3 => ?_) (fun c3 => ?_)
      · refine g_aload_n (pc := 41) C dX3_pour_41 rfl ?_
        refine g_get3 (pc := 42) C dX3_pour_42 0 rfl 0 (by decide) fl_X3_10 rfl ?_
        refine g_get0 (pc := 45) C dX3_pour_45 1 rfl 0 (by decide) fl_X3_44 rfl ?_
        refine g_iload_n (pc := 48) C dX3_pour_48 rfl ?_
        refine g_ialdM (pc := 49) C dX3_pour_49 2 rfl rfl (by omega) (by decide) ?_
        have b4 := hgr p_
        refine g_istore_n (pc := 50) (lv2 := [(0, .ref (ao 0)), (1, .int (nI p_)), (2, .int (nI v_)), (3, .int (nI (gr p_)))]) C dX3_pour_50 rfl (Nat.le_of_ble_eq_true rfl) rfl ?_
        refine g_aload_n (pc := 51) C dX3_pour_51 rfl ?_
        refine g_get3 (pc := 52) C dX3_pour_52 0 rfl 0 (by decide) fl_X3_10 rfl ?_
        refine g_iload_n (pc := 55) C dX3_pour_55 rfl ?_
        refine g_iload_n (pc := 56) C dX3_pour_56 rfl ?_
        refine g_bxn (pc := 57) (cs := [potV g ap gr la kd pt wt mr (sumN gr 12) yr mn]) (ds := [potV g ap (updN gr p_ v_) la kd pt wt mr ((sumN gr 12) - gr p_ + v_) yr mn]) (bs2 := [spO g ao ap ak at' au ae ay kp, potV g ap (updN gr p_ v_) la kd pt wt mr ((sumN gr 12) - gr p_ + v_) yr mn, potV g ak kgr kla kkd kpt kwt kmr (sumN kgr 12) kyr kmn, potV g at' tgr tla tkd tpt twt tmr (sumN tgr 12) tyr tmn, tpV g au (tbB tb) tn pl tk sr vl, shA g ae a0 a1 a2 a3, shV g a0 (nm 0) (wd 0) (sz 0), shV g a1 (nm 1) (wd 1) (sz 1), shV g a2 (nm 2) (wd 2) (sz 2), shV g a3 (nm 3) (wd 3) (sz 3), arr7 g ay tl]) C dX3_pour_57 ml_X3_60 mf_X0_fill (c_fill g ap gr la kd pt wt mr (sumN gr 12) yr mn p_ v_ hB (by omega)) ⟨rfl, rfl, (Nat.le_of_ble_eq_true rfl), (Nat.le_of_ble_eq_true rfl)⟩ rfl rfl (Nat.le_of_ble_eq_true rfl) (fl1 _) (fl1 _) 0 rfl rfl rfl [1] rfl rfl rfl rfl ?_
        refine g_iload_n (pc := 60) C dX3_pour_60 rfl ?_
        refine g_ws (ws := (fl [spO g ao ap ak at' au ae ay kp, potV g ap (updN gr p_ v_) la kd pt wt mr ((sumN gr 12) - gr p_ + v_) yr mn, potV g ak kgr kla kkd kpt kwt kmr (sumN kgr 12) kyr kmn, potV g at' tgr tla tkd tpt twt tmr (sumN tgr 12) tyr tmn, tpV g au (tbB tb) tn pl tk sr vl, shA g ae a0 a1 a2 a3, shV g a0 (nm 0) (wd 0) (sz 0), shV g a1 (nm 1) (wd 1) (sz 1), shV g a2 (nm 2) (wd 2) (sz 2), shV g a3 (nm 3) (wd 3) (sz 3), arr7 g ay tl])) (ws2 := (fl [spO g ao ap ak at' au ae ay kp, potV g ap (updN gr p_ v_) la kd pt wt mr (sumN (updN gr p_ v_) 12) yr mn, potV g ak kgr kla kkd kpt kwt kmr (sumN kgr 12) kyr kmn, potV g at' tgr tla tkd tpt twt tmr (sumN tgr 12) tyr tmn, tpV g au (tbB tb) tn pl tk sr vl, shA g ae a0 a1 a2 a3, shV g a0 (nm 0) (wd 0) (sz 0), shV g a1 (nm 1) (wd 1) (sz 1), shV g a2 (nm 2) (wd 2) (sz 2), shV g a3 (nm 3) (wd 3) (sz 3), arr7 g ay tl])) (by rw [show (sumN gr 12) - gr p_ + v_ = sumN (updN gr p_ v_) 12 from (sum_fill (show p_ < 12 by omega))]) ?_
        have hf : f_pour ((mn, yr, gr, kd, pt, wt, mr), (ks, kp), (tb, tn), (wd, sz, nm), tl) (nI p_) (nI v_) = ((nI (gr p_)), ((mn, yr, (updN gr p_ v_), kd, pt, wt, mr), (ks, kp), (tb, tn), (wd, sz, nm), tl)) := by simp [f_pour, fnd, c1, c2, c3, ix_nI (show p_ < 2 ^ 31 by omega), ix_nI (show v_ < 2 ^ 31 by omega)]
        exact g_iret C Rr dX3_pour_61 ⟨(la, ((kmn, kyr, kgr, kkd, kpt, kwt, kmr), kla), ((tmn, tyr, tgr, tkd, tpt, twt, tmr), tla), (pl, tk, sr, vl)), by rw [hf]; exact (fun h => hJ h), by rw [hf], by rw [hf]; rfl⟩ (spX_ad g (ao, ap, ak, at', au, ae, a0, a1, a2, a3, ay) ((mn, yr, (updN gr p_ v_), kd, pt, wt, mr), (ks, kp), (tb, tn), (wd, sz, nm), tl) ((mn, yr, gr, kd, pt, wt, mr), (ks, kp), (tb, tn), (wd, sz, nm), tl) (la, ((kmn, kyr, kgr, kkd, kpt, kwt, kmr), kla), ((tmn, tyr, tgr, tkd, tpt, twt, tmr), tla), (pl, tk, sr, vl)) (la, ((kmn, kyr, kgr, kkd, kpt, kwt, kmr), kla), ((tmn, tyr, tgr, tkd, tpt, twt, tmr), tla), (pl, tk, sr, vl)))
      · refine g_aload_n (pc := 35) C dX3_pour_35 rfl ?_
        refine g_iconst (pc := 36) (v := nI 1) C dX3_pour_36 (by decide) ?_
        refine g_bxi (pc := 37) (cs := [spO g ao ap ak at' au ae ay kp, arr7 g ay tl]) (ds := [spO g ao ap ak at' au ae ay kp, arr7 g ay (updN tl 1 (tl 1 + 1))]) (bs2 := [spO g ao ap ak at' au ae ay kp, potV g ap gr la kd pt wt mr (sumN gr 12) yr mn, potV g ak kgr kla kkd kpt kwt kmr (sumN kgr 12) kyr kmn, potV g at' tgr tla tkd tpt twt tmr (sumN tgr 12) tyr tmn, tpV g au (tbB tb) tn pl tk sr vl, shA g ae a0 a1 a2 a3, shV g a0 (nm 0) (wd 0) (sz 0), shV g a1 (nm 1) (wd 1) (sz 1), shV g a2 (nm 2) (wd 2) (sz 2), shV g a3 (nm 3) (wd 3) (sz 3), arr7 g ay (updN tl 1 (tl 1 + 1))]) C dX3_pour_37 ml_X3_47 mf_X3_finding (c_finding g ao ap ak at' au ae ay kp tl 1 (by decide)) ⟨rfl, rfl, (Nat.le_of_ble_eq_true rfl), (Nat.le_of_ble_eq_true rfl)⟩ rfl rfl (Nat.le_of_ble_eq_true rfl) rfl rfl 0 rfl rfl rfl [0, 10] rfl rfl rfl rfl ?_
        have hf : f_pour ((mn, yr, gr, kd, pt, wt, mr), (ks, kp), (tb, tn), (wd, sz, nm), tl) (nI p_) (nI v_) = ((fd 1), ((mn, yr, gr, kd, pt, wt, mr), (ks, kp), (tb, tn), (wd, sz, nm), updN tl 1 (tl 1 + 1))) := by simp [f_pour, fnd, c1, c2, c3, ix_nI (show p_ < 2 ^ 31 by omega), ix_nI (show v_ < 2 ^ 31 by omega)]
        exact g_iret C Rr dX3_pour_40 ⟨(la, ((kmn, kyr, kgr, kkd, kpt, kwt, kmr), kla), ((tmn, tyr, tgr, tkd, tpt, twt, tmr), tla), (pl, tk, sr, vl)), by rw [hf]; exact (fun h => hJ h), by rw [hf], by rw [hf]; rfl⟩ (spX_ad g (ao, ap, ak, at', au, ae, a0, a1, a2, a3, ay) ((mn, yr, gr, kd, pt, wt, mr), (ks, kp), (tb, tn), (wd, sz, nm), updN tl 1 (tl 1 + 1)) ((mn, yr, gr, kd, pt, wt, mr), (ks, kp), (tb, tn), (wd, sz, nm), tl) (la, ((kmn, kyr, kgr, kkd, kpt, kwt, kmr), kla), ((tmn, tyr, tgr, tkd, tpt, twt, tmr), tla), (pl, tk, sr, vl)) (la, ((kmn, kyr, kgr, kkd, kpt, kwt, kmr), kla), ((tmn, tyr, tgr, tkd, tpt, twt, tmr), tla), (pl, tk, sr, vl)))
    · refine g_aload_n (pc := 17) C dX3_pour_17 rfl ?_
      refine g_iconst (pc := 18) (v := nI 0) C dX3_pour_18 (by decide) ?_
      refine g_bxi (pc := 19) (cs := [spO g ao ap ak at' au ae ay kp, arr7 g ay tl]) (ds := [spO g ao ap ak at' au ae ay kp, arr7 g ay (updN tl 0 (tl 0 + 1))]) (bs2 := [spO g ao ap ak at' au ae ay kp, potV g ap gr la kd pt wt mr (sumN gr 12) yr mn, potV g ak kgr kla kkd kpt kwt kmr (sumN kgr 12) kyr kmn, potV g at' tgr tla tkd tpt twt tmr (sumN tgr 12) tyr tmn, tpV g au (tbB tb) tn pl tk sr vl, shA g ae a0 a1 a2 a3, shV g a0 (nm 0) (wd 0) (sz 0), shV g a1 (nm 1) (wd 1) (sz 1), shV g a2 (nm 2) (wd 2) (sz 2), shV g a3 (nm 3) (wd 3) (sz 3), arr7 g ay (updN tl 0 (tl 0 + 1))]) C dX3_pour_19 ml_X3_47 mf_X3_finding (c_finding g ao ap ak at' au ae ay kp tl 0 (by decide)) ⟨rfl, rfl, (Nat.le_of_ble_eq_true rfl), (Nat.le_of_ble_eq_true rfl)⟩ rfl rfl (Nat.le_of_ble_eq_true rfl) rfl rfl 0 rfl rfl rfl [0, 10] rfl rfl rfl rfl ?_
      have hf : f_pour ((mn, yr, gr, kd, pt, wt, mr), (ks, kp), (tb, tn), (wd, sz, nm), tl) (nI p_) v = ((fd 0), ((mn, yr, gr, kd, pt, wt, mr), (ks, kp), (tb, tn), (wd, sz, nm), updN tl 0 (tl 0 + 1))) := by simp [f_pour, fnd, c1, c2, ix_nI (show p_ < 2 ^ 31 by omega)]
      exact g_iret C Rr dX3_pour_22 ⟨(la, ((kmn, kyr, kgr, kkd, kpt, kwt, kmr), kla), ((tmn, tyr, tgr, tkd, tpt, twt, tmr), tla), (pl, tk, sr, vl)), by rw [hf]; exact (fun h => hJ h), by rw [hf], by rw [hf]; rfl⟩ (spX_ad g (ao, ap, ak, at', au, ae, a0, a1, a2, a3, ay) ((mn, yr, gr, kd, pt, wt, mr), (ks, kp), (tb, tn), (wd, sz, nm), updN tl 0 (tl 0 + 1)) ((mn, yr, gr, kd, pt, wt, mr), (ks, kp), (tb, tn), (wd, sz, nm), tl) (la, ((kmn, kyr, kgr, kkd, kpt, kwt, kmr), kla), ((tmn, tyr, tgr, tkd, tpt, twt, tmr), tla), (pl, tk, sr, vl)) (la, ((kmn, kyr, kgr, kkd, kpt, kwt, kmr), kla), ((tmn, tyr, tgr, tkd, tpt, twt, tmr), tla), (pl, tk, sr, vl)))
set_option maxHeartbeats 400000 in
set_option maxRecDepth 100000 in
theorem x_taste (g : Gl) (A : Ac) (X : Xs) (J : Jc) (p : Int32) (hX : InvX X) (hJ : OkJ X J) : Ct g yX3_taste cX3_taste 2 (some .int) (rk 2 42) [.ref (A.1 0), .int p] (spX g A X J) (fun r w2 => ∃ J2, OkJ (f_taste X p).2 J2 ∧ r = some (.int (f_taste X p).1) ∧ w2 = spX g A (f_taste X p).2 J2) := by
  obtain ⟨ao, ap, ak, at', au, ae, a0, a1, a2, a3, ay⟩ := A
  obtain ⟨⟨mn, yr, gr, kd, pt, wt, mr⟩, ⟨ks, kp⟩, ⟨tb, tn⟩, ⟨wd, sz, nm⟩, tl⟩ := X
  obtain ⟨la, ⟨⟨kmn, kyr, kgr, kkd, kpt, kwt, kmr⟩, kla⟩, ⟨⟨tmn, tyr, tgr, tkd, tpt, twt, tmr⟩, tla⟩, ⟨pl, tk, sr, vl⟩⟩ := J
  obtain ⟨hB, hy, hkp, htb, htn, hwd, hsz⟩ := id hX
  obtain ⟨-, hTle, hgr, hkd, hpt, hwt, hmr, hyr, hmn⟩ := id hB
  refine ct_of (by decide) (Nat.le_of_ble_eq_true rfl) ?_
  intro φ C0 Rr
  have C : Cx φ g cX3_taste 2 RX3 (rk 2 42) := C0
  show Go φ g 2 0 [(0, .ref (ao 0)), (1, .int p)] [] (fl [spO g ao ap ak at' au ae ay kp, potV g ap gr la kd pt wt mr (sumN gr 12) yr mn, potV g ak kgr kla kkd kpt kwt kmr (sumN kgr 12) kyr kmn, potV g at' tgr tla tkd tpt twt tmr (sumN tgr 12) tyr tmn, tpV g au (tbB tb) tn pl tk sr vl, shA g ae a0 a1 a2 a3, shV g a0 (nm 0) (wd 0) (sz 0), shV g a1 (nm 1) (wd 1) (sz 1), shV g a2 (nm 2) (wd 2) (sz 2), shV g a3 (nm 3) (wd 3) (sz 3), arr7 g ay tl])
  refine g_iload_n (pc := 0) C dX3_taste_0 rfl ?_
  refine g_s0i (pc := 1) C dX3_taste_1 ml_X3_40 mf_X3_isPart (c_isPart g p) ⟨rfl, rfl, (Nat.le_of_ble_eq_true rfl), (Nat.le_of_ble_eq_true rfl)⟩ rfl rfl (Nat.le_of_ble_eq_true rfl) ?_
  refine g_if_eqB (pc := 4) (tgt := 18) C dX3_taste_4 (by decide) (fun c1 => ?_) (fun c1 => ?_)
  · refine g_aload_n (pc := 18) C dX3_taste_18 rfl ?_
    refine g_iconst (pc := 19) (v := nI 0) C dX3_taste_19 (by decide) ?_
    refine g_bxi (pc := 20) (cs := [spO g ao ap ak at' au ae ay kp, arr7 g ay tl]) (ds := [spO g ao ap ak at' au ae ay kp, arr7 g ay (updN tl 0 (tl 0 + 1))]) (bs2 := [spO g ao ap ak at' au ae ay kp, potV g ap gr la kd pt wt mr (sumN gr 12) yr mn, potV g ak kgr kla kkd kpt kwt kmr (sumN kgr 12) kyr kmn, potV g at' tgr tla tkd tpt twt tmr (sumN tgr 12) tyr tmn, tpV g au (tbB tb) tn pl tk sr vl, shA g ae a0 a1 a2 a3, shV g a0 (nm 0) (wd 0) (sz 0), shV g a1 (nm 1) (wd 1) (sz 1), shV g a2 (nm 2) (wd 2) (sz 2), shV g a3 (nm 3) (wd 3) (sz 3), arr7 g ay (updN tl 0 (tl 0 + 1))]) C dX3_taste_20 ml_X3_47 mf_X3_finding (c_finding g ao ap ak at' au ae ay kp tl 0 (by decide)) ⟨rfl, rfl, (Nat.le_of_ble_eq_true rfl), (Nat.le_of_ble_eq_true rfl)⟩ rfl rfl (Nat.le_of_ble_eq_true rfl) rfl rfl 0 rfl rfl rfl [0, 10] rfl rfl rfl rfl ?_
    have hf : f_taste ((mn, yr, gr, kd, pt, wt, mr), (ks, kp), (tb, tn), (wd, sz, nm), tl) p = ((fd 0), ((mn, yr, gr, kd, pt, wt, mr), (ks, kp), (tb, tn), (wd, sz, nm), updN tl 0 (tl 0 + 1))) := by simp [f_taste, fnd, c1]
    exact g_iret C Rr dX3_taste_23 ⟨(la, ((kmn, kyr, kgr, kkd, kpt, kwt, kmr), kla), ((tmn, tyr, tgr, tkd, tpt, twt, tmr), tla), (pl, tk, sr, vl)), by rw [hf]; exact (fun h => hJ h), by rw [hf], by rw [hf]; rfl⟩ (spX_ad g (ao, ap, ak, at', au, ae, a0, a1, a2, a3, ay) ((mn, yr, gr, kd, pt, wt, mr), (ks, kp), (tb, tn), (wd, sz, nm), updN tl 0 (tl 0 + 1)) ((mn, yr, gr, kd, pt, wt, mr), (ks, kp), (tb, tn), (wd, sz, nm), tl) (la, ((kmn, kyr, kgr, kkd, kpt, kwt, kmr), kla), ((tmn, tyr, tgr, tkd, tpt, twt, tmr), tla), (pl, tk, sr, vl)) (la, ((kmn, kyr, kgr, kkd, kpt, kwt, kmr), kla), ((tmn, tyr, tgr, tkd, tpt, twt, tmr), tla), (pl, tk, sr, vl)))
  · obtain ⟨p_, hl_p, hu_p, rfl⟩ := inR_nat (lo := 0) (hi := 11) c1
    refine g_aload_n (pc := 7) C dX3_taste_7 rfl ?_
    refine g_get3 (pc := 8) C dX3_taste_8 0 rfl 0 (by decide) fl_X3_10 rfl ?_
    refine g_iload_n (pc := 11) C dX3_taste_11 rfl ?_
    refine g_bxi (pc := 12) (cs := [potV g ap gr la kd pt wt mr (sumN gr 12) yr mn]) (ds := [potV g ap gr la kd pt wt mr (sumN gr 12) yr mn]) (bs2 := [spO g ao ap ak at' au ae ay kp, potV g ap gr la kd pt wt mr (sumN gr 12) yr mn, potV g ak kgr kla kkd kpt kwt kmr (sumN kgr 12) kyr kmn, potV g at' tgr tla tkd tpt twt tmr (sumN tgr 12) tyr tmn, tpV g au (tbB tb) tn pl tk sr vl, shA g ae a0 a1 a2 a3, shV g a0 (nm 0) (wd 0) (sz 0), shV g a1 (nm 1) (wd 1) (sz 1), shV g a2 (nm 2) (wd 2) (sz 2), shV g a3 (nm 3) (wd 3) (sz 3), arr7 g ay tl]) C dX3_taste_12 ml_X3_64 mf_X0_tasteOf (c_tasteOf g ap gr la kd pt wt mr (sumN gr 12) yr mn p_ hB (by omega)) ⟨rfl, rfl, (Nat.le_of_ble_eq_true rfl), (Nat.le_of_ble_eq_true rfl)⟩ rfl rfl (Nat.le_of_ble_eq_true rfl) (fl1 _) (fl1 _) 0 rfl rfl rfl [1] rfl rfl rfl rfl ?_
    refine g_goto (pc := 15) (tgt := 23) C dX3_taste_15 (by decide) ?_
    have hf : f_taste ((mn, yr, gr, kd, pt, wt, mr), (ks, kp), (tb, tn), (wd, sz, nm), tl) (nI p_) = ((nI (tasteN gr (sumN gr 12) p_)), ((mn, yr, gr, kd, pt, wt, mr), (ks, kp), (tb, tn), (wd, sz, nm), tl)) := by simp [f_taste, fnd, c1, ix_nI (show p_ < 2 ^ 31 by omega)]
    exact g_iret C Rr dX3_taste_23 ⟨(la, ((kmn, kyr, kgr, kkd, kpt, kwt, kmr), kla), ((tmn, tyr, tgr, tkd, tpt, twt, tmr), tla), (pl, tk, sr, vl)), by rw [hf]; exact (fun h => hJ h), by rw [hf], by rw [hf]; rfl⟩ (spX_ad g (ao, ap, ak, at', au, ae, a0, a1, a2, a3, ay) ((mn, yr, gr, kd, pt, wt, mr), (ks, kp), (tb, tn), (wd, sz, nm), tl) ((mn, yr, gr, kd, pt, wt, mr), (ks, kp), (tb, tn), (wd, sz, nm), tl) (la, ((kmn, kyr, kgr, kkd, kpt, kwt, kmr), kla), ((tmn, tyr, tgr, tkd, tpt, twt, tmr), tla), (pl, tk, sr, vl)) (la, ((kmn, kyr, kgr, kkd, kpt, kwt, kmr), kla), ((tmn, tyr, tgr, tkd, tpt, twt, tmr), tla), (pl, tk, sr, vl)))
set_option maxHeartbeats 400000 in
set_option maxRecDepth 100000 in
theorem x_spoon (g : Gl) (A : Ac) (X : Xs) (J : Jc) (t : Int32) (hX : InvX X) (hJ : OkJ X J) : Ct g yX3_spoon cX3_spoon 2 (some .int) (rk 3 62) [.ref (A.1 0), .int t] (spX g A X J) (fun r w2 => ∃ J2, OkJ (f_spoon X t).2 J2 ∧ r = some (.int (f_spoon X t).1) ∧ w2 = spX g A (f_spoon X t).2 J2) := by
  obtain ⟨ao, ap, ak, at', au, ae, a0, a1, a2, a3, ay⟩ := A
  obtain ⟨⟨mn, yr, gr, kd, pt, wt, mr⟩, ⟨ks, kp⟩, ⟨tb, tn⟩, ⟨wd, sz, nm⟩, tl⟩ := X
  obtain ⟨la, ⟨⟨kmn, kyr, kgr, kkd, kpt, kwt, kmr⟩, kla⟩, ⟨⟨tmn, tyr, tgr, tkd, tpt, twt, tmr⟩, tla⟩, ⟨pl, tk, sr, vl⟩⟩ := J
  obtain ⟨hB, hy, hkp, htb, htn, hwd, hsz⟩ := id hX
  obtain ⟨-, hTle, hgr, hkd, hpt, hwt, hmr, hyr, hmn⟩ := id hB
  refine ct_of (by decide) (Nat.le_of_ble_eq_true rfl) ?_
  intro φ C0 Rr
  have C : Cx φ g cX3_spoon 2 RX3 (rk 3 62) := C0
  show Go φ g 2 0 [(0, .ref (ao 0)), (1, .int t)] [] (fl [spO g ao ap ak at' au ae ay kp, potV g ap gr la kd pt wt mr (sumN gr 12) yr mn, potV g ak kgr kla kkd kpt kwt kmr (sumN kgr 12) kyr kmn, potV g at' tgr tla tkd tpt twt tmr (sumN tgr 12) tyr tmn, tpV g au (tbB tb) tn pl tk sr vl, shA g ae a0 a1 a2 a3, shV g a0 (nm 0) (wd 0) (sz 0), shV g a1 (nm 1) (wd 1) (sz 1), shV g a2 (nm 2) (wd 2) (sz 2), shV g a3 (nm 3) (wd 3) (sz 3), arr7 g ay tl])
  refine g_iload_n (pc := 0) C dX3_spoon_0 rfl ?_
  refine g_iconst (pc := 1) (v := nI 1) C dX3_spoon_1 (by decide) ?_
  refine g_sipush (pc := 2) (v := nI 999) C dX3_spoon_2 (by decide) ?_
  refine g_s0i (pc := 5) C dX3_spoon_5 ml_X3_52 mf_X3_isWithin (c_isWithin g t (nI 1) (nI 999)) ⟨rfl, rfl, (Nat.le_of_ble_eq_true rfl), (Nat.le_of_ble_eq_true rfl)⟩ rfl rfl (Nat.le_of_ble_eq_true rfl) ?_
  refine g_top (y := bI (inR t 1 999 = true)) (bI_iff (isW_iff (by decide) (by decide))) ?_
  refine g_if_eqB (pc := 8) (tgt := 22) C dX3_spoon_8 (by decide) (fun c1 => ?_) (fun c1 => ?_)
  · refine g_aload_n (pc := 22) C dX3_spoon_22 rfl ?_
    refine g_iconst (pc := 23) (v := nI 0) C dX3_spoon_23 (by decide) ?_
    refine g_bxi (pc := 24) (cs := [spO g ao ap ak at' au ae ay kp, arr7 g ay tl]) (ds := [spO g ao ap ak at' au ae ay kp, arr7 g ay (updN tl 0 (tl 0 + 1))]) (bs2 := [spO g ao ap ak at' au ae ay kp, potV g ap gr la kd pt wt mr (sumN gr 12) yr mn, potV g ak kgr kla kkd kpt kwt kmr (sumN kgr 12) kyr kmn, potV g at' tgr tla tkd tpt twt tmr (sumN tgr 12) tyr tmn, tpV g au (tbB tb) tn pl tk sr vl, shA g ae a0 a1 a2 a3, shV g a0 (nm 0) (wd 0) (sz 0), shV g a1 (nm 1) (wd 1) (sz 1), shV g a2 (nm 2) (wd 2) (sz 2), shV g a3 (nm 3) (wd 3) (sz 3), arr7 g ay (updN tl 0 (tl 0 + 1))]) C dX3_spoon_24 ml_X3_47 mf_X3_finding (c_finding g ao ap ak at' au ae ay kp tl 0 (by decide)) ⟨rfl, rfl, (Nat.le_of_ble_eq_true rfl), (Nat.le_of_ble_eq_true rfl)⟩ rfl rfl (Nat.le_of_ble_eq_true rfl) rfl rfl 0 rfl rfl rfl [0, 10] rfl rfl rfl rfl ?_
    have hf : f_spoon ((mn, yr, gr, kd, pt, wt, mr), (ks, kp), (tb, tn), (wd, sz, nm), tl) t = ((fd 0), ((mn, yr, gr, kd, pt, wt, mr), (ks, kp), (tb, tn), (wd, sz, nm), updN tl 0 (tl 0 + 1))) := by simp [f_spoon, fnd, c1]
    exact g_iret C Rr dX3_spoon_27 ⟨(la, ((kmn, kyr, kgr, kkd, kpt, kwt, kmr), kla), ((tmn, tyr, tgr, tkd, tpt, twt, tmr), tla), (pl, tk, sr, vl)), by rw [hf]; exact (fun h => hJ h), by rw [hf], by rw [hf]; rfl⟩ (spX_ad g (ao, ap, ak, at', au, ae, a0, a1, a2, a3, ay) ((mn, yr, gr, kd, pt, wt, mr), (ks, kp), (tb, tn), (wd, sz, nm), updN tl 0 (tl 0 + 1)) ((mn, yr, gr, kd, pt, wt, mr), (ks, kp), (tb, tn), (wd, sz, nm), tl) (la, ((kmn, kyr, kgr, kkd, kpt, kwt, kmr), kla), ((tmn, tyr, tgr, tkd, tpt, twt, tmr), tla), (pl, tk, sr, vl)) (la, ((kmn, kyr, kgr, kkd, kpt, kwt, kmr), kla), ((tmn, tyr, tgr, tkd, tpt, twt, tmr), tla), (pl, tk, sr, vl)))
  · obtain ⟨t_, hl_t, hu_t, rfl⟩ := inR_nat (lo := 1) (hi := 999) c1
    refine g_aload_n (pc := 11) C dX3_spoon_11 rfl ?_
    refine g_get3 (pc := 12) C dX3_spoon_12 0 rfl 0 (by decide) fl_X3_10 rfl ?_
    refine g_iload_n (pc := 15) C dX3_spoon_15 rfl ?_
    refine g_bxi (pc := 16) (cs := [potV g ap gr la kd pt wt mr (sumN gr 12) yr mn]) (ds := [potV g ap (takeG gr (sumN gr 12) (min t_ (sumN gr 12))) (ladN gr (sumN gr 12) (min t_ (sumN gr 12))) kd pt wt mr ((sumN gr 12) - min t_ (sumN gr 12)) yr mn]) (bs2 := [spO g ao ap ak at' au ae ay kp, potV g ap (takeG gr (sumN gr 12) (min t_ (sumN gr 12))) (ladN gr (sumN gr 12) (min t_ (sumN gr 12))) kd pt wt mr ((sumN gr 12) - min t_ (sumN gr 12)) yr mn, potV g ak kgr kla kkd kpt kwt kmr (sumN kgr 12) kyr kmn, potV g at' tgr tla tkd tpt twt tmr (sumN tgr 12) tyr tmn, tpV g au (tbB tb) tn pl tk sr vl, shA g ae a0 a1 a2 a3, shV g a0 (nm 0) (wd 0) (sz 0), shV g a1 (nm 1) (wd 1) (sz 1), shV g a2 (nm 2) (wd 2) (sz 2), shV g a3 (nm 3) (wd 3) (sz 3), arr7 g ay tl]) C dX3_spoon_16 ml_X3_67 mf_X0_takeOut (c_takeOut g ap gr la kd pt wt mr (sumN gr 12) yr mn t_ hB (by omega)) ⟨rfl, rfl, (Nat.le_of_ble_eq_true rfl), (Nat.le_of_ble_eq_true rfl)⟩ rfl rfl (Nat.le_of_ble_eq_true rfl) (fl1 _) (fl1 _) 0 rfl rfl rfl [1] rfl rfl rfl rfl ?_
    refine g_goto (pc := 19) (tgt := 27) C dX3_spoon_19 (by decide) ?_
    refine g_ws (ws := (fl [spO g ao ap ak at' au ae ay kp, potV g ap (takeG gr (sumN gr 12) (min t_ (sumN gr 12))) (ladN gr (sumN gr 12) (min t_ (sumN gr 12))) kd pt wt mr ((sumN gr 12) - min t_ (sumN gr 12)) yr mn, potV g ak kgr kla kkd kpt kwt kmr (sumN kgr 12) kyr kmn, potV g at' tgr tla tkd tpt twt tmr (sumN tgr 12) tyr tmn, tpV g au (tbB tb) tn pl tk sr vl, shA g ae a0 a1 a2 a3, shV g a0 (nm 0) (wd 0) (sz 0), shV g a1 (nm 1) (wd 1) (sz 1), shV g a2 (nm 2) (wd 2) (sz 2), shV g a3 (nm 3) (wd 3) (sz 3), arr7 g ay tl])) (ws2 := (fl [spO g ao ap ak at' au ae ay kp, potV g ap (takeG gr (sumN gr 12) (min t_ (sumN gr 12))) (ladN gr (sumN gr 12) (min t_ (sumN gr 12))) kd pt wt mr (sumN (takeG gr (sumN gr 12) (min t_ (sumN gr 12))) 12) yr mn, potV g ak kgr kla kkd kpt kwt kmr (sumN kgr 12) kyr kmn, potV g at' tgr tla tkd tpt twt tmr (sumN tgr 12) tyr tmn, tpV g au (tbB tb) tn pl tk sr vl, shA g ae a0 a1 a2 a3, shV g a0 (nm 0) (wd 0) (sz 0), shV g a1 (nm 1) (wd 1) (sz 1), shV g a2 (nm 2) (wd 2) (sz 2), shV g a3 (nm 3) (wd 3) (sz 3), arr7 g ay tl])) (by rw [show (sumN gr 12) - min t_ (sumN gr 12) = sumN (takeG gr (sumN gr 12) (min t_ (sumN gr 12))) 12 from (take_sum (Nat.min_le_right _ _) rfl).symm]) ?_
    have hf : f_spoon ((mn, yr, gr, kd, pt, wt, mr), (ks, kp), (tb, tn), (wd, sz, nm), tl) (nI t_) = ((nI (min t_ (sumN gr 12))), ((mn, yr, (takeG gr (sumN gr 12) (min t_ (sumN gr 12))), kd, pt, wt, mr), (ks, kp), (tb, tn), (wd, sz, nm), tl)) := by simp [f_spoon, fnd, c1, ix_nI (show t_ < 2 ^ 31 by omega)]
    exact g_iret C Rr dX3_spoon_27 ⟨(ladN gr (sumN gr 12) (min t_ (sumN gr 12)), ((kmn, kyr, kgr, kkd, kpt, kwt, kmr), kla), ((tmn, tyr, tgr, tkd, tpt, twt, tmr), tla), (pl, tk, sr, vl)), by rw [hf]; exact (fun h => hJ h), by rw [hf], by rw [hf]; rfl⟩ (spX_ad g (ao, ap, ak, at', au, ae, a0, a1, a2, a3, ay) ((mn, yr, (takeG gr (sumN gr 12) (min t_ (sumN gr 12))), kd, pt, wt, mr), (ks, kp), (tb, tn), (wd, sz, nm), tl) ((mn, yr, gr, kd, pt, wt, mr), (ks, kp), (tb, tn), (wd, sz, nm), tl) (ladN gr (sumN gr 12) (min t_ (sumN gr 12)), ((kmn, kyr, kgr, kkd, kpt, kwt, kmr), kla), ((tmn, tyr, tgr, tkd, tpt, twt, tmr), tla), (pl, tk, sr, vl)) (la, ((kmn, kyr, kgr, kkd, kpt, kwt, kmr), kla), ((tmn, tyr, tgr, tkd, tpt, twt, tmr), tla), (pl, tk, sr, vl)))
set_option maxHeartbeats 400000 in
set_option maxRecDepth 100000 in
theorem x_spoonOf (g : Gl) (A : Ac) (X : Xs) (J : Jc) (p : Int32) (t : Int32) (hX : InvX X) (hJ : OkJ X J) : Ct g yX3_spoonOf cX3_spoonOf 3 (some .int) (rk 2 42) [.ref (A.1 0), .int p, .int t] (spX g A X J) (fun r w2 => ∃ J2, OkJ (f_spoonOf X p t).2 J2 ∧ r = some (.int (f_spoonOf X p t).1) ∧ w2 = spX g A (f_spoonOf X p t).2 J2) := by
  obtain ⟨ao, ap, ak, at', au, ae, a0, a1, a2, a3, ay⟩ := A
  obtain ⟨⟨mn, yr, gr, kd, pt, wt, mr⟩, ⟨ks, kp⟩, ⟨tb, tn⟩, ⟨wd, sz, nm⟩, tl⟩ := X
  obtain ⟨la, ⟨⟨kmn, kyr, kgr, kkd, kpt, kwt, kmr⟩, kla⟩, ⟨⟨tmn, tyr, tgr, tkd, tpt, twt, tmr⟩, tla⟩, ⟨pl, tk, sr, vl⟩⟩ := J
  obtain ⟨hB, hy, hkp, htb, htn, hwd, hsz⟩ := id hX
  obtain ⟨-, hTle, hgr, hkd, hpt, hwt, hmr, hyr, hmn⟩ := id hB
  refine ct_of (by decide) (Nat.le_of_ble_eq_true rfl) ?_
  intro φ C0 Rr
  have C : Cx φ g cX3_spoonOf 3 RX3 (rk 2 42) := C0
  show Go φ g 3 0 [(0, .ref (ao 0)), (1, .int p), (2, .int t)] [] (fl [spO g ao ap ak at' au ae ay kp, potV g ap gr la kd pt wt mr (sumN gr 12) yr mn, potV g ak kgr kla kkd kpt kwt kmr (sumN kgr 12) kyr kmn, potV g at' tgr tla tkd tpt twt tmr (sumN tgr 12) tyr tmn, tpV g au (tbB tb) tn pl tk sr vl, shA g ae a0 a1 a2 a3, shV g a0 (nm 0) (wd 0) (sz 0), shV g a1 (nm 1) (wd 1) (sz 1), shV g a2 (nm 2) (wd 2) (sz 2), shV g a3 (nm 3) (wd 3) (sz 3), arr7 g ay tl])
  refine g_iload_n (pc := 0) C dX3_spoonOf_0 rfl ?_
  refine g_s0i (pc := 1) C dX3_spoonOf_1 ml_X3_40 mf_X3_isPart (c_isPart g p) ⟨rfl, rfl, (Nat.le_of_ble_eq_true rfl), (Nat.le_of_ble_eq_true rfl)⟩ rfl rfl (Nat.le_of_ble_eq_true rfl) ?_
  refine g_if_eqB (pc := 4) (tgt := 18) C dX3_spoonOf_4 (by decide) (fun c1 => ?_) (fun c1 => ?_)
  · refine g_aload_n (pc := 18) C dX3_spoonOf_18 rfl ?_
    refine g_iconst (pc := 19) (v := nI 0) C dX3_spoonOf_19 (by decide) ?_
    refine g_bxi (pc := 20) (cs := [spO g ao ap ak at' au ae ay kp, arr7 g ay tl]) (ds := [spO g ao ap ak at' au ae ay kp, arr7 g ay (updN tl 0 (tl 0 + 1))]) (bs2 := [spO g ao ap ak at' au ae ay kp, potV g ap gr la kd pt wt mr (sumN gr 12) yr mn, potV g ak kgr kla kkd kpt kwt kmr (sumN kgr 12) kyr kmn, potV g at' tgr tla tkd tpt twt tmr (sumN tgr 12) tyr tmn, tpV g au (tbB tb) tn pl tk sr vl, shA g ae a0 a1 a2 a3, shV g a0 (nm 0) (wd 0) (sz 0), shV g a1 (nm 1) (wd 1) (sz 1), shV g a2 (nm 2) (wd 2) (sz 2), shV g a3 (nm 3) (wd 3) (sz 3), arr7 g ay (updN tl 0 (tl 0 + 1))]) C dX3_spoonOf_20 ml_X3_47 mf_X3_finding (c_finding g ao ap ak at' au ae ay kp tl 0 (by decide)) ⟨rfl, rfl, (Nat.le_of_ble_eq_true rfl), (Nat.le_of_ble_eq_true rfl)⟩ rfl rfl (Nat.le_of_ble_eq_true rfl) rfl rfl 0 rfl rfl rfl [0, 10] rfl rfl rfl rfl ?_
    have hf : f_spoonOf ((mn, yr, gr, kd, pt, wt, mr), (ks, kp), (tb, tn), (wd, sz, nm), tl) p t = ((fd 0), ((mn, yr, gr, kd, pt, wt, mr), (ks, kp), (tb, tn), (wd, sz, nm), updN tl 0 (tl 0 + 1))) := by simp [f_spoonOf, fnd, c1]
    exact g_iret C Rr dX3_spoonOf_23 ⟨(la, ((kmn, kyr, kgr, kkd, kpt, kwt, kmr), kla), ((tmn, tyr, tgr, tkd, tpt, twt, tmr), tla), (pl, tk, sr, vl)), by rw [hf]; exact (fun h => hJ h), by rw [hf], by rw [hf]; rfl⟩ (spX_ad g (ao, ap, ak, at', au, ae, a0, a1, a2, a3, ay) ((mn, yr, gr, kd, pt, wt, mr), (ks, kp), (tb, tn), (wd, sz, nm), updN tl 0 (tl 0 + 1)) ((mn, yr, gr, kd, pt, wt, mr), (ks, kp), (tb, tn), (wd, sz, nm), tl) (la, ((kmn, kyr, kgr, kkd, kpt, kwt, kmr), kla), ((tmn, tyr, tgr, tkd, tpt, twt, tmr), tla), (pl, tk, sr, vl)) (la, ((kmn, kyr, kgr, kkd, kpt, kwt, kmr), kla), ((tmn, tyr, tgr, tkd, tpt, twt, tmr), tla), (pl, tk, sr, vl)))
  · obtain ⟨p_, hl_p, hu_p, rfl⟩ := inR_nat (lo := 0) (hi := 11) c1
    refine g_iload_n (pc := 7) C dX3_spoonOf_7 rfl ?_
    refine g_iconst (pc := 8) (v := nI 1) C dX3_spoonOf_8 (by decide) ?_
    refine g_sipush (pc := 9) (v := nI 999) C dX3_spoonOf_9 (by decide) ?_
    refine g_s0i (pc := 12) C dX3_spoonOf_12 ml_X3_52 mf_X3_isWithin (c_isWithin g t (nI 1) (nI 999)) ⟨rfl, rfl, (Nat.le_of_ble_eq_true rfl), (Nat.le_of_ble_eq_true rfl)⟩ rfl rfl (Nat.le_of_ble_eq_true rfl) ?_
    refine g_top (y := bI (inR t 1 999 = true)) (bI_iff (isW_iff (by decide) (by decide))) ?_
    refine g_if_neB (pc := 15) (tgt := 24) C dX3_spoonOf_15 (by decide) (fun c2 => ?_) (fun c2 => ?_)
    · obtain ⟨t_, hl_t, hu_t, rfl⟩ := inR_nat (lo := 1) (hi := 999) c2
      refine g_aload_n (pc := 24) C dX3_spoonOf_24 rfl ?_
      refine g_get3 (pc := 25) C dX3_spoonOf_25 0 rfl 0 (by decide) fl_X3_10 rfl ?_
      refine g_iload_n (pc := 28) C dX3_spoonOf_28 rfl ?_
      refine g_bxi (pc := 29) (cs := [potV g ap gr la kd pt wt mr (sumN gr 12) yr mn]) (ds := [potV g ap gr (ladN gr (sumN gr 12) (min t_ (sumN gr 12))) kd pt wt mr (sumN gr 12) yr mn]) (bs2 := [spO g ao ap ak at' au ae ay kp, potV g ap gr (ladN gr (sumN gr 12) (min t_ (sumN gr 12))) kd pt wt mr (sumN gr 12) yr mn, potV g ak kgr kla kkd kpt kwt kmr (sumN kgr 12) kyr kmn, potV g at' tgr tla tkd tpt twt tmr (sumN tgr 12) tyr tmn, tpV g au (tbB tb) tn pl tk sr vl, shA g ae a0 a1 a2 a3, shV g a0 (nm 0) (wd 0) (sz 0), shV g a1 (nm 1) (wd 1) (sz 1), shV g a2 (nm 2) (wd 2) (sz 2), shV g a3 (nm 3) (wd 3) (sz 3), arr7 g ay tl]) C dX3_spoonOf_29 ml_X3_70 mf_X0_measure (c_measure g ap gr la kd pt wt mr (sumN gr 12) yr mn t_ hB (by omega)) ⟨rfl, rfl, (Nat.le_of_ble_eq_true rfl), (Nat.le_of_ble_eq_true rfl)⟩ rfl rfl (Nat.le_of_ble_eq_true rfl) (fl1 _) (fl1 _) 0 rfl rfl rfl [1] rfl rfl rfl rfl ?_
      refine g_pop (pc := 32) C dX3_spoonOf_32 rfl ?_
      refine g_aload_n (pc := 33) C dX3_spoonOf_33 rfl ?_
      refine g_get3 (pc := 34) C dX3_spoonOf_34 0 rfl 0 (by decide) fl_X3_10 rfl ?_
      refine g_get0 (pc := 37) C dX3_spoonOf_37 1 rfl 1 (by decide) fl_X3_73 rfl ?_
      refine g_iload_n (pc := 40) C dX3_spoonOf_40 rfl ?_
      refine g_ialdM (pc := 41) C dX3_spoonOf_41 3 rfl rfl (by omega) (by decide) ?_
      have hf : f_spoonOf ((mn, yr, gr, kd, pt, wt, mr), (ks, kp), (tb, tn), (wd, sz, nm), tl) (nI p_) (nI t_) = ((nI ((ladN gr (sumN gr 12) (min t_ (sumN gr 12))) p_)), ((mn, yr, gr, kd, pt, wt, mr), (ks, kp), (tb, tn), (wd, sz, nm), tl)) := by simp [f_spoonOf, fnd, c1, c2, ix_nI (show p_ < 2 ^ 31 by omega), ix_nI (show t_ < 2 ^ 31 by omega)]
      exact g_iret C Rr dX3_spoonOf_42 ⟨(ladN gr (sumN gr 12) (min t_ (sumN gr 12)), ((kmn, kyr, kgr, kkd, kpt, kwt, kmr), kla), ((tmn, tyr, tgr, tkd, tpt, twt, tmr), tla), (pl, tk, sr, vl)), by rw [hf]; exact (fun h => hJ h), by rw [hf], by rw [hf]; rfl⟩ (spX_ad g (ao, ap, ak, at', au, ae, a0, a1, a2, a3, ay) ((mn, yr, gr, kd, pt, wt, mr), (ks, kp), (tb, tn), (wd, sz, nm), tl) ((mn, yr, gr, kd, pt, wt, mr), (ks, kp), (tb, tn), (wd, sz, nm), tl) (ladN gr (sumN gr 12) (min t_ (sumN gr 12)), ((kmn, kyr, kgr, kkd, kpt, kwt, kmr), kla), ((tmn, tyr, tgr, tkd, tpt, twt, tmr), tla), (pl, tk, sr, vl)) (la, ((kmn, kyr, kgr, kkd, kpt, kwt, kmr), kla), ((tmn, tyr, tgr, tkd, tpt, twt, tmr), tla), (pl, tk, sr, vl)))
    · refine g_aload_n (pc := 18) C dX3_spoonOf_18 rfl ?_
      refine g_iconst (pc := 19) (v := nI 0) C dX3_spoonOf_19 (by decide) ?_
      refine g_bxi (pc := 20) (cs := [spO g ao ap ak at' au ae ay kp, arr7 g ay tl]) (ds := [spO g ao ap ak at' au ae ay kp, arr7 g ay (updN tl 0 (tl 0 + 1))]) (bs2 := [spO g ao ap ak at' au ae ay kp, potV g ap gr la kd pt wt mr (sumN gr 12) yr mn, potV g ak kgr kla kkd kpt kwt kmr (sumN kgr 12) kyr kmn, potV g at' tgr tla tkd tpt twt tmr (sumN tgr 12) tyr tmn, tpV g au (tbB tb) tn pl tk sr vl, shA g ae a0 a1 a2 a3, shV g a0 (nm 0) (wd 0) (sz 0), shV g a1 (nm 1) (wd 1) (sz 1), shV g a2 (nm 2) (wd 2) (sz 2), shV g a3 (nm 3) (wd 3) (sz 3), arr7 g ay (updN tl 0 (tl 0 + 1))]) C dX3_spoonOf_20 ml_X3_47 mf_X3_finding (c_finding g ao ap ak at' au ae ay kp tl 0 (by decide)) ⟨rfl, rfl, (Nat.le_of_ble_eq_true rfl), (Nat.le_of_ble_eq_true rfl)⟩ rfl rfl (Nat.le_of_ble_eq_true rfl) rfl rfl 0 rfl rfl rfl [0, 10] rfl rfl rfl rfl ?_
      have hf : f_spoonOf ((mn, yr, gr, kd, pt, wt, mr), (ks, kp), (tb, tn), (wd, sz, nm), tl) (nI p_) t = ((fd 0), ((mn, yr, gr, kd, pt, wt, mr), (ks, kp), (tb, tn), (wd, sz, nm), updN tl 0 (tl 0 + 1))) := by simp [f_spoonOf, fnd, c1, c2, ix_nI (show p_ < 2 ^ 31 by omega)]
      exact g_iret C Rr dX3_spoonOf_23 ⟨(la, ((kmn, kyr, kgr, kkd, kpt, kwt, kmr), kla), ((tmn, tyr, tgr, tkd, tpt, twt, tmr), tla), (pl, tk, sr, vl)), by rw [hf]; exact (fun h => hJ h), by rw [hf], by rw [hf]; rfl⟩ (spX_ad g (ao, ap, ak, at', au, ae, a0, a1, a2, a3, ay) ((mn, yr, gr, kd, pt, wt, mr), (ks, kp), (tb, tn), (wd, sz, nm), updN tl 0 (tl 0 + 1)) ((mn, yr, gr, kd, pt, wt, mr), (ks, kp), (tb, tn), (wd, sz, nm), tl) (la, ((kmn, kyr, kgr, kkd, kpt, kwt, kmr), kla), ((tmn, tyr, tgr, tkd, tpt, twt, tmr), tla), (pl, tk, sr, vl)) (la, ((kmn, kyr, kgr, kkd, kpt, kwt, kmr), kla), ((tmn, tyr, tgr, tkd, tpt, twt, tmr), tla), (pl, tk, sr, vl)))
set_option maxHeartbeats 400000 in
set_option maxRecDepth 100000 in
theorem x_cook (g : Gl) (A : Ac) (X : Xs) (J : Jc) (k : Int32) (hX : InvX X) (hJ : OkJ X J) : Ct g yX3_cook cX3_cook 2 (some .int) (rk 2 42) [.ref (A.1 0), .int k] (spX g A X J) (fun r w2 => ∃ J2, OkJ (f_cook X k).2 J2 ∧ r = some (.int (f_cook X k).1) ∧ w2 = spX g A (f_cook X k).2 J2) := by
  obtain ⟨ao, ap, ak, at', au, ae, a0, a1, a2, a3, ay⟩ := A
  obtain ⟨⟨mn, yr, gr, kd, pt, wt, mr⟩, ⟨ks, kp⟩, ⟨tb, tn⟩, ⟨wd, sz, nm⟩, tl⟩ := X
  obtain ⟨la, ⟨⟨kmn, kyr, kgr, kkd, kpt, kwt, kmr⟩, kla⟩, ⟨⟨tmn, tyr, tgr, tkd, tpt, twt, tmr⟩, tla⟩, ⟨pl, tk, sr, vl⟩⟩ := J
  obtain ⟨hB, hy, hkp, htb, htn, hwd, hsz⟩ := id hX
  obtain ⟨-, hTle, hgr, hkd, hpt, hwt, hmr, hyr, hmn⟩ := id hB
  refine ct_of (by decide) (Nat.le_of_ble_eq_true rfl) ?_
  intro φ C0 Rr
  have C : Cx φ g cX3_cook 2 RX3 (rk 2 42) := C0
  show Go φ g 2 0 [(0, .ref (ao 0)), (1, .int k)] [] (fl [spO g ao ap ak at' au ae ay kp, potV g ap gr la kd pt wt mr (sumN gr 12) yr mn, potV g ak kgr kla kkd kpt kwt kmr (sumN kgr 12) kyr kmn, potV g at' tgr tla tkd tpt twt tmr (sumN tgr 12) tyr tmn, tpV g au (tbB tb) tn pl tk sr vl, shA g ae a0 a1 a2 a3, shV g a0 (nm 0) (wd 0) (sz 0), shV g a1 (nm 1) (wd 1) (sz 1), shV g a2 (nm 2) (wd 2) (sz 2), shV g a3 (nm 3) (wd 3) (sz 3), arr7 g ay tl])
  refine g_iload_n (pc := 0) C dX3_cook_0 rfl ?_
  refine g_s0i (pc := 1) C dX3_cook_1 ml_X3_76 mf_X3_isKind (c_isKind g k) ⟨rfl, rfl, (Nat.le_of_ble_eq_true rfl), (Nat.le_of_ble_eq_true rfl)⟩ rfl rfl (Nat.le_of_ble_eq_true rfl) ?_
  refine g_if_neB (pc := 4) (tgt := 13) C dX3_cook_4 (by decide) (fun c1 => ?_) (fun c1 => ?_)
  · obtain ⟨k_, hl_k, hu_k, rfl⟩ := inR_nat (lo := 0) (hi := 5) c1
    refine g_aload_n (pc := 13) C dX3_cook_13 rfl ?_
    refine g_get3 (pc := 14) C dX3_cook_14 0 rfl 0 (by decide) fl_X3_10 rfl ?_
    refine g_bxi (pc := 17) (cs := [potV g ap gr la kd pt wt mr (sumN gr 12) yr mn]) (ds := [potV g ap gr la kd pt wt mr (sumN gr 12) yr mn]) (bs2 := [spO g ao ap ak at' au ae ay kp, potV g ap gr la kd pt wt mr (sumN gr 12) yr mn, potV g ak kgr kla kkd kpt kwt kmr (sumN kgr 12) kyr kmn, potV g at' tgr tla tkd tpt twt tmr (sumN tgr 12) tyr tmn, tpV g au (tbB tb) tn pl tk sr vl, shA g ae a0 a1 a2 a3, shV g a0 (nm 0) (wd 0) (sz 0), shV g a1 (nm 1) (wd 1) (sz 1), shV g a2 (nm 2) (wd 2) (sz 2), shV g a3 (nm 3) (wd 3) (sz 3), arr7 g ay tl]) C dX3_cook_17 ml_X3_79 mf_X0_isStaffed (c_isStaffed g ap gr la kd pt wt mr (sumN gr 12) yr mn hB) ⟨rfl, rfl, (Nat.le_of_ble_eq_true rfl), (Nat.le_of_ble_eq_true rfl)⟩ rfl rfl (Nat.le_of_ble_eq_true rfl) (fl1 _) (fl1 _) 0 rfl rfl rfl [1] rfl rfl rfl rfl ?_
    refine g_if_eqB (pc := 20) (tgt := 31) C dX3_cook_20 (by decide) (fun c2 => ?_) (fun c2 => ?_)
    · refine g_aload_n (pc := 31) C dX3_cook_31 rfl ?_
      refine g_get3 (pc := 32) C dX3_cook_32 0 rfl 0 (by decide) fl_X3_10 rfl ?_
      refine g_iload_n (pc := 35) C dX3_cook_35 rfl ?_
      refine g_bxi (pc := 36) (cs := [potV g ap gr la kd pt wt mr (sumN gr 12) yr mn]) (ds := [potV g ap gr la (updN kd mn k_) (updN pt mn 1) (updN wt mn 100) (updN mr mn 5) (sumN gr 12) yr (mn + 1)]) (bs2 := [spO g ao ap ak at' au ae ay kp, potV g ap gr la (updN kd mn k_) (updN pt mn 1) (updN wt mn 100) (updN mr mn 5) (sumN gr 12) yr (mn + 1), potV g ak kgr kla kkd kpt kwt kmr (sumN kgr 12) kyr kmn, potV g at' tgr tla tkd tpt twt tmr (sumN tgr 12) tyr tmn, tpV g au (tbB tb) tn pl tk sr vl, shA g ae a0 a1 a2 a3, shV g a0 (nm 0) (wd 0) (sz 0), shV g a1 (nm 1) (wd 1) (sz 1), shV g a2 (nm 2) (wd 2) (sz 2), shV g a3 (nm 3) (wd 3) (sz 3), arr7 g ay tl]) C dX3_cook_36 ml_X3_83 mf_X0_hire (c_hire g ap gr la kd pt wt mr (sumN gr 12) yr mn k_ hB (by omega)) ⟨rfl, rfl, (Nat.le_of_ble_eq_true rfl), (Nat.le_of_ble_eq_true rfl)⟩ rfl rfl (Nat.le_of_ble_eq_true rfl) (fl1 _) (fl1 _) 0 rfl rfl rfl [1] rfl rfl rfl rfl ?_
      have hf : f_cook ((mn, yr, gr, kd, pt, wt, mr), (ks, kp), (tb, tn), (wd, sz, nm), tl) (nI k_) = ((nI mn), (((mn + 1), yr, gr, (updN kd mn k_), (updN pt mn 1), (updN wt mn 100), (updN mr mn 5)), (ks, kp), (tb, tn), (wd, sz, nm), tl)) := by first | (simp [f_cook, fnd, c1, c2, ix_nI (show k_ < 2 ^ 31 by omega)]; done) | (simp [f_cook, fnd, c1, c2, ix_nI (show k_ < 2 ^ 31 by omega), show mn < 8 by omega]; done) | (simp [f_cook, fnd, c1, c2, ix_nI (show k_ < 2 ^ 31 by omega), show ¬ mn < 8 by omega]; done)
      exact g_iret C Rr dX3_cook_39 ⟨(la, ((kmn, kyr, kgr, kkd, kpt, kwt, kmr), kla), ((tmn, tyr, tgr, tkd, tpt, twt, tmr), tla), (pl, tk, sr, vl)), by rw [hf]; exact (fun h => hJ h), by rw [hf], by rw [hf]; rfl⟩ (spX_ad g (ao, ap, ak, at', au, ae, a0, a1, a2, a3, ay) (((mn + 1), yr, gr, (updN kd mn k_), (updN pt mn 1), (updN wt mn 100), (updN mr mn 5)), (ks, kp), (tb, tn), (wd, sz, nm), tl) ((mn, yr, gr, kd, pt, wt, mr), (ks, kp), (tb, tn), (wd, sz, nm), tl) (la, ((kmn, kyr, kgr, kkd, kpt, kwt, kmr), kla), ((tmn, tyr, tgr, tkd, tpt, twt, tmr), tla), (pl, tk, sr, vl)) (la, ((kmn, kyr, kgr, kkd, kpt, kwt, kmr), kla), ((tmn, tyr, tgr, tkd, tpt, twt, tmr), tla), (pl, tk, sr, vl)))
    · refine g_aload_n (pc := 23) C dX3_cook_23 rfl ?_
      refine g_iconst (pc := 24) (v := nI 1) C dX3_cook_24 (by decide) ?_
      refine g_bxi (pc := 25) (cs := [spO g ao ap ak at' au ae ay kp, arr7 g ay tl]) (ds := [spO g ao ap ak at' au ae ay kp, arr7 g ay (updN tl 1 (tl 1 + 1))]) (bs2 := [spO g ao ap ak at' au ae ay kp, potV g ap gr la kd pt wt mr (sumN gr 12) yr mn, potV g ak kgr kla kkd kpt kwt kmr (sumN kgr 12) kyr kmn, potV g at' tgr tla tkd tpt twt tmr (sumN tgr 12) tyr tmn, tpV g au (tbB tb) tn pl tk sr vl, shA g ae a0 a1 a2 a3, shV g a0 (nm 0) (wd 0) (sz 0), shV g a1 (nm 1) (wd 1) (sz 1), shV g a2 (nm 2) (wd 2) (sz 2), shV g a3 (nm 3) (wd 3) (sz 3), arr7 g ay (updN tl 1 (tl 1 + 1))]) C dX3_cook_25 ml_X3_47 mf_X3_finding (c_finding g ao ap ak at' au ae ay kp tl 1 (by decide)) ⟨rfl, rfl, (Nat.le_of_ble_eq_true rfl), (Nat.le_of_ble_eq_true rfl)⟩ rfl rfl (Nat.le_of_ble_eq_true rfl) rfl rfl 0 rfl rfl rfl [0, 10] rfl rfl rfl rfl ?_
      refine g_goto (pc := 28) (tgt := 39) C dX3_cook_28 (by decide) ?_
      have hf : f_cook ((mn, yr, gr, kd, pt, wt, mr), (ks, kp), (tb, tn), (wd, sz, nm), tl) (nI k_) = ((fd 1), ((mn, yr, gr, kd, pt, wt, mr), (ks, kp), (tb, tn), (wd, sz, nm), updN tl 1 (tl 1 + 1))) := by first | (simp [f_cook, fnd, c1, c2, ix_nI (show k_ < 2 ^ 31 by omega)]; done) | (simp [f_cook, fnd, c1, c2, ix_nI (show k_ < 2 ^ 31 by omega), show mn < 8 by omega]; done) | (simp [f_cook, fnd, c1, c2, ix_nI (show k_ < 2 ^ 31 by omega), show ¬ mn < 8 by omega]; done)
      exact g_iret C Rr dX3_cook_39 ⟨(la, ((kmn, kyr, kgr, kkd, kpt, kwt, kmr), kla), ((tmn, tyr, tgr, tkd, tpt, twt, tmr), tla), (pl, tk, sr, vl)), by rw [hf]; exact (fun h => hJ h), by rw [hf], by rw [hf]; rfl⟩ (spX_ad g (ao, ap, ak, at', au, ae, a0, a1, a2, a3, ay) ((mn, yr, gr, kd, pt, wt, mr), (ks, kp), (tb, tn), (wd, sz, nm), updN tl 1 (tl 1 + 1)) ((mn, yr, gr, kd, pt, wt, mr), (ks, kp), (tb, tn), (wd, sz, nm), tl) (la, ((kmn, kyr, kgr, kkd, kpt, kwt, kmr), kla), ((tmn, tyr, tgr, tkd, tpt, twt, tmr), tla), (pl, tk, sr, vl)) (la, ((kmn, kyr, kgr, kkd, kpt, kwt, kmr), kla), ((tmn, tyr, tgr, tkd, tpt, twt, tmr), tla), (pl, tk, sr, vl)))
  · refine g_aload_n (pc := 7) C dX3_cook_7 rfl ?_
    refine g_iconst (pc := 8) (v := nI 0) C dX3_cook_8 (by decide) ?_
    refine g_bxi (pc := 9) (cs := [spO g ao ap ak at' au ae ay kp, arr7 g ay tl]) (ds := [spO g ao ap ak at' au ae ay kp, arr7 g ay (updN tl 0 (tl 0 + 1))]) (bs2 := [spO g ao ap ak at' au ae ay kp, potV g ap gr la kd pt wt mr (sumN gr 12) yr mn, potV g ak kgr kla kkd kpt kwt kmr (sumN kgr 12) kyr kmn, potV g at' tgr tla tkd tpt twt tmr (sumN tgr 12) tyr tmn, tpV g au (tbB tb) tn pl tk sr vl, shA g ae a0 a1 a2 a3, shV g a0 (nm 0) (wd 0) (sz 0), shV g a1 (nm 1) (wd 1) (sz 1), shV g a2 (nm 2) (wd 2) (sz 2), shV g a3 (nm 3) (wd 3) (sz 3), arr7 g ay (updN tl 0 (tl 0 + 1))]) C dX3_cook_9 ml_X3_47 mf_X3_finding (c_finding g ao ap ak at' au ae ay kp tl 0 (by decide)) ⟨rfl, rfl, (Nat.le_of_ble_eq_true rfl), (Nat.le_of_ble_eq_true rfl)⟩ rfl rfl (Nat.le_of_ble_eq_true rfl) rfl rfl 0 rfl rfl rfl [0, 10] rfl rfl rfl rfl ?_
    have hf : f_cook ((mn, yr, gr, kd, pt, wt, mr), (ks, kp), (tb, tn), (wd, sz, nm), tl) k = ((fd 0), ((mn, yr, gr, kd, pt, wt, mr), (ks, kp), (tb, tn), (wd, sz, nm), updN tl 0 (tl 0 + 1))) := by first | (simp [f_cook, fnd, c1]; done) | (simp [f_cook, fnd, c1, show mn < 8 by omega]; done) | (simp [f_cook, fnd, c1, show ¬ mn < 8 by omega]; done)
    exact g_iret C Rr dX3_cook_12 ⟨(la, ((kmn, kyr, kgr, kkd, kpt, kwt, kmr), kla), ((tmn, tyr, tgr, tkd, tpt, twt, tmr), tla), (pl, tk, sr, vl)), by rw [hf]; exact (fun h => hJ h), by rw [hf], by rw [hf]; rfl⟩ (spX_ad g (ao, ap, ak, at', au, ae, a0, a1, a2, a3, ay) ((mn, yr, gr, kd, pt, wt, mr), (ks, kp), (tb, tn), (wd, sz, nm), updN tl 0 (tl 0 + 1)) ((mn, yr, gr, kd, pt, wt, mr), (ks, kp), (tb, tn), (wd, sz, nm), tl) (la, ((kmn, kyr, kgr, kkd, kpt, kwt, kmr), kla), ((tmn, tyr, tgr, tkd, tpt, twt, tmr), tla), (pl, tk, sr, vl)) (la, ((kmn, kyr, kgr, kkd, kpt, kwt, kmr), kla), ((tmn, tyr, tgr, tkd, tpt, twt, tmr), tla), (pl, tk, sr, vl)))
set_option maxHeartbeats 400000 in
set_option maxRecDepth 100000 in
theorem x_of (g : Gl) (A : Ac) (X : Xs) (J : Jc) (c : Int32) (w : Int32) (hX : InvX X) (hJ : OkJ X J) : Ct g yX3_of cX3_of 3 (some .int) (rk 2 43) [.ref (A.1 0), .int c, .int w] (spX g A X J) (fun r w2 => ∃ J2, OkJ (f_of X c w).2 J2 ∧ r = some (.int (f_of X c w).1) ∧ w2 = spX g A (f_of X c w).2 J2) := by
  obtain ⟨ao, ap, ak, at', au, ae, a0, a1, a2, a3, ay⟩ := A
  obtain ⟨⟨mn, yr, gr, kd, pt, wt, mr⟩, ⟨ks, kp⟩, ⟨tb, tn⟩, ⟨wd, sz, nm⟩, tl⟩ := X
  obtain ⟨la, ⟨⟨kmn, kyr, kgr, kkd, kpt, kwt, kmr⟩, kla⟩, ⟨⟨tmn, tyr, tgr, tkd, tpt, twt, tmr⟩, tla⟩, ⟨pl, tk, sr, vl⟩⟩ := J
  obtain ⟨hB, hy, hkp, htb, htn, hwd, hsz⟩ := id hX
  obtain ⟨-, hTle, hgr, hkd, hpt, hwt, hmr, hyr, hmn⟩ := id hB
  refine ct_of (by decide) (Nat.le_of_ble_eq_true rfl) ?_
  intro φ C0 Rr
  have C : Cx φ g cX3_of 3 RX3 (rk 2 43) := C0
  show Go φ g 3 0 [(0, .ref (ao 0)), (1, .int c), (2, .int w)] [] (fl [spO g ao ap ak at' au ae ay kp, potV g ap gr la kd pt wt mr (sumN gr 12) yr mn, potV g ak kgr kla kkd kpt kwt kmr (sumN kgr 12) kyr kmn, potV g at' tgr tla tkd tpt twt tmr (sumN tgr 12) tyr tmn, tpV g au (tbB tb) tn pl tk sr vl, shA g ae a0 a1 a2 a3, shV g a0 (nm 0) (wd 0) (sz 0), shV g a1 (nm 1) (wd 1) (sz 1), shV g a2 (nm 2) (wd 2) (sz 2), shV g a3 (nm 3) (wd 3) (sz 3), arr7 g ay tl])
  refine g_aload_n (pc := 0) C dX3_of_0 rfl ?_
  refine g_iload_n (pc := 1) C dX3_of_1 rfl ?_
  refine g_bxi (pc := 2) (cs := [spO g ao ap ak at' au ae ay kp, potV g ap gr la kd pt wt mr (sumN gr 12) yr mn]) (ds := [spO g ao ap ak at' au ae ay kp, potV g ap gr la kd pt wt mr (sumN gr 12) yr mn]) (bs2 := [spO g ao ap ak at' au ae ay kp, potV g ap gr la kd pt wt mr (sumN gr 12) yr mn, potV g ak kgr kla kkd kpt kwt kmr (sumN kgr 12) kyr kmn, potV g at' tgr tla tkd tpt twt tmr (sumN tgr 12) tyr tmn, tpV g au (tbB tb) tn pl tk sr vl, shA g ae a0 a1 a2 a3, shV g a0 (nm 0) (wd 0) (sz 0), shV g a1 (nm 1) (wd 1) (sz 1), shV g a2 (nm 2) (wd 2) (sz 2), shV g a3 (nm 3) (wd 3) (sz 3), arr7 g ay tl]) C dX3_of_2 ml_X3_86 mf_X3_isCook (c_isCook g ao ap ak at' au ae ay kp gr la kd pt wt mr yr mn c (by omega)) ⟨rfl, rfl, (Nat.le_of_ble_eq_true rfl), (Nat.le_of_ble_eq_true rfl)⟩ rfl rfl (Nat.le_of_ble_eq_true rfl) rfl rfl 0 rfl rfl rfl [0, 1] rfl rfl rfl rfl ?_
  refine g_if_neB (pc := 5) (tgt := 14) C dX3_of_5 (by decide) (fun c1 => ?_) (fun c1 => ?_)
  · obtain ⟨c_, hu_c, rfl⟩ := inR_cook c1
    have hc8 : c_ < 8 := by omega
    refine g_iload_n (pc := 14) C dX3_of_14 rfl ?_
    by_cases c2 : w = nI 0
    · subst c2
      refine g_tableIn (pc := 15) (off := 41) (tgt := 56) C dX3_of_15 (by decide) (by decide) (by decide) (by decide) ?_
      refine g_aload_n (pc := 56) C dX3_of_56 rfl ?_
      refine g_get3 (pc := 57) C dX3_of_57 0 rfl 0 (by decide) fl_X3_10 rfl ?_
      refine g_get0 (pc := 60) C dX3_of_60 1 rfl 2 (by decide) fl_X3_89 rfl ?_
      refine g_iload_n (pc := 63) C dX3_of_63 rfl ?_
      refine g_ialdM (pc := 64) C dX3_of_64 4 rfl rfl (by omega) (by decide) ?_
      have b3 := hkd c_
      have hf : f_of ((mn, yr, gr, kd, pt, wt, mr), (ks, kp), (tb, tn), (wd, sz, nm), tl) (nI c_) (nI 0) = ((nI (kd c_)), ((mn, yr, gr, kd, pt, wt, mr), (ks, kp), (tb, tn), (wd, sz, nm), tl)) := by simp [f_of, ofN, itF, fnd, c1, ix_nI (show c_ < 2 ^ 31 by omega), ix_nI (show 0 < 2 ^ 31 by decide), show inR (nI 0) 0 6 = true by decide]
      exact g_iret C Rr dX3_of_65 ⟨(la, ((kmn, kyr, kgr, kkd, kpt, kwt, kmr), kla), ((tmn, tyr, tgr, tkd, tpt, twt, tmr), tla), (pl, tk, sr, vl)), by rw [hf]; exact (fun h => hJ h), by rw [hf], by rw [hf]; rfl⟩ (spX_ad g (ao, ap, ak, at', au, ae, a0, a1, a2, a3, ay) ((mn, yr, gr, kd, pt, wt, mr), (ks, kp), (tb, tn), (wd, sz, nm), tl) ((mn, yr, gr, kd, pt, wt, mr), (ks, kp), (tb, tn), (wd, sz, nm), tl) (la, ((kmn, kyr, kgr, kkd, kpt, kwt, kmr), kla), ((tmn, tyr, tgr, tkd, tpt, twt, tmr), tla), (pl, tk, sr, vl)) (la, ((kmn, kyr, kgr, kkd, kpt, kwt, kmr), kla), ((tmn, tyr, tgr, tkd, tpt, twt, tmr), tla), (pl, tk, sr, vl)))
    by_cases c4 : w = nI 1
    · subst c4
      refine g_tableIn (pc := 15) (off := 51) (tgt := 66) C dX3_of_15 (by decide) (by decide) (by decide) (by decide) ?_
      refine g_aload_n (pc := 66) C dX3_of_66 rfl ?_
      refine g_get3 (pc := 67) C dX3_of_67 0 rfl 0 (by decide) fl_X3_10 rfl ?_
      refine g_get0 (pc := 70) C dX3_of_70 1 rfl 3 (by decide) fl_X3_92 rfl ?_
      refine g_iload_n (pc := 73) C dX3_of_73 rfl ?_
      refine g_ialdM (pc := 74) C dX3_of_74 5 rfl rfl (by omega) (by decide) ?_
      have b5 := hpt c_
      have hf : f_of ((mn, yr, gr, kd, pt, wt, mr), (ks, kp), (tb, tn), (wd, sz, nm), tl) (nI c_) (nI 1) = ((nI (pt c_)), ((mn, yr, gr, kd, pt, wt, mr), (ks, kp), (tb, tn), (wd, sz, nm), tl)) := by simp [f_of, ofN, itF, fnd, c1, c2, ix_nI (show c_ < 2 ^ 31 by omega), ix_nI (show 1 < 2 ^ 31 by decide), show inR (nI 1) 0 6 = true by decide]
      exact g_iret C Rr dX3_of_75 ⟨(la, ((kmn, kyr, kgr, kkd, kpt, kwt, kmr), kla), ((tmn, tyr, tgr, tkd, tpt, twt, tmr), tla), (pl, tk, sr, vl)), by rw [hf]; exact (fun h => hJ h), by rw [hf], by rw [hf]; rfl⟩ (spX_ad g (ao, ap, ak, at', au, ae, a0, a1, a2, a3, ay) ((mn, yr, gr, kd, pt, wt, mr), (ks, kp), (tb, tn), (wd, sz, nm), tl) ((mn, yr, gr, kd, pt, wt, mr), (ks, kp), (tb, tn), (wd, sz, nm), tl) (la, ((kmn, kyr, kgr, kkd, kpt, kwt, kmr), kla), ((tmn, tyr, tgr, tkd, tpt, twt, tmr), tla), (pl, tk, sr, vl)) (la, ((kmn, kyr, kgr, kkd, kpt, kwt, kmr), kla), ((tmn, tyr, tgr, tkd, tpt, twt, tmr), tla), (pl, tk, sr, vl)))
    by_cases c6 : w = nI 2
    · subst c6
      refine g_tableIn (pc := 15) (off := 61) (tgt := 76) C dX3_of_15 (by decide) (by decide) (by decide) (by decide) ?_
      refine g_aload_n (pc := 76) C dX3_of_76 rfl ?_
      refine g_get3 (pc := 77) C dX3_of_77 0 rfl 0 (by decide) fl_X3_10 rfl ?_
      refine g_get0 (pc := 80) C dX3_of_80 1 rfl 4 (by decide) fl_X3_95 rfl ?_
      refine g_iload_n (pc := 83) C dX3_of_83 rfl ?_
      refine g_ialdM (pc := 84) C dX3_of_84 6 rfl rfl (by omega) (by decide) ?_
      have b7 := hwt c_
      have hf : f_of ((mn, yr, gr, kd, pt, wt, mr), (ks, kp), (tb, tn), (wd, sz, nm), tl) (nI c_) (nI 2) = ((nI (wt c_)), ((mn, yr, gr, kd, pt, wt, mr), (ks, kp), (tb, tn), (wd, sz, nm), tl)) := by simp [f_of, ofN, itF, fnd, c1, c2, c4, ix_nI (show c_ < 2 ^ 31 by omega), ix_nI (show 2 < 2 ^ 31 by decide), show inR (nI 2) 0 6 = true by decide]
      exact g_iret C Rr dX3_of_85 ⟨(la, ((kmn, kyr, kgr, kkd, kpt, kwt, kmr), kla), ((tmn, tyr, tgr, tkd, tpt, twt, tmr), tla), (pl, tk, sr, vl)), by rw [hf]; exact (fun h => hJ h), by rw [hf], by rw [hf]; rfl⟩ (spX_ad g (ao, ap, ak, at', au, ae, a0, a1, a2, a3, ay) ((mn, yr, gr, kd, pt, wt, mr), (ks, kp), (tb, tn), (wd, sz, nm), tl) ((mn, yr, gr, kd, pt, wt, mr), (ks, kp), (tb, tn), (wd, sz, nm), tl) (la, ((kmn, kyr, kgr, kkd, kpt, kwt, kmr), kla), ((tmn, tyr, tgr, tkd, tpt, twt, tmr), tla), (pl, tk, sr, vl)) (la, ((kmn, kyr, kgr, kkd, kpt, kwt, kmr), kla), ((tmn, tyr, tgr, tkd, tpt, twt, tmr), tla), (pl, tk, sr, vl)))
    by_cases c8 : w = nI 3
    · subst c8
      refine g_tableIn (pc := 15) (off := 71) (tgt := 86) C dX3_of_15 (by decide) (by decide) (by decide) (by decide) ?_
      refine g_aload_n (pc := 86) C dX3_of_86 rfl ?_
      refine g_get3 (pc := 87) C dX3_of_87 0 rfl 0 (by decide) fl_X3_10 rfl ?_
      refine g_get0 (pc := 90) C dX3_of_90 1 rfl 5 (by decide) fl_X3_98 rfl ?_
      refine g_iload_n (pc := 93) C dX3_of_93 rfl ?_
      refine g_ialdM (pc := 94) C dX3_of_94 7 rfl rfl (by omega) (by decide) ?_
      have b9 := hmr c_
      have hf : f_of ((mn, yr, gr, kd, pt, wt, mr), (ks, kp), (tb, tn), (wd, sz, nm), tl) (nI c_) (nI 3) = ((nI (mr c_)), ((mn, yr, gr, kd, pt, wt, mr), (ks, kp), (tb, tn), (wd, sz, nm), tl)) := by simp [f_of, ofN, itF, fnd, c1, c2, c4, c6, ix_nI (show c_ < 2 ^ 31 by omega), ix_nI (show 3 < 2 ^ 31 by decide), show inR (nI 3) 0 6 = true by decide]
      exact g_iret C Rr dX3_of_95 ⟨(la, ((kmn, kyr, kgr, kkd, kpt, kwt, kmr), kla), ((tmn, tyr, tgr, tkd, tpt, twt, tmr), tla), (pl, tk, sr, vl)), by rw [hf]; exact (fun h => hJ h), by rw [hf], by rw [hf]; rfl⟩ (spX_ad g (ao, ap, ak, at', au, ae, a0, a1, a2, a3, ay) ((mn, yr, gr, kd, pt, wt, mr), (ks, kp), (tb, tn), (wd, sz, nm), tl) ((mn, yr, gr, kd, pt, wt, mr), (ks, kp), (tb, tn), (wd, sz, nm), tl) (la, ((kmn, kyr, kgr, kkd, kpt, kwt, kmr), kla), ((tmn, tyr, tgr, tkd, tpt, twt, tmr), tla), (pl, tk, sr, vl)) (la, ((kmn, kyr, kgr, kkd, kpt, kwt, kmr), kla), ((tmn, tyr, tgr, tkd, tpt, twt, tmr), tla), (pl, tk, sr, vl)))
    by_cases c10 : w = nI 4
    · subst c10
      refine g_tableIn (pc := 15) (off := 81) (tgt := 96) C dX3_of_15 (by decide) (by decide) (by decide) (by decide) ?_
      refine g_aload_n (pc := 96) C dX3_of_96 rfl ?_
      refine g_get3 (pc := 97) C dX3_of_97 0 rfl 0 (by decide) fl_X3_10 rfl ?_
      refine g_iload_n (pc := 100) C dX3_of_100 rfl ?_
      refine g_bxi (pc := 101) (cs := [potV g ap gr la kd pt wt mr (sumN gr 12) yr mn]) (ds := [potV g ap gr la kd pt wt mr (sumN gr 12) yr mn]) (bs2 := [spO g ao ap ak at' au ae ay kp, potV g ap gr la kd pt wt mr (sumN gr 12) yr mn, potV g ak kgr kla kkd kpt kwt kmr (sumN kgr 12) kyr kmn, potV g at' tgr tla tkd tpt twt tmr (sumN tgr 12) tyr tmn, tpV g au (tbB tb) tn pl tk sr vl, shA g ae a0 a1 a2 a3, shV g a0 (nm 0) (wd 0) (sz 0), shV g a1 (nm 1) (wd 1) (sz 1), shV g a2 (nm 2) (wd 2) (sz 2), shV g a3 (nm 3) (wd 3) (sz 3), arr7 g ay tl]) C dX3_of_101 ml_X3_101 mf_X0_takesBy (c_takesBy g ap gr la kd pt wt mr (sumN gr 12) yr mn c_ hB (by omega)) ⟨rfl, rfl, (Nat.le_of_ble_eq_true rfl), (Nat.le_of_ble_eq_true rfl)⟩ rfl rfl (Nat.le_of_ble_eq_true rfl) (fl1 _) (fl1 _) 0 rfl rfl rfl [1] rfl rfl rfl rfl ?_
      have hf : f_of ((mn, yr, gr, kd, pt, wt, mr), (ks, kp), (tb, tn), (wd, sz, nm), tl) (nI c_) (nI 4) = ((nI (min (wantsN kd wt yr c_) (sumN gr 12))), ((mn, yr, gr, kd, pt, wt, mr), (ks, kp), (tb, tn), (wd, sz, nm), tl)) := by simp [f_of, ofN, itF, fnd, c1, c2, c4, c6, c8, ix_nI (show c_ < 2 ^ 31 by omega), ix_nI (show 4 < 2 ^ 31 by decide), show inR (nI 4) 0 6 = true by decide]
      exact g_iret C Rr dX3_of_104 ⟨(la, ((kmn, kyr, kgr, kkd, kpt, kwt, kmr), kla), ((tmn, tyr, tgr, tkd, tpt, twt, tmr), tla), (pl, tk, sr, vl)), by rw [hf]; exact (fun h => hJ h), by rw [hf], by rw [hf]; rfl⟩ (spX_ad g (ao, ap, ak, at', au, ae, a0, a1, a2, a3, ay) ((mn, yr, gr, kd, pt, wt, mr), (ks, kp), (tb, tn), (wd, sz, nm), tl) ((mn, yr, gr, kd, pt, wt, mr), (ks, kp), (tb, tn), (wd, sz, nm), tl) (la, ((kmn, kyr, kgr, kkd, kpt, kwt, kmr), kla), ((tmn, tyr, tgr, tkd, tpt, twt, tmr), tla), (pl, tk, sr, vl)) (la, ((kmn, kyr, kgr, kkd, kpt, kwt, kmr), kla), ((tmn, tyr, tgr, tkd, tpt, twt, tmr), tla), (pl, tk, sr, vl)))
    by_cases c11 : w = nI 5
    · subst c11
      refine g_tableIn (pc := 15) (off := 90) (tgt := 105) C dX3_of_15 (by decide) (by decide) (by decide) (by decide) ?_
      refine g_aload_n (pc := 105) C dX3_of_105 rfl ?_
      refine g_get3 (pc := 106) C dX3_of_106 0 rfl 0 (by decide) fl_X3_10 rfl ?_
      refine g_iload_n (pc := 109) C dX3_of_109 rfl ?_
      refine g_aload_n (pc := 110) C dX3_of_110 rfl ?_
      refine g_get3 (pc := 111) C dX3_of_111 0 rfl 0 (by decide) fl_X3_10 rfl ?_
      refine g_iload_n (pc := 114) C dX3_of_114 rfl ?_
      refine g_bxi (pc := 115) (cs := [potV g ap gr la kd pt wt mr (sumN gr 12) yr mn]) (ds := [potV g ap gr la kd pt wt mr (sumN gr 12) yr mn]) (bs2 := [spO g ao ap ak at' au ae ay kp, potV g ap gr la kd pt wt mr (sumN gr 12) yr mn, potV g ak kgr kla kkd kpt kwt kmr (sumN kgr 12) kyr kmn, potV g at' tgr tla tkd tpt twt tmr (sumN tgr 12) tyr tmn, tpV g au (tbB tb) tn pl tk sr vl, shA g ae a0 a1 a2 a3, shV g a0 (nm 0) (wd 0) (sz 0), shV g a1 (nm 1) (wd 1) (sz 1), shV g a2 (nm 2) (wd 2) (sz 2), shV g a3 (nm 3) (wd 3) (sz 3), arr7 g ay tl]) C dX3_of_115 ml_X3_101 mf_X0_takesBy (c_takesBy g ap gr la kd pt wt mr (sumN gr 12) yr mn c_ hB (by omega)) ⟨rfl, rfl, (Nat.le_of_ble_eq_true rfl), (Nat.le_of_ble_eq_true rfl)⟩ rfl rfl (Nat.le_of_ble_eq_true rfl) (fl1 _) (fl1 _) 0 rfl rfl rfl [1] rfl rfl rfl rfl ?_
      refine g_bxi (pc := 118) (cs := [potV g ap gr la kd pt wt mr (sumN gr 12) yr mn]) (ds := [potV g ap gr la kd pt wt mr (sumN gr 12) yr mn]) (bs2 := [spO g ao ap ak at' au ae ay kp, potV g ap gr la kd pt wt mr (sumN gr 12) yr mn, potV g ak kgr kla kkd kpt kwt kmr (sumN kgr 12) kyr kmn, potV g at' tgr tla tkd tpt twt tmr (sumN tgr 12) tyr tmn, tpV g au (tbB tb) tn pl tk sr vl, shA g ae a0 a1 a2 a3, shV g a0 (nm 0) (wd 0) (sz 0), shV g a1 (nm 1) (wd 1) (sz 1), shV g a2 (nm 2) (wd 2) (sz 2), shV g a3 (nm 3) (wd 3) (sz 3), arr7 g ay tl]) C dX3_of_118 ml_X3_104 mf_X0_putsBy (c_putsBy g ap gr la kd pt wt mr (sumN gr 12) yr mn c_ (min (wantsN kd wt yr c_) (sumN gr 12)) hB (by omega) (by omega)) ⟨rfl, rfl, (Nat.le_of_ble_eq_true rfl), (Nat.le_of_ble_eq_true rfl)⟩ rfl rfl (Nat.le_of_ble_eq_true rfl) (fl1 _) (fl1 _) 0 rfl rfl rfl [1] rfl rfl rfl rfl ?_
      have hf : f_of ((mn, yr, gr, kd, pt, wt, mr), (ks, kp), (tb, tn), (wd, sz, nm), tl) (nI c_) (nI 5) = ((nI (putsN kd mr c_ (min (wantsN kd wt yr c_) (sumN gr 12)))), ((mn, yr, gr, kd, pt, wt, mr), (ks, kp), (tb, tn), (wd, sz, nm), tl)) := by simp [f_of, ofN, itF, fnd, c1, c2, c4, c6, c8, c10, ix_nI (show c_ < 2 ^ 31 by omega), ix_nI (show 5 < 2 ^ 31 by decide), show inR (nI 5) 0 6 = true by decide]
      exact g_iret C Rr dX3_of_121 ⟨(la, ((kmn, kyr, kgr, kkd, kpt, kwt, kmr), kla), ((tmn, tyr, tgr, tkd, tpt, twt, tmr), tla), (pl, tk, sr, vl)), by rw [hf]; exact (fun h => hJ h), by rw [hf], by rw [hf]; rfl⟩ (spX_ad g (ao, ap, ak, at', au, ae, a0, a1, a2, a3, ay) ((mn, yr, gr, kd, pt, wt, mr), (ks, kp), (tb, tn), (wd, sz, nm), tl) ((mn, yr, gr, kd, pt, wt, mr), (ks, kp), (tb, tn), (wd, sz, nm), tl) (la, ((kmn, kyr, kgr, kkd, kpt, kwt, kmr), kla), ((tmn, tyr, tgr, tkd, tpt, twt, tmr), tla), (pl, tk, sr, vl)) (la, ((kmn, kyr, kgr, kkd, kpt, kwt, kmr), kla), ((tmn, tyr, tgr, tkd, tpt, twt, tmr), tla), (pl, tk, sr, vl)))
    by_cases c12 : w = nI 6
    · subst c12
      refine g_tableIn (pc := 15) (off := 107) (tgt := 122) C dX3_of_15 (by decide) (by decide) (by decide) (by decide) ?_
      refine g_aload_n (pc := 122) C dX3_of_122 rfl ?_
      refine g_get3 (pc := 123) C dX3_of_123 0 rfl 0 (by decide) fl_X3_10 rfl ?_
      refine g_iload_n (pc := 126) C dX3_of_126 rfl ?_
      refine g_bxi (pc := 127) (cs := [potV g ap gr la kd pt wt mr (sumN gr 12) yr mn]) (ds := [potV g ap gr la kd pt wt mr (sumN gr 12) yr mn]) (bs2 := [spO g ao ap ak at' au ae ay kp, potV g ap gr la kd pt wt mr (sumN gr 12) yr mn, potV g ak kgr kla kkd kpt kwt kmr (sumN kgr 12) kyr kmn, potV g at' tgr tla tkd tpt twt tmr (sumN tgr 12) tyr tmn, tpV g au (tbB tb) tn pl tk sr vl, shA g ae a0 a1 a2 a3, shV g a0 (nm 0) (wd 0) (sz 0), shV g a1 (nm 1) (wd 1) (sz 1), shV g a2 (nm 2) (wd 2) (sz 2), shV g a3 (nm 3) (wd 3) (sz 3), arr7 g ay tl]) C dX3_of_127 ml_X3_108 mf_X0_partPutBy (c_partPutBy g ap gr la kd pt wt mr (sumN gr 12) yr mn c_ hB (by omega)) ⟨rfl, rfl, (Nat.le_of_ble_eq_true rfl), (Nat.le_of_ble_eq_true rfl)⟩ rfl rfl (Nat.le_of_ble_eq_true rfl) (fl1 _) (fl1 _) 0 rfl rfl rfl [1] rfl rfl rfl rfl ?_
      have hf : f_of ((mn, yr, gr, kd, pt, wt, mr), (ks, kp), (tb, tn), (wd, sz, nm), tl) (nI c_) (nI 6) = ((nI (whatN kd pt (sumN gr 12) yr c_)), ((mn, yr, gr, kd, pt, wt, mr), (ks, kp), (tb, tn), (wd, sz, nm), tl)) := by simp [f_of, ofN, itF, fnd, c1, c2, c4, c6, c8, c10, c11, ix_nI (show c_ < 2 ^ 31 by omega), ix_nI (show 6 < 2 ^ 31 by decide), show inR (nI 6) 0 6 = true by decide]
      exact g_iret C Rr dX3_of_130 ⟨(la, ((kmn, kyr, kgr, kkd, kpt, kwt, kmr), kla), ((tmn, tyr, tgr, tkd, tpt, twt, tmr), tla), (pl, tk, sr, vl)), by rw [hf]; exact (fun h => hJ h), by rw [hf], by rw [hf]; rfl⟩ (spX_ad g (ao, ap, ak, at', au, ae, a0, a1, a2, a3, ay) ((mn, yr, gr, kd, pt, wt, mr), (ks, kp), (tb, tn), (wd, sz, nm), tl) ((mn, yr, gr, kd, pt, wt, mr), (ks, kp), (tb, tn), (wd, sz, nm), tl) (la, ((kmn, kyr, kgr, kkd, kpt, kwt, kmr), kla), ((tmn, tyr, tgr, tkd, tpt, twt, tmr), tla), (pl, tk, sr, vl)) (la, ((kmn, kyr, kgr, kkd, kpt, kwt, kmr), kla), ((tmn, tyr, tgr, tkd, tpt, twt, tmr), tla), (pl, tk, sr, vl)))
    refine g_tableOut (pc := 15) (tgt := 131) C dX3_of_15 (by have := sw_ne c2 (by decide); have := sw_ne c4 (by decide); have := sw_ne c6 (by decide); have := sw_ne c8 (by decide); have := sw_ne c10 (by decide); have := sw_ne c11 (by decide); have := sw_ne c12 (by decide); omega) (by decide) ?_
    have hni : inR w 0 6 = false := by
      cases e9 : inR w 0 6 with
      | false => rfl
      | true =>
        obtain ⟨j9, h1, h2, rfl⟩ := inR_nat (lo := 0) (hi := 6) e9
        rcases (show j9 = 0 ∨ j9 = 1 ∨ j9 = 2 ∨ j9 = 3 ∨ j9 = 4 ∨ j9 = 5 ∨ j9 = 6 by omega) with rfl | rfl | rfl | rfl | rfl | rfl | rfl
        · exact absurd rfl c2
        · exact absurd rfl c4
        · exact absurd rfl c6
        · exact absurd rfl c8
        · exact absurd rfl c10
        · exact absurd rfl c11
        · exact absurd rfl c12
    refine g_aload_n (pc := 131) C dX3_of_131 rfl ?_
    refine g_iconst (pc := 132) (v := nI 0) C dX3_of_132 (by decide) ?_
    refine g_bxi (pc := 133) (cs := [spO g ao ap ak at' au ae ay kp, arr7 g ay tl]) (ds := [spO g ao ap ak at' au ae ay kp, arr7 g ay (updN tl 0 (tl 0 + 1))]) (bs2 := [spO g ao ap ak at' au ae ay kp, potV g ap gr la kd pt wt mr (sumN gr 12) yr mn, potV g ak kgr kla kkd kpt kwt kmr (sumN kgr 12) kyr kmn, potV g at' tgr tla tkd tpt twt tmr (sumN tgr 12) tyr tmn, tpV g au (tbB tb) tn pl tk sr vl, shA g ae a0 a1 a2 a3, shV g a0 (nm 0) (wd 0) (sz 0), shV g a1 (nm 1) (wd 1) (sz 1), shV g a2 (nm 2) (wd 2) (sz 2), shV g a3 (nm 3) (wd 3) (sz 3), arr7 g ay (updN tl 0 (tl 0 + 1))]) C dX3_of_133 ml_X3_47 mf_X3_finding (c_finding g ao ap ak at' au ae ay kp tl 0 (by decide)) ⟨rfl, rfl, (Nat.le_of_ble_eq_true rfl), (Nat.le_of_ble_eq_true rfl)⟩ rfl rfl (Nat.le_of_ble_eq_true rfl) rfl rfl 0 rfl rfl rfl [0, 10] rfl rfl rfl rfl ?_
    have hf : f_of ((mn, yr, gr, kd, pt, wt, mr), (ks, kp), (tb, tn), (wd, sz, nm), tl) (nI c_) w = ((fd 0), ((mn, yr, gr, kd, pt, wt, mr), (ks, kp), (tb, tn), (wd, sz, nm), updN tl 0 (tl 0 + 1))) := by simp [f_of, fnd, hni]
    exact g_iret C Rr dX3_of_136 ⟨(la, ((kmn, kyr, kgr, kkd, kpt, kwt, kmr), kla), ((tmn, tyr, tgr, tkd, tpt, twt, tmr), tla), (pl, tk, sr, vl)), by rw [hf]; exact (fun h => hJ h), by rw [hf], by rw [hf]; rfl⟩ (spX_ad g (ao, ap, ak, at', au, ae, a0, a1, a2, a3, ay) ((mn, yr, gr, kd, pt, wt, mr), (ks, kp), (tb, tn), (wd, sz, nm), updN tl 0 (tl 0 + 1)) ((mn, yr, gr, kd, pt, wt, mr), (ks, kp), (tb, tn), (wd, sz, nm), tl) (la, ((kmn, kyr, kgr, kkd, kpt, kwt, kmr), kla), ((tmn, tyr, tgr, tkd, tpt, twt, tmr), tla), (pl, tk, sr, vl)) (la, ((kmn, kyr, kgr, kkd, kpt, kwt, kmr), kla), ((tmn, tyr, tgr, tkd, tpt, twt, tmr), tla), (pl, tk, sr, vl)))
  · refine g_aload_n (pc := 8) C dX3_of_8 rfl ?_
    refine g_iconst (pc := 9) (v := nI 0) C dX3_of_9 (by decide) ?_
    refine g_bxi (pc := 10) (cs := [spO g ao ap ak at' au ae ay kp, arr7 g ay tl]) (ds := [spO g ao ap ak at' au ae ay kp, arr7 g ay (updN tl 0 (tl 0 + 1))]) (bs2 := [spO g ao ap ak at' au ae ay kp, potV g ap gr la kd pt wt mr (sumN gr 12) yr mn, potV g ak kgr kla kkd kpt kwt kmr (sumN kgr 12) kyr kmn, potV g at' tgr tla tkd tpt twt tmr (sumN tgr 12) tyr tmn, tpV g au (tbB tb) tn pl tk sr vl, shA g ae a0 a1 a2 a3, shV g a0 (nm 0) (wd 0) (sz 0), shV g a1 (nm 1) (wd 1) (sz 1), shV g a2 (nm 2) (wd 2) (sz 2), shV g a3 (nm 3) (wd 3) (sz 3), arr7 g ay (updN tl 0 (tl 0 + 1))]) C dX3_of_10 ml_X3_47 mf_X3_finding (c_finding g ao ap ak at' au ae ay kp tl 0 (by decide)) ⟨rfl, rfl, (Nat.le_of_ble_eq_true rfl), (Nat.le_of_ble_eq_true rfl)⟩ rfl rfl (Nat.le_of_ble_eq_true rfl) rfl rfl 0 rfl rfl rfl [0, 10] rfl rfl rfl rfl ?_
    have hf : f_of ((mn, yr, gr, kd, pt, wt, mr), (ks, kp), (tb, tn), (wd, sz, nm), tl) c w = ((fd 0), ((mn, yr, gr, kd, pt, wt, mr), (ks, kp), (tb, tn), (wd, sz, nm), updN tl 0 (tl 0 + 1))) := by simp [f_of, fnd, c1]
    exact g_iret C Rr dX3_of_13 ⟨(la, ((kmn, kyr, kgr, kkd, kpt, kwt, kmr), kla), ((tmn, tyr, tgr, tkd, tpt, twt, tmr), tla), (pl, tk, sr, vl)), by rw [hf]; exact (fun h => hJ h), by rw [hf], by rw [hf]; rfl⟩ (spX_ad g (ao, ap, ak, at', au, ae, a0, a1, a2, a3, ay) ((mn, yr, gr, kd, pt, wt, mr), (ks, kp), (tb, tn), (wd, sz, nm), updN tl 0 (tl 0 + 1)) ((mn, yr, gr, kd, pt, wt, mr), (ks, kp), (tb, tn), (wd, sz, nm), tl) (la, ((kmn, kyr, kgr, kkd, kpt, kwt, kmr), kla), ((tmn, tyr, tgr, tkd, tpt, twt, tmr), tla), (pl, tk, sr, vl)) (la, ((kmn, kyr, kgr, kkd, kpt, kwt, kmr), kla), ((tmn, tyr, tgr, tkd, tpt, twt, tmr), tla), (pl, tk, sr, vl)))
set_option maxHeartbeats 400000 in
set_option maxRecDepth 100000 in
theorem x_as (g : Gl) (A : Ac) (X : Xs) (J : Jc) (c : Int32) (k : Int32) (hX : InvX X) (hJ : OkJ X J) : Ct g yX3_as cX3_as 3 (some .int) (rk 2 43) [.ref (A.1 0), .int c, .int k] (spX g A X J) (fun r w2 => ∃ J2, OkJ (f_as X c k).2 J2 ∧ r = some (.int (f_as X c k).1) ∧ w2 = spX g A (f_as X c k).2 J2) := by
  obtain ⟨ao, ap, ak, at', au, ae, a0, a1, a2, a3, ay⟩ := A
  obtain ⟨⟨mn, yr, gr, kd, pt, wt, mr⟩, ⟨ks, kp⟩, ⟨tb, tn⟩, ⟨wd, sz, nm⟩, tl⟩ := X
  obtain ⟨la, ⟨⟨kmn, kyr, kgr, kkd, kpt, kwt, kmr⟩, kla⟩, ⟨⟨tmn, tyr, tgr, tkd, tpt, twt, tmr⟩, tla⟩, ⟨pl, tk, sr, vl⟩⟩ := J
  obtain ⟨hB, hy, hkp, htb, htn, hwd, hsz⟩ := id hX
  obtain ⟨-, hTle, hgr, hkd, hpt, hwt, hmr, hyr, hmn⟩ := id hB
  refine ct_of (by decide) (Nat.le_of_ble_eq_true rfl) ?_
  intro φ C0 Rr
  have C : Cx φ g cX3_as 3 RX3 (rk 2 43) := C0
  show Go φ g 3 0 [(0, .ref (ao 0)), (1, .int c), (2, .int k)] [] (fl [spO g ao ap ak at' au ae ay kp, potV g ap gr la kd pt wt mr (sumN gr 12) yr mn, potV g ak kgr kla kkd kpt kwt kmr (sumN kgr 12) kyr kmn, potV g at' tgr tla tkd tpt twt tmr (sumN tgr 12) tyr tmn, tpV g au (tbB tb) tn pl tk sr vl, shA g ae a0 a1 a2 a3, shV g a0 (nm 0) (wd 0) (sz 0), shV g a1 (nm 1) (wd 1) (sz 1), shV g a2 (nm 2) (wd 2) (sz 2), shV g a3 (nm 3) (wd 3) (sz 3), arr7 g ay tl])
  refine g_aload_n (pc := 0) C dX3_as_0 rfl ?_
  refine g_iload_n (pc := 1) C dX3_as_1 rfl ?_
  refine g_bxi (pc := 2) (cs := [spO g ao ap ak at' au ae ay kp, potV g ap gr la kd pt wt mr (sumN gr 12) yr mn]) (ds := [spO g ao ap ak at' au ae ay kp, potV g ap gr la kd pt wt mr (sumN gr 12) yr mn]) (bs2 := [spO g ao ap ak at' au ae ay kp, potV g ap gr la kd pt wt mr (sumN gr 12) yr mn, potV g ak kgr kla kkd kpt kwt kmr (sumN kgr 12) kyr kmn, potV g at' tgr tla tkd tpt twt tmr (sumN tgr 12) tyr tmn, tpV g au (tbB tb) tn pl tk sr vl, shA g ae a0 a1 a2 a3, shV g a0 (nm 0) (wd 0) (sz 0), shV g a1 (nm 1) (wd 1) (sz 1), shV g a2 (nm 2) (wd 2) (sz 2), shV g a3 (nm 3) (wd 3) (sz 3), arr7 g ay tl]) C dX3_as_2 ml_X3_86 mf_X3_isCook (c_isCook g ao ap ak at' au ae ay kp gr la kd pt wt mr yr mn c (by omega)) ⟨rfl, rfl, (Nat.le_of_ble_eq_true rfl), (Nat.le_of_ble_eq_true rfl)⟩ rfl rfl (Nat.le_of_ble_eq_true rfl) rfl rfl 0 rfl rfl rfl [0, 1] rfl rfl rfl rfl ?_
  refine g_if_eqB (pc := 5) (tgt := 15) C dX3_as_5 (by decide) (fun c1 => ?_) (fun c1 => ?_)
  · refine g_aload_n (pc := 15) C dX3_as_15 rfl ?_
    refine g_iconst (pc := 16) (v := nI 0) C dX3_as_16 (by decide) ?_
    refine g_bxi (pc := 17) (cs := [spO g ao ap ak at' au ae ay kp, arr7 g ay tl]) (ds := [spO g ao ap ak at' au ae ay kp, arr7 g ay (updN tl 0 (tl 0 + 1))]) (bs2 := [spO g ao ap ak at' au ae ay kp, potV g ap gr la kd pt wt mr (sumN gr 12) yr mn, potV g ak kgr kla kkd kpt kwt kmr (sumN kgr 12) kyr kmn, potV g at' tgr tla tkd tpt twt tmr (sumN tgr 12) tyr tmn, tpV g au (tbB tb) tn pl tk sr vl, shA g ae a0 a1 a2 a3, shV g a0 (nm 0) (wd 0) (sz 0), shV g a1 (nm 1) (wd 1) (sz 1), shV g a2 (nm 2) (wd 2) (sz 2), shV g a3 (nm 3) (wd 3) (sz 3), arr7 g ay (updN tl 0 (tl 0 + 1))]) C dX3_as_17 ml_X3_47 mf_X3_finding (c_finding g ao ap ak at' au ae ay kp tl 0 (by decide)) ⟨rfl, rfl, (Nat.le_of_ble_eq_true rfl), (Nat.le_of_ble_eq_true rfl)⟩ rfl rfl (Nat.le_of_ble_eq_true rfl) rfl rfl 0 rfl rfl rfl [0, 10] rfl rfl rfl rfl ?_
    have hf : f_as ((mn, yr, gr, kd, pt, wt, mr), (ks, kp), (tb, tn), (wd, sz, nm), tl) c k = ((fd 0), ((mn, yr, gr, kd, pt, wt, mr), (ks, kp), (tb, tn), (wd, sz, nm), updN tl 0 (tl 0 + 1))) := by simp [f_as, fnd, c1]
    exact g_iret C Rr dX3_as_20 ⟨(la, ((kmn, kyr, kgr, kkd, kpt, kwt, kmr), kla), ((tmn, tyr, tgr, tkd, tpt, twt, tmr), tla), (pl, tk, sr, vl)), by rw [hf]; exact (fun h => hJ h), by rw [hf], by rw [hf]; rfl⟩ (spX_ad g (ao, ap, ak, at', au, ae, a0, a1, a2, a3, ay) ((mn, yr, gr, kd, pt, wt, mr), (ks, kp), (tb, tn), (wd, sz, nm), updN tl 0 (tl 0 + 1)) ((mn, yr, gr, kd, pt, wt, mr), (ks, kp), (tb, tn), (wd, sz, nm), tl) (la, ((kmn, kyr, kgr, kkd, kpt, kwt, kmr), kla), ((tmn, tyr, tgr, tkd, tpt, twt, tmr), tla), (pl, tk, sr, vl)) (la, ((kmn, kyr, kgr, kkd, kpt, kwt, kmr), kla), ((tmn, tyr, tgr, tkd, tpt, twt, tmr), tla), (pl, tk, sr, vl)))
  · obtain ⟨c_, hu_c, rfl⟩ := inR_cook c1
    have hc8 : c_ < 8 := by omega
    refine g_iload_n (pc := 8) C dX3_as_8 rfl ?_
    refine g_s0i (pc := 9) C dX3_as_9 ml_X3_76 mf_X3_isKind (c_isKind g k) ⟨rfl, rfl, (Nat.le_of_ble_eq_true rfl), (Nat.le_of_ble_eq_true rfl)⟩ rfl rfl (Nat.le_of_ble_eq_true rfl) ?_
    refine g_if_neB (pc := 12) (tgt := 21) C dX3_as_12 (by decide) (fun c2 => ?_) (fun c2 => ?_)
    · obtain ⟨k_, hl_k, hu_k, rfl⟩ := inR_nat (lo := 0) (hi := 5) c2
      refine g_aload_n (pc := 21) C dX3_as_21 rfl ?_
      refine g_get3 (pc := 22) C dX3_as_22 0 rfl 0 (by decide) fl_X3_10 rfl ?_
      refine g_get0 (pc := 25) C dX3_as_25 1 rfl 2 (by decide) fl_X3_89 rfl ?_
      refine g_iload_n (pc := 28) C dX3_as_28 rfl ?_
      refine g_ialdM (pc := 29) C dX3_as_29 4 rfl rfl (by omega) (by decide) ?_
      have b3 := hkd c_
      refine g_iload_n (pc := 30) C dX3_as_30 rfl ?_
      refine g_s0i (pc := 31) C dX3_as_31 ml_X3_115 mf_X3_isUnder (c_isUnder g (kd c_) k_ (by omega) (by omega)) ⟨rfl, rfl, (Nat.le_of_ble_eq_true rfl), (Nat.le_of_ble_eq_true rfl)⟩ rfl rfl (Nat.le_of_ble_eq_true rfl) ?_
      refine g_if_eqB (pc := 34) (tgt := 49) C dX3_as_34 (by decide) (fun c4 => ?_) (fun c4 => ?_)
      · refine g_aload_n (pc := 49) C dX3_as_49 rfl ?_
        refine g_iconst (pc := 50) (v := nI 2) C dX3_as_50 (by decide) ?_
        refine g_bxi (pc := 51) (cs := [spO g ao ap ak at' au ae ay kp, arr7 g ay tl]) (ds := [spO g ao ap ak at' au ae ay kp, arr7 g ay (updN tl 2 (tl 2 + 1))]) (bs2 := [spO g ao ap ak at' au ae ay kp, potV g ap gr la kd pt wt mr (sumN gr 12) yr mn, potV g ak kgr kla kkd kpt kwt kmr (sumN kgr 12) kyr kmn, potV g at' tgr tla tkd tpt twt tmr (sumN tgr 12) tyr tmn, tpV g au (tbB tb) tn pl tk sr vl, shA g ae a0 a1 a2 a3, shV g a0 (nm 0) (wd 0) (sz 0), shV g a1 (nm 1) (wd 1) (sz 1), shV g a2 (nm 2) (wd 2) (sz 2), shV g a3 (nm 3) (wd 3) (sz 3), arr7 g ay (updN tl 2 (tl 2 + 1))]) C dX3_as_51 ml_X3_47 mf_X3_finding (c_finding g ao ap ak at' au ae ay kp tl 2 (by decide)) ⟨rfl, rfl, (Nat.le_of_ble_eq_true rfl), (Nat.le_of_ble_eq_true rfl)⟩ rfl rfl (Nat.le_of_ble_eq_true rfl) rfl rfl 0 rfl rfl rfl [0, 10] rfl rfl rfl rfl ?_
        have hf : f_as ((mn, yr, gr, kd, pt, wt, mr), (ks, kp), (tb, tn), (wd, sz, nm), tl) (nI c_) (nI k_) = ((fd 2), ((mn, yr, gr, kd, pt, wt, mr), (ks, kp), (tb, tn), (wd, sz, nm), updN tl 2 (tl 2 + 1))) := by simp [f_as, fnd, c1, c2, c4, ix_nI (show c_ < 2 ^ 31 by omega), ix_nI (show k_ < 2 ^ 31 by omega)]
        exact g_iret C Rr dX3_as_54 ⟨(la, ((kmn, kyr, kgr, kkd, kpt, kwt, kmr), kla), ((tmn, tyr, tgr, tkd, tpt, twt, tmr), tla), (pl, tk, sr, vl)), by rw [hf]; exact (fun h => hJ h), by rw [hf], by rw [hf]; rfl⟩ (spX_ad g (ao, ap, ak, at', au, ae, a0, a1, a2, a3, ay) ((mn, yr, gr, kd, pt, wt, mr), (ks, kp), (tb, tn), (wd, sz, nm), updN tl 2 (tl 2 + 1)) ((mn, yr, gr, kd, pt, wt, mr), (ks, kp), (tb, tn), (wd, sz, nm), tl) (la, ((kmn, kyr, kgr, kkd, kpt, kwt, kmr), kla), ((tmn, tyr, tgr, tkd, tpt, twt, tmr), tla), (pl, tk, sr, vl)) (la, ((kmn, kyr, kgr, kkd, kpt, kwt, kmr), kla), ((tmn, tyr, tgr, tkd, tpt, twt, tmr), tla), (pl, tk, sr, vl)))
      · refine g_aload_n (pc := 37) C dX3_as_37 rfl ?_
        refine g_get3 (pc := 38) C dX3_as_38 0 rfl 0 (by decide) fl_X3_10 rfl ?_
        refine g_get0 (pc := 41) C dX3_as_41 1 rfl 4 (by decide) fl_X3_95 rfl ?_
        refine g_iload_n (pc := 44) C dX3_as_44 rfl ?_
        refine g_ialdM (pc := 45) C dX3_as_45 6 rfl rfl (by omega) (by decide) ?_
        have b5 := hwt c_
        refine g_goto (pc := 46) (tgt := 54) C dX3_as_46 (by decide) ?_
        have hf : f_as ((mn, yr, gr, kd, pt, wt, mr), (ks, kp), (tb, tn), (wd, sz, nm), tl) (nI c_) (nI k_) = ((nI (wt c_)), ((mn, yr, gr, kd, pt, wt, mr), (ks, kp), (tb, tn), (wd, sz, nm), tl)) := by simp [f_as, fnd, c1, c2, c4, ix_nI (show c_ < 2 ^ 31 by omega), ix_nI (show k_ < 2 ^ 31 by omega)]
        exact g_iret C Rr dX3_as_54 ⟨(la, ((kmn, kyr, kgr, kkd, kpt, kwt, kmr), kla), ((tmn, tyr, tgr, tkd, tpt, twt, tmr), tla), (pl, tk, sr, vl)), by rw [hf]; exact (fun h => hJ h), by rw [hf], by rw [hf]; rfl⟩ (spX_ad g (ao, ap, ak, at', au, ae, a0, a1, a2, a3, ay) ((mn, yr, gr, kd, pt, wt, mr), (ks, kp), (tb, tn), (wd, sz, nm), tl) ((mn, yr, gr, kd, pt, wt, mr), (ks, kp), (tb, tn), (wd, sz, nm), tl) (la, ((kmn, kyr, kgr, kkd, kpt, kwt, kmr), kla), ((tmn, tyr, tgr, tkd, tpt, twt, tmr), tla), (pl, tk, sr, vl)) (la, ((kmn, kyr, kgr, kkd, kpt, kwt, kmr), kla), ((tmn, tyr, tgr, tkd, tpt, twt, tmr), tla), (pl, tk, sr, vl)))
    · refine g_aload_n (pc := 15) C dX3_as_15 rfl ?_
      refine g_iconst (pc := 16) (v := nI 0) C dX3_as_16 (by decide) ?_
      refine g_bxi (pc := 17) (cs := [spO g ao ap ak at' au ae ay kp, arr7 g ay tl]) (ds := [spO g ao ap ak at' au ae ay kp, arr7 g ay (updN tl 0 (tl 0 + 1))]) (bs2 := [spO g ao ap ak at' au ae ay kp, potV g ap gr la kd pt wt mr (sumN gr 12) yr mn, potV g ak kgr kla kkd kpt kwt kmr (sumN kgr 12) kyr kmn, potV g at' tgr tla tkd tpt twt tmr (sumN tgr 12) tyr tmn, tpV g au (tbB tb) tn pl tk sr vl, shA g ae a0 a1 a2 a3, shV g a0 (nm 0) (wd 0) (sz 0), shV g a1 (nm 1) (wd 1) (sz 1), shV g a2 (nm 2) (wd 2) (sz 2), shV g a3 (nm 3) (wd 3) (sz 3), arr7 g ay (updN tl 0 (tl 0 + 1))]) C dX3_as_17 ml_X3_47 mf_X3_finding (c_finding g ao ap ak at' au ae ay kp tl 0 (by decide)) ⟨rfl, rfl, (Nat.le_of_ble_eq_true rfl), (Nat.le_of_ble_eq_true rfl)⟩ rfl rfl (Nat.le_of_ble_eq_true rfl) rfl rfl 0 rfl rfl rfl [0, 10] rfl rfl rfl rfl ?_
      have hf : f_as ((mn, yr, gr, kd, pt, wt, mr), (ks, kp), (tb, tn), (wd, sz, nm), tl) (nI c_) k = ((fd 0), ((mn, yr, gr, kd, pt, wt, mr), (ks, kp), (tb, tn), (wd, sz, nm), updN tl 0 (tl 0 + 1))) := by simp [f_as, fnd, c1, c2, ix_nI (show c_ < 2 ^ 31 by omega)]
      exact g_iret C Rr dX3_as_20 ⟨(la, ((kmn, kyr, kgr, kkd, kpt, kwt, kmr), kla), ((tmn, tyr, tgr, tkd, tpt, twt, tmr), tla), (pl, tk, sr, vl)), by rw [hf]; exact (fun h => hJ h), by rw [hf], by rw [hf]; rfl⟩ (spX_ad g (ao, ap, ak, at', au, ae, a0, a1, a2, a3, ay) ((mn, yr, gr, kd, pt, wt, mr), (ks, kp), (tb, tn), (wd, sz, nm), updN tl 0 (tl 0 + 1)) ((mn, yr, gr, kd, pt, wt, mr), (ks, kp), (tb, tn), (wd, sz, nm), tl) (la, ((kmn, kyr, kgr, kkd, kpt, kwt, kmr), kla), ((tmn, tyr, tgr, tkd, tpt, twt, tmr), tla), (pl, tk, sr, vl)) (la, ((kmn, kyr, kgr, kkd, kpt, kwt, kmr), kla), ((tmn, tyr, tgr, tkd, tpt, twt, tmr), tla), (pl, tk, sr, vl)))
set_option maxHeartbeats 400000 in
set_option maxRecDepth 100000 in
theorem x_swap (g : Gl) (A : Ac) (X : Xs) (J : Jc) (c : Int32) (o : Int32) (hX : InvX X) (hJ : OkJ X J) : Ct g yX3_swap cX3_swap 3 (some .int) (rk 2 45) [.ref (A.1 0), .int c, .int o] (spX g A X J) (fun r w2 => ∃ J2, OkJ (f_swap X c o).2 J2 ∧ r = some (.int (f_swap X c o).1) ∧ w2 = spX g A (f_swap X c o).2 J2) := by
  obtain ⟨ao, ap, ak, at', au, ae, a0, a1, a2, a3, ay⟩ := A
  obtain ⟨⟨mn, yr, gr, kd, pt, wt, mr⟩, ⟨ks, kp⟩, ⟨tb, tn⟩, ⟨wd, sz, nm⟩, tl⟩ := X
  obtain ⟨la, ⟨⟨kmn, kyr, kgr, kkd, kpt, kwt, kmr⟩, kla⟩, ⟨⟨tmn, tyr, tgr, tkd, tpt, twt, tmr⟩, tla⟩, ⟨pl, tk, sr, vl⟩⟩ := J
  obtain ⟨hB, hy, hkp, htb, htn, hwd, hsz⟩ := id hX
  obtain ⟨-, hTle, hgr, hkd, hpt, hwt, hmr, hyr, hmn⟩ := id hB
  refine ct_of (by decide) (Nat.le_of_ble_eq_true rfl) ?_
  intro φ C0 Rr
  have C : Cx φ g cX3_swap 3 RX3 (rk 2 45) := C0
  show Go φ g 3 0 [(0, .ref (ao 0)), (1, .int c), (2, .int o)] [] (fl [spO g ao ap ak at' au ae ay kp, potV g ap gr la kd pt wt mr (sumN gr 12) yr mn, potV g ak kgr kla kkd kpt kwt kmr (sumN kgr 12) kyr kmn, potV g at' tgr tla tkd tpt twt tmr (sumN tgr 12) tyr tmn, tpV g au (tbB tb) tn pl tk sr vl, shA g ae a0 a1 a2 a3, shV g a0 (nm 0) (wd 0) (sz 0), shV g a1 (nm 1) (wd 1) (sz 1), shV g a2 (nm 2) (wd 2) (sz 2), shV g a3 (nm 3) (wd 3) (sz 3), arr7 g ay tl])
  refine g_aload_n (pc := 0) C dX3_swap_0 rfl ?_
  refine g_iload_n (pc := 1) C dX3_swap_1 rfl ?_
  refine g_bxi (pc := 2) (cs := [spO g ao ap ak at' au ae ay kp, potV g ap gr la kd pt wt mr (sumN gr 12) yr mn]) (ds := [spO g ao ap ak at' au ae ay kp, potV g ap gr la kd pt wt mr (sumN gr 12) yr mn]) (bs2 := [spO g ao ap ak at' au ae ay kp, potV g ap gr la kd pt wt mr (sumN gr 12) yr mn, potV g ak kgr kla kkd kpt kwt kmr (sumN kgr 12) kyr kmn, potV g at' tgr tla tkd tpt twt tmr (sumN tgr 12) tyr tmn, tpV g au (tbB tb) tn pl tk sr vl, shA g ae a0 a1 a2 a3, shV g a0 (nm 0) (wd 0) (sz 0), shV g a1 (nm 1) (wd 1) (sz 1), shV g a2 (nm 2) (wd 2) (sz 2), shV g a3 (nm 3) (wd 3) (sz 3), arr7 g ay tl]) C dX3_swap_2 ml_X3_86 mf_X3_isCook (c_isCook g ao ap ak at' au ae ay kp gr la kd pt wt mr yr mn c (by omega)) ⟨rfl, rfl, (Nat.le_of_ble_eq_true rfl), (Nat.le_of_ble_eq_true rfl)⟩ rfl rfl (Nat.le_of_ble_eq_true rfl) rfl rfl 0 rfl rfl rfl [0, 1] rfl rfl rfl rfl ?_
  refine g_if_eqB (pc := 5) (tgt := 21) C dX3_swap_5 (by decide) (fun c1 => ?_) (fun c1 => ?_)
  · refine g_aload_n (pc := 21) C dX3_swap_21 rfl ?_
    refine g_iconst (pc := 22) (v := nI 0) C dX3_swap_22 (by decide) ?_
    refine g_bxi (pc := 23) (cs := [spO g ao ap ak at' au ae ay kp, arr7 g ay tl]) (ds := [spO g ao ap ak at' au ae ay kp, arr7 g ay (updN tl 0 (tl 0 + 1))]) (bs2 := [spO g ao ap ak at' au ae ay kp, potV g ap gr la kd pt wt mr (sumN gr 12) yr mn, potV g ak kgr kla kkd kpt kwt kmr (sumN kgr 12) kyr kmn, potV g at' tgr tla tkd tpt twt tmr (sumN tgr 12) tyr tmn, tpV g au (tbB tb) tn pl tk sr vl, shA g ae a0 a1 a2 a3, shV g a0 (nm 0) (wd 0) (sz 0), shV g a1 (nm 1) (wd 1) (sz 1), shV g a2 (nm 2) (wd 2) (sz 2), shV g a3 (nm 3) (wd 3) (sz 3), arr7 g ay (updN tl 0 (tl 0 + 1))]) C dX3_swap_23 ml_X3_47 mf_X3_finding (c_finding g ao ap ak at' au ae ay kp tl 0 (by decide)) ⟨rfl, rfl, (Nat.le_of_ble_eq_true rfl), (Nat.le_of_ble_eq_true rfl)⟩ rfl rfl (Nat.le_of_ble_eq_true rfl) rfl rfl 0 rfl rfl rfl [0, 10] rfl rfl rfl rfl ?_
    have hf : f_swap ((mn, yr, gr, kd, pt, wt, mr), (ks, kp), (tb, tn), (wd, sz, nm), tl) c o = ((fd 0), ((mn, yr, gr, kd, pt, wt, mr), (ks, kp), (tb, tn), (wd, sz, nm), updN tl 0 (tl 0 + 1))) := by simp [f_swap, fnd, c1]
    exact g_iret C Rr dX3_swap_26 ⟨(la, ((kmn, kyr, kgr, kkd, kpt, kwt, kmr), kla), ((tmn, tyr, tgr, tkd, tpt, twt, tmr), tla), (pl, tk, sr, vl)), by rw [hf]; exact (fun h => hJ h), by rw [hf], by rw [hf]; rfl⟩ (spX_ad g (ao, ap, ak, at', au, ae, a0, a1, a2, a3, ay) ((mn, yr, gr, kd, pt, wt, mr), (ks, kp), (tb, tn), (wd, sz, nm), updN tl 0 (tl 0 + 1)) ((mn, yr, gr, kd, pt, wt, mr), (ks, kp), (tb, tn), (wd, sz, nm), tl) (la, ((kmn, kyr, kgr, kkd, kpt, kwt, kmr), kla), ((tmn, tyr, tgr, tkd, tpt, twt, tmr), tla), (pl, tk, sr, vl)) (la, ((kmn, kyr, kgr, kkd, kpt, kwt, kmr), kla), ((tmn, tyr, tgr, tkd, tpt, twt, tmr), tla), (pl, tk, sr, vl)))
  · obtain ⟨c_, hu_c, rfl⟩ := inR_cook c1
    have hc8 : c_ < 8 := by omega
    refine g_aload_n (pc := 8) C dX3_swap_8 rfl ?_
    refine g_iload_n (pc := 9) C dX3_swap_9 rfl ?_
    refine g_bxi (pc := 10) (cs := [spO g ao ap ak at' au ae ay kp, potV g ap gr la kd pt wt mr (sumN gr 12) yr mn]) (ds := [spO g ao ap ak at' au ae ay kp, potV g ap gr la kd pt wt mr (sumN gr 12) yr mn]) (bs2 := [spO g ao ap ak at' au ae ay kp, potV g ap gr la kd pt wt mr (sumN gr 12) yr mn, potV g ak kgr kla kkd kpt kwt kmr (sumN kgr 12) kyr kmn, potV g at' tgr tla tkd tpt twt tmr (sumN tgr 12) tyr tmn, tpV g au (tbB tb) tn pl tk sr vl, shA g ae a0 a1 a2 a3, shV g a0 (nm 0) (wd 0) (sz 0), shV g a1 (nm 1) (wd 1) (sz 1), shV g a2 (nm 2) (wd 2) (sz 2), shV g a3 (nm 3) (wd 3) (sz 3), arr7 g ay tl]) C dX3_swap_10 ml_X3_86 mf_X3_isCook (c_isCook g ao ap ak at' au ae ay kp gr la kd pt wt mr yr mn o (by omega)) ⟨rfl, rfl, (Nat.le_of_ble_eq_true rfl), (Nat.le_of_ble_eq_true rfl)⟩ rfl rfl (Nat.le_of_ble_eq_true rfl) rfl rfl 0 rfl rfl rfl [0, 1] rfl rfl rfl rfl ?_
    refine g_if_eqB (pc := 13) (tgt := 21) C dX3_swap_13 (by decide) (fun c2 => ?_) (fun c2 => ?_)
    · refine g_aload_n (pc := 21) C dX3_swap_21 rfl ?_
      refine g_iconst (pc := 22) (v := nI 0) C dX3_swap_22 (by decide) ?_
      refine g_bxi (pc := 23) (cs := [spO g ao ap ak at' au ae ay kp, arr7 g ay tl]) (ds := [spO g ao ap ak at' au ae ay kp, arr7 g ay (updN tl 0 (tl 0 + 1))]) (bs2 := [spO g ao ap ak at' au ae ay kp, potV g ap gr la kd pt wt mr (sumN gr 12) yr mn, potV g ak kgr kla kkd kpt kwt kmr (sumN kgr 12) kyr kmn, potV g at' tgr tla tkd tpt twt tmr (sumN tgr 12) tyr tmn, tpV g au (tbB tb) tn pl tk sr vl, shA g ae a0 a1 a2 a3, shV g a0 (nm 0) (wd 0) (sz 0), shV g a1 (nm 1) (wd 1) (sz 1), shV g a2 (nm 2) (wd 2) (sz 2), shV g a3 (nm 3) (wd 3) (sz 3), arr7 g ay (updN tl 0 (tl 0 + 1))]) C dX3_swap_23 ml_X3_47 mf_X3_finding (c_finding g ao ap ak at' au ae ay kp tl 0 (by decide)) ⟨rfl, rfl, (Nat.le_of_ble_eq_true rfl), (Nat.le_of_ble_eq_true rfl)⟩ rfl rfl (Nat.le_of_ble_eq_true rfl) rfl rfl 0 rfl rfl rfl [0, 10] rfl rfl rfl rfl ?_
      have hf : f_swap ((mn, yr, gr, kd, pt, wt, mr), (ks, kp), (tb, tn), (wd, sz, nm), tl) (nI c_) o = ((fd 0), ((mn, yr, gr, kd, pt, wt, mr), (ks, kp), (tb, tn), (wd, sz, nm), updN tl 0 (tl 0 + 1))) := by simp [f_swap, fnd, c1, c2, ix_nI (show c_ < 2 ^ 31 by omega)]
      exact g_iret C Rr dX3_swap_26 ⟨(la, ((kmn, kyr, kgr, kkd, kpt, kwt, kmr), kla), ((tmn, tyr, tgr, tkd, tpt, twt, tmr), tla), (pl, tk, sr, vl)), by rw [hf]; exact (fun h => hJ h), by rw [hf], by rw [hf]; rfl⟩ (spX_ad g (ao, ap, ak, at', au, ae, a0, a1, a2, a3, ay) ((mn, yr, gr, kd, pt, wt, mr), (ks, kp), (tb, tn), (wd, sz, nm), updN tl 0 (tl 0 + 1)) ((mn, yr, gr, kd, pt, wt, mr), (ks, kp), (tb, tn), (wd, sz, nm), tl) (la, ((kmn, kyr, kgr, kkd, kpt, kwt, kmr), kla), ((tmn, tyr, tgr, tkd, tpt, twt, tmr), tla), (pl, tk, sr, vl)) (la, ((kmn, kyr, kgr, kkd, kpt, kwt, kmr), kla), ((tmn, tyr, tgr, tkd, tpt, twt, tmr), tla), (pl, tk, sr, vl)))
    · obtain ⟨o_, hu_o, rfl⟩ := inR_cook c2
      have ho8 : o_ < 8 := by omega
      refine g_iload_n (pc := 16) C dX3_swap_16 rfl ?_
      refine g_iload_n (pc := 17) C dX3_swap_17 rfl ?_
      refine g_icmp_neN (pc := 18) (tgt := 27) C dX3_swap_18 (by decide) (by omega) (by omega) (fun c3 => ?_) (fun c3 => ?_)
      · refine g_aload_n (pc := 27) C dX3_swap_27 rfl ?_
        refine g_get3 (pc := 28) C dX3_swap_28 0 rfl 0 (by decide) fl_X3_10 rfl ?_
        refine g_iload_n (pc := 31) C dX3_swap_31 rfl ?_
        refine g_iload_n (pc := 32) C dX3_swap_32 rfl ?_
        refine g_bxn (pc := 33) (cs := [potV g ap gr la kd pt wt mr (sumN gr 12) yr mn]) (ds := [potV g ap gr la (exchN kd c_ o_) (exchN pt c_ o_) (exchN wt c_ o_) (exchN mr c_ o_) (sumN gr 12) yr mn]) (bs2 := [spO g ao ap ak at' au ae ay kp, potV g ap gr la (exchN kd c_ o_) (exchN pt c_ o_) (exchN wt c_ o_) (exchN mr c_ o_) (sumN gr 12) yr mn, potV g ak kgr kla kkd kpt kwt kmr (sumN kgr 12) kyr kmn, potV g at' tgr tla tkd tpt twt tmr (sumN tgr 12) tyr tmn, tpV g au (tbB tb) tn pl tk sr vl, shA g ae a0 a1 a2 a3, shV g a0 (nm 0) (wd 0) (sz 0), shV g a1 (nm 1) (wd 1) (sz 1), shV g a2 (nm 2) (wd 2) (sz 2), shV g a3 (nm 3) (wd 3) (sz 3), arr7 g ay tl]) C dX3_swap_33 ml_X3_118 mf_X0_exchange (c_exchange g ap gr la kd pt wt mr (sumN gr 12) yr mn c_ o_ (by omega) (by omega)) ⟨rfl, rfl, (Nat.le_of_ble_eq_true rfl), (Nat.le_of_ble_eq_true rfl)⟩ rfl rfl (Nat.le_of_ble_eq_true rfl) (fl1 _) (fl1 _) 0 rfl rfl rfl [1] rfl rfl rfl rfl ?_
        refine g_iconst (pc := 36) (v := nI 1) C dX3_swap_36 (by decide) ?_
        have hf : f_swap ((mn, yr, gr, kd, pt, wt, mr), (ks, kp), (tb, tn), (wd, sz, nm), tl) (nI c_) (nI o_) = ((nI 1), ((mn, yr, gr, (exchN kd c_ o_), (exchN pt c_ o_), (exchN wt c_ o_), (exchN mr c_ o_)), (ks, kp), (tb, tn), (wd, sz, nm), tl)) := by simp [f_swap, fnd, c1, c2, c3, ix_nI (show c_ < 2 ^ 31 by omega), ix_nI (show o_ < 2 ^ 31 by omega), nI_eq (show c_ < 2 ^ 31 by omega) (show o_ < 2 ^ 31 by omega)]
        exact g_iret C Rr dX3_swap_37 ⟨(la, ((kmn, kyr, kgr, kkd, kpt, kwt, kmr), kla), ((tmn, tyr, tgr, tkd, tpt, twt, tmr), tla), (pl, tk, sr, vl)), by rw [hf]; exact (fun h => hJ h), by rw [hf], by rw [hf]; rfl⟩ (spX_ad g (ao, ap, ak, at', au, ae, a0, a1, a2, a3, ay) ((mn, yr, gr, (exchN kd c_ o_), (exchN pt c_ o_), (exchN wt c_ o_), (exchN mr c_ o_)), (ks, kp), (tb, tn), (wd, sz, nm), tl) ((mn, yr, gr, kd, pt, wt, mr), (ks, kp), (tb, tn), (wd, sz, nm), tl) (la, ((kmn, kyr, kgr, kkd, kpt, kwt, kmr), kla), ((tmn, tyr, tgr, tkd, tpt, twt, tmr), tla), (pl, tk, sr, vl)) (la, ((kmn, kyr, kgr, kkd, kpt, kwt, kmr), kla), ((tmn, tyr, tgr, tkd, tpt, twt, tmr), tla), (pl, tk, sr, vl)))
      · refine g_aload_n (pc := 21) C dX3_swap_21 rfl ?_
        refine g_iconst (pc := 22) (v := nI 0) C dX3_swap_22 (by decide) ?_
        refine g_bxi (pc := 23) (cs := [spO g ao ap ak at' au ae ay kp, arr7 g ay tl]) (ds := [spO g ao ap ak at' au ae ay kp, arr7 g ay (updN tl 0 (tl 0 + 1))]) (bs2 := [spO g ao ap ak at' au ae ay kp, potV g ap gr la kd pt wt mr (sumN gr 12) yr mn, potV g ak kgr kla kkd kpt kwt kmr (sumN kgr 12) kyr kmn, potV g at' tgr tla tkd tpt twt tmr (sumN tgr 12) tyr tmn, tpV g au (tbB tb) tn pl tk sr vl, shA g ae a0 a1 a2 a3, shV g a0 (nm 0) (wd 0) (sz 0), shV g a1 (nm 1) (wd 1) (sz 1), shV g a2 (nm 2) (wd 2) (sz 2), shV g a3 (nm 3) (wd 3) (sz 3), arr7 g ay (updN tl 0 (tl 0 + 1))]) C dX3_swap_23 ml_X3_47 mf_X3_finding (c_finding g ao ap ak at' au ae ay kp tl 0 (by decide)) ⟨rfl, rfl, (Nat.le_of_ble_eq_true rfl), (Nat.le_of_ble_eq_true rfl)⟩ rfl rfl (Nat.le_of_ble_eq_true rfl) rfl rfl 0 rfl rfl rfl [0, 10] rfl rfl rfl rfl ?_
        have hf : f_swap ((mn, yr, gr, kd, pt, wt, mr), (ks, kp), (tb, tn), (wd, sz, nm), tl) (nI c_) (nI o_) = ((fd 0), ((mn, yr, gr, kd, pt, wt, mr), (ks, kp), (tb, tn), (wd, sz, nm), updN tl 0 (tl 0 + 1))) := by simp [f_swap, fnd, c1, c2, c3, ix_nI (show c_ < 2 ^ 31 by omega), ix_nI (show o_ < 2 ^ 31 by omega), nI_eq (show c_ < 2 ^ 31 by omega) (show o_ < 2 ^ 31 by omega)]
        exact g_iret C Rr dX3_swap_26 ⟨(la, ((kmn, kyr, kgr, kkd, kpt, kwt, kmr), kla), ((tmn, tyr, tgr, tkd, tpt, twt, tmr), tla), (pl, tk, sr, vl)), by rw [hf]; exact (fun h => hJ h), by rw [hf], by rw [hf]; rfl⟩ (spX_ad g (ao, ap, ak, at', au, ae, a0, a1, a2, a3, ay) ((mn, yr, gr, kd, pt, wt, mr), (ks, kp), (tb, tn), (wd, sz, nm), updN tl 0 (tl 0 + 1)) ((mn, yr, gr, kd, pt, wt, mr), (ks, kp), (tb, tn), (wd, sz, nm), tl) (la, ((kmn, kyr, kgr, kkd, kpt, kwt, kmr), kla), ((tmn, tyr, tgr, tkd, tpt, twt, tmr), tla), (pl, tk, sr, vl)) (la, ((kmn, kyr, kgr, kkd, kpt, kwt, kmr), kla), ((tmn, tyr, tgr, tkd, tpt, twt, tmr), tla), (pl, tk, sr, vl)))
set_option maxHeartbeats 400000 in
set_option maxRecDepth 100000 in
theorem x_years (g : Gl) (A : Ac) (X : Xs) (J : Jc) (n : Int32) (hX : InvX X) (hJ : OkJ X J) : Ct g yX3_years cX3_years 2 (some .int) (rk 5 108) [.ref (A.1 0), .int n] (spX g A X J) (fun r w2 => ∃ J2, OkJ (f_years X n).2 J2 ∧ r = some (.int (f_years X n).1) ∧ w2 = spX g A (f_years X n).2 J2) := by
  obtain ⟨ao, ap, ak, at', au, ae, a0, a1, a2, a3, ay⟩ := A
  obtain ⟨⟨mn, yr, gr, kd, pt, wt, mr⟩, ⟨ks, kp⟩, ⟨tb, tn⟩, ⟨wd, sz, nm⟩, tl⟩ := X
  obtain ⟨la, ⟨⟨kmn, kyr, kgr, kkd, kpt, kwt, kmr⟩, kla⟩, ⟨⟨tmn, tyr, tgr, tkd, tpt, twt, tmr⟩, tla⟩, ⟨pl, tk, sr, vl⟩⟩ := J
  obtain ⟨hB, hy, hkp, htb, htn, hwd, hsz⟩ := id hX
  obtain ⟨-, hTle, hgr, hkd, hpt, hwt, hmr, hyr, hmn⟩ := id hB
  refine ct_of (by decide) (Nat.le_of_ble_eq_true rfl) ?_
  intro φ C0 Rr
  have C : Cx φ g cX3_years 2 RX3 (rk 5 108) := C0
  show Go φ g 2 0 [(0, .ref (ao 0)), (1, .int n)] [] (fl [spO g ao ap ak at' au ae ay kp, potV g ap gr la kd pt wt mr (sumN gr 12) yr mn, potV g ak kgr kla kkd kpt kwt kmr (sumN kgr 12) kyr kmn, potV g at' tgr tla tkd tpt twt tmr (sumN tgr 12) tyr tmn, tpV g au (tbB tb) tn pl tk sr vl, shA g ae a0 a1 a2 a3, shV g a0 (nm 0) (wd 0) (sz 0), shV g a1 (nm 1) (wd 1) (sz 1), shV g a2 (nm 2) (wd 2) (sz 2), shV g a3 (nm 3) (wd 3) (sz 3), arr7 g ay tl])
  refine g_iload_n (pc := 0) C dX3_years_0 rfl ?_
  refine g_iconst (pc := 1) (v := nI 1) C dX3_years_1 (by decide) ?_
  refine g_bipush (pc := 2) (v := nI 100) C dX3_years_2 (by decide) ?_
  refine g_s0i (pc := 4) C dX3_years_4 ml_X3_52 mf_X3_isWithin (c_isWithin g n (nI 1) (nI 100)) ⟨rfl, rfl, (Nat.le_of_ble_eq_true rfl), (Nat.le_of_ble_eq_true rfl)⟩ rfl rfl (Nat.le_of_ble_eq_true rfl) ?_
  refine g_top (y := bI (inR n 1 100 = true)) (bI_iff (isW_iff (by decide) (by decide))) ?_
  refine g_if_neB (pc := 7) (tgt := 16) C dX3_years_7 (by decide) (fun c1 => ?_) (fun c1 => ?_)
  · obtain ⟨n_, hl_n, hu_n, rfl⟩ := inR_nat (lo := 1) (hi := 100) c1
    refine g_aload_n (pc := 16) C dX3_years_16 rfl ?_
    refine g_get3 (pc := 17) C dX3_years_17 0 rfl 0 (by decide) fl_X3_10 rfl ?_
    refine g_get0 (pc := 20) C dX3_years_20 1 rfl 7 (by decide) fl_X3_121 rfl ?_
    refine g_iload_n (pc := 23) C dX3_years_23 rfl ?_
    refine g_iaddN (pc := 24) C dX3_years_24 ?_
    refine g_sipush (pc := 25) (v := nI 9999) C dX3_years_25 (by decide) ?_
    refine g_icmp_leN (pc := 28) (tgt := 37) C dX3_years_28 (by decide) (by omega) (by omega) (fun c2 => ?_) (fun c2 => ?_)
    · refine g_aload_n (pc := 37) C dX3_years_37 rfl ?_
      refine g_get3 (pc := 38) C dX3_years_38 0 rfl 0 (by decide) fl_X3_10 rfl ?_
      refine g_iload_n (pc := 41) C dX3_years_41 rfl ?_
      refine g_bV (pc := 42) (cs := [potV g ap gr la kd pt wt mr (sumN gr 12) yr mn]) (rest := []) C dX3_years_42 ml_X3_125 mf_X0_goOn (c_goOn g ap gr la kd pt wt mr yr mn n_ hB (by omega)) ⟨rfl, rfl, (Nat.le_of_ble_eq_true rfl), (Nat.le_of_ble_eq_true rfl)⟩ rfl rfl (Nat.le_of_ble_eq_true rfl) (fl1 _) 0 rfl rfl rfl [1] rfl rfl ?_
      intro r9 w9 h9
      obtain ⟨f_3, rfl, rfl⟩ := h9
      refine ⟨[potV g ap (yearsG kd pt wt mr mn gr yr n_) f_3 kd pt wt mr (sumN (yearsG kd pt wt mr mn gr yr n_) 12) (yr + n_) mn], (fl1 _), rfl, ?_⟩
      show Go φ g 2 45 [(0, .ref (ao 0)), (1, .int (nI n_))] [] (fl [spO g ao ap ak at' au ae ay kp, potV g ap (yearsG kd pt wt mr mn gr yr n_) f_3 kd pt wt mr (sumN (yearsG kd pt wt mr mn gr yr n_) 12) (yr + n_) mn, potV g ak kgr kla kkd kpt kwt kmr (sumN kgr 12) kyr kmn, potV g at' tgr tla tkd tpt twt tmr (sumN tgr 12) tyr tmn, tpV g au (tbB tb) tn pl tk sr vl, shA g ae a0 a1 a2 a3, shV g a0 (nm 0) (wd 0) (sz 0), shV g a1 (nm 1) (wd 1) (sz 1), shV g a2 (nm 2) (wd 2) (sz 2), shV g a3 (nm 3) (wd 3) (sz 3), arr7 g ay tl])
      refine g_aload_n (pc := 45) C dX3_years_45 rfl ?_
      refine g_get3 (pc := 46) C dX3_years_46 0 rfl 0 (by decide) fl_X3_10 rfl ?_
      refine g_get0 (pc := 49) C dX3_years_49 1 rfl 6 (by decide) fl_X3_129 rfl ?_
      have hf : f_years ((mn, yr, gr, kd, pt, wt, mr), (ks, kp), (tb, tn), (wd, sz, nm), tl) (nI n_) = ((nI (sumN (yearsG kd pt wt mr mn gr yr n_) 12)), ((mn, (yr + n_), (yearsG kd pt wt mr mn gr yr n_), kd, pt, wt, mr), (ks, kp), (tb, tn), (wd, sz, nm), tl)) := by simp [f_years, fnd, c1, c2, Nat.not_lt.mpr c2, ix_nI (show n_ < 2 ^ 31 by omega)]
      exact g_iret C Rr dX3_years_52 ⟨(f_3, ((kmn, kyr, kgr, kkd, kpt, kwt, kmr), kla), ((tmn, tyr, tgr, tkd, tpt, twt, tmr), tla), (pl, tk, sr, vl)), by rw [hf]; exact (fun h => hJ h), by rw [hf], by rw [hf]; rfl⟩ (spX_ad g (ao, ap, ak, at', au, ae, a0, a1, a2, a3, ay) ((mn, (yr + n_), (yearsG kd pt wt mr mn gr yr n_), kd, pt, wt, mr), (ks, kp), (tb, tn), (wd, sz, nm), tl) ((mn, yr, gr, kd, pt, wt, mr), (ks, kp), (tb, tn), (wd, sz, nm), tl) (f_3, ((kmn, kyr, kgr, kkd, kpt, kwt, kmr), kla), ((tmn, tyr, tgr, tkd, tpt, twt, tmr), tla), (pl, tk, sr, vl)) (la, ((kmn, kyr, kgr, kkd, kpt, kwt, kmr), kla), ((tmn, tyr, tgr, tkd, tpt, twt, tmr), tla), (pl, tk, sr, vl)))
    · refine g_aload_n (pc := 31) C dX3_years_31 rfl ?_
      refine g_iconst (pc := 32) (v := nI 4) C dX3_years_32 (by decide) ?_
      refine g_bxi (pc := 33) (cs := [spO g ao ap ak at' au ae ay kp, arr7 g ay tl]) (ds := [spO g ao ap ak at' au ae ay kp, arr7 g ay (updN tl 4 (tl 4 + 1))]) (bs2 := [spO g ao ap ak at' au ae ay kp, potV g ap gr la kd pt wt mr (sumN gr 12) yr mn, potV g ak kgr kla kkd kpt kwt kmr (sumN kgr 12) kyr kmn, potV g at' tgr tla tkd tpt twt tmr (sumN tgr 12) tyr tmn, tpV g au (tbB tb) tn pl tk sr vl, shA g ae a0 a1 a2 a3, shV g a0 (nm 0) (wd 0) (sz 0), shV g a1 (nm 1) (wd 1) (sz 1), shV g a2 (nm 2) (wd 2) (sz 2), shV g a3 (nm 3) (wd 3) (sz 3), arr7 g ay (updN tl 4 (tl 4 + 1))]) C dX3_years_33 ml_X3_47 mf_X3_finding (c_finding g ao ap ak at' au ae ay kp tl 4 (by decide)) ⟨rfl, rfl, (Nat.le_of_ble_eq_true rfl), (Nat.le_of_ble_eq_true rfl)⟩ rfl rfl (Nat.le_of_ble_eq_true rfl) rfl rfl 0 rfl rfl rfl [0, 10] rfl rfl rfl rfl ?_
      have hf : f_years ((mn, yr, gr, kd, pt, wt, mr), (ks, kp), (tb, tn), (wd, sz, nm), tl) (nI n_) = ((fd 4), ((mn, yr, gr, kd, pt, wt, mr), (ks, kp), (tb, tn), (wd, sz, nm), updN tl 4 (tl 4 + 1))) := by simp [f_years, fnd, c1, c2, Nat.not_le.mpr c2, ix_nI (show n_ < 2 ^ 31 by omega)]
      exact g_iret C Rr dX3_years_36 ⟨(la, ((kmn, kyr, kgr, kkd, kpt, kwt, kmr), kla), ((tmn, tyr, tgr, tkd, tpt, twt, tmr), tla), (pl, tk, sr, vl)), by rw [hf]; exact (fun h => hJ h), by rw [hf], by rw [hf]; rfl⟩ (spX_ad g (ao, ap, ak, at', au, ae, a0, a1, a2, a3, ay) ((mn, yr, gr, kd, pt, wt, mr), (ks, kp), (tb, tn), (wd, sz, nm), updN tl 4 (tl 4 + 1)) ((mn, yr, gr, kd, pt, wt, mr), (ks, kp), (tb, tn), (wd, sz, nm), tl) (la, ((kmn, kyr, kgr, kkd, kpt, kwt, kmr), kla), ((tmn, tyr, tgr, tkd, tpt, twt, tmr), tla), (pl, tk, sr, vl)) (la, ((kmn, kyr, kgr, kkd, kpt, kwt, kmr), kla), ((tmn, tyr, tgr, tkd, tpt, twt, tmr), tla), (pl, tk, sr, vl)))
  · refine g_aload_n (pc := 10) C dX3_years_10 rfl ?_
    refine g_iconst (pc := 11) (v := nI 0) C dX3_years_11 (by decide) ?_
    refine g_bxi (pc := 12) (cs := [spO g ao ap ak at' au ae ay kp, arr7 g ay tl]) (ds := [spO g ao ap ak at' au ae ay kp, arr7 g ay (updN tl 0 (tl 0 + 1))]) (bs2 := [spO g ao ap ak at' au ae ay kp, potV g ap gr la kd pt wt mr (sumN gr 12) yr mn, potV g ak kgr kla kkd kpt kwt kmr (sumN kgr 12) kyr kmn, potV g at' tgr tla tkd tpt twt tmr (sumN tgr 12) tyr tmn, tpV g au (tbB tb) tn pl tk sr vl, shA g ae a0 a1 a2 a3, shV g a0 (nm 0) (wd 0) (sz 0), shV g a1 (nm 1) (wd 1) (sz 1), shV g a2 (nm 2) (wd 2) (sz 2), shV g a3 (nm 3) (wd 3) (sz 3), arr7 g ay (updN tl 0 (tl 0 + 1))]) C dX3_years_12 ml_X3_47 mf_X3_finding (c_finding g ao ap ak at' au ae ay kp tl 0 (by decide)) ⟨rfl, rfl, (Nat.le_of_ble_eq_true rfl), (Nat.le_of_ble_eq_true rfl)⟩ rfl rfl (Nat.le_of_ble_eq_true rfl) rfl rfl 0 rfl rfl rfl [0, 10] rfl rfl rfl rfl ?_
    have hf : f_years ((mn, yr, gr, kd, pt, wt, mr), (ks, kp), (tb, tn), (wd, sz, nm), tl) n = ((fd 0), ((mn, yr, gr, kd, pt, wt, mr), (ks, kp), (tb, tn), (wd, sz, nm), updN tl 0 (tl 0 + 1))) := by simp [f_years, fnd, c1]
    exact g_iret C Rr dX3_years_15 ⟨(la, ((kmn, kyr, kgr, kkd, kpt, kwt, kmr), kla), ((tmn, tyr, tgr, tkd, tpt, twt, tmr), tla), (pl, tk, sr, vl)), by rw [hf]; exact (fun h => hJ h), by rw [hf], by rw [hf]; rfl⟩ (spX_ad g (ao, ap, ak, at', au, ae, a0, a1, a2, a3, ay) ((mn, yr, gr, kd, pt, wt, mr), (ks, kp), (tb, tn), (wd, sz, nm), updN tl 0 (tl 0 + 1)) ((mn, yr, gr, kd, pt, wt, mr), (ks, kp), (tb, tn), (wd, sz, nm), tl) (la, ((kmn, kyr, kgr, kkd, kpt, kwt, kmr), kla), ((tmn, tyr, tgr, tkd, tpt, twt, tmr), tla), (pl, tk, sr, vl)) (la, ((kmn, kyr, kgr, kkd, kpt, kwt, kmr), kla), ((tmn, tyr, tgr, tkd, tpt, twt, tmr), tla), (pl, tk, sr, vl)))
set_option maxHeartbeats 400000 in
set_option maxRecDepth 100000 in
theorem x_on (g : Gl) (A : Ac) (X : Xs) (J : Jc) (p : Int32) (n : Int32) (w : Int32) (hX : InvX X) (hJ : OkJ X J) : Ct g yX3_on cX3_on 4 (some .int) (rk 5 108) [.ref (A.1 0), .int p, .int n, .int w] (spX g A X J) (fun r w2 => ∃ J2, OkJ (f_on X p n w).2 J2 ∧ r = some (.int (f_on X p n w).1) ∧ w2 = spX g A (f_on X p n w).2 J2) := by
  obtain ⟨ao, ap, ak, at', au, ae, a0, a1, a2, a3, ay⟩ := A
  obtain ⟨⟨mn, yr, gr, kd, pt, wt, mr⟩, ⟨ks, kp⟩, ⟨tb, tn⟩, ⟨wd, sz, nm⟩, tl⟩ := X
  obtain ⟨la, ⟨⟨kmn, kyr, kgr, kkd, kpt, kwt, kmr⟩, kla⟩, ⟨⟨tmn, tyr, tgr, tkd, tpt, twt, tmr⟩, tla⟩, ⟨pl, tk, sr, vl⟩⟩ := J
  obtain ⟨hB, hy, hkp, htb, htn, hwd, hsz⟩ := id hX
  obtain ⟨-, hTle, hgr, hkd, hpt, hwt, hmr, hyr, hmn⟩ := id hB
  refine ct_of (by decide) (Nat.le_of_ble_eq_true rfl) ?_
  intro φ C0 Rr
  have C : Cx φ g cX3_on 4 RX3 (rk 5 108) := C0
  show Go φ g 4 0 [(0, .ref (ao 0)), (1, .int p), (2, .int n), (3, .int w)] [] (fl [spO g ao ap ak at' au ae ay kp, potV g ap gr la kd pt wt mr (sumN gr 12) yr mn, potV g ak kgr kla kkd kpt kwt kmr (sumN kgr 12) kyr kmn, potV g at' tgr tla tkd tpt twt tmr (sumN tgr 12) tyr tmn, tpV g au (tbB tb) tn pl tk sr vl, shA g ae a0 a1 a2 a3, shV g a0 (nm 0) (wd 0) (sz 0), shV g a1 (nm 1) (wd 1) (sz 1), shV g a2 (nm 2) (wd 2) (sz 2), shV g a3 (nm 3) (wd 3) (sz 3), arr7 g ay tl])
  refine g_iload_n (pc := 0) C dX3_on_0 rfl ?_
  refine g_s0i (pc := 1) C dX3_on_1 ml_X3_40 mf_X3_isPart (c_isPart g p) ⟨rfl, rfl, (Nat.le_of_ble_eq_true rfl), (Nat.le_of_ble_eq_true rfl)⟩ rfl rfl (Nat.le_of_ble_eq_true rfl) ?_
  refine g_if_eqB (pc := 4) (tgt := 26) C dX3_on_4 (by decide) (fun c1 => ?_) (fun c1 => ?_)
  · refine g_aload_n (pc := 26) C dX3_on_26 rfl ?_
    refine g_iconst (pc := 27) (v := nI 0) C dX3_on_27 (by decide) ?_
    refine g_bxi (pc := 28) (cs := [spO g ao ap ak at' au ae ay kp, arr7 g ay tl]) (ds := [spO g ao ap ak at' au ae ay kp, arr7 g ay (updN tl 0 (tl 0 + 1))]) (bs2 := [spO g ao ap ak at' au ae ay kp, potV g ap gr la kd pt wt mr (sumN gr 12) yr mn, potV g ak kgr kla kkd kpt kwt kmr (sumN kgr 12) kyr kmn, potV g at' tgr tla tkd tpt twt tmr (sumN tgr 12) tyr tmn, tpV g au (tbB tb) tn pl tk sr vl, shA g ae a0 a1 a2 a3, shV g a0 (nm 0) (wd 0) (sz 0), shV g a1 (nm 1) (wd 1) (sz 1), shV g a2 (nm 2) (wd 2) (sz 2), shV g a3 (nm 3) (wd 3) (sz 3), arr7 g ay (updN tl 0 (tl 0 + 1))]) C dX3_on_28 ml_X3_47 mf_X3_finding (c_finding g ao ap ak at' au ae ay kp tl 0 (by decide)) ⟨rfl, rfl, (Nat.le_of_ble_eq_true rfl), (Nat.le_of_ble_eq_true rfl)⟩ rfl rfl (Nat.le_of_ble_eq_true rfl) rfl rfl 0 rfl rfl rfl [0, 10] rfl rfl rfl rfl ?_
    have hf : f_on ((mn, yr, gr, kd, pt, wt, mr), (ks, kp), (tb, tn), (wd, sz, nm), tl) p n w = ((fd 0), ((mn, yr, gr, kd, pt, wt, mr), (ks, kp), (tb, tn), (wd, sz, nm), updN tl 0 (tl 0 + 1))) := by first | (simp [f_on, fnd, c1]; done) | (simp [f_on, fnd, ]; simp [c1])
    exact g_iret C Rr dX3_on_31 ⟨(la, ((kmn, kyr, kgr, kkd, kpt, kwt, kmr), kla), ((tmn, tyr, tgr, tkd, tpt, twt, tmr), tla), (pl, tk, sr, vl)), by rw [hf]; exact (fun h => hJ h), by rw [hf], by rw [hf]; rfl⟩ (spX_ad g (ao, ap, ak, at', au, ae, a0, a1, a2, a3, ay) ((mn, yr, gr, kd, pt, wt, mr), (ks, kp), (tb, tn), (wd, sz, nm), updN tl 0 (tl 0 + 1)) ((mn, yr, gr, kd, pt, wt, mr), (ks, kp), (tb, tn), (wd, sz, nm), tl) (la, ((kmn, kyr, kgr, kkd, kpt, kwt, kmr), kla), ((tmn, tyr, tgr, tkd, tpt, twt, tmr), tla), (pl, tk, sr, vl)) (la, ((kmn, kyr, kgr, kkd, kpt, kwt, kmr), kla), ((tmn, tyr, tgr, tkd, tpt, twt, tmr), tla), (pl, tk, sr, vl)))
  · obtain ⟨p_, hl_p, hu_p, rfl⟩ := inR_nat (lo := 0) (hi := 11) c1
    refine g_iload_n (pc := 7) C dX3_on_7 rfl ?_
    refine g_iconst (pc := 8) (v := nI 0) C dX3_on_8 (by decide) ?_
    refine g_bipush (pc := 9) (v := nI 100) C dX3_on_9 (by decide) ?_
    refine g_s0i (pc := 11) C dX3_on_11 ml_X3_52 mf_X3_isWithin (c_isWithin g n (nI 0) (nI 100)) ⟨rfl, rfl, (Nat.le_of_ble_eq_true rfl), (Nat.le_of_ble_eq_true rfl)⟩ rfl rfl (Nat.le_of_ble_eq_true rfl) ?_
    refine g_top (y := bI (inR n 0 100 = true)) (bI_iff (isW_iff (by decide) (by decide))) ?_
    refine g_if_eqB (pc := 14) (tgt := 26) C dX3_on_14 (by decide) (fun c2 => ?_) (fun c2 => ?_)
    · refine g_aload_n (pc := 26) C dX3_on_26 rfl ?_
      refine g_iconst (pc := 27) (v := nI 0) C dX3_on_27 (by decide) ?_
      refine g_bxi (pc := 28) (cs := [spO g ao ap ak at' au ae ay kp, arr7 g ay tl]) (ds := [spO g ao ap ak at' au ae ay kp, arr7 g ay (updN tl 0 (tl 0 + 1))]) (bs2 := [spO g ao ap ak at' au ae ay kp, potV g ap gr la kd pt wt mr (sumN gr 12) yr mn, potV g ak kgr kla kkd kpt kwt kmr (sumN kgr 12) kyr kmn, potV g at' tgr tla tkd tpt twt tmr (sumN tgr 12) tyr tmn, tpV g au (tbB tb) tn pl tk sr vl, shA g ae a0 a1 a2 a3, shV g a0 (nm 0) (wd 0) (sz 0), shV g a1 (nm 1) (wd 1) (sz 1), shV g a2 (nm 2) (wd 2) (sz 2), shV g a3 (nm 3) (wd 3) (sz 3), arr7 g ay (updN tl 0 (tl 0 + 1))]) C dX3_on_28 ml_X3_47 mf_X3_finding (c_finding g ao ap ak at' au ae ay kp tl 0 (by decide)) ⟨rfl, rfl, (Nat.le_of_ble_eq_true rfl), (Nat.le_of_ble_eq_true rfl)⟩ rfl rfl (Nat.le_of_ble_eq_true rfl) rfl rfl 0 rfl rfl rfl [0, 10] rfl rfl rfl rfl ?_
      have hf : f_on ((mn, yr, gr, kd, pt, wt, mr), (ks, kp), (tb, tn), (wd, sz, nm), tl) (nI p_) n w = ((fd 0), ((mn, yr, gr, kd, pt, wt, mr), (ks, kp), (tb, tn), (wd, sz, nm), updN tl 0 (tl 0 + 1))) := by first | (simp [f_on, fnd, c1, c2, ix_nI (show p_ < 2 ^ 31 by omega)]; done) | (simp [f_on, fnd, c1, ix_nI (show p_ < 2 ^ 31 by omega)]; simp [c2])
      exact g_iret C Rr dX3_on_31 ⟨(la, ((kmn, kyr, kgr, kkd, kpt, kwt, kmr), kla), ((tmn, tyr, tgr, tkd, tpt, twt, tmr), tla), (pl, tk, sr, vl)), by rw [hf]; exact (fun h => hJ h), by rw [hf], by rw [hf]; rfl⟩ (spX_ad g (ao, ap, ak, at', au, ae, a0, a1, a2, a3, ay) ((mn, yr, gr, kd, pt, wt, mr), (ks, kp), (tb, tn), (wd, sz, nm), updN tl 0 (tl 0 + 1)) ((mn, yr, gr, kd, pt, wt, mr), (ks, kp), (tb, tn), (wd, sz, nm), tl) (la, ((kmn, kyr, kgr, kkd, kpt, kwt, kmr), kla), ((tmn, tyr, tgr, tkd, tpt, twt, tmr), tla), (pl, tk, sr, vl)) (la, ((kmn, kyr, kgr, kkd, kpt, kwt, kmr), kla), ((tmn, tyr, tgr, tkd, tpt, twt, tmr), tla), (pl, tk, sr, vl)))
    · obtain ⟨n_, hl_n, hu_n, rfl⟩ := inR_nat (lo := 0) (hi := 100) c2
      refine g_iload_n (pc := 17) C dX3_on_17 rfl ?_
      refine g_iconst (pc := 18) (v := nI 0) C dX3_on_18 (by decide) ?_
      refine g_iconst (pc := 19) (v := nI 1) C dX3_on_19 (by decide) ?_
      refine g_s0i (pc := 20) C dX3_on_20 ml_X3_52 mf_X3_isWithin (c_isWithin g w (nI 0) (nI 1)) ⟨rfl, rfl, (Nat.le_of_ble_eq_true rfl), (Nat.le_of_ble_eq_true rfl)⟩ rfl rfl (Nat.le_of_ble_eq_true rfl) ?_
      refine g_top (y := bI (inR w 0 1 = true)) (bI_iff (isW_iff (by decide) (by decide))) ?_
      refine g_if_neB (pc := 23) (tgt := 32) C dX3_on_23 (by decide) (fun c3 => ?_) (fun c3 => ?_)
      · obtain ⟨w_, hl_w, hu_w, rfl⟩ := inR_nat (lo := 0) (hi := 1) c3
        refine g_aload_n (pc := 32) C dX3_on_32 rfl ?_
        refine g_bxn (pc := 33) (cs := [spO g ao ap ak at' au ae ay kp, potV g ap gr la kd pt wt mr (sumN gr 12) yr mn, potV g at' tgr tla tkd tpt twt tmr (sumN tgr 12) tyr tmn]) (ds := [spO g ao ap ak at' au ae ay kp, potV g ap gr la kd pt wt mr (sumN gr 12) yr mn, potV g at' gr tla kd pt wt mr (sumN gr 12) yr mn]) (bs2 := [spO g ao ap ak at' au ae ay kp, potV g ap gr la kd pt wt mr (sumN gr 12) yr mn, potV g ak kgr kla kkd kpt kwt kmr (sumN kgr 12) kyr kmn, potV g at' gr tla kd pt wt mr (sumN gr 12) yr mn, tpV g au (tbB tb) tn pl tk sr vl, shA g ae a0 a1 a2 a3, shV g a0 (nm 0) (wd 0) (sz 0), shV g a1 (nm 1) (wd 1) (sz 1), shV g a2 (nm 2) (wd 2) (sz 2), shV g a3 (nm 3) (wd 3) (sz 3), arr7 g ay tl]) C dX3_on_33 ml_X3_145 mf_X3_startTrial (c_startTrial g ao ap ak at' au ae ay kp gr la kd pt wt mr yr mn tgr tla tkd tpt twt tmr tyr tmn) ⟨rfl, rfl, (Nat.le_of_ble_eq_true rfl), (Nat.le_of_ble_eq_true rfl)⟩ rfl rfl (Nat.le_of_ble_eq_true rfl) rfl rfl 0 rfl rfl rfl [0, 1, 3] rfl rfl rfl rfl ?_
        refine g_aload_n (pc := 36) C dX3_on_36 rfl ?_
        refine g_get3 (pc := 37) C dX3_on_37 0 rfl 2 (by decide) fl_X3_19 rfl ?_
        refine g_iload_n (pc := 40) C dX3_on_40 rfl ?_
        refine g_bV (pc := 41) (cs := [potV g at' gr tla kd pt wt mr (sumN gr 12) yr mn]) (rest := []) C dX3_on_41 ml_X3_125 mf_X0_goOn (c_goOn g at' gr tla kd pt wt mr yr mn n_ hB (by omega)) ⟨rfl, rfl, (Nat.le_of_ble_eq_true rfl), (Nat.le_of_ble_eq_true rfl)⟩ rfl rfl (Nat.le_of_ble_eq_true rfl) (fl1 _) 0 rfl rfl rfl [3] rfl rfl ?_
        intro r9 w9 h9
        obtain ⟨f_4, rfl, rfl⟩ := h9
        refine ⟨[potV g at' (yearsG kd pt wt mr mn gr yr n_) f_4 kd pt wt mr (sumN (yearsG kd pt wt mr mn gr yr n_) 12) (yr + n_) mn], (fl1 _), rfl, ?_⟩
        show Go φ g 4 44 [(0, .ref (ao 0)), (1, .int (nI p_)), (2, .int (nI n_)), (3, .int (nI w_))] [] (fl [spO g ao ap ak at' au ae ay kp, potV g ap gr la kd pt wt mr (sumN gr 12) yr mn, potV g ak kgr kla kkd kpt kwt kmr (sumN kgr 12) kyr kmn, potV g at' (yearsG kd pt wt mr mn gr yr n_) f_4 kd pt wt mr (sumN (yearsG kd pt wt mr mn gr yr n_) 12) (yr + n_) mn, tpV g au (tbB tb) tn pl tk sr vl, shA g ae a0 a1 a2 a3, shV g a0 (nm 0) (wd 0) (sz 0), shV g a1 (nm 1) (wd 1) (sz 1), shV g a2 (nm 2) (wd 2) (sz 2), shV g a3 (nm 3) (wd 3) (sz 3), arr7 g ay tl])
        refine g_iload_n (pc := 44) C dX3_on_44 rfl ?_
        refine g_if_neN (pc := 45) (tgt := 60) C dX3_on_45 (by decide) (by omega) (fun c5 => ?_) (fun c5 => ?_)
        · refine g_aload_n (pc := 60) C dX3_on_60 rfl ?_
          refine g_get3 (pc := 61) C dX3_on_61 0 rfl 2 (by decide) fl_X3_19 rfl ?_
          refine g_iload_n (pc := 64) C dX3_on_64 rfl ?_
          refine g_bxi (pc := 65) (cs := [potV g at' (yearsG kd pt wt mr mn gr yr n_) f_4 kd pt wt mr (sumN (yearsG kd pt wt mr mn gr yr n_) 12) (yr + n_) mn]) (ds := [potV g at' (yearsG kd pt wt mr mn gr yr n_) f_4 kd pt wt mr (sumN (yearsG kd pt wt mr mn gr yr n_) 12) (yr + n_) mn]) (bs2 := [spO g ao ap ak at' au ae ay kp, potV g ap gr la kd pt wt mr (sumN gr 12) yr mn, potV g ak kgr kla kkd kpt kwt kmr (sumN kgr 12) kyr kmn, potV g at' (yearsG kd pt wt mr mn gr yr n_) f_4 kd pt wt mr (sumN (yearsG kd pt wt mr mn gr yr n_) 12) (yr + n_) mn, tpV g au (tbB tb) tn pl tk sr vl, shA g ae a0 a1 a2 a3, shV g a0 (nm 0) (wd 0) (sz 0), shV g a1 (nm 1) (wd 1) (sz 1), shV g a2 (nm 2) (wd 2) (sz 2), shV g a3 (nm 3) (wd 3) (sz 3), arr7 g ay tl]) C dX3_on_65 ml_X3_64 mf_X0_tasteOf (c_tasteOf g at' (yearsG kd pt wt mr mn gr yr n_) f_4 kd pt wt mr (sumN (yearsG kd pt wt mr mn gr yr n_) 12) (yr + n_) mn p_ (PB_yrs hB n_ (by omega)) (by omega)) ⟨rfl, rfl, (Nat.le_of_ble_eq_true rfl), (Nat.le_of_ble_eq_true rfl)⟩ rfl rfl (Nat.le_of_ble_eq_true rfl) (fl1 _) (fl1 _) 0 rfl rfl rfl [3] rfl rfl rfl rfl ?_
          have hf : f_on ((mn, yr, gr, kd, pt, wt, mr), (ks, kp), (tb, tn), (wd, sz, nm), tl) (nI p_) (nI n_) (nI w_) = ((nI (tasteN (yearsG kd pt wt mr mn gr yr n_) (sumN (yearsG kd pt wt mr mn gr yr n_) 12) p_)), ((mn, yr, gr, kd, pt, wt, mr), (ks, kp), (tb, tn), (wd, sz, nm), tl)) := by first | (simp [f_on, fnd, c1, c2, c3, c5, ix_nI (show p_ < 2 ^ 31 by omega), ix_nI (show n_ < 2 ^ 31 by omega), ix_nI (show w_ < 2 ^ 31 by omega)]; done) | (simp [f_on, fnd, c1, c2, c3, ix_nI (show p_ < 2 ^ 31 by omega), ix_nI (show n_ < 2 ^ 31 by omega), ix_nI (show w_ < 2 ^ 31 by omega)]; simp [c5])
          exact g_iret C Rr dX3_on_68 ⟨(la, ((kmn, kyr, kgr, kkd, kpt, kwt, kmr), kla), ((mn, (yr + n_), (yearsG kd pt wt mr mn gr yr n_), kd, pt, wt, mr), f_4), (pl, tk, sr, vl)), by rw [hf]; exact (fun h => hJ h), by rw [hf], by rw [hf]; rfl⟩ (spX_ad g (ao, ap, ak, at', au, ae, a0, a1, a2, a3, ay) ((mn, yr, gr, kd, pt, wt, mr), (ks, kp), (tb, tn), (wd, sz, nm), tl) ((mn, yr, gr, kd, pt, wt, mr), (ks, kp), (tb, tn), (wd, sz, nm), tl) (la, ((kmn, kyr, kgr, kkd, kpt, kwt, kmr), kla), ((mn, (yr + n_), (yearsG kd pt wt mr mn gr yr n_), kd, pt, wt, mr), f_4), (pl, tk, sr, vl)) (la, ((kmn, kyr, kgr, kkd, kpt, kwt, kmr), kla), ((tmn, tyr, tgr, tkd, tpt, twt, tmr), tla), (pl, tk, sr, vl)))
        · refine g_aload_n (pc := 48) C dX3_on_48 rfl ?_
          refine g_get3 (pc := 49) C dX3_on_49 0 rfl 2 (by decide) fl_X3_19 rfl ?_
          refine g_get0 (pc := 52) C dX3_on_52 15 rfl 0 (by decide) fl_X3_44 rfl ?_
          refine g_iload_n (pc := 55) C dX3_on_55 rfl ?_
          refine g_ialdM (pc := 56) C dX3_on_56 16 rfl rfl (by omega) (by decide) ?_
          refine g_goto (pc := 57) (tgt := 68) C dX3_on_57 (by decide) ?_
          have hf : f_on ((mn, yr, gr, kd, pt, wt, mr), (ks, kp), (tb, tn), (wd, sz, nm), tl) (nI p_) (nI n_) (nI w_) = ((nI ((yearsG kd pt wt mr mn gr yr n_) p_)), ((mn, yr, gr, kd, pt, wt, mr), (ks, kp), (tb, tn), (wd, sz, nm), tl)) := by first | (simp [f_on, fnd, c1, c2, c3, c5, ix_nI (show p_ < 2 ^ 31 by omega), ix_nI (show n_ < 2 ^ 31 by omega), ix_nI (show w_ < 2 ^ 31 by omega)]; done) | (simp [f_on, fnd, c1, c2, c3, ix_nI (show p_ < 2 ^ 31 by omega), ix_nI (show n_ < 2 ^ 31 by omega), ix_nI (show w_ < 2 ^ 31 by omega)]; simp [c5])
          exact g_iret C Rr dX3_on_68 ⟨(la, ((kmn, kyr, kgr, kkd, kpt, kwt, kmr), kla), ((mn, (yr + n_), (yearsG kd pt wt mr mn gr yr n_), kd, pt, wt, mr), f_4), (pl, tk, sr, vl)), by rw [hf]; exact (fun h => hJ h), by rw [hf], by rw [hf]; rfl⟩ (spX_ad g (ao, ap, ak, at', au, ae, a0, a1, a2, a3, ay) ((mn, yr, gr, kd, pt, wt, mr), (ks, kp), (tb, tn), (wd, sz, nm), tl) ((mn, yr, gr, kd, pt, wt, mr), (ks, kp), (tb, tn), (wd, sz, nm), tl) (la, ((kmn, kyr, kgr, kkd, kpt, kwt, kmr), kla), ((mn, (yr + n_), (yearsG kd pt wt mr mn gr yr n_), kd, pt, wt, mr), f_4), (pl, tk, sr, vl)) (la, ((kmn, kyr, kgr, kkd, kpt, kwt, kmr), kla), ((tmn, tyr, tgr, tkd, tpt, twt, tmr), tla), (pl, tk, sr, vl)))
      · refine g_aload_n (pc := 26) C dX3_on_26 rfl ?_
        refine g_iconst (pc := 27) (v := nI 0) C dX3_on_27 (by decide) ?_
        refine g_bxi (pc := 28) (cs := [spO g ao ap ak at' au ae ay kp, arr7 g ay tl]) (ds := [spO g ao ap ak at' au ae ay kp, arr7 g ay (updN tl 0 (tl 0 + 1))]) (bs2 := [spO g ao ap ak at' au ae ay kp, potV g ap gr la kd pt wt mr (sumN gr 12) yr mn, potV g ak kgr kla kkd kpt kwt kmr (sumN kgr 12) kyr kmn, potV g at' tgr tla tkd tpt twt tmr (sumN tgr 12) tyr tmn, tpV g au (tbB tb) tn pl tk sr vl, shA g ae a0 a1 a2 a3, shV g a0 (nm 0) (wd 0) (sz 0), shV g a1 (nm 1) (wd 1) (sz 1), shV g a2 (nm 2) (wd 2) (sz 2), shV g a3 (nm 3) (wd 3) (sz 3), arr7 g ay (updN tl 0 (tl 0 + 1))]) C dX3_on_28 ml_X3_47 mf_X3_finding (c_finding g ao ap ak at' au ae ay kp tl 0 (by decide)) ⟨rfl, rfl, (Nat.le_of_ble_eq_true rfl), (Nat.le_of_ble_eq_true rfl)⟩ rfl rfl (Nat.le_of_ble_eq_true rfl) rfl rfl 0 rfl rfl rfl [0, 10] rfl rfl rfl rfl ?_
        have hf : f_on ((mn, yr, gr, kd, pt, wt, mr), (ks, kp), (tb, tn), (wd, sz, nm), tl) (nI p_) (nI n_) w = ((fd 0), ((mn, yr, gr, kd, pt, wt, mr), (ks, kp), (tb, tn), (wd, sz, nm), updN tl 0 (tl 0 + 1))) := by first | (simp [f_on, fnd, c1, c2, c3, ix_nI (show p_ < 2 ^ 31 by omega), ix_nI (show n_ < 2 ^ 31 by omega)]; done) | (simp [f_on, fnd, c1, c2, ix_nI (show p_ < 2 ^ 31 by omega), ix_nI (show n_ < 2 ^ 31 by omega)]; simp [c3])
        exact g_iret C Rr dX3_on_31 ⟨(la, ((kmn, kyr, kgr, kkd, kpt, kwt, kmr), kla), ((tmn, tyr, tgr, tkd, tpt, twt, tmr), tla), (pl, tk, sr, vl)), by rw [hf]; exact (fun h => hJ h), by rw [hf], by rw [hf]; rfl⟩ (spX_ad g (ao, ap, ak, at', au, ae, a0, a1, a2, a3, ay) ((mn, yr, gr, kd, pt, wt, mr), (ks, kp), (tb, tn), (wd, sz, nm), updN tl 0 (tl 0 + 1)) ((mn, yr, gr, kd, pt, wt, mr), (ks, kp), (tb, tn), (wd, sz, nm), tl) (la, ((kmn, kyr, kgr, kkd, kpt, kwt, kmr), kla), ((tmn, tyr, tgr, tkd, tpt, twt, tmr), tla), (pl, tk, sr, vl)) (la, ((kmn, kyr, kgr, kkd, kpt, kwt, kmr), kla), ((tmn, tyr, tgr, tkd, tpt, twt, tmr), tla), (pl, tk, sr, vl)))
set_option maxHeartbeats 400000 in
set_option maxRecDepth 100000 in
theorem x_wipe (g : Gl) (A : Ac) (X : Xs) (J : Jc) (hX : InvX X) (hJ : OkJ X J) : Ct g yX3_wipe cX3_wipe 2 (some .int) (rk 0 0) [.ref (A.1 0)] (spX g A X J) (fun r w2 => ∃ J2, OkJ (f_wipe X).2 J2 ∧ r = some (.int (f_wipe X).1) ∧ w2 = spX g A (f_wipe X).2 J2) := by
  obtain ⟨ao, ap, ak, at', au, ae, a0, a1, a2, a3, ay⟩ := A
  obtain ⟨⟨mn, yr, gr, kd, pt, wt, mr⟩, ⟨ks, kp⟩, ⟨tb, tn⟩, ⟨wd, sz, nm⟩, tl⟩ := X
  obtain ⟨la, ⟨⟨kmn, kyr, kgr, kkd, kpt, kwt, kmr⟩, kla⟩, ⟨⟨tmn, tyr, tgr, tkd, tpt, twt, tmr⟩, tla⟩, ⟨pl, tk, sr, vl⟩⟩ := J
  obtain ⟨hB, hy, hkp, htb, htn, hwd, hsz⟩ := id hX
  obtain ⟨-, hTle, hgr, hkd, hpt, hwt, hmr, hyr, hmn⟩ := id hB
  refine ct_of (by decide) (Nat.le_of_ble_eq_true rfl) ?_
  intro φ C0 Rr
  have C : Cx φ g cX3_wipe 2 RX3 (rk 0 0) := C0
  show Go φ g 2 0 [(0, .ref (ao 0))] [] (fl [spO g ao ap ak at' au ae ay kp, potV g ap gr la kd pt wt mr (sumN gr 12) yr mn, potV g ak kgr kla kkd kpt kwt kmr (sumN kgr 12) kyr kmn, potV g at' tgr tla tkd tpt twt tmr (sumN tgr 12) tyr tmn, tpV g au (tbB tb) tn pl tk sr vl, shA g ae a0 a1 a2 a3, shV g a0 (nm 0) (wd 0) (sz 0), shV g a1 (nm 1) (wd 1) (sz 1), shV g a2 (nm 2) (wd 2) (sz 2), shV g a3 (nm 3) (wd 3) (sz 3), arr7 g ay tl])
  refine g_aload_n (pc := 0) C dX3_wipe_0 rfl ?_
  refine g_get3 (pc := 1) C dX3_wipe_1 0 rfl 3 (by decide) fl_X3_25 rfl ?_
  refine g_get2 (pc := 4) C dX3_wipe_4 22 rfl 1 (by decide) fl_X3_157 rfl ?_
  refine g_istore_n (pc := 7) (lv2 := [(0, .ref (ao 0)), (1, .int (nI tn))]) C dX3_wipe_7 rfl (Nat.le_of_ble_eq_true rfl) rfl ?_
  refine g_aload_n (pc := 8) C dX3_wipe_8 rfl ?_
  refine g_get3 (pc := 9) C dX3_wipe_9 0 rfl 3 (by decide) fl_X3_25 rfl ?_
  refine g_iconst (pc := 12) (v := nI 0) C dX3_wipe_12 (by decide) ?_
  refine g_put2 (pc := 13) (ws2 := (fl [spO g ao ap ak at' au ae ay kp, potV g ap gr la kd pt wt mr (sumN gr 12) yr mn, potV g ak kgr kla kkd kpt kwt kmr (sumN kgr 12) kyr kmn, potV g at' tgr tla tkd tpt twt tmr (sumN tgr 12) tyr tmn, tpV g au (tbB tb) 0 pl tk sr vl, shA g ae a0 a1 a2 a3, shV g a0 (nm 0) (wd 0) (sz 0), shV g a1 (nm 1) (wd 1) (sz 1), shV g a2 (nm 2) (wd 2) (sz 2), shV g a3 (nm 3) (wd 3) (sz 3), arr7 g ay tl])) C dX3_wipe_13 22 rfl 1 (by decide) fl_X3_157 rfl rfl rfl (Nat.le_of_ble_eq_true rfl) rfl ?_
  refine g_iload_n (pc := 16) C dX3_wipe_16 rfl ?_
  have hf : f_wipe ((mn, yr, gr, kd, pt, wt, mr), (ks, kp), (tb, tn), (wd, sz, nm), tl) = ((nI tn), ((mn, yr, gr, kd, pt, wt, mr), (ks, kp), (tb, 0), (wd, sz, nm), tl)) := by simp [f_wipe, fnd, ]
  exact g_iret C Rr dX3_wipe_17 ⟨(la, ((kmn, kyr, kgr, kkd, kpt, kwt, kmr), kla), ((tmn, tyr, tgr, tkd, tpt, twt, tmr), tla), (pl, tk, sr, vl)), by rw [hf]; exact (fun h => hJ h), by rw [hf], by rw [hf]; rfl⟩ (spX_ad g (ao, ap, ak, at', au, ae, a0, a1, a2, a3, ay) ((mn, yr, gr, kd, pt, wt, mr), (ks, kp), (tb, 0), (wd, sz, nm), tl) ((mn, yr, gr, kd, pt, wt, mr), (ks, kp), (tb, tn), (wd, sz, nm), tl) (la, ((kmn, kyr, kgr, kkd, kpt, kwt, kmr), kla), ((tmn, tyr, tgr, tkd, tpt, twt, tmr), tla), (pl, tk, sr, vl)) (la, ((kmn, kyr, kgr, kkd, kpt, kwt, kmr), kla), ((tmn, tyr, tgr, tkd, tpt, twt, tmr), tla), (pl, tk, sr, vl)))
