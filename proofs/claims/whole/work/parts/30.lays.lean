abbrev layP (x : Int64) (m : Nat) : Prop := 0 ≤ x.toInt ∧ x.toInt ≤ (m : Int)
def layN (N : Nat → Int64) (gr : Nat → Nat) : Nat → (Nat → Nat) × Nat
  | 0 => (gr, 0)
  | k + 1 => if layP (N k) (99999 - sumN (layN N gr k).1 12 + (layN N gr k).1 k) then (updN (layN N gr k).1 k (N k).toInt.toNat, (layN N gr k).2 + 1) else layN N gr k
def f_lays (X : Xs) (s : Int32) : Int32 × Xs := match X with
  | ((mn, yr, gr, kd, pt, wt, mr), K, T, (wd, sz, nm), tl) =>
    if inR s 0 3 then if wd (ix s) = 0 then fnd X 5 else (nI (layN (nm (ix s)) gr (min 12 (sz (ix s)))).2, ((mn, yr, (layN (nm (ix s)) gr (min 12 (sz (ix s)))).1, kd, pt, wt, mr), K, T, (wd, sz, nm), tl)) else fnd X 0
theorem PB_fill {gr kd pt wt mr : Nat → Nat} {yr mn p v : Nat} (h : PB gr kd pt wt mr (sumN gr 12) yr mn) (hp : p < 12) (hv : sumN gr 12 - gr p + v ≤ 99999) : PB (updN gr p v) kd pt wt mr (sumN (updN gr p v) 12) yr mn := by
  obtain ⟨-, h2, h3, h4⟩ := h
  refine ⟨rfl, by rw [← sum_fill hp]; exact hv, fun j => ?_, h4⟩
  by_cases e : j = p
  · rw [e, updN_s]; omega
  · rw [updN_n e]; exact h3 j
theorem lay_0 {x : Int64} (h : (0 : Int64) ≤ x) : 0 ≤ x.toInt := by
  have := Int64.le_iff_toInt_le.mp h
  exact this
theorem lay_9 {x : Int64} (h : x ≤ (99999 : Int64)) : x.toInt ≤ 99999 := by
  have := Int64.le_iff_toInt_le.mp h
  exact this
theorem lay_b {x : Int64} (h0 : (0 : Int64) ≤ x) (h : x ≤ (99999 : Int64)) : x.toInt.toNat ≤ 99999 := by
  have := lay_0 h0
  have := lay_9 h
  omega
theorem lay_t {x : Int64} (h0 : 0 ≤ x.toInt) (h : x.toInt ≤ 199999) : x.toInt32 = nI x.toInt.toNat := by
  apply Int32.toInt_inj.mp
  rw [Int64.toInt_toInt32, nI_toInt (by omega), Int.toNat_of_nonneg h0]
  exact Int.bmod_eq_of_le (by omega) (by omega)
theorem lay_v {x : Int64} (h0 : (0 : Int64) ≤ x) (h : x ≤ (99999 : Int64)) : x.toInt32 = nI x.toInt.toNat := lay_t (lay_0 h0) (by have := lay_9 h; omega)
theorem lay_w {x : Int64} {m : Nat} (h : layP x m) (hm : m ≤ 199999) : x.toInt32 = nI x.toInt.toNat := lay_t h.1 (by have := h.2; omega)
theorem lay_in {x : Int64} {m : Nat} (hm : m < 2 ^ 31) : ((0 : Int64) ≤ x ∧ x ≤ (nI m).toInt64) ↔ layP x m := by
  rw [Int64.le_iff_toInt_le, Int64.le_iff_toInt_le, Int32.toInt_toInt64, nI_toInt hm]
  exact Iff.rfl
theorem lay_y {x : Int64} {t a : Nat} (h0 : (0 : Int64) ≤ x) (h : x ≤ (99999 : Int64)) (hr : t - a + x.toInt.toNat ≤ 99999) (ha : a ≤ t) (ht : t ≤ 99999) : layP x (99999 - t + a) := by
  have := lay_0 h0
  exact ⟨this, by omega⟩
theorem lay_r {x : Int64} {t a : Nat} (h : layP x (99999 - t + a)) (ht : t ≤ 99999) (ha : a ≤ t) : t - a + x.toInt.toNat ≤ 99999 := by
  obtain ⟨h1, h2⟩ := h
  omega
theorem lay_n1 {x : Int64} {m : Nat} (h : x < (0 : Int64)) (q : layP x m) : False := by
  have h1 := Int64.lt_iff_toInt_lt.mp h
  have h2 := q.1
  have h3 : (0 : Int64).toInt = 0 := rfl
  omega
theorem lay_n2 {x : Int64} {t a : Nat} (h : (99999 : Int64) < x) (q : layP x (99999 - t + a)) (ha : a ≤ t) (ht : t ≤ 99999) : False := by
  have h1 := Int64.lt_iff_toInt_lt.mp h
  have h2 := q.2
  have h3 : (99999 : Int64).toInt = 99999 := rfl
  omega
theorem lay_n3 {x : Int64} {t a : Nat} (h : ¬ t - a + x.toInt.toNat ≤ 99999) (q : layP x (99999 - t + a)) (ha : a ≤ t) (ht : t ≤ 99999) : False := h (lay_r q ht ha)
set_option maxHeartbeats 400000 in
set_option maxRecDepth 100000 in
theorem x_lays (g : Gl) (A : Ac) (X : Xs) (J : Jc) (s : Int32) (hX : InvX X) (hJ : OkJ X J) : Ct g yX3_lays cX3_lays 7 (some .int) (rk 2 42) [.ref (A.1 0), .int s] (spX g A X J) (fun r w2 => ∃ J2, OkJ (f_lays X s).2 J2 ∧ r = some (.int (f_lays X s).1) ∧ w2 = spX g A (f_lays X s).2 J2) := by
  obtain ⟨ao, ap, ak, at', au, ae, a0, a1, a2, a3, ay⟩ := A
  obtain ⟨⟨mn, yr, gr, kd, pt, wt, mr⟩, ⟨ks, kp⟩, ⟨tb, tn⟩, ⟨wd, sz, nm⟩, tl⟩ := X
  obtain ⟨la, ⟨⟨kmn, kyr, kgr, kkd, kpt, kwt, kmr⟩, kla⟩, ⟨⟨tmn, tyr, tgr, tkd, tpt, twt, tmr⟩, tla⟩, ⟨pl, tk, sr, vl⟩⟩ := J
  obtain ⟨hB, hy, hkp, htb, htn, hwd, hsz⟩ := id hX
  obtain ⟨-, hTle, hgr, hkd, hpt, hwt, hmr, hyr, hmn⟩ := id hB
  refine ct_of (by decide) (Nat.le_of_ble_eq_true rfl) ?_
  intro φ C0 Rr
  have C : Cx φ g cX3_lays 7 RX3 (rk 2 42) := C0
  show Go φ g 7 0 [(0, .ref (ao 0)), (1, .int s)] [] (fl [spO g ao ap ak at' au ae ay kp, potV g ap gr la kd pt wt mr (sumN gr 12) yr mn, potV g ak kgr kla kkd kpt kwt kmr (sumN kgr 12) kyr kmn, potV g at' tgr tla tkd tpt twt tmr (sumN tgr 12) tyr tmn, tpV g au (tbB tb) tn pl tk sr vl, shA g ae a0 a1 a2 a3, shV g a0 (nm 0) (wd 0) (sz 0), shV g a1 (nm 1) (wd 1) (sz 1), shV g a2 (nm 2) (wd 2) (sz 2), shV g a3 (nm 3) (wd 3) (sz 3), arr7 g ay tl])
  refine g_iload_n (pc := 0) C dX3_lays_0 rfl ?_
  refine g_s0i (pc := 1) C dX3_lays_1 ml_X3_172 mf_X3_isSheet (c_isSheet g s) ⟨rfl, rfl, (Nat.le_of_ble_eq_true rfl), (Nat.le_of_ble_eq_true rfl)⟩ rfl rfl (Nat.le_of_ble_eq_true rfl) ?_
  refine g_if_neB (pc := 4) (tgt := 13) C dX3_lays_4 (by decide) (fun c1 => ?_) (fun c1 => ?_)
  · obtain ⟨s_, hl_s, hu_s, rfl⟩ := inR_nat (lo := 0) (hi := 3) c1
    have hz0 := hsz 0
    have hz1 := hsz 1
    have hz2 := hsz 2
    have hz3 := hsz 3
    rcases (show s_ = 0 ∨ s_ = 1 ∨ s_ = 2 ∨ s_ = 3 by omega) with rfl | rfl | rfl | rfl
    · refine g_aload_n (pc := 13) C dX3_lays_13 rfl ?_
      refine g_get3 (pc := 14) C dX3_lays_14 0 rfl 4 (by decide) fl_X3_31 rfl ?_
      refine g_iload_n (pc := 17) C dX3_lays_17 rfl ?_
      refine g_aaldN (pc := 18) C dX3_lays_18 24 rfl rfl (by decide) (by decide) rfl ?_
      refine g_astore_n (pc := 19) (lv2 := [(0, .ref (ao 0)), (1, .int (nI 0)), (2, .ref (a0 0))]) C dX3_lays_19 rfl (Nat.le_of_ble_eq_true rfl) rfl ?_
      refine g_aload_n (pc := 20) C dX3_lays_20 rfl ?_
      refine g_bxi (pc := 21) (cs := [shV g a0 (nm 0) (wd 0) (sz 0)]) (ds := [shV g a0 (nm 0) (wd 0) (sz 0)]) (bs2 := [spO g ao ap ak at' au ae ay kp, potV g ap gr la kd pt wt mr (sumN gr 12) yr mn, potV g ak kgr kla kkd kpt kwt kmr (sumN kgr 12) kyr kmn, potV g at' tgr tla tkd tpt twt tmr (sumN tgr 12) tyr tmn, tpV g au (tbB tb) tn pl tk sr vl, shA g ae a0 a1 a2 a3, shV g a0 (nm 0) (wd 0) (sz 0), shV g a1 (nm 1) (wd 1) (sz 1), shV g a2 (nm 2) (wd 2) (sz 2), shV g a3 (nm 3) (wd 3) (sz 3), arr7 g ay tl]) C dX3_lays_21 ml_X3_184 mf_X1_isMissing (c_isMissing g a0 (nm 0) (wd 0) (sz 0) (wlt hwd _)) ⟨rfl, rfl, (Nat.le_of_ble_eq_true rfl), (Nat.le_of_ble_eq_true rfl)⟩ rfl rfl (Nat.le_of_ble_eq_true rfl) (fl1 _) (fl1 _) 0 rfl rfl rfl [6] rfl rfl rfl rfl ?_
      refine g_if_eqB (pc := 24) (tgt := 33) C dX3_lays_24 (by decide) (fun c2 => ?_) (fun c2 => ?_)
      · refine g_iconst (pc := 33) (v := nI 0) C dX3_lays_33 (by decide) ?_
        refine g_istore_n (pc := 34) (lv2 := [(0, .ref (ao 0)), (1, .int (nI 0)), (2, .ref (a0 0)), (3, .int (nI 0))]) C dX3_lays_34 rfl (Nat.le_of_ble_eq_true rfl) rfl ?_
        refine g_iconst (pc := 35) (v := nI 0) C dX3_lays_35 (by decide) ?_
        refine g_istore (pc := 36) (lv2 := [(0, .ref (ao 0)), (1, .int (nI 0)), (2, .ref (a0 0)), (3, .int (nI 0)), (4, .int (nI 0))]) C dX3_lays_36 (Nat.le_of_ble_eq_true rfl) rfl ?_
        refine g_loop2 (n := (min 12 (sz 0))) (fun (i : Nat) (G : Nat → Nat) (x : Nat) => (G, x) = layN (nm 0) gr i ∧ PB G kd pt wt mr (sumN G 12) yr mn ∧ x ≤ i) (fun (i : Nat) (G : Nat → Nat) (x : Nat) => [(0, .ref (ao 0)), (1, .int (nI 0)), (2, .ref (a0 0)), (3, .int (nI x)), (4, .int (nI i))]) (fun (i : Nat) (G : Nat → Nat) (x : Nat) => (fl [spO g ao ap ak at' au ae ay kp, potV g ap G la kd pt wt mr (sumN G 12) yr mn, potV g ak kgr kla kkd kpt kwt kmr (sumN kgr 12) kyr kmn, potV g at' tgr tla tkd tpt twt tmr (sumN tgr 12) tyr tmn, tpV g au (tbB tb) tn pl tk sr vl, shA g ae a0 a1 a2 a3, shV g a0 (nm 0) (wd 0) (sz 0), shV g a1 (nm 1) (wd 1) (sz 1), shV g a2 (nm 2) (wd 2) (sz 2), shV g a3 (nm 3) (wd 3) (sz 3), arr7 g ay tl])) ?_ 0 gr 0 (by omega) ⟨rfl, hB, Nat.le_refl _⟩
        intro i G x hi_i hv_i ih_i
        show Go φ g 7 38 [(0, .ref (ao 0)), (1, .int (nI 0)), (2, .ref (a0 0)), (3, .int (nI x)), (4, .int (nI i))] [] (fl [spO g ao ap ak at' au ae ay kp, potV g ap G la kd pt wt mr (sumN G 12) yr mn, potV g ak kgr kla kkd kpt kwt kmr (sumN kgr 12) kyr kmn, potV g at' tgr tla tkd tpt twt tmr (sumN tgr 12) tyr tmn, tpV g au (tbB tb) tn pl tk sr vl, shA g ae a0 a1 a2 a3, shV g a0 (nm 0) (wd 0) (sz 0), shV g a1 (nm 1) (wd 1) (sz 1), shV g a2 (nm 2) (wd 2) (sz 2), shV g a3 (nm 3) (wd 3) (sz 3), arr7 g ay tl])
        have hv_i : (G, x) = layN (nm 0) gr i ∧ PB G kd pt wt mr (sumN G 12) yr mn ∧ x ≤ i := hv_i
        obtain ⟨hv1, hBi, hxi⟩ := hv_i
        have hTi := hBi.2.1
        have hgi : i < 12 → G i ≤ sumN G 12 := fun h => sumN_ge G h
        refine g_iload (pc := 38) C dX3_lays_38 rfl ?_
        refine g_bipush (pc := 40) (v := nI 12) C dX3_lays_40 (by decide) ?_
        refine g_icmp_geN (pc := 42) (tgt := 115) C dX3_lays_42 (by decide) (by omega) (by omega) (fun c3 => ?_) (fun c3 => ?_)
        · refine g_iload_n (pc := 115) C dX3_lays_115 rfl ?_
          have hf : f_lays ((mn, yr, gr, kd, pt, wt, mr), (ks, kp), (tb, tn), (wd, sz, nm), tl) (nI 0) = ((nI x), ((mn, yr, G, kd, pt, wt, mr), (ks, kp), (tb, tn), (wd, sz, nm), tl)) := by simp only [f_lays, c1, c2, ix_nI (show 0 < 2 ^ 31 by decide), if_true, if_false, ix_nI (show 0 < 2 ^ 31 by decide)]; rw [show layN (nm 0) gr (min 12 (sz 0)) = (G, x) from by rw [hv1, show i = min 12 (sz 0) by omega]]
          exact g_iret C Rr dX3_lays_116 ⟨(la, ((kmn, kyr, kgr, kkd, kpt, kwt, kmr), kla), ((tmn, tyr, tgr, tkd, tpt, twt, tmr), tla), (pl, tk, sr, vl)), by rw [hf]; exact (fun h => hJ h), by rw [hf], by rw [hf]; rfl⟩ (spX_ad g (ao, ap, ak, at', au, ae, a0, a1, a2, a3, ay) ((mn, yr, G, kd, pt, wt, mr), (ks, kp), (tb, tn), (wd, sz, nm), tl) ((mn, yr, gr, kd, pt, wt, mr), (ks, kp), (tb, tn), (wd, sz, nm), tl) (la, ((kmn, kyr, kgr, kkd, kpt, kwt, kmr), kla), ((tmn, tyr, tgr, tkd, tpt, twt, tmr), tla), (pl, tk, sr, vl)) (la, ((kmn, kyr, kgr, kkd, kpt, kwt, kmr), kla), ((tmn, tyr, tgr, tkd, tpt, twt, tmr), tla), (pl, tk, sr, vl)))
        · refine g_iload (pc := 45) C dX3_lays_45 rfl ?_
          refine g_aload_n (pc := 47) C dX3_lays_47 rfl ?_
          refine g_get1 (pc := 48) C dX3_lays_48 25 rfl 2 (by decide) fl_X3_181 rfl ?_
          refine g_icmp_geN (pc := 51) (tgt := 115) C dX3_lays_51 (by decide) (by omega) (by omega) (fun c4 => ?_) (fun c4 => ?_)
          · refine g_iload_n (pc := 115) C dX3_lays_115 rfl ?_
            have hf : f_lays ((mn, yr, gr, kd, pt, wt, mr), (ks, kp), (tb, tn), (wd, sz, nm), tl) (nI 0) = ((nI x), ((mn, yr, G, kd, pt, wt, mr), (ks, kp), (tb, tn), (wd, sz, nm), tl)) := by simp only [f_lays, c1, c2, ix_nI (show 0 < 2 ^ 31 by decide), if_true, if_false, ix_nI (show 0 < 2 ^ 31 by decide)]; rw [show layN (nm 0) gr (min 12 (sz 0)) = (G, x) from by rw [hv1, show i = min 12 (sz 0) by omega]]
            exact g_iret C Rr dX3_lays_116 ⟨(la, ((kmn, kyr, kgr, kkd, kpt, kwt, kmr), kla), ((tmn, tyr, tgr, tkd, tpt, twt, tmr), tla), (pl, tk, sr, vl)), by rw [hf]; exact (fun h => hJ h), by rw [hf], by rw [hf]; rfl⟩ (spX_ad g (ao, ap, ak, at', au, ae, a0, a1, a2, a3, ay) ((mn, yr, G, kd, pt, wt, mr), (ks, kp), (tb, tn), (wd, sz, nm), tl) ((mn, yr, gr, kd, pt, wt, mr), (ks, kp), (tb, tn), (wd, sz, nm), tl) (la, ((kmn, kyr, kgr, kkd, kpt, kwt, kmr), kla), ((tmn, tyr, tgr, tkd, tpt, twt, tmr), tla), (pl, tk, sr, vl)) (la, ((kmn, kyr, kgr, kkd, kpt, kwt, kmr), kla), ((tmn, tyr, tgr, tkd, tpt, twt, tmr), tla), (pl, tk, sr, vl)))
          · have hgj := hgi (by omega)
            refine g_aload_n (pc := 54) C dX3_lays_54 rfl ?_
            refine g_get1 (pc := 55) C dX3_lays_55 25 rfl 0 (by decide) fl_X3_187 rfl ?_
            refine g_iload (pc := 58) C dX3_lays_58 rfl ?_
            refine g_laldN (pc := 60) C dX3_lays_60 26 rfl rfl (by omega) (by decide) ?_
            refine g_lstore (pc := 61) (lv2 := [(0, .ref (ao 0)), (1, .int (nI 0)), (2, .ref (a0 0)), (3, .int (nI x)), (4, .int (nI i)), (5, .long ((nm 0) i))]) C dX3_lays_61 (Nat.le_of_ble_eq_true rfl) rfl ?_
            refine g_lload (pc := 63) C dX3_lays_63 rfl ?_
            refine g_lconst (pc := 65) (v := 0) C dX3_lays_65 (by decide) ?_
            refine g_lcmp (pc := 66) C dX3_lays_66 ?_
            refine g_if_ltL (pc := 67) (tgt := 109) C dX3_lays_67 (by decide) (fun c5 => ?_) (fun c5 => ?_)
            · refine g_iinc (pc := 109) (v := (nI (i + 1))) (lv2 := [(0, .ref (ao 0)), (1, .int (nI 0)), (2, .ref (a0 0)), (3, .int (nI x)), (4, .int (nI (i + 1))), (5, .long ((nm 0) i))]) C dX3_lays_109 rfl (nI_1 _) (Nat.le_of_ble_eq_true rfl) rfl ?_
              refine g_goto (pc := 112) (tgt := 38) C dX3_lays_112 (by decide) ?_
              refine g_lvs (lv2 := [(0, .ref (ao 0)), (1, .int (nI 0)), (2, .ref (a0 0)), (3, .int (nI x)), (4, .int (nI (i + 1)))]) [0, 1, 2, 3, 4] rfl ?_
              exact ih_i _ _ (by omega) ⟨by rw [layN, ← hv1, if_neg (fun q => lay_n1 c5 q)], hBi, by omega⟩
            · refine g_lload (pc := 70) C dX3_lays_70 rfl ?_
              refine g_ldc2 (pc := 72) C dX3_lays_72 ckl_X3_207 rfl ?_
              refine g_lcmp (pc := 75) C dX3_lays_75 ?_
              refine g_if_gtL (pc := 76) (tgt := 109) C dX3_lays_76 (by decide) (fun c6 => ?_) (fun c6 => ?_)
              · refine g_iinc (pc := 109) (v := (nI (i + 1))) (lv2 := [(0, .ref (ao 0)), (1, .int (nI 0)), (2, .ref (a0 0)), (3, .int (nI x)), (4, .int (nI (i + 1))), (5, .long ((nm 0) i))]) C dX3_lays_109 rfl (nI_1 _) (Nat.le_of_ble_eq_true rfl) rfl ?_
                refine g_goto (pc := 112) (tgt := 38) C dX3_lays_112 (by decide) ?_
                refine g_lvs (lv2 := [(0, .ref (ao 0)), (1, .int (nI 0)), (2, .ref (a0 0)), (3, .int (nI x)), (4, .int (nI (i + 1)))]) [0, 1, 2, 3, 4] rfl ?_
                exact ih_i _ _ (by omega) ⟨by rw [layN, ← hv1, if_neg (fun q => lay_n2 c6 q (hgi (by omega)) hTi)], hBi, by omega⟩
              · refine g_aload_n (pc := 79) C dX3_lays_79 rfl ?_
                refine g_get3 (pc := 80) C dX3_lays_80 0 rfl 0 (by decide) fl_X3_10 rfl ?_
                refine g_iload (pc := 83) C dX3_lays_83 rfl ?_
                refine g_lload (pc := 85) C dX3_lays_85 rfl ?_
                refine g_l2i (pc := 87) C dX3_lays_87 ?_
                refine g_top (y := nI ((nm 0 i).toInt.toNat)) (lay_v c5 c6) ?_
                have hvl := lay_b c5 c6
                refine g_bxi (pc := 88) (cs := [potV g ap G la kd pt wt mr (sumN G 12) yr mn]) (ds := [potV g ap G la kd pt wt mr (sumN G 12) yr mn]) (bs2 := [spO g ao ap ak at' au ae ay kp, potV g ap G la kd pt wt mr (sumN G 12) yr mn, potV g ak kgr kla kkd kpt kwt kmr (sumN kgr 12) kyr kmn, potV g at' tgr tla tkd tpt twt tmr (sumN tgr 12) tyr tmn, tpV g au (tbB tb) tn pl tk sr vl, shA g ae a0 a1 a2 a3, shV g a0 (nm 0) (wd 0) (sz 0), shV g a1 (nm 1) (wd 1) (sz 1), shV g a2 (nm 2) (wd 2) (sz 2), shV g a3 (nm 3) (wd 3) (sz 3), arr7 g ay tl]) C dX3_lays_88 ml_X3_56 mf_X0_hasRoom (c_hasRoom g ap G la kd pt wt mr (sumN G 12) yr mn i ((nm 0 i).toInt.toNat) hBi (by omega) (by omega)) ⟨rfl, rfl, (Nat.le_of_ble_eq_true rfl), (Nat.le_of_ble_eq_true rfl)⟩ rfl rfl (Nat.le_of_ble_eq_true rfl) (fl1 _) (fl1 _) 0 rfl rfl rfl [1] rfl rfl rfl rfl ?_
                refine g_if_eqB (pc := 91) (tgt := 109) C dX3_lays_91 (by decide) (fun c7 => ?_) (fun c7 => ?_)
                · refine g_iinc (pc := 109) (v := (nI (i + 1))) (lv2 := [(0, .ref (ao 0)), (1, .int (nI 0)), (2, .ref (a0 0)), (3, .int (nI x)), (4, .int (nI (i + 1))), (5, .long ((nm 0) i))]) C dX3_lays_109 rfl (nI_1 _) (Nat.le_of_ble_eq_true rfl) rfl ?_
                  refine g_goto (pc := 112) (tgt := 38) C dX3_lays_112 (by decide) ?_
                  refine g_lvs (lv2 := [(0, .ref (ao 0)), (1, .int (nI 0)), (2, .ref (a0 0)), (3, .int (nI x)), (4, .int (nI (i + 1)))]) [0, 1, 2, 3, 4] rfl ?_
                  exact ih_i _ _ (by omega) ⟨by rw [layN, ← hv1, if_neg (fun q => lay_n3 c7 q (hgi (by omega)) hTi)], hBi, by omega⟩
                · refine g_aload_n (pc := 94) C dX3_lays_94 rfl ?_
                  refine g_get3 (pc := 95) C dX3_lays_95 0 rfl 0 (by decide) fl_X3_10 rfl ?_
                  refine g_iload (pc := 98) C dX3_lays_98 rfl ?_
                  refine g_lload (pc := 100) C dX3_lays_100 rfl ?_
                  refine g_l2i (pc := 102) C dX3_lays_102 ?_
                  refine g_top (y := nI ((nm 0 i).toInt.toNat)) (lay_v c5 c6) ?_
                  refine g_bxn (pc := 103) (cs := [potV g ap G la kd pt wt mr (sumN G 12) yr mn]) (ds := [potV g ap (updN G i ((nm 0 i).toInt.toNat)) la kd pt wt mr ((sumN G 12) - G i + ((nm 0 i).toInt.toNat)) yr mn]) (bs2 := [spO g ao ap ak at' au ae ay kp, potV g ap (updN G i ((nm 0 i).toInt.toNat)) la kd pt wt mr ((sumN G 12) - G i + ((nm 0 i).toInt.toNat)) yr mn, potV g ak kgr kla kkd kpt kwt kmr (sumN kgr 12) kyr kmn, potV g at' tgr tla tkd tpt twt tmr (sumN tgr 12) tyr tmn, tpV g au (tbB tb) tn pl tk sr vl, shA g ae a0 a1 a2 a3, shV g a0 (nm 0) (wd 0) (sz 0), shV g a1 (nm 1) (wd 1) (sz 1), shV g a2 (nm 2) (wd 2) (sz 2), shV g a3 (nm 3) (wd 3) (sz 3), arr7 g ay tl]) C dX3_lays_103 ml_X3_60 mf_X0_fill (c_fill g ap G la kd pt wt mr (sumN G 12) yr mn i ((nm 0 i).toInt.toNat) hBi (by omega)) ⟨rfl, rfl, (Nat.le_of_ble_eq_true rfl), (Nat.le_of_ble_eq_true rfl)⟩ rfl rfl (Nat.le_of_ble_eq_true rfl) (fl1 _) (fl1 _) 0 rfl rfl rfl [1] rfl rfl rfl rfl ?_
                  refine g_iinc (pc := 106) (v := (nI (x + 1))) (lv2 := [(0, .ref (ao 0)), (1, .int (nI 0)), (2, .ref (a0 0)), (3, .int (nI (x + 1))), (4, .int (nI i)), (5, .long ((nm 0) i))]) C dX3_lays_106 rfl (nI_1 _) (Nat.le_of_ble_eq_true rfl) rfl ?_
                  refine g_iinc (pc := 109) (v := (nI (i + 1))) (lv2 := [(0, .ref (ao 0)), (1, .int (nI 0)), (2, .ref (a0 0)), (3, .int (nI (x + 1))), (4, .int (nI (i + 1))), (5, .long ((nm 0) i))]) C dX3_lays_109 rfl (nI_1 _) (Nat.le_of_ble_eq_true rfl) rfl ?_
                  refine g_goto (pc := 112) (tgt := 38) C dX3_lays_112 (by decide) ?_
                  refine g_lvs (lv2 := [(0, .ref (ao 0)), (1, .int (nI 0)), (2, .ref (a0 0)), (3, .int (nI (x + 1))), (4, .int (nI (i + 1)))]) [0, 1, 2, 3, 4] rfl ?_
                  refine g_ws (ws := (fl [spO g ao ap ak at' au ae ay kp, potV g ap (updN G i ((nm 0 i).toInt.toNat)) la kd pt wt mr ((sumN G 12) - G i + ((nm 0 i).toInt.toNat)) yr mn, potV g ak kgr kla kkd kpt kwt kmr (sumN kgr 12) kyr kmn, potV g at' tgr tla tkd tpt twt tmr (sumN tgr 12) tyr tmn, tpV g au (tbB tb) tn pl tk sr vl, shA g ae a0 a1 a2 a3, shV g a0 (nm 0) (wd 0) (sz 0), shV g a1 (nm 1) (wd 1) (sz 1), shV g a2 (nm 2) (wd 2) (sz 2), shV g a3 (nm 3) (wd 3) (sz 3), arr7 g ay tl])) (ws2 := (fl [spO g ao ap ak at' au ae ay kp, potV g ap (updN G i ((nm 0 i).toInt.toNat)) la kd pt wt mr (sumN (updN G i ((nm 0 i).toInt.toNat)) 12) yr mn, potV g ak kgr kla kkd kpt kwt kmr (sumN kgr 12) kyr kmn, potV g at' tgr tla tkd tpt twt tmr (sumN tgr 12) tyr tmn, tpV g au (tbB tb) tn pl tk sr vl, shA g ae a0 a1 a2 a3, shV g a0 (nm 0) (wd 0) (sz 0), shV g a1 (nm 1) (wd 1) (sz 1), shV g a2 (nm 2) (wd 2) (sz 2), shV g a3 (nm 3) (wd 3) (sz 3), arr7 g ay tl])) (by rw [show (sumN G 12) - G i + ((nm 0 i).toInt.toNat) = sumN (updN G i ((nm 0 i).toInt.toNat)) 12 from sum_fill (by omega)]) ?_; exact ih_i _ _ (by omega) ⟨by rw [layN, ← hv1, if_pos (lay_y c5 c6 c7 (by omega) hTi)], PB_fill hBi (by omega) c7, by omega⟩
      · refine g_aload_n (pc := 27) C dX3_lays_27 rfl ?_
        refine g_iconst (pc := 28) (v := nI 5) C dX3_lays_28 (by decide) ?_
        refine g_bxi (pc := 29) (cs := [spO g ao ap ak at' au ae ay kp, arr7 g ay tl]) (ds := [spO g ao ap ak at' au ae ay kp, arr7 g ay (updN tl 5 (tl 5 + 1))]) (bs2 := [spO g ao ap ak at' au ae ay kp, potV g ap gr la kd pt wt mr (sumN gr 12) yr mn, potV g ak kgr kla kkd kpt kwt kmr (sumN kgr 12) kyr kmn, potV g at' tgr tla tkd tpt twt tmr (sumN tgr 12) tyr tmn, tpV g au (tbB tb) tn pl tk sr vl, shA g ae a0 a1 a2 a3, shV g a0 (nm 0) (wd 0) (sz 0), shV g a1 (nm 1) (wd 1) (sz 1), shV g a2 (nm 2) (wd 2) (sz 2), shV g a3 (nm 3) (wd 3) (sz 3), arr7 g ay (updN tl 5 (tl 5 + 1))]) C dX3_lays_29 ml_X3_47 mf_X3_finding (c_finding g ao ap ak at' au ae ay kp tl 5 (by decide)) ⟨rfl, rfl, (Nat.le_of_ble_eq_true rfl), (Nat.le_of_ble_eq_true rfl)⟩ rfl rfl (Nat.le_of_ble_eq_true rfl) rfl rfl 0 rfl rfl rfl [0, 10] rfl rfl rfl rfl ?_
        have hf : f_lays ((mn, yr, gr, kd, pt, wt, mr), (ks, kp), (tb, tn), (wd, sz, nm), tl) (nI 0) = ((fd 5), ((mn, yr, gr, kd, pt, wt, mr), (ks, kp), (tb, tn), (wd, sz, nm), updN tl 5 (tl 5 + 1))) := by simp [f_lays, fnd, c1, c2, ix_nI (show 0 < 2 ^ 31 by decide)]
        exact g_iret C Rr dX3_lays_32 ⟨(la, ((kmn, kyr, kgr, kkd, kpt, kwt, kmr), kla), ((tmn, tyr, tgr, tkd, tpt, twt, tmr), tla), (pl, tk, sr, vl)), by rw [hf]; exact (fun h => hJ h), by rw [hf], by rw [hf]; rfl⟩ (spX_ad g (ao, ap, ak, at', au, ae, a0, a1, a2, a3, ay) ((mn, yr, gr, kd, pt, wt, mr), (ks, kp), (tb, tn), (wd, sz, nm), updN tl 5 (tl 5 + 1)) ((mn, yr, gr, kd, pt, wt, mr), (ks, kp), (tb, tn), (wd, sz, nm), tl) (la, ((kmn, kyr, kgr, kkd, kpt, kwt, kmr), kla), ((tmn, tyr, tgr, tkd, tpt, twt, tmr), tla), (pl, tk, sr, vl)) (la, ((kmn, kyr, kgr, kkd, kpt, kwt, kmr), kla), ((tmn, tyr, tgr, tkd, tpt, twt, tmr), tla), (pl, tk, sr, vl)))
    · refine g_aload_n (pc := 13) C dX3_lays_13 rfl ?_
      refine g_get3 (pc := 14) C dX3_lays_14 0 rfl 4 (by decide) fl_X3_31 rfl ?_
      refine g_iload_n (pc := 17) C dX3_lays_17 rfl ?_
      refine g_aaldN (pc := 18) C dX3_lays_18 24 rfl rfl (by decide) (by decide) rfl ?_
      refine g_astore_n (pc := 19) (lv2 := [(0, .ref (ao 0)), (1, .int (nI 1)), (2, .ref (a1 0))]) C dX3_lays_19 rfl (Nat.le_of_ble_eq_true rfl) rfl ?_
      refine g_aload_n (pc := 20) C dX3_lays_20 rfl ?_
      refine g_bxi (pc := 21) (cs := [shV g a1 (nm 1) (wd 1) (sz 1)]) (ds := [shV g a1 (nm 1) (wd 1) (sz 1)]) (bs2 := [spO g ao ap ak at' au ae ay kp, potV g ap gr la kd pt wt mr (sumN gr 12) yr mn, potV g ak kgr kla kkd kpt kwt kmr (sumN kgr 12) kyr kmn, potV g at' tgr tla tkd tpt twt tmr (sumN tgr 12) tyr tmn, tpV g au (tbB tb) tn pl tk sr vl, shA g ae a0 a1 a2 a3, shV g a0 (nm 0) (wd 0) (sz 0), shV g a1 (nm 1) (wd 1) (sz 1), shV g a2 (nm 2) (wd 2) (sz 2), shV g a3 (nm 3) (wd 3) (sz 3), arr7 g ay tl]) C dX3_lays_21 ml_X3_184 mf_X1_isMissing (c_isMissing g a1 (nm 1) (wd 1) (sz 1) (wlt hwd _)) ⟨rfl, rfl, (Nat.le_of_ble_eq_true rfl), (Nat.le_of_ble_eq_true rfl)⟩ rfl rfl (Nat.le_of_ble_eq_true rfl) (fl1 _) (fl1 _) 0 rfl rfl rfl [7] rfl rfl rfl rfl ?_
      refine g_if_eqB (pc := 24) (tgt := 33) C dX3_lays_24 (by decide) (fun c8 => ?_) (fun c8 => ?_)
      · refine g_iconst (pc := 33) (v := nI 0) C dX3_lays_33 (by decide) ?_
        refine g_istore_n (pc := 34) (lv2 := [(0, .ref (ao 0)), (1, .int (nI 1)), (2, .ref (a1 0)), (3, .int (nI 0))]) C dX3_lays_34 rfl (Nat.le_of_ble_eq_true rfl) rfl ?_
        refine g_iconst (pc := 35) (v := nI 0) C dX3_lays_35 (by decide) ?_
        refine g_istore (pc := 36) (lv2 := [(0, .ref (ao 0)), (1, .int (nI 1)), (2, .ref (a1 0)), (3, .int (nI 0)), (4, .int (nI 0))]) C dX3_lays_36 (Nat.le_of_ble_eq_true rfl) rfl ?_
        refine g_loop2 (n := (min 12 (sz 1))) (fun (i : Nat) (G : Nat → Nat) (x : Nat) => (G, x) = layN (nm 1) gr i ∧ PB G kd pt wt mr (sumN G 12) yr mn ∧ x ≤ i) (fun (i : Nat) (G : Nat → Nat) (x : Nat) => [(0, .ref (ao 0)), (1, .int (nI 1)), (2, .ref (a1 0)), (3, .int (nI x)), (4, .int (nI i))]) (fun (i : Nat) (G : Nat → Nat) (x : Nat) => (fl [spO g ao ap ak at' au ae ay kp, potV g ap G la kd pt wt mr (sumN G 12) yr mn, potV g ak kgr kla kkd kpt kwt kmr (sumN kgr 12) kyr kmn, potV g at' tgr tla tkd tpt twt tmr (sumN tgr 12) tyr tmn, tpV g au (tbB tb) tn pl tk sr vl, shA g ae a0 a1 a2 a3, shV g a0 (nm 0) (wd 0) (sz 0), shV g a1 (nm 1) (wd 1) (sz 1), shV g a2 (nm 2) (wd 2) (sz 2), shV g a3 (nm 3) (wd 3) (sz 3), arr7 g ay tl])) ?_ 0 gr 0 (by omega) ⟨rfl, hB, Nat.le_refl _⟩
        intro i G x hi_i hv_i ih_i
        show Go φ g 7 38 [(0, .ref (ao 0)), (1, .int (nI 1)), (2, .ref (a1 0)), (3, .int (nI x)), (4, .int (nI i))] [] (fl [spO g ao ap ak at' au ae ay kp, potV g ap G la kd pt wt mr (sumN G 12) yr mn, potV g ak kgr kla kkd kpt kwt kmr (sumN kgr 12) kyr kmn, potV g at' tgr tla tkd tpt twt tmr (sumN tgr 12) tyr tmn, tpV g au (tbB tb) tn pl tk sr vl, shA g ae a0 a1 a2 a3, shV g a0 (nm 0) (wd 0) (sz 0), shV g a1 (nm 1) (wd 1) (sz 1), shV g a2 (nm 2) (wd 2) (sz 2), shV g a3 (nm 3) (wd 3) (sz 3), arr7 g ay tl])
        have hv_i : (G, x) = layN (nm 1) gr i ∧ PB G kd pt wt mr (sumN G 12) yr mn ∧ x ≤ i := hv_i
        obtain ⟨hv1, hBi, hxi⟩ := hv_i
        have hTi := hBi.2.1
        have hgi : i < 12 → G i ≤ sumN G 12 := fun h => sumN_ge G h
        refine g_iload (pc := 38) C dX3_lays_38 rfl ?_
        refine g_bipush (pc := 40) (v := nI 12) C dX3_lays_40 (by decide) ?_
        refine g_icmp_geN (pc := 42) (tgt := 115) C dX3_lays_42 (by decide) (by omega) (by omega) (fun c9 => ?_) (fun c9 => ?_)
        · refine g_iload_n (pc := 115) C dX3_lays_115 rfl ?_
          have hf : f_lays ((mn, yr, gr, kd, pt, wt, mr), (ks, kp), (tb, tn), (wd, sz, nm), tl) (nI 1) = ((nI x), ((mn, yr, G, kd, pt, wt, mr), (ks, kp), (tb, tn), (wd, sz, nm), tl)) := by simp only [f_lays, c1, c8, ix_nI (show 1 < 2 ^ 31 by decide), if_true, if_false, ix_nI (show 1 < 2 ^ 31 by decide)]; rw [show layN (nm 1) gr (min 12 (sz 1)) = (G, x) from by rw [hv1, show i = min 12 (sz 1) by omega]]
          exact g_iret C Rr dX3_lays_116 ⟨(la, ((kmn, kyr, kgr, kkd, kpt, kwt, kmr), kla), ((tmn, tyr, tgr, tkd, tpt, twt, tmr), tla), (pl, tk, sr, vl)), by rw [hf]; exact (fun h => hJ h), by rw [hf], by rw [hf]; rfl⟩ (spX_ad g (ao, ap, ak, at', au, ae, a0, a1, a2, a3, ay) ((mn, yr, G, kd, pt, wt, mr), (ks, kp), (tb, tn), (wd, sz, nm), tl) ((mn, yr, gr, kd, pt, wt, mr), (ks, kp), (tb, tn), (wd, sz, nm), tl) (la, ((kmn, kyr, kgr, kkd, kpt, kwt, kmr), kla), ((tmn, tyr, tgr, tkd, tpt, twt, tmr), tla), (pl, tk, sr, vl)) (la, ((kmn, kyr, kgr, kkd, kpt, kwt, kmr), kla), ((tmn, tyr, tgr, tkd, tpt, twt, tmr), tla), (pl, tk, sr, vl)))
        · refine g_iload (pc := 45) C dX3_lays_45 rfl ?_
          refine g_aload_n (pc := 47) C dX3_lays_47 rfl ?_
          refine g_get1 (pc := 48) C dX3_lays_48 27 rfl 2 (by decide) fl_X3_181 rfl ?_
          refine g_icmp_geN (pc := 51) (tgt := 115) C dX3_lays_51 (by decide) (by omega) (by omega) (fun c10 => ?_) (fun c10 => ?_)
          · refine g_iload_n (pc := 115) C dX3_lays_115 rfl ?_
            have hf : f_lays ((mn, yr, gr, kd, pt, wt, mr), (ks, kp), (tb, tn), (wd, sz, nm), tl) (nI 1) = ((nI x), ((mn, yr, G, kd, pt, wt, mr), (ks, kp), (tb, tn), (wd, sz, nm), tl)) := by simp only [f_lays, c1, c8, ix_nI (show 1 < 2 ^ 31 by decide), if_true, if_false, ix_nI (show 1 < 2 ^ 31 by decide)]; rw [show layN (nm 1) gr (min 12 (sz 1)) = (G, x) from by rw [hv1, show i = min 12 (sz 1) by omega]]
            exact g_iret C Rr dX3_lays_116 ⟨(la, ((kmn, kyr, kgr, kkd, kpt, kwt, kmr), kla), ((tmn, tyr, tgr, tkd, tpt, twt, tmr), tla), (pl, tk, sr, vl)), by rw [hf]; exact (fun h => hJ h), by rw [hf], by rw [hf]; rfl⟩ (spX_ad g (ao, ap, ak, at', au, ae, a0, a1, a2, a3, ay) ((mn, yr, G, kd, pt, wt, mr), (ks, kp), (tb, tn), (wd, sz, nm), tl) ((mn, yr, gr, kd, pt, wt, mr), (ks, kp), (tb, tn), (wd, sz, nm), tl) (la, ((kmn, kyr, kgr, kkd, kpt, kwt, kmr), kla), ((tmn, tyr, tgr, tkd, tpt, twt, tmr), tla), (pl, tk, sr, vl)) (la, ((kmn, kyr, kgr, kkd, kpt, kwt, kmr), kla), ((tmn, tyr, tgr, tkd, tpt, twt, tmr), tla), (pl, tk, sr, vl)))
          · have hgj := hgi (by omega)
            refine g_aload_n (pc := 54) C dX3_lays_54 rfl ?_
            refine g_get1 (pc := 55) C dX3_lays_55 27 rfl 0 (by decide) fl_X3_187 rfl ?_
            refine g_iload (pc := 58) C dX3_lays_58 rfl ?_
            refine g_laldN (pc := 60) C dX3_lays_60 28 rfl rfl (by omega) (by decide) ?_
            refine g_lstore (pc := 61) (lv2 := [(0, .ref (ao 0)), (1, .int (nI 1)), (2, .ref (a1 0)), (3, .int (nI x)), (4, .int (nI i)), (5, .long ((nm 1) i))]) C dX3_lays_61 (Nat.le_of_ble_eq_true rfl) rfl ?_
            refine g_lload (pc := 63) C dX3_lays_63 rfl ?_
            refine g_lconst (pc := 65) (v := 0) C dX3_lays_65 (by decide) ?_
            refine g_lcmp (pc := 66) C dX3_lays_66 ?_
            refine g_if_ltL (pc := 67) (tgt := 109) C dX3_lays_67 (by decide) (fun c11 => ?_) (fun c11 => ?_)
            · refine g_iinc (pc := 109) (v := (nI (i + 1))) (lv2 := [(0, .ref (ao 0)), (1, .int (nI 1)), (2, .ref (a1 0)), (3, .int (nI x)), (4, .int (nI (i + 1))), (5, .long ((nm 1) i))]) C dX3_lays_109 rfl (nI_1 _) (Nat.le_of_ble_eq_true rfl) rfl ?_
              refine g_goto (pc := 112) (tgt := 38) C dX3_lays_112 (by decide) ?_
              refine g_lvs (lv2 := [(0, .ref (ao 0)), (1, .int (nI 1)), (2, .ref (a1 0)), (3, .int (nI x)), (4, .int (nI (i + 1)))]) [0, 1, 2, 3, 4] rfl ?_
              exact ih_i _ _ (by omega) ⟨by rw [layN, ← hv1, if_neg (fun q => lay_n1 c11 q)], hBi, by omega⟩
            · refine g_lload (pc := 70) C dX3_lays_70 rfl ?_
              refine g_ldc2 (pc := 72) C dX3_lays_72 ckl_X3_207 rfl ?_
              refine g_lcmp (pc := 75) C dX3_lays_75 ?_
              refine g_if_gtL (pc := 76) (tgt := 109) C dX3_lays_76 (by decide) (fun c12 => ?_) (fun c12 => ?_)
              · refine g_iinc (pc := 109) (v := (nI (i + 1))) (lv2 := [(0, .ref (ao 0)), (1, .int (nI 1)), (2, .ref (a1 0)), (3, .int (nI x)), (4, .int (nI (i + 1))), (5, .long ((nm 1) i))]) C dX3_lays_109 rfl (nI_1 _) (Nat.le_of_ble_eq_true rfl) rfl ?_
                refine g_goto (pc := 112) (tgt := 38) C dX3_lays_112 (by decide) ?_
                refine g_lvs (lv2 := [(0, .ref (ao 0)), (1, .int (nI 1)), (2, .ref (a1 0)), (3, .int (nI x)), (4, .int (nI (i + 1)))]) [0, 1, 2, 3, 4] rfl ?_
                exact ih_i _ _ (by omega) ⟨by rw [layN, ← hv1, if_neg (fun q => lay_n2 c12 q (hgi (by omega)) hTi)], hBi, by omega⟩
              · refine g_aload_n (pc := 79) C dX3_lays_79 rfl ?_
                refine g_get3 (pc := 80) C dX3_lays_80 0 rfl 0 (by decide) fl_X3_10 rfl ?_
                refine g_iload (pc := 83) C dX3_lays_83 rfl ?_
                refine g_lload (pc := 85) C dX3_lays_85 rfl ?_
                refine g_l2i (pc := 87) C dX3_lays_87 ?_
                refine g_top (y := nI ((nm 1 i).toInt.toNat)) (lay_v c11 c12) ?_
                have hvl := lay_b c11 c12
                refine g_bxi (pc := 88) (cs := [potV g ap G la kd pt wt mr (sumN G 12) yr mn]) (ds := [potV g ap G la kd pt wt mr (sumN G 12) yr mn]) (bs2 := [spO g ao ap ak at' au ae ay kp, potV g ap G la kd pt wt mr (sumN G 12) yr mn, potV g ak kgr kla kkd kpt kwt kmr (sumN kgr 12) kyr kmn, potV g at' tgr tla tkd tpt twt tmr (sumN tgr 12) tyr tmn, tpV g au (tbB tb) tn pl tk sr vl, shA g ae a0 a1 a2 a3, shV g a0 (nm 0) (wd 0) (sz 0), shV g a1 (nm 1) (wd 1) (sz 1), shV g a2 (nm 2) (wd 2) (sz 2), shV g a3 (nm 3) (wd 3) (sz 3), arr7 g ay tl]) C dX3_lays_88 ml_X3_56 mf_X0_hasRoom (c_hasRoom g ap G la kd pt wt mr (sumN G 12) yr mn i ((nm 1 i).toInt.toNat) hBi (by omega) (by omega)) ⟨rfl, rfl, (Nat.le_of_ble_eq_true rfl), (Nat.le_of_ble_eq_true rfl)⟩ rfl rfl (Nat.le_of_ble_eq_true rfl) (fl1 _) (fl1 _) 0 rfl rfl rfl [1] rfl rfl rfl rfl ?_
                refine g_if_eqB (pc := 91) (tgt := 109) C dX3_lays_91 (by decide) (fun c13 => ?_) (fun c13 => ?_)
                · refine g_iinc (pc := 109) (v := (nI (i + 1))) (lv2 := [(0, .ref (ao 0)), (1, .int (nI 1)), (2, .ref (a1 0)), (3, .int (nI x)), (4, .int (nI (i + 1))), (5, .long ((nm 1) i))]) C dX3_lays_109 rfl (nI_1 _) (Nat.le_of_ble_eq_true rfl) rfl ?_
                  refine g_goto (pc := 112) (tgt := 38) C dX3_lays_112 (by decide) ?_
                  refine g_lvs (lv2 := [(0, .ref (ao 0)), (1, .int (nI 1)), (2, .ref (a1 0)), (3, .int (nI x)), (4, .int (nI (i + 1)))]) [0, 1, 2, 3, 4] rfl ?_
                  exact ih_i _ _ (by omega) ⟨by rw [layN, ← hv1, if_neg (fun q => lay_n3 c13 q (hgi (by omega)) hTi)], hBi, by omega⟩
                · refine g_aload_n (pc := 94) C dX3_lays_94 rfl ?_
                  refine g_get3 (pc := 95) C dX3_lays_95 0 rfl 0 (by decide) fl_X3_10 rfl ?_
                  refine g_iload (pc := 98) C dX3_lays_98 rfl ?_
                  refine g_lload (pc := 100) C dX3_lays_100 rfl ?_
                  refine g_l2i (pc := 102) C dX3_lays_102 ?_
                  refine g_top (y := nI ((nm 1 i).toInt.toNat)) (lay_v c11 c12) ?_
                  refine g_bxn (pc := 103) (cs := [potV g ap G la kd pt wt mr (sumN G 12) yr mn]) (ds := [potV g ap (updN G i ((nm 1 i).toInt.toNat)) la kd pt wt mr ((sumN G 12) - G i + ((nm 1 i).toInt.toNat)) yr mn]) (bs2 := [spO g ao ap ak at' au ae ay kp, potV g ap (updN G i ((nm 1 i).toInt.toNat)) la kd pt wt mr ((sumN G 12) - G i + ((nm 1 i).toInt.toNat)) yr mn, potV g ak kgr kla kkd kpt kwt kmr (sumN kgr 12) kyr kmn, potV g at' tgr tla tkd tpt twt tmr (sumN tgr 12) tyr tmn, tpV g au (tbB tb) tn pl tk sr vl, shA g ae a0 a1 a2 a3, shV g a0 (nm 0) (wd 0) (sz 0), shV g a1 (nm 1) (wd 1) (sz 1), shV g a2 (nm 2) (wd 2) (sz 2), shV g a3 (nm 3) (wd 3) (sz 3), arr7 g ay tl]) C dX3_lays_103 ml_X3_60 mf_X0_fill (c_fill g ap G la kd pt wt mr (sumN G 12) yr mn i ((nm 1 i).toInt.toNat) hBi (by omega)) ⟨rfl, rfl, (Nat.le_of_ble_eq_true rfl), (Nat.le_of_ble_eq_true rfl)⟩ rfl rfl (Nat.le_of_ble_eq_true rfl) (fl1 _) (fl1 _) 0 rfl rfl rfl [1] rfl rfl rfl rfl ?_
                  refine g_iinc (pc := 106) (v := (nI (x + 1))) (lv2 := [(0, .ref (ao 0)), (1, .int (nI 1)), (2, .ref (a1 0)), (3, .int (nI (x + 1))), (4, .int (nI i)), (5, .long ((nm 1) i))]) C dX3_lays_106 rfl (nI_1 _) (Nat.le_of_ble_eq_true rfl) rfl ?_
                  refine g_iinc (pc := 109) (v := (nI (i + 1))) (lv2 := [(0, .ref (ao 0)), (1, .int (nI 1)), (2, .ref (a1 0)), (3, .int (nI (x + 1))), (4, .int (nI (i + 1))), (5, .long ((nm 1) i))]) C dX3_lays_109 rfl (nI_1 _) (Nat.le_of_ble_eq_true rfl) rfl ?_
                  refine g_goto (pc := 112) (tgt := 38) C dX3_lays_112 (by decide) ?_
                  refine g_lvs (lv2 := [(0, .ref (ao 0)), (1, .int (nI 1)), (2, .ref (a1 0)), (3, .int (nI (x + 1))), (4, .int (nI (i + 1)))]) [0, 1, 2, 3, 4] rfl ?_
                  refine g_ws (ws := (fl [spO g ao ap ak at' au ae ay kp, potV g ap (updN G i ((nm 1 i).toInt.toNat)) la kd pt wt mr ((sumN G 12) - G i + ((nm 1 i).toInt.toNat)) yr mn, potV g ak kgr kla kkd kpt kwt kmr (sumN kgr 12) kyr kmn, potV g at' tgr tla tkd tpt twt tmr (sumN tgr 12) tyr tmn, tpV g au (tbB tb) tn pl tk sr vl, shA g ae a0 a1 a2 a3, shV g a0 (nm 0) (wd 0) (sz 0), shV g a1 (nm 1) (wd 1) (sz 1), shV g a2 (nm 2) (wd 2) (sz 2), shV g a3 (nm 3) (wd 3) (sz 3), arr7 g ay tl])) (ws2 := (fl [spO g ao ap ak at' au ae ay kp, potV g ap (updN G i ((nm 1 i).toInt.toNat)) la kd pt wt mr (sumN (updN G i ((nm 1 i).toInt.toNat)) 12) yr mn, potV g ak kgr kla kkd kpt kwt kmr (sumN kgr 12) kyr kmn, potV g at' tgr tla tkd tpt twt tmr (sumN tgr 12) tyr tmn, tpV g au (tbB tb) tn pl tk sr vl, shA g ae a0 a1 a2 a3, shV g a0 (nm 0) (wd 0) (sz 0), shV g a1 (nm 1) (wd 1) (sz 1), shV g a2 (nm 2) (wd 2) (sz 2), shV g a3 (nm 3) (wd 3) (sz 3), arr7 g ay tl])) (by rw [show (sumN G 12) - G i + ((nm 1 i).toInt.toNat) = sumN (updN G i ((nm 1 i).toInt.toNat)) 12 from sum_fill (by omega)]) ?_; exact ih_i _ _ (by omega) ⟨by rw [layN, ← hv1, if_pos (lay_y c11 c12 c13 (by omega) hTi)], PB_fill hBi (by omega) c13, by omega⟩
      · refine g_aload_n (pc := 27) C dX3_lays_27 rfl ?_
        refine g_iconst (pc := 28) (v := nI 5) C dX3_lays_28 (by decide) ?_
        refine g_bxi (pc := 29) (cs := [spO g ao ap ak at' au ae ay kp, arr7 g ay tl]) (ds := [spO g ao ap ak at' au ae ay kp, arr7 g ay (updN tl 5 (tl 5 + 1))]) (bs2 := [spO g ao ap ak at' au ae ay kp, potV g ap gr la kd pt wt mr (sumN gr 12) yr mn, potV g ak kgr kla kkd kpt kwt kmr (sumN kgr 12) kyr kmn, potV g at' tgr tla tkd tpt twt tmr (sumN tgr 12) tyr tmn, tpV g au (tbB tb) tn pl tk sr vl, shA g ae a0 a1 a2 a3, shV g a0 (nm 0) (wd 0) (sz 0), shV g a1 (nm 1) (wd 1) (sz 1), shV g a2 (nm 2) (wd 2) (sz 2), shV g a3 (nm 3) (wd 3) (sz 3), arr7 g ay (updN tl 5 (tl 5 + 1))]) C dX3_lays_29 ml_X3_47 mf_X3_finding (c_finding g ao ap ak at' au ae ay kp tl 5 (by decide)) ⟨rfl, rfl, (Nat.le_of_ble_eq_true rfl), (Nat.le_of_ble_eq_true rfl)⟩ rfl rfl (Nat.le_of_ble_eq_true rfl) rfl rfl 0 rfl rfl rfl [0, 10] rfl rfl rfl rfl ?_
        have hf : f_lays ((mn, yr, gr, kd, pt, wt, mr), (ks, kp), (tb, tn), (wd, sz, nm), tl) (nI 1) = ((fd 5), ((mn, yr, gr, kd, pt, wt, mr), (ks, kp), (tb, tn), (wd, sz, nm), updN tl 5 (tl 5 + 1))) := by simp [f_lays, fnd, c1, c8, ix_nI (show 1 < 2 ^ 31 by decide)]
        exact g_iret C Rr dX3_lays_32 ⟨(la, ((kmn, kyr, kgr, kkd, kpt, kwt, kmr), kla), ((tmn, tyr, tgr, tkd, tpt, twt, tmr), tla), (pl, tk, sr, vl)), by rw [hf]; exact (fun h => hJ h), by rw [hf], by rw [hf]; rfl⟩ (spX_ad g (ao, ap, ak, at', au, ae, a0, a1, a2, a3, ay) ((mn, yr, gr, kd, pt, wt, mr), (ks, kp), (tb, tn), (wd, sz, nm), updN tl 5 (tl 5 + 1)) ((mn, yr, gr, kd, pt, wt, mr), (ks, kp), (tb, tn), (wd, sz, nm), tl) (la, ((kmn, kyr, kgr, kkd, kpt, kwt, kmr), kla), ((tmn, tyr, tgr, tkd, tpt, twt, tmr), tla), (pl, tk, sr, vl)) (la, ((kmn, kyr, kgr, kkd, kpt, kwt, kmr), kla), ((tmn, tyr, tgr, tkd, tpt, twt, tmr), tla), (pl, tk, sr, vl)))
    · refine g_aload_n (pc := 13) C dX3_lays_13 rfl ?_
      refine g_get3 (pc := 14) C dX3_lays_14 0 rfl 4 (by decide) fl_X3_31 rfl ?_
      refine g_iload_n (pc := 17) C dX3_lays_17 rfl ?_
      refine g_aaldN (pc := 18) C dX3_lays_18 24 rfl rfl (by decide) (by decide) rfl ?_
      refine g_astore_n (pc := 19) (lv2 := [(0, .ref (ao 0)), (1, .int (nI 2)), (2, .ref (a2 0))]) C dX3_lays_19 rfl (Nat.le_of_ble_eq_true rfl) rfl ?_
      refine g_aload_n (pc := 20) C dX3_lays_20 rfl ?_
      refine g_bxi (pc := 21) (cs := [shV g a2 (nm 2) (wd 2) (sz 2)]) (ds := [shV g a2 (nm 2) (wd 2) (sz 2)]) (bs2 := [spO g ao ap ak at' au ae ay kp, potV g ap gr la kd pt wt mr (sumN gr 12) yr mn, potV g ak kgr kla kkd kpt kwt kmr (sumN kgr 12) kyr kmn, potV g at' tgr tla tkd tpt twt tmr (sumN tgr 12) tyr tmn, tpV g au (tbB tb) tn pl tk sr vl, shA g ae a0 a1 a2 a3, shV g a0 (nm 0) (wd 0) (sz 0), shV g a1 (nm 1) (wd 1) (sz 1), shV g a2 (nm 2) (wd 2) (sz 2), shV g a3 (nm 3) (wd 3) (sz 3), arr7 g ay tl]) C dX3_lays_21 ml_X3_184 mf_X1_isMissing (c_isMissing g a2 (nm 2) (wd 2) (sz 2) (wlt hwd _)) ⟨rfl, rfl, (Nat.le_of_ble_eq_true rfl), (Nat.le_of_ble_eq_true rfl)⟩ rfl rfl (Nat.le_of_ble_eq_true rfl) (fl1 _) (fl1 _) 0 rfl rfl rfl [8] rfl rfl rfl rfl ?_
      refine g_if_eqB (pc := 24) (tgt := 33) C dX3_lays_24 (by decide) (fun c14 => ?_) (fun c14 => ?_)
      · refine g_iconst (pc := 33) (v := nI 0) C dX3_lays_33 (by decide) ?_
        refine g_istore_n (pc := 34) (lv2 := [(0, .ref (ao 0)), (1, .int (nI 2)), (2, .ref (a2 0)), (3, .int (nI 0))]) C dX3_lays_34 rfl (Nat.le_of_ble_eq_true rfl) rfl ?_
        refine g_iconst (pc := 35) (v := nI 0) C dX3_lays_35 (by decide) ?_
        refine g_istore (pc := 36) (lv2 := [(0, .ref (ao 0)), (1, .int (nI 2)), (2, .ref (a2 0)), (3, .int (nI 0)), (4, .int (nI 0))]) C dX3_lays_36 (Nat.le_of_ble_eq_true rfl) rfl ?_
        refine g_loop2 (n := (min 12 (sz 2))) (fun (i : Nat) (G : Nat → Nat) (x : Nat) => (G, x) = layN (nm 2) gr i ∧ PB G kd pt wt mr (sumN G 12) yr mn ∧ x ≤ i) (fun (i : Nat) (G : Nat → Nat) (x : Nat) => [(0, .ref (ao 0)), (1, .int (nI 2)), (2, .ref (a2 0)), (3, .int (nI x)), (4, .int (nI i))]) (fun (i : Nat) (G : Nat → Nat) (x : Nat) => (fl [spO g ao ap ak at' au ae ay kp, potV g ap G la kd pt wt mr (sumN G 12) yr mn, potV g ak kgr kla kkd kpt kwt kmr (sumN kgr 12) kyr kmn, potV g at' tgr tla tkd tpt twt tmr (sumN tgr 12) tyr tmn, tpV g au (tbB tb) tn pl tk sr vl, shA g ae a0 a1 a2 a3, shV g a0 (nm 0) (wd 0) (sz 0), shV g a1 (nm 1) (wd 1) (sz 1), shV g a2 (nm 2) (wd 2) (sz 2), shV g a3 (nm 3) (wd 3) (sz 3), arr7 g ay tl])) ?_ 0 gr 0 (by omega) ⟨rfl, hB, Nat.le_refl _⟩
        intro i G x hi_i hv_i ih_i
        show Go φ g 7 38 [(0, .ref (ao 0)), (1, .int (nI 2)), (2, .ref (a2 0)), (3, .int (nI x)), (4, .int (nI i))] [] (fl [spO g ao ap ak at' au ae ay kp, potV g ap G la kd pt wt mr (sumN G 12) yr mn, potV g ak kgr kla kkd kpt kwt kmr (sumN kgr 12) kyr kmn, potV g at' tgr tla tkd tpt twt tmr (sumN tgr 12) tyr tmn, tpV g au (tbB tb) tn pl tk sr vl, shA g ae a0 a1 a2 a3, shV g a0 (nm 0) (wd 0) (sz 0), shV g a1 (nm 1) (wd 1) (sz 1), shV g a2 (nm 2) (wd 2) (sz 2), shV g a3 (nm 3) (wd 3) (sz 3), arr7 g ay tl])
        have hv_i : (G, x) = layN (nm 2) gr i ∧ PB G kd pt wt mr (sumN G 12) yr mn ∧ x ≤ i := hv_i
        obtain ⟨hv1, hBi, hxi⟩ := hv_i
        have hTi := hBi.2.1
        have hgi : i < 12 → G i ≤ sumN G 12 := fun h => sumN_ge G h
        refine g_iload (pc := 38) C dX3_lays_38 rfl ?_
        refine g_bipush (pc := 40) (v := nI 12) C dX3_lays_40 (by decide) ?_
        refine g_icmp_geN (pc := 42) (tgt := 115) C dX3_lays_42 (by decide) (by omega) (by omega) (fun c15 => ?_) (fun c15 => ?_)
        · refine g_iload_n (pc := 115) C dX3_lays_115 rfl ?_
          have hf : f_lays ((mn, yr, gr, kd, pt, wt, mr), (ks, kp), (tb, tn), (wd, sz, nm), tl) (nI 2) = ((nI x), ((mn, yr, G, kd, pt, wt, mr), (ks, kp), (tb, tn), (wd, sz, nm), tl)) := by simp only [f_lays, c1, c14, ix_nI (show 2 < 2 ^ 31 by decide), if_true, if_false, ix_nI (show 2 < 2 ^ 31 by decide)]; rw [show layN (nm 2) gr (min 12 (sz 2)) = (G, x) from by rw [hv1, show i = min 12 (sz 2) by omega]]
          exact g_iret C Rr dX3_lays_116 ⟨(la, ((kmn, kyr, kgr, kkd, kpt, kwt, kmr), kla), ((tmn, tyr, tgr, tkd, tpt, twt, tmr), tla), (pl, tk, sr, vl)), by rw [hf]; exact (fun h => hJ h), by rw [hf], by rw [hf]; rfl⟩ (spX_ad g (ao, ap, ak, at', au, ae, a0, a1, a2, a3, ay) ((mn, yr, G, kd, pt, wt, mr), (ks, kp), (tb, tn), (wd, sz, nm), tl) ((mn, yr, gr, kd, pt, wt, mr), (ks, kp), (tb, tn), (wd, sz, nm), tl) (la, ((kmn, kyr, kgr, kkd, kpt, kwt, kmr), kla), ((tmn, tyr, tgr, tkd, tpt, twt, tmr), tla), (pl, tk, sr, vl)) (la, ((kmn, kyr, kgr, kkd, kpt, kwt, kmr), kla), ((tmn, tyr, tgr, tkd, tpt, twt, tmr), tla), (pl, tk, sr, vl)))
        · refine g_iload (pc := 45) C dX3_lays_45 rfl ?_
          refine g_aload_n (pc := 47) C dX3_lays_47 rfl ?_
          refine g_get1 (pc := 48) C dX3_lays_48 29 rfl 2 (by decide) fl_X3_181 rfl ?_
          refine g_icmp_geN (pc := 51) (tgt := 115) C dX3_lays_51 (by decide) (by omega) (by omega) (fun c16 => ?_) (fun c16 => ?_)
          · refine g_iload_n (pc := 115) C dX3_lays_115 rfl ?_
            have hf : f_lays ((mn, yr, gr, kd, pt, wt, mr), (ks, kp), (tb, tn), (wd, sz, nm), tl) (nI 2) = ((nI x), ((mn, yr, G, kd, pt, wt, mr), (ks, kp), (tb, tn), (wd, sz, nm), tl)) := by simp only [f_lays, c1, c14, ix_nI (show 2 < 2 ^ 31 by decide), if_true, if_false, ix_nI (show 2 < 2 ^ 31 by decide)]; rw [show layN (nm 2) gr (min 12 (sz 2)) = (G, x) from by rw [hv1, show i = min 12 (sz 2) by omega]]
            exact g_iret C Rr dX3_lays_116 ⟨(la, ((kmn, kyr, kgr, kkd, kpt, kwt, kmr), kla), ((tmn, tyr, tgr, tkd, tpt, twt, tmr), tla), (pl, tk, sr, vl)), by rw [hf]; exact (fun h => hJ h), by rw [hf], by rw [hf]; rfl⟩ (spX_ad g (ao, ap, ak, at', au, ae, a0, a1, a2, a3, ay) ((mn, yr, G, kd, pt, wt, mr), (ks, kp), (tb, tn), (wd, sz, nm), tl) ((mn, yr, gr, kd, pt, wt, mr), (ks, kp), (tb, tn), (wd, sz, nm), tl) (la, ((kmn, kyr, kgr, kkd, kpt, kwt, kmr), kla), ((tmn, tyr, tgr, tkd, tpt, twt, tmr), tla), (pl, tk, sr, vl)) (la, ((kmn, kyr, kgr, kkd, kpt, kwt, kmr), kla), ((tmn, tyr, tgr, tkd, tpt, twt, tmr), tla), (pl, tk, sr, vl)))
          · have hgj := hgi (by omega)
            refine g_aload_n (pc := 54) C dX3_lays_54 rfl ?_
            refine g_get1 (pc := 55) C dX3_lays_55 29 rfl 0 (by decide) fl_X3_187 rfl ?_
            refine g_iload (pc := 58) C dX3_lays_58 rfl ?_
            refine g_laldN (pc := 60) C dX3_lays_60 30 rfl rfl (by omega) (by decide) ?_
            refine g_lstore (pc := 61) (lv2 := [(0, .ref (ao 0)), (1, .int (nI 2)), (2, .ref (a2 0)), (3, .int (nI x)), (4, .int (nI i)), (5, .long ((nm 2) i))]) C dX3_lays_61 (Nat.le_of_ble_eq_true rfl) rfl ?_
            refine g_lload (pc := 63) C dX3_lays_63 rfl ?_
            refine g_lconst (pc := 65) (v := 0) C dX3_lays_65 (by decide) ?_
            refine g_lcmp (pc := 66) C dX3_lays_66 ?_
            refine g_if_ltL (pc := 67) (tgt := 109) C dX3_lays_67 (by decide) (fun c17 => ?_) (fun c17 => ?_)
            · refine g_iinc (pc := 109) (v := (nI (i + 1))) (lv2 := [(0, .ref (ao 0)), (1, .int (nI 2)), (2, .ref (a2 0)), (3, .int (nI x)), (4, .int (nI (i + 1))), (5, .long ((nm 2) i))]) C dX3_lays_109 rfl (nI_1 _) (Nat.le_of_ble_eq_true rfl) rfl ?_
              refine g_goto (pc := 112) (tgt := 38) C dX3_lays_112 (by decide) ?_
              refine g_lvs (lv2 := [(0, .ref (ao 0)), (1, .int (nI 2)), (2, .ref (a2 0)), (3, .int (nI x)), (4, .int (nI (i + 1)))]) [0, 1, 2, 3, 4] rfl ?_
              exact ih_i _ _ (by omega) ⟨by rw [layN, ← hv1, if_neg (fun q => lay_n1 c17 q)], hBi, by omega⟩
            · refine g_lload (pc := 70) C dX3_lays_70 rfl ?_
              refine g_ldc2 (pc := 72) C dX3_lays_72 ckl_X3_207 rfl ?_
              refine g_lcmp (pc := 75) C dX3_lays_75 ?_
              refine g_if_gtL (pc := 76) (tgt := 109) C dX3_lays_76 (by decide) (fun c18 => ?_) (fun c18 => ?_)
              · refine g_iinc (pc := 109) (v := (nI (i + 1))) (lv2 := [(0, .ref (ao 0)), (1, .int (nI 2)), (2, .ref (a2 0)), (3, .int (nI x)), (4, .int (nI (i + 1))), (5, .long ((nm 2) i))]) C dX3_lays_109 rfl (nI_1 _) (Nat.le_of_ble_eq_true rfl) rfl ?_
                refine g_goto (pc := 112) (tgt := 38) C dX3_lays_112 (by decide) ?_
                refine g_lvs (lv2 := [(0, .ref (ao 0)), (1, .int (nI 2)), (2, .ref (a2 0)), (3, .int (nI x)), (4, .int (nI (i + 1)))]) [0, 1, 2, 3, 4] rfl ?_
                exact ih_i _ _ (by omega) ⟨by rw [layN, ← hv1, if_neg (fun q => lay_n2 c18 q (hgi (by omega)) hTi)], hBi, by omega⟩
              · refine g_aload_n (pc := 79) C dX3_lays_79 rfl ?_
                refine g_get3 (pc := 80) C dX3_lays_80 0 rfl 0 (by decide) fl_X3_10 rfl ?_
                refine g_iload (pc := 83) C dX3_lays_83 rfl ?_
                refine g_lload (pc := 85) C dX3_lays_85 rfl ?_
                refine g_l2i (pc := 87) C dX3_lays_87 ?_
                refine g_top (y := nI ((nm 2 i).toInt.toNat)) (lay_v c17 c18) ?_
                have hvl := lay_b c17 c18
                refine g_bxi (pc := 88) (cs := [potV g ap G la kd pt wt mr (sumN G 12) yr mn]) (ds := [potV g ap G la kd pt wt mr (sumN G 12) yr mn]) (bs2 := [spO g ao ap ak at' au ae ay kp, potV g ap G la kd pt wt mr (sumN G 12) yr mn, potV g ak kgr kla kkd kpt kwt kmr (sumN kgr 12) kyr kmn, potV g at' tgr tla tkd tpt twt tmr (sumN tgr 12) tyr tmn, tpV g au (tbB tb) tn pl tk sr vl, shA g ae a0 a1 a2 a3, shV g a0 (nm 0) (wd 0) (sz 0), shV g a1 (nm 1) (wd 1) (sz 1), shV g a2 (nm 2) (wd 2) (sz 2), shV g a3 (nm 3) (wd 3) (sz 3), arr7 g ay tl]) C dX3_lays_88 ml_X3_56 mf_X0_hasRoom (c_hasRoom g ap G la kd pt wt mr (sumN G 12) yr mn i ((nm 2 i).toInt.toNat) hBi (by omega) (by omega)) ⟨rfl, rfl, (Nat.le_of_ble_eq_true rfl), (Nat.le_of_ble_eq_true rfl)⟩ rfl rfl (Nat.le_of_ble_eq_true rfl) (fl1 _) (fl1 _) 0 rfl rfl rfl [1] rfl rfl rfl rfl ?_
                refine g_if_eqB (pc := 91) (tgt := 109) C dX3_lays_91 (by decide) (fun c19 => ?_) (fun c19 => ?_)
                · refine g_iinc (pc := 109) (v := (nI (i + 1))) (lv2 := [(0, .ref (ao 0)), (1, .int (nI 2)), (2, .ref (a2 0)), (3, .int (nI x)), (4, .int (nI (i + 1))), (5, .long ((nm 2) i))]) C dX3_lays_109 rfl (nI_1 _) (Nat.le_of_ble_eq_true rfl) rfl ?_
                  refine g_goto (pc := 112) (tgt := 38) C dX3_lays_112 (by decide) ?_
                  refine g_lvs (lv2 := [(0, .ref (ao 0)), (1, .int (nI 2)), (2, .ref (a2 0)), (3, .int (nI x)), (4, .int (nI (i + 1)))]) [0, 1, 2, 3, 4] rfl ?_
                  exact ih_i _ _ (by omega) ⟨by rw [layN, ← hv1, if_neg (fun q => lay_n3 c19 q (hgi (by omega)) hTi)], hBi, by omega⟩
                · refine g_aload_n (pc := 94) C dX3_lays_94 rfl ?_
                  refine g_get3 (pc := 95) C dX3_lays_95 0 rfl 0 (by decide) fl_X3_10 rfl ?_
                  refine g_iload (pc := 98) C dX3_lays_98 rfl ?_
                  refine g_lload (pc := 100) C dX3_lays_100 rfl ?_
                  refine g_l2i (pc := 102) C dX3_lays_102 ?_
                  refine g_top (y := nI ((nm 2 i).toInt.toNat)) (lay_v c17 c18) ?_
                  refine g_bxn (pc := 103) (cs := [potV g ap G la kd pt wt mr (sumN G 12) yr mn]) (ds := [potV g ap (updN G i ((nm 2 i).toInt.toNat)) la kd pt wt mr ((sumN G 12) - G i + ((nm 2 i).toInt.toNat)) yr mn]) (bs2 := [spO g ao ap ak at' au ae ay kp, potV g ap (updN G i ((nm 2 i).toInt.toNat)) la kd pt wt mr ((sumN G 12) - G i + ((nm 2 i).toInt.toNat)) yr mn, potV g ak kgr kla kkd kpt kwt kmr (sumN kgr 12) kyr kmn, potV g at' tgr tla tkd tpt twt tmr (sumN tgr 12) tyr tmn, tpV g au (tbB tb) tn pl tk sr vl, shA g ae a0 a1 a2 a3, shV g a0 (nm 0) (wd 0) (sz 0), shV g a1 (nm 1) (wd 1) (sz 1), shV g a2 (nm 2) (wd 2) (sz 2), shV g a3 (nm 3) (wd 3) (sz 3), arr7 g ay tl]) C dX3_lays_103 ml_X3_60 mf_X0_fill (c_fill g ap G la kd pt wt mr (sumN G 12) yr mn i ((nm 2 i).toInt.toNat) hBi (by omega)) ⟨rfl, rfl, (Nat.le_of_ble_eq_true rfl), (Nat.le_of_ble_eq_true rfl)⟩ rfl rfl (Nat.le_of_ble_eq_true rfl) (fl1 _) (fl1 _) 0 rfl rfl rfl [1] rfl rfl rfl rfl ?_
                  refine g_iinc (pc := 106) (v := (nI (x + 1))) (lv2 := [(0, .ref (ao 0)), (1, .int (nI 2)), (2, .ref (a2 0)), (3, .int (nI (x + 1))), (4, .int (nI i)), (5, .long ((nm 2) i))]) C dX3_lays_106 rfl (nI_1 _) (Nat.le_of_ble_eq_true rfl) rfl ?_
                  refine g_iinc (pc := 109) (v := (nI (i + 1))) (lv2 := [(0, .ref (ao 0)), (1, .int (nI 2)), (2, .ref (a2 0)), (3, .int (nI (x + 1))), (4, .int (nI (i + 1))), (5, .long ((nm 2) i))]) C dX3_lays_109 rfl (nI_1 _) (Nat.le_of_ble_eq_true rfl) rfl ?_
                  refine g_goto (pc := 112) (tgt := 38) C dX3_lays_112 (by decide) ?_
                  refine g_lvs (lv2 := [(0, .ref (ao 0)), (1, .int (nI 2)), (2, .ref (a2 0)), (3, .int (nI (x + 1))), (4, .int (nI (i + 1)))]) [0, 1, 2, 3, 4] rfl ?_
                  refine g_ws (ws := (fl [spO g ao ap ak at' au ae ay kp, potV g ap (updN G i ((nm 2 i).toInt.toNat)) la kd pt wt mr ((sumN G 12) - G i + ((nm 2 i).toInt.toNat)) yr mn, potV g ak kgr kla kkd kpt kwt kmr (sumN kgr 12) kyr kmn, potV g at' tgr tla tkd tpt twt tmr (sumN tgr 12) tyr tmn, tpV g au (tbB tb) tn pl tk sr vl, shA g ae a0 a1 a2 a3, shV g a0 (nm 0) (wd 0) (sz 0), shV g a1 (nm 1) (wd 1) (sz 1), shV g a2 (nm 2) (wd 2) (sz 2), shV g a3 (nm 3) (wd 3) (sz 3), arr7 g ay tl])) (ws2 := (fl [spO g ao ap ak at' au ae ay kp, potV g ap (updN G i ((nm 2 i).toInt.toNat)) la kd pt wt mr (sumN (updN G i ((nm 2 i).toInt.toNat)) 12) yr mn, potV g ak kgr kla kkd kpt kwt kmr (sumN kgr 12) kyr kmn, potV g at' tgr tla tkd tpt twt tmr (sumN tgr 12) tyr tmn, tpV g au (tbB tb) tn pl tk sr vl, shA g ae a0 a1 a2 a3, shV g a0 (nm 0) (wd 0) (sz 0), shV g a1 (nm 1) (wd 1) (sz 1), shV g a2 (nm 2) (wd 2) (sz 2), shV g a3 (nm 3) (wd 3) (sz 3), arr7 g ay tl])) (by rw [show (sumN G 12) - G i + ((nm 2 i).toInt.toNat) = sumN (updN G i ((nm 2 i).toInt.toNat)) 12 from sum_fill (by omega)]) ?_; exact ih_i _ _ (by omega) ⟨by rw [layN, ← hv1, if_pos (lay_y c17 c18 c19 (by omega) hTi)], PB_fill hBi (by omega) c19, by omega⟩
      · refine g_aload_n (pc := 27) C dX3_lays_27 rfl ?_
        refine g_iconst (pc := 28) (v := nI 5) C dX3_lays_28 (by decide) ?_
        refine g_bxi (pc := 29) (cs := [spO g ao ap ak at' au ae ay kp, arr7 g ay tl]) (ds := [spO g ao ap ak at' au ae ay kp, arr7 g ay (updN tl 5 (tl 5 + 1))]) (bs2 := [spO g ao ap ak at' au ae ay kp, potV g ap gr la kd pt wt mr (sumN gr 12) yr mn, potV g ak kgr kla kkd kpt kwt kmr (sumN kgr 12) kyr kmn, potV g at' tgr tla tkd tpt twt tmr (sumN tgr 12) tyr tmn, tpV g au (tbB tb) tn pl tk sr vl, shA g ae a0 a1 a2 a3, shV g a0 (nm 0) (wd 0) (sz 0), shV g a1 (nm 1) (wd 1) (sz 1), shV g a2 (nm 2) (wd 2) (sz 2), shV g a3 (nm 3) (wd 3) (sz 3), arr7 g ay (updN tl 5 (tl 5 + 1))]) C dX3_lays_29 ml_X3_47 mf_X3_finding (c_finding g ao ap ak at' au ae ay kp tl 5 (by decide)) ⟨rfl, rfl, (Nat.le_of_ble_eq_true rfl), (Nat.le_of_ble_eq_true rfl)⟩ rfl rfl (Nat.le_of_ble_eq_true rfl) rfl rfl 0 rfl rfl rfl [0, 10] rfl rfl rfl rfl ?_
        have hf : f_lays ((mn, yr, gr, kd, pt, wt, mr), (ks, kp), (tb, tn), (wd, sz, nm), tl) (nI 2) = ((fd 5), ((mn, yr, gr, kd, pt, wt, mr), (ks, kp), (tb, tn), (wd, sz, nm), updN tl 5 (tl 5 + 1))) := by simp [f_lays, fnd, c1, c14, ix_nI (show 2 < 2 ^ 31 by decide)]
        exact g_iret C Rr dX3_lays_32 ⟨(la, ((kmn, kyr, kgr, kkd, kpt, kwt, kmr), kla), ((tmn, tyr, tgr, tkd, tpt, twt, tmr), tla), (pl, tk, sr, vl)), by rw [hf]; exact (fun h => hJ h), by rw [hf], by rw [hf]; rfl⟩ (spX_ad g (ao, ap, ak, at', au, ae, a0, a1, a2, a3, ay) ((mn, yr, gr, kd, pt, wt, mr), (ks, kp), (tb, tn), (wd, sz, nm), updN tl 5 (tl 5 + 1)) ((mn, yr, gr, kd, pt, wt, mr), (ks, kp), (tb, tn), (wd, sz, nm), tl) (la, ((kmn, kyr, kgr, kkd, kpt, kwt, kmr), kla), ((tmn, tyr, tgr, tkd, tpt, twt, tmr), tla), (pl, tk, sr, vl)) (la, ((kmn, kyr, kgr, kkd, kpt, kwt, kmr), kla), ((tmn, tyr, tgr, tkd, tpt, twt, tmr), tla), (pl, tk, sr, vl)))
    · refine g_aload_n (pc := 13) C dX3_lays_13 rfl ?_
      refine g_get3 (pc := 14) C dX3_lays_14 0 rfl 4 (by decide) fl_X3_31 rfl ?_
      refine g_iload_n (pc := 17) C dX3_lays_17 rfl ?_
      refine g_aaldN (pc := 18) C dX3_lays_18 24 rfl rfl (by decide) (by decide) rfl ?_
      refine g_astore_n (pc := 19) (lv2 := [(0, .ref (ao 0)), (1, .int (nI 3)), (2, .ref (a3 0))]) C dX3_lays_19 rfl (Nat.le_of_ble_eq_true rfl) rfl ?_
      refine g_aload_n (pc := 20) C dX3_lays_20 rfl ?_
      refine g_bxi (pc := 21) (cs := [shV g a3 (nm 3) (wd 3) (sz 3)]) (ds := [shV g a3 (nm 3) (wd 3) (sz 3)]) (bs2 := [spO g ao ap ak at' au ae ay kp, potV g ap gr la kd pt wt mr (sumN gr 12) yr mn, potV g ak kgr kla kkd kpt kwt kmr (sumN kgr 12) kyr kmn, potV g at' tgr tla tkd tpt twt tmr (sumN tgr 12) tyr tmn, tpV g au (tbB tb) tn pl tk sr vl, shA g ae a0 a1 a2 a3, shV g a0 (nm 0) (wd 0) (sz 0), shV g a1 (nm 1) (wd 1) (sz 1), shV g a2 (nm 2) (wd 2) (sz 2), shV g a3 (nm 3) (wd 3) (sz 3), arr7 g ay tl]) C dX3_lays_21 ml_X3_184 mf_X1_isMissing (c_isMissing g a3 (nm 3) (wd 3) (sz 3) (wlt hwd _)) ⟨rfl, rfl, (Nat.le_of_ble_eq_true rfl), (Nat.le_of_ble_eq_true rfl)⟩ rfl rfl (Nat.le_of_ble_eq_true rfl) (fl1 _) (fl1 _) 0 rfl rfl rfl [9] rfl rfl rfl rfl ?_
      refine g_if_eqB (pc := 24) (tgt := 33) C dX3_lays_24 (by decide) (fun c20 => ?_) (fun c20 => ?_)
      · refine g_iconst (pc := 33) (v := nI 0) C dX3_lays_33 (by decide) ?_
        refine g_istore_n (pc := 34) (lv2 := [(0, .ref (ao 0)), (1, .int (nI 3)), (2, .ref (a3 0)), (3, .int (nI 0))]) C dX3_lays_34 rfl (Nat.le_of_ble_eq_true rfl) rfl ?_
        refine g_iconst (pc := 35) (v := nI 0) C dX3_lays_35 (by decide) ?_
        refine g_istore (pc := 36) (lv2 := [(0, .ref (ao 0)), (1, .int (nI 3)), (2, .ref (a3 0)), (3, .int (nI 0)), (4, .int (nI 0))]) C dX3_lays_36 (Nat.le_of_ble_eq_true rfl) rfl ?_
        refine g_loop2 (n := (min 12 (sz 3))) (fun (i : Nat) (G : Nat → Nat) (x : Nat) => (G, x) = layN (nm 3) gr i ∧ PB G kd pt wt mr (sumN G 12) yr mn ∧ x ≤ i) (fun (i : Nat) (G : Nat → Nat) (x : Nat) => [(0, .ref (ao 0)), (1, .int (nI 3)), (2, .ref (a3 0)), (3, .int (nI x)), (4, .int (nI i))]) (fun (i : Nat) (G : Nat → Nat) (x : Nat) => (fl [spO g ao ap ak at' au ae ay kp, potV g ap G la kd pt wt mr (sumN G 12) yr mn, potV g ak kgr kla kkd kpt kwt kmr (sumN kgr 12) kyr kmn, potV g at' tgr tla tkd tpt twt tmr (sumN tgr 12) tyr tmn, tpV g au (tbB tb) tn pl tk sr vl, shA g ae a0 a1 a2 a3, shV g a0 (nm 0) (wd 0) (sz 0), shV g a1 (nm 1) (wd 1) (sz 1), shV g a2 (nm 2) (wd 2) (sz 2), shV g a3 (nm 3) (wd 3) (sz 3), arr7 g ay tl])) ?_ 0 gr 0 (by omega) ⟨rfl, hB, Nat.le_refl _⟩
        intro i G x hi_i hv_i ih_i
        show Go φ g 7 38 [(0, .ref (ao 0)), (1, .int (nI 3)), (2, .ref (a3 0)), (3, .int (nI x)), (4, .int (nI i))] [] (fl [spO g ao ap ak at' au ae ay kp, potV g ap G la kd pt wt mr (sumN G 12) yr mn, potV g ak kgr kla kkd kpt kwt kmr (sumN kgr 12) kyr kmn, potV g at' tgr tla tkd tpt twt tmr (sumN tgr 12) tyr tmn, tpV g au (tbB tb) tn pl tk sr vl, shA g ae a0 a1 a2 a3, shV g a0 (nm 0) (wd 0) (sz 0), shV g a1 (nm 1) (wd 1) (sz 1), shV g a2 (nm 2) (wd 2) (sz 2), shV g a3 (nm 3) (wd 3) (sz 3), arr7 g ay tl])
        have hv_i : (G, x) = layN (nm 3) gr i ∧ PB G kd pt wt mr (sumN G 12) yr mn ∧ x ≤ i := hv_i
        obtain ⟨hv1, hBi, hxi⟩ := hv_i
        have hTi := hBi.2.1
        have hgi : i < 12 → G i ≤ sumN G 12 := fun h => sumN_ge G h
        refine g_iload (pc := 38) C dX3_lays_38 rfl ?_
        refine g_bipush (pc := 40) (v := nI 12) C dX3_lays_40 (by decide) ?_
        refine g_icmp_geN (pc := 42) (tgt := 115) C dX3_lays_42 (by decide) (by omega) (by omega) (fun c21 => ?_) (fun c21 => ?_)
        · refine g_iload_n (pc := 115) C dX3_lays_115 rfl ?_
          have hf : f_lays ((mn, yr, gr, kd, pt, wt, mr), (ks, kp), (tb, tn), (wd, sz, nm), tl) (nI 3) = ((nI x), ((mn, yr, G, kd, pt, wt, mr), (ks, kp), (tb, tn), (wd, sz, nm), tl)) := by simp only [f_lays, c1, c20, ix_nI (show 3 < 2 ^ 31 by decide), if_true, if_false, ix_nI (show 3 < 2 ^ 31 by decide)]; rw [show layN (nm 3) gr (min 12 (sz 3)) = (G, x) from by rw [hv1, show i = min 12 (sz 3) by omega]]
          exact g_iret C Rr dX3_lays_116 ⟨(la, ((kmn, kyr, kgr, kkd, kpt, kwt, kmr), kla), ((tmn, tyr, tgr, tkd, tpt, twt, tmr), tla), (pl, tk, sr, vl)), by rw [hf]; exact (fun h => hJ h), by rw [hf], by rw [hf]; rfl⟩ (spX_ad g (ao, ap, ak, at', au, ae, a0, a1, a2, a3, ay) ((mn, yr, G, kd, pt, wt, mr), (ks, kp), (tb, tn), (wd, sz, nm), tl) ((mn, yr, gr, kd, pt, wt, mr), (ks, kp), (tb, tn), (wd, sz, nm), tl) (la, ((kmn, kyr, kgr, kkd, kpt, kwt, kmr), kla), ((tmn, tyr, tgr, tkd, tpt, twt, tmr), tla), (pl, tk, sr, vl)) (la, ((kmn, kyr, kgr, kkd, kpt, kwt, kmr), kla), ((tmn, tyr, tgr, tkd, tpt, twt, tmr), tla), (pl, tk, sr, vl)))
        · refine g_iload (pc := 45) C dX3_lays_45 rfl ?_
          refine g_aload_n (pc := 47) C dX3_lays_47 rfl ?_
          refine g_get1 (pc := 48) C dX3_lays_48 31 rfl 2 (by decide) fl_X3_181 rfl ?_
          refine g_icmp_geN (pc := 51) (tgt := 115) C dX3_lays_51 (by decide) (by omega) (by omega) (fun c22 => ?_) (fun c22 => ?_)
          · refine g_iload_n (pc := 115) C dX3_lays_115 rfl ?_
            have hf : f_lays ((mn, yr, gr, kd, pt, wt, mr), (ks, kp), (tb, tn), (wd, sz, nm), tl) (nI 3) = ((nI x), ((mn, yr, G, kd, pt, wt, mr), (ks, kp), (tb, tn), (wd, sz, nm), tl)) := by simp only [f_lays, c1, c20, ix_nI (show 3 < 2 ^ 31 by decide), if_true, if_false, ix_nI (show 3 < 2 ^ 31 by decide)]; rw [show layN (nm 3) gr (min 12 (sz 3)) = (G, x) from by rw [hv1, show i = min 12 (sz 3) by omega]]
            exact g_iret C Rr dX3_lays_116 ⟨(la, ((kmn, kyr, kgr, kkd, kpt, kwt, kmr), kla), ((tmn, tyr, tgr, tkd, tpt, twt, tmr), tla), (pl, tk, sr, vl)), by rw [hf]; exact (fun h => hJ h), by rw [hf], by rw [hf]; rfl⟩ (spX_ad g (ao, ap, ak, at', au, ae, a0, a1, a2, a3, ay) ((mn, yr, G, kd, pt, wt, mr), (ks, kp), (tb, tn), (wd, sz, nm), tl) ((mn, yr, gr, kd, pt, wt, mr), (ks, kp), (tb, tn), (wd, sz, nm), tl) (la, ((kmn, kyr, kgr, kkd, kpt, kwt, kmr), kla), ((tmn, tyr, tgr, tkd, tpt, twt, tmr), tla), (pl, tk, sr, vl)) (la, ((kmn, kyr, kgr, kkd, kpt, kwt, kmr), kla), ((tmn, tyr, tgr, tkd, tpt, twt, tmr), tla), (pl, tk, sr, vl)))
          · have hgj := hgi (by omega)
            refine g_aload_n (pc := 54) C dX3_lays_54 rfl ?_
            refine g_get1 (pc := 55) C dX3_lays_55 31 rfl 0 (by decide) fl_X3_187 rfl ?_
            refine g_iload (pc := 58) C dX3_lays_58 rfl ?_
            refine g_laldN (pc := 60) C dX3_lays_60 32 rfl rfl (by omega) (by decide) ?_
            refine g_lstore (pc := 61) (lv2 := [(0, .ref (ao 0)), (1, .int (nI 3)), (2, .ref (a3 0)), (3, .int (nI x)), (4, .int (nI i)), (5, .long ((nm 3) i))]) C dX3_lays_61 (Nat.le_of_ble_eq_true rfl) rfl ?_
            refine g_lload (pc := 63) C dX3_lays_63 rfl ?_
            refine g_lconst (pc := 65) (v := 0) C dX3_lays_65 (by decide) ?_
            refine g_lcmp (pc := 66) C dX3_lays_66 ?_
            refine g_if_ltL (pc := 67) (tgt := 109) C dX3_lays_67 (by decide) (fun c23 => ?_) (fun c23 => ?_)
            · refine g_iinc (pc := 109) (v := (nI (i + 1))) (lv2 := [(0, .ref (ao 0)), (1, .int (nI 3)), (2, .ref (a3 0)), (3, .int (nI x)), (4, .int (nI (i + 1))), (5, .long ((nm 3) i))]) C dX3_lays_109 rfl (nI_1 _) (Nat.le_of_ble_eq_true rfl) rfl ?_
              refine g_goto (pc := 112) (tgt := 38) C dX3_lays_112 (by decide) ?_
              refine g_lvs (lv2 := [(0, .ref (ao 0)), (1, .int (nI 3)), (2, .ref (a3 0)), (3, .int (nI x)), (4, .int (nI (i + 1)))]) [0, 1, 2, 3, 4] rfl ?_
              exact ih_i _ _ (by omega) ⟨by rw [layN, ← hv1, if_neg (fun q => lay_n1 c23 q)], hBi, by omega⟩
            · refine g_lload (pc := 70) C dX3_lays_70 rfl ?_
              refine g_ldc2 (pc := 72) C dX3_lays_72 ckl_X3_207 rfl ?_
              refine g_lcmp (pc := 75) C dX3_lays_75 ?_
              refine g_if_gtL (pc := 76) (tgt := 109) C dX3_lays_76 (by decide) (fun c24 => ?_) (fun c24 => ?_)
              · refine g_iinc (pc := 109) (v := (nI (i + 1))) (lv2 := [(0, .ref (ao 0)), (1, .int (nI 3)), (2, .ref (a3 0)), (3, .int (nI x)), (4, .int (nI (i + 1))), (5, .long ((nm 3) i))]) C dX3_lays_109 rfl (nI_1 _) (Nat.le_of_ble_eq_true rfl) rfl ?_
                refine g_goto (pc := 112) (tgt := 38) C dX3_lays_112 (by decide) ?_
                refine g_lvs (lv2 := [(0, .ref (ao 0)), (1, .int (nI 3)), (2, .ref (a3 0)), (3, .int (nI x)), (4, .int (nI (i + 1)))]) [0, 1, 2, 3, 4] rfl ?_
                exact ih_i _ _ (by omega) ⟨by rw [layN, ← hv1, if_neg (fun q => lay_n2 c24 q (hgi (by omega)) hTi)], hBi, by omega⟩
              · refine g_aload_n (pc := 79) C dX3_lays_79 rfl ?_
                refine g_get3 (pc := 80) C dX3_lays_80 0 rfl 0 (by decide) fl_X3_10 rfl ?_
                refine g_iload (pc := 83) C dX3_lays_83 rfl ?_
                refine g_lload (pc := 85) C dX3_lays_85 rfl ?_
                refine g_l2i (pc := 87) C dX3_lays_87 ?_
                refine g_top (y := nI ((nm 3 i).toInt.toNat)) (lay_v c23 c24) ?_
                have hvl := lay_b c23 c24
                refine g_bxi (pc := 88) (cs := [potV g ap G la kd pt wt mr (sumN G 12) yr mn]) (ds := [potV g ap G la kd pt wt mr (sumN G 12) yr mn]) (bs2 := [spO g ao ap ak at' au ae ay kp, potV g ap G la kd pt wt mr (sumN G 12) yr mn, potV g ak kgr kla kkd kpt kwt kmr (sumN kgr 12) kyr kmn, potV g at' tgr tla tkd tpt twt tmr (sumN tgr 12) tyr tmn, tpV g au (tbB tb) tn pl tk sr vl, shA g ae a0 a1 a2 a3, shV g a0 (nm 0) (wd 0) (sz 0), shV g a1 (nm 1) (wd 1) (sz 1), shV g a2 (nm 2) (wd 2) (sz 2), shV g a3 (nm 3) (wd 3) (sz 3), arr7 g ay tl]) C dX3_lays_88 ml_X3_56 mf_X0_hasRoom (c_hasRoom g ap G la kd pt wt mr (sumN G 12) yr mn i ((nm 3 i).toInt.toNat) hBi (by omega) (by omega)) ⟨rfl, rfl, (Nat.le_of_ble_eq_true rfl), (Nat.le_of_ble_eq_true rfl)⟩ rfl rfl (Nat.le_of_ble_eq_true rfl) (fl1 _) (fl1 _) 0 rfl rfl rfl [1] rfl rfl rfl rfl ?_
                refine g_if_eqB (pc := 91) (tgt := 109) C dX3_lays_91 (by decide) (fun c25 => ?_) (fun c25 => ?_)
                · refine g_iinc (pc := 109) (v := (nI (i + 1))) (lv2 := [(0, .ref (ao 0)), (1, .int (nI 3)), (2, .ref (a3 0)), (3, .int (nI x)), (4, .int (nI (i + 1))), (5, .long ((nm 3) i))]) C dX3_lays_109 rfl (nI_1 _) (Nat.le_of_ble_eq_true rfl) rfl ?_
                  refine g_goto (pc := 112) (tgt := 38) C dX3_lays_112 (by decide) ?_
                  refine g_lvs (lv2 := [(0, .ref (ao 0)), (1, .int (nI 3)), (2, .ref (a3 0)), (3, .int (nI x)), (4, .int (nI (i + 1)))]) [0, 1, 2, 3, 4] rfl ?_
                  exact ih_i _ _ (by omega) ⟨by rw [layN, ← hv1, if_neg (fun q => lay_n3 c25 q (hgi (by omega)) hTi)], hBi, by omega⟩
                · refine g_aload_n (pc := 94) C dX3_lays_94 rfl ?_
                  refine g_get3 (pc := 95) C dX3_lays_95 0 rfl 0 (by decide) fl_X3_10 rfl ?_
                  refine g_iload (pc := 98) C dX3_lays_98 rfl ?_
                  refine g_lload (pc := 100) C dX3_lays_100 rfl ?_
                  refine g_l2i (pc := 102) C dX3_lays_102 ?_
                  refine g_top (y := nI ((nm 3 i).toInt.toNat)) (lay_v c23 c24) ?_
                  refine g_bxn (pc := 103) (cs := [potV g ap G la kd pt wt mr (sumN G 12) yr mn]) (ds := [potV g ap (updN G i ((nm 3 i).toInt.toNat)) la kd pt wt mr ((sumN G 12) - G i + ((nm 3 i).toInt.toNat)) yr mn]) (bs2 := [spO g ao ap ak at' au ae ay kp, potV g ap (updN G i ((nm 3 i).toInt.toNat)) la kd pt wt mr ((sumN G 12) - G i + ((nm 3 i).toInt.toNat)) yr mn, potV g ak kgr kla kkd kpt kwt kmr (sumN kgr 12) kyr kmn, potV g at' tgr tla tkd tpt twt tmr (sumN tgr 12) tyr tmn, tpV g au (tbB tb) tn pl tk sr vl, shA g ae a0 a1 a2 a3, shV g a0 (nm 0) (wd 0) (sz 0), shV g a1 (nm 1) (wd 1) (sz 1), shV g a2 (nm 2) (wd 2) (sz 2), shV g a3 (nm 3) (wd 3) (sz 3), arr7 g ay tl]) C dX3_lays_103 ml_X3_60 mf_X0_fill (c_fill g ap G la kd pt wt mr (sumN G 12) yr mn i ((nm 3 i).toInt.toNat) hBi (by omega)) ⟨rfl, rfl, (Nat.le_of_ble_eq_true rfl), (Nat.le_of_ble_eq_true rfl)⟩ rfl rfl (Nat.le_of_ble_eq_true rfl) (fl1 _) (fl1 _) 0 rfl rfl rfl [1] rfl rfl rfl rfl ?_
                  refine g_iinc (pc := 106) (v := (nI (x + 1))) (lv2 := [(0, .ref (ao 0)), (1, .int (nI 3)), (2, .ref (a3 0)), (3, .int (nI (x + 1))), (4, .int (nI i)), (5, .long ((nm 3) i))]) C dX3_lays_106 rfl (nI_1 _) (Nat.le_of_ble_eq_true rfl) rfl ?_
                  refine g_iinc (pc := 109) (v := (nI (i + 1))) (lv2 := [(0, .ref (ao 0)), (1, .int (nI 3)), (2, .ref (a3 0)), (3, .int (nI (x + 1))), (4, .int (nI (i + 1))), (5, .long ((nm 3) i))]) C dX3_lays_109 rfl (nI_1 _) (Nat.le_of_ble_eq_true rfl) rfl ?_
                  refine g_goto (pc := 112) (tgt := 38) C dX3_lays_112 (by decide) ?_
                  refine g_lvs (lv2 := [(0, .ref (ao 0)), (1, .int (nI 3)), (2, .ref (a3 0)), (3, .int (nI (x + 1))), (4, .int (nI (i + 1)))]) [0, 1, 2, 3, 4] rfl ?_
                  refine g_ws (ws := (fl [spO g ao ap ak at' au ae ay kp, potV g ap (updN G i ((nm 3 i).toInt.toNat)) la kd pt wt mr ((sumN G 12) - G i + ((nm 3 i).toInt.toNat)) yr mn, potV g ak kgr kla kkd kpt kwt kmr (sumN kgr 12) kyr kmn, potV g at' tgr tla tkd tpt twt tmr (sumN tgr 12) tyr tmn, tpV g au (tbB tb) tn pl tk sr vl, shA g ae a0 a1 a2 a3, shV g a0 (nm 0) (wd 0) (sz 0), shV g a1 (nm 1) (wd 1) (sz 1), shV g a2 (nm 2) (wd 2) (sz 2), shV g a3 (nm 3) (wd 3) (sz 3), arr7 g ay tl])) (ws2 := (fl [spO g ao ap ak at' au ae ay kp, potV g ap (updN G i ((nm 3 i).toInt.toNat)) la kd pt wt mr (sumN (updN G i ((nm 3 i).toInt.toNat)) 12) yr mn, potV g ak kgr kla kkd kpt kwt kmr (sumN kgr 12) kyr kmn, potV g at' tgr tla tkd tpt twt tmr (sumN tgr 12) tyr tmn, tpV g au (tbB tb) tn pl tk sr vl, shA g ae a0 a1 a2 a3, shV g a0 (nm 0) (wd 0) (sz 0), shV g a1 (nm 1) (wd 1) (sz 1), shV g a2 (nm 2) (wd 2) (sz 2), shV g a3 (nm 3) (wd 3) (sz 3), arr7 g ay tl])) (by rw [show (sumN G 12) - G i + ((nm 3 i).toInt.toNat) = sumN (updN G i ((nm 3 i).toInt.toNat)) 12 from sum_fill (by omega)]) ?_; exact ih_i _ _ (by omega) ⟨by rw [layN, ← hv1, if_pos (lay_y c23 c24 c25 (by omega) hTi)], PB_fill hBi (by omega) c25, by omega⟩
      · refine g_aload_n (pc := 27) C dX3_lays_27 rfl ?_
        refine g_iconst (pc := 28) (v := nI 5) C dX3_lays_28 (by decide) ?_
        refine g_bxi (pc := 29) (cs := [spO g ao ap ak at' au ae ay kp, arr7 g ay tl]) (ds := [spO g ao ap ak at' au ae ay kp, arr7 g ay (updN tl 5 (tl 5 + 1))]) (bs2 := [spO g ao ap ak at' au ae ay kp, potV g ap gr la kd pt wt mr (sumN gr 12) yr mn, potV g ak kgr kla kkd kpt kwt kmr (sumN kgr 12) kyr kmn, potV g at' tgr tla tkd tpt twt tmr (sumN tgr 12) tyr tmn, tpV g au (tbB tb) tn pl tk sr vl, shA g ae a0 a1 a2 a3, shV g a0 (nm 0) (wd 0) (sz 0), shV g a1 (nm 1) (wd 1) (sz 1), shV g a2 (nm 2) (wd 2) (sz 2), shV g a3 (nm 3) (wd 3) (sz 3), arr7 g ay (updN tl 5 (tl 5 + 1))]) C dX3_lays_29 ml_X3_47 mf_X3_finding (c_finding g ao ap ak at' au ae ay kp tl 5 (by decide)) ⟨rfl, rfl, (Nat.le_of_ble_eq_true rfl), (Nat.le_of_ble_eq_true rfl)⟩ rfl rfl (Nat.le_of_ble_eq_true rfl) rfl rfl 0 rfl rfl rfl [0, 10] rfl rfl rfl rfl ?_
        have hf : f_lays ((mn, yr, gr, kd, pt, wt, mr), (ks, kp), (tb, tn), (wd, sz, nm), tl) (nI 3) = ((fd 5), ((mn, yr, gr, kd, pt, wt, mr), (ks, kp), (tb, tn), (wd, sz, nm), updN tl 5 (tl 5 + 1))) := by simp [f_lays, fnd, c1, c20, ix_nI (show 3 < 2 ^ 31 by decide)]
        exact g_iret C Rr dX3_lays_32 ⟨(la, ((kmn, kyr, kgr, kkd, kpt, kwt, kmr), kla), ((tmn, tyr, tgr, tkd, tpt, twt, tmr), tla), (pl, tk, sr, vl)), by rw [hf]; exact (fun h => hJ h), by rw [hf], by rw [hf]; rfl⟩ (spX_ad g (ao, ap, ak, at', au, ae, a0, a1, a2, a3, ay) ((mn, yr, gr, kd, pt, wt, mr), (ks, kp), (tb, tn), (wd, sz, nm), updN tl 5 (tl 5 + 1)) ((mn, yr, gr, kd, pt, wt, mr), (ks, kp), (tb, tn), (wd, sz, nm), tl) (la, ((kmn, kyr, kgr, kkd, kpt, kwt, kmr), kla), ((tmn, tyr, tgr, tkd, tpt, twt, tmr), tla), (pl, tk, sr, vl)) (la, ((kmn, kyr, kgr, kkd, kpt, kwt, kmr), kla), ((tmn, tyr, tgr, tkd, tpt, twt, tmr), tla), (pl, tk, sr, vl)))
  · refine g_aload_n (pc := 7) C dX3_lays_7 rfl ?_
    refine g_iconst (pc := 8) (v := nI 0) C dX3_lays_8 (by decide) ?_
    refine g_bxi (pc := 9) (cs := [spO g ao ap ak at' au ae ay kp, arr7 g ay tl]) (ds := [spO g ao ap ak at' au ae ay kp, arr7 g ay (updN tl 0 (tl 0 + 1))]) (bs2 := [spO g ao ap ak at' au ae ay kp, potV g ap gr la kd pt wt mr (sumN gr 12) yr mn, potV g ak kgr kla kkd kpt kwt kmr (sumN kgr 12) kyr kmn, potV g at' tgr tla tkd tpt twt tmr (sumN tgr 12) tyr tmn, tpV g au (tbB tb) tn pl tk sr vl, shA g ae a0 a1 a2 a3, shV g a0 (nm 0) (wd 0) (sz 0), shV g a1 (nm 1) (wd 1) (sz 1), shV g a2 (nm 2) (wd 2) (sz 2), shV g a3 (nm 3) (wd 3) (sz 3), arr7 g ay (updN tl 0 (tl 0 + 1))]) C dX3_lays_9 ml_X3_47 mf_X3_finding (c_finding g ao ap ak at' au ae ay kp tl 0 (by decide)) ⟨rfl, rfl, (Nat.le_of_ble_eq_true rfl), (Nat.le_of_ble_eq_true rfl)⟩ rfl rfl (Nat.le_of_ble_eq_true rfl) rfl rfl 0 rfl rfl rfl [0, 10] rfl rfl rfl rfl ?_
    have hf : f_lays ((mn, yr, gr, kd, pt, wt, mr), (ks, kp), (tb, tn), (wd, sz, nm), tl) s = ((fd 0), ((mn, yr, gr, kd, pt, wt, mr), (ks, kp), (tb, tn), (wd, sz, nm), updN tl 0 (tl 0 + 1))) := by simp [f_lays, fnd, c1]
    exact g_iret C Rr dX3_lays_12 ⟨(la, ((kmn, kyr, kgr, kkd, kpt, kwt, kmr), kla), ((tmn, tyr, tgr, tkd, tpt, twt, tmr), tla), (pl, tk, sr, vl)), by rw [hf]; exact (fun h => hJ h), by rw [hf], by rw [hf]; rfl⟩ (spX_ad g (ao, ap, ak, at', au, ae, a0, a1, a2, a3, ay) ((mn, yr, gr, kd, pt, wt, mr), (ks, kp), (tb, tn), (wd, sz, nm), updN tl 0 (tl 0 + 1)) ((mn, yr, gr, kd, pt, wt, mr), (ks, kp), (tb, tn), (wd, sz, nm), tl) (la, ((kmn, kyr, kgr, kkd, kpt, kwt, kmr), kla), ((tmn, tyr, tgr, tkd, tpt, twt, tmr), tla), (pl, tk, sr, vl)) (la, ((kmn, kyr, kgr, kkd, kpt, kwt, kmr), kla), ((tmn, tyr, tgr, tkd, tpt, twt, tmr), tla), (pl, tk, sr, vl)))
set_option maxHeartbeats 400000 in
set_option maxRecDepth 100000 in
theorem n_lays (g : Gl) (a : Nat → Nat) (X : Xs) (J : Jm) (s : Int32) (hX : InvX X) (hJ : OkM X J) : Ct g yX4_lays cX4_lays 6 (some .int) (rk 3 66) [.ref (a 0), .int s] (mdX g a X J) (fun r w2 => ∃ J2, OkM (f_lays X s).2 J2 ∧ r = some (.int (f_lays X s).1) ∧ w2 = mdX g a (f_lays X s).2 J2) := by
  obtain ⟨⟨mn, yr, gr, kd, pt, wt, mr⟩, ⟨⟨kmn, kyr, kgr, kkd, kpt, kwt, kmr⟩, kp⟩, ⟨tb, tn⟩, ⟨wd, sz, nm⟩, tl⟩ := X
  obtain ⟨kc, os, sd, tk, fr, to, vl, wr, mv⟩ := J
  obtain ⟨hB, hy, hkp, htb, htn, hwd, hsz⟩ := id hX
  obtain ⟨-, hTle, hgr, hkd, hpt, hwt, hmr, hyr, hmn⟩ := id hB
  refine ct_of (by decide) (Nat.le_of_ble_eq_true rfl) ?_
  intro φ C0 Rr
  have C : Cx φ g cX4_lays 6 RX4 (rk 3 66) := C0
  show Go φ g 6 0 [(0, .ref (a 0)), (1, .int s)] [] (mdV g a (sF mn yr gr kd pt wt mr) kc os sd tl kp tk tb tn fr to vl wr wd sz (flat nm) mv)
  refine g_aload_n (pc := 0) C dX4_lays_0 rfl ?_
  refine g_iload_n (pc := 1) C dX4_lays_1 rfl ?_
  refine g_vxi (pc := 2) (ws2 := (mdV g a (sF mn yr gr kd pt wt mr) kc os sd tl kp tk tb tn fr to vl wr wd sz (flat nm) mv)) C dX4_lays_2 ml_X4_283 mf_X4_wrongSheet (m_wrong g a (sF mn yr gr kd pt wt mr) kc os sd tl kp tk tb tn fr to vl wr wd sz (flat nm) mv s (wlt hwd)) ⟨rfl, rfl, (Nat.le_of_ble_eq_true rfl), (Nat.le_of_ble_eq_true rfl)⟩ rfl rfl (Nat.le_of_ble_eq_true rfl) 0 rfl rfl rfl [0, 1, 2, 3, 4, 5, 6, 7, 8, 9, 10, 11] [] [0, 1, 2, 3, 4, 5, 6, 7, 8, 9, 10, 11] rfl rfl rfl rfl (by decide) rfl rfl ?_
  by_cases c1 : inR s 0 3 = true
  · obtain ⟨s_, hl_s, hu_s, rfl⟩ := inR_nat (lo := 0) (hi := 3) c1
    have hzs := hsz s_
    have hws := hwd s_
    by_cases c2 : wd s_ = 0
    · refine g_top (y := (-1000000006)) (by rw [wrS, if_pos c1, ix_nI (show s_ < 2 ^ 31 by omega), if_pos c2]; rfl) ?_
      refine g_istore_n (pc := 5) (lv2 := [(0, .ref (a 0)), (1, .int (nI s_)), (2, .int (-1000000006))]) C dX4_lays_5 rfl (Nat.le_of_ble_eq_true rfl) rfl ?_
      refine g_iload_n (pc := 6) C dX4_lays_6 rfl ?_
      refine g_if_eq (pc := 7) (tgt := 16) C dX4_lays_7 (by decide) (fun h => absurd h (by decide)) (fun _ => ?_)
      refine g_aload_n (pc := 10) C dX4_lays_10 rfl ?_
      refine g_iload_n (pc := 11) C dX4_lays_11 rfl ?_
      refine g_vxi (pc := 12) (ws2 := (mdV g a (sF mn yr gr kd pt wt mr) kc os sd (updN tl 5 (tl 5 + 1)) kp tk tb tn fr to vl wr wd sz (flat nm) mv)) C dX4_lays_12 ml_X4_64 mf_X4_finds (m_finds g a (sF mn yr gr kd pt wt mr) kc os sd tl kp tk tb tn fr to vl wr wd sz (flat nm) mv 5 (by decide)) ⟨rfl, rfl, (Nat.le_of_ble_eq_true rfl), (Nat.le_of_ble_eq_true rfl)⟩ rfl rfl (Nat.le_of_ble_eq_true rfl) 0 rfl rfl rfl [0, 1, 2, 3, 4, 5, 6, 7, 8, 9, 10, 11] [] [0, 1, 2, 3, 4, 5, 6, 7, 8, 9, 10, 11] rfl rfl rfl rfl (by decide) rfl rfl ?_
      have hf : f_lays ((mn, yr, gr, kd, pt, wt, mr), ((kmn, kyr, kgr, kkd, kpt, kwt, kmr), kp), (tb, tn), (wd, sz, nm), tl) (nI s_) = ((fd 5), ((mn, yr, gr, kd, pt, wt, mr), ((kmn, kyr, kgr, kkd, kpt, kwt, kmr), kp), (tb, tn), (wd, sz, nm), updN tl 5 (tl 5 + 1))) := by simp [f_lays, fnd, c1, c2, ix_nI (show s_ < 2 ^ 31 by omega)]
      exact g_iret C Rr dX4_lays_15 ⟨(kc, os, sd, tk, fr, to, vl, wr, mv), by rw [hf]; exact hJ, by rw [hf], by rw [hf]; rfl⟩ rfl
    · refine g_top (y := (nI 0)) (by rw [wrS, if_pos c1, ix_nI (show s_ < 2 ^ 31 by omega), if_neg c2]; rfl) ?_
      refine g_istore_n (pc := 5) (lv2 := [(0, .ref (a 0)), (1, .int (nI s_)), (2, .int (nI 0))]) C dX4_lays_5 rfl (Nat.le_of_ble_eq_true rfl) rfl ?_
      refine g_iload_n (pc := 6) C dX4_lays_6 rfl ?_
      refine g_if_eqN (pc := 7) (tgt := 16) C dX4_lays_7 (by decide) (by decide) (fun _ => ?_) (fun h => absurd h (by decide))
      refine g_iconst (pc := 16) (v := nI 0) C dX4_lays_16 (by decide) ?_
      refine g_istore_n (pc := 17) (lv2 := [(0, .ref (a 0)), (1, .int (nI s_)), (2, .int (nI 0)), (3, .int (nI 0))]) C dX4_lays_17 rfl (Nat.le_of_ble_eq_true rfl) rfl ?_
      refine g_iconst (pc := 18) (v := nI 0) C dX4_lays_18 (by decide) ?_
      refine g_istore (pc := 19) (lv2 := [(0, .ref (a 0)), (1, .int (nI s_)), (2, .int (nI 0)), (3, .int (nI 0)), (4, .int (nI 0))]) C dX4_lays_19 (Nat.le_of_ble_eq_true rfl) rfl ?_
      refine g_loop2 (n := (min 12 (sz s_))) (fun (i : Nat) (G : Nat → Nat) (x : Nat) => (G, x) = layN (nm s_) gr i ∧ PB G kd pt wt mr (sumN G 12) yr mn ∧ x ≤ i) (fun (i : Nat) (G : Nat → Nat) (x : Nat) => [(0, .ref (a 0)), (1, .int (nI s_)), (2, .int (nI 0)), (3, .int (nI x)), (4, .int (nI i))]) (fun (i : Nat) (G : Nat → Nat) (x : Nat) => (mdV g a (sF mn yr G kd pt wt mr) kc os sd tl kp tk tb tn fr to vl wr wd sz (flat nm) mv)) ?_ 0 gr 0 (by omega) ⟨rfl, hB, Nat.le_refl _⟩
      intro i G x hi_i hv_i ih_i
      show Go φ g 6 21 [(0, .ref (a 0)), (1, .int (nI s_)), (2, .int (nI 0)), (3, .int (nI x)), (4, .int (nI i))] [] (mdV g a (sF mn yr G kd pt wt mr) kc os sd tl kp tk tb tn fr to vl wr wd sz (flat nm) mv)
      have hv_i : (G, x) = layN (nm s_) gr i ∧ PB G kd pt wt mr (sumN G 12) yr mn ∧ x ≤ i := hv_i
      obtain ⟨hv1, hBi, hxi⟩ := hv_i
      have hTi := hBi.2.1
      have hgi : i < 12 → G i ≤ sumN G 12 := fun h => sumN_ge G h
      refine g_iload (pc := 21) C dX4_lays_21 rfl ?_
      refine g_aload_n (pc := 23) C dX4_lays_23 rfl ?_
      refine g_get4 (pc := 24) C dX4_lays_24 0 rfl 14 (by decide) fl_X4_34 rfl ?_
      refine g_iload_n (pc := 27) C dX4_lays_27 rfl ?_
      refine g_ialdM (pc := 28) C dX4_lays_28 9 rfl rfl (by omega) (by decide) ?_
      refine g_icmp_geN (pc := 29) (tgt := 133) C dX4_lays_29 (by decide) (by omega) (by omega) (fun c5 => ?_) (fun c5 => ?_)
      · refine g_iload_n (pc := 133) C dX4_lays_133 rfl ?_
        have hf : f_lays ((mn, yr, gr, kd, pt, wt, mr), ((kmn, kyr, kgr, kkd, kpt, kwt, kmr), kp), (tb, tn), (wd, sz, nm), tl) (nI s_) = ((nI x), ((mn, yr, G, kd, pt, wt, mr), ((kmn, kyr, kgr, kkd, kpt, kwt, kmr), kp), (tb, tn), (wd, sz, nm), tl)) := by simp only [f_lays, c1, c2, ix_nI (show s_ < 2 ^ 31 by omega), if_true, if_false, ix_nI (show s_ < 2 ^ 31 by omega)]; rw [show layN (nm s_) gr (min 12 (sz s_)) = (G, x) from by rw [hv1, show i = min 12 (sz s_) by omega]]
        exact g_iret C Rr dX4_lays_134 ⟨(kc, os, sd, tk, fr, to, vl, wr, mv), by rw [hf]; exact hJ, by rw [hf], by rw [hf]; rfl⟩ rfl
      · refine g_iload (pc := 32) C dX4_lays_32 rfl ?_
        refine g_bipush (pc := 34) (v := nI 12) C dX4_lays_34 (by decide) ?_
        refine g_icmp_geN (pc := 36) (tgt := 133) C dX4_lays_36 (by decide) (by omega) (by omega) (fun c6 => ?_) (fun c6 => ?_)
        · refine g_iload_n (pc := 133) C dX4_lays_133 rfl ?_
          have hf : f_lays ((mn, yr, gr, kd, pt, wt, mr), ((kmn, kyr, kgr, kkd, kpt, kwt, kmr), kp), (tb, tn), (wd, sz, nm), tl) (nI s_) = ((nI x), ((mn, yr, G, kd, pt, wt, mr), ((kmn, kyr, kgr, kkd, kpt, kwt, kmr), kp), (tb, tn), (wd, sz, nm), tl)) := by simp only [f_lays, c1, c2, ix_nI (show s_ < 2 ^ 31 by omega), if_true, if_false, ix_nI (show s_ < 2 ^ 31 by omega)]; rw [show layN (nm s_) gr (min 12 (sz s_)) = (G, x) from by rw [hv1, show i = min 12 (sz s_) by omega]]
          exact g_iret C Rr dX4_lays_134 ⟨(kc, os, sd, tk, fr, to, vl, wr, mv), by rw [hf]; exact hJ, by rw [hf], by rw [hf]; rfl⟩ rfl
        · have hgj := hgi (by omega)
          have hgk := hBi.2.2.1 i
          refine g_aload_n (pc := 39) C dX4_lays_39 rfl ?_
          refine g_get4 (pc := 40) C dX4_lays_40 0 rfl 15 (by decide) fl_X4_37 rfl ?_
          refine g_bipush (pc := 43) (v := nI 40) C dX4_lays_43 (by decide) ?_
          refine g_iload_n (pc := 45) C dX4_lays_45 rfl ?_
          refine g_imulN (pc := 46) C dX4_lays_46 ?_
          refine g_iload (pc := 47) C dX4_lays_47 rfl ?_
          refine g_iaddN (pc := 49) C dX4_lays_49 ?_
          refine g_laldN (pc := 50) C dX4_lays_50 10 rfl rfl (by omega) (by decide) ?_
          refine g_topL (y := (nm s_ i)) (flat_at (by omega)) ?_
          refine g_lconst (pc := 51) (v := 0) C dX4_lays_51 (by decide) ?_
          refine g_ldc (pc := 52) (v2 := nI 99999) C dX4_lays_52 ck_X4_74 (by decide) ?_
          refine g_aload_n (pc := 54) C dX4_lays_54 rfl ?_
          refine g_vxi (pc := 55) (ws2 := (mdV g a (sF mn yr G kd pt wt mr) kc os sd tl kp tk tb tn fr to vl wr wd sz (flat nm) mv)) C dX4_lays_55 ml_X4_70 mf_X4_all (m_all g a kc os sd tl kp tk tb tn fr to vl wr wd sz (flat nm) mv mn yr G kd pt wt mr) ⟨rfl, rfl, (Nat.le_of_ble_eq_true rfl), (Nat.le_of_ble_eq_true rfl)⟩ rfl rfl (Nat.le_of_ble_eq_true rfl) 0 rfl rfl rfl [0, 1, 2, 3, 4, 5, 6, 7, 8, 9, 10, 11] [] [0, 1, 2, 3, 4, 5, 6, 7, 8, 9, 10, 11] rfl rfl rfl rfl (by decide) rfl rfl ?_
          refine g_isubN (pc := 58) C dX4_lays_58 (by omega) ?_
          refine g_aload_n (pc := 59) C dX4_lays_59 rfl ?_
          refine g_get4 (pc := 60) C dX4_lays_60 0 rfl 0 (by decide) fl_X4_7 rfl ?_
          refine g_iconst (pc := 63) (v := nI 2) C dX4_lays_63 (by decide) ?_
          refine g_iload (pc := 64) C dX4_lays_64 rfl ?_
          refine g_iaddN (pc := 66) C dX4_lays_66 ?_
          refine g_ialdM (pc := 67) C dX4_lays_67 1 rfl rfl (by omega) (by decide) ?_
          refine g_top (congrArg nI (sF_rg (by omega))) ?_
          refine g_iaddN (pc := 68) C dX4_lays_68 ?_
          refine g_i2l (pc := 69) C dX4_lays_69 ?_
          refine g_s0i (pc := 70) C dX4_lays_70 ml_X4_47 mf_X4_in (m_in g (nm s_ i) 0 (((nI ((99999 - (sumN G 12)) + (G i)))).toInt64)) ⟨rfl, rfl, (Nat.le_of_ble_eq_true rfl), (Nat.le_of_ble_eq_true rfl)⟩ rfl rfl (Nat.le_of_ble_eq_true rfl) ?_
          refine g_top (y := bI (layP (nm s_ i) (99999 - sumN G 12 + G i))) (bI_iff (lay_in (by omega))) ?_
          refine g_istore (pc := 73) (lv2 := [(0, .ref (a 0)), (1, .int (nI s_)), (2, .int (nI 0)), (3, .int (nI x)), (4, .int (nI i)), (5, .int (bI (layP (nm s_ i) (99999 - sumN G 12 + G i))))]) C dX4_lays_73 (Nat.le_of_ble_eq_true rfl) rfl ?_
          refine g_aload_n (pc := 75) C dX4_lays_75 rfl ?_
          refine g_get4 (pc := 76) C dX4_lays_76 0 rfl 0 (by decide) fl_X4_7 rfl ?_
          refine g_iconst (pc := 79) (v := nI 2) C dX4_lays_79 (by decide) ?_
          refine g_iload (pc := 80) C dX4_lays_80 rfl ?_
          refine g_iaddN (pc := 82) C dX4_lays_82 ?_
          refine g_iload (pc := 83) C dX4_lays_83 rfl ?_
          refine g_if_eqB (pc := 85) (tgt := 104) C dX4_lays_85 (by decide) (fun c7 => ?_) (fun c7 => ?_)
          · refine g_aload_n (pc := 104) C dX4_lays_104 rfl ?_
            refine g_get4 (pc := 105) C dX4_lays_105 0 rfl 0 (by decide) fl_X4_7 rfl ?_
            refine g_iconst (pc := 108) (v := nI 2) C dX4_lays_108 (by decide) ?_
            refine g_iload (pc := 109) C dX4_lays_109 rfl ?_
            refine g_iaddN (pc := 111) C dX4_lays_111 ?_
            refine g_ialdM (pc := 112) C dX4_lays_112 1 rfl rfl (by omega) (by decide) ?_
            refine g_top (congrArg nI (sF_rg (by omega))) ?_
            refine g_iastM (pc := 113) (ws2 := _) C dX4_lays_113 1 rfl rfl (by omega) (by decide) rfl ?_
            refine g_ws (ws := (mdV g a (updN (sF mn yr G kd pt wt mr) (2 + i) (G i)) kc os sd tl kp tk tb tn fr to vl wr wd sz (flat nm) mv)) (ws2 := (mdV g a (sF mn yr (updN G i (G i)) kd pt wt mr) kc os sd tl kp tk tb tn fr to vl wr wd sz (flat nm) mv)) (by rw [sF_wg (by omega)]) ?_
            refine g_iload_n (pc := 114) C dX4_lays_114 rfl ?_
            refine g_iload (pc := 115) C dX4_lays_115 rfl ?_
            refine g_if_eqB (pc := 117) (tgt := 124) C dX4_lays_117 (by decide) (fun c8 => ?_) (fun c8 => ?_)
            · refine g_iconst (pc := 124) (v := nI 0) C dX4_lays_124 (by decide) ?_
              refine g_iaddN (pc := 125) C dX4_lays_125 ?_
              refine g_istore_n (pc := 126) (lv2 := [(0, .ref (a 0)), (1, .int (nI s_)), (2, .int (nI 0)), (3, .int (nI (x + 0))), (4, .int (nI i)), (5, .int (bI (layP (nm s_ i) (99999 - sumN G 12 + G i))))]) C dX4_lays_126 rfl (Nat.le_of_ble_eq_true rfl) rfl ?_
              refine g_iinc (pc := 127) (v := (nI (i + 1))) (lv2 := [(0, .ref (a 0)), (1, .int (nI s_)), (2, .int (nI 0)), (3, .int (nI (x + 0))), (4, .int (nI (i + 1))), (5, .int (bI (layP (nm s_ i) (99999 - sumN G 12 + G i))))]) C dX4_lays_127 rfl (nI_1 _) (Nat.le_of_ble_eq_true rfl) rfl ?_
              refine g_goto (pc := 130) (tgt := 21) C dX4_lays_130 (by decide) ?_
              refine g_lvs (lv2 := [(0, .ref (a 0)), (1, .int (nI s_)), (2, .int (nI 0)), (3, .int (nI (x + 0))), (4, .int (nI (i + 1)))]) [0, 1, 2, 3, 4] rfl ?_
              exact ih_i _ _ (by omega) ⟨by rw [layN, ← hv1, if_neg c8, ← updN_self]; rfl, by rw [← updN_self]; exact hBi, by omega⟩
            · exact absurd c8 c7
          · refine g_aload_n (pc := 88) C dX4_lays_88 rfl ?_
            refine g_get4 (pc := 89) C dX4_lays_89 0 rfl 15 (by decide) fl_X4_37 rfl ?_
            refine g_bipush (pc := 92) (v := nI 40) C dX4_lays_92 (by decide) ?_
            refine g_iload_n (pc := 94) C dX4_lays_94 rfl ?_
            refine g_imulN (pc := 95) C dX4_lays_95 ?_
            refine g_iload (pc := 96) C dX4_lays_96 rfl ?_
            refine g_iaddN (pc := 98) C dX4_lays_98 ?_
            refine g_laldN (pc := 99) C dX4_lays_99 10 rfl rfl (by omega) (by decide) ?_
            refine g_topL (y := (nm s_ i)) (flat_at (by omega)) ?_
            refine g_l2i (pc := 100) C dX4_lays_100 ?_
            refine g_top (y := nI ((nm s_ i).toInt.toNat)) (lay_w c7 (by omega)) ?_
            refine g_goto (pc := 101) (tgt := 113) C dX4_lays_101 (by decide) ?_
            refine g_iastM (pc := 113) (ws2 := _) C dX4_lays_113 1 rfl rfl (by omega) (by decide) rfl ?_
            refine g_ws (ws := (mdV g a (updN (sF mn yr G kd pt wt mr) (2 + i) ((nm s_ i).toInt.toNat)) kc os sd tl kp tk tb tn fr to vl wr wd sz (flat nm) mv)) (ws2 := (mdV g a (sF mn yr (updN G i ((nm s_ i).toInt.toNat)) kd pt wt mr) kc os sd tl kp tk tb tn fr to vl wr wd sz (flat nm) mv)) (by rw [sF_wg (by omega)]) ?_
            refine g_iload_n (pc := 114) C dX4_lays_114 rfl ?_
            refine g_iload (pc := 115) C dX4_lays_115 rfl ?_
            refine g_if_eqB (pc := 117) (tgt := 124) C dX4_lays_117 (by decide) (fun c9 => ?_) (fun c9 => ?_)
            · exact absurd c7 c9
            · refine g_iconst (pc := 120) (v := nI 1) C dX4_lays_120 (by decide) ?_
              refine g_goto (pc := 121) (tgt := 125) C dX4_lays_121 (by decide) ?_
              refine g_iaddN (pc := 125) C dX4_lays_125 ?_
              refine g_istore_n (pc := 126) (lv2 := [(0, .ref (a 0)), (1, .int (nI s_)), (2, .int (nI 0)), (3, .int (nI (x + 1))), (4, .int (nI i)), (5, .int (bI (layP (nm s_ i) (99999 - sumN G 12 + G i))))]) C dX4_lays_126 rfl (Nat.le_of_ble_eq_true rfl) rfl ?_
              refine g_iinc (pc := 127) (v := (nI (i + 1))) (lv2 := [(0, .ref (a 0)), (1, .int (nI s_)), (2, .int (nI 0)), (3, .int (nI (x + 1))), (4, .int (nI (i + 1))), (5, .int (bI (layP (nm s_ i) (99999 - sumN G 12 + G i))))]) C dX4_lays_127 rfl (nI_1 _) (Nat.le_of_ble_eq_true rfl) rfl ?_
              refine g_goto (pc := 130) (tgt := 21) C dX4_lays_130 (by decide) ?_
              refine g_lvs (lv2 := [(0, .ref (a 0)), (1, .int (nI s_)), (2, .int (nI 0)), (3, .int (nI (x + 1))), (4, .int (nI (i + 1)))]) [0, 1, 2, 3, 4] rfl ?_
              exact ih_i _ _ (by omega) ⟨by rw [layN, ← hv1, if_pos c9], PB_fill hBi (by omega) (lay_r c9 hTi (hgi (by omega))), by omega⟩
  · refine g_top (y := (-1000000001)) (by rw [wrS, if_neg c1]; rfl) ?_
    refine g_istore_n (pc := 5) (lv2 := [(0, .ref (a 0)), (1, .int s), (2, .int (-1000000001))]) C dX4_lays_5 rfl (Nat.le_of_ble_eq_true rfl) rfl ?_
    refine g_iload_n (pc := 6) C dX4_lays_6 rfl ?_
    refine g_if_eq (pc := 7) (tgt := 16) C dX4_lays_7 (by decide) (fun h => absurd h (by decide)) (fun _ => ?_)
    refine g_aload_n (pc := 10) C dX4_lays_10 rfl ?_
    refine g_iload_n (pc := 11) C dX4_lays_11 rfl ?_
    refine g_vxi (pc := 12) (ws2 := (mdV g a (sF mn yr gr kd pt wt mr) kc os sd (updN tl 0 (tl 0 + 1)) kp tk tb tn fr to vl wr wd sz (flat nm) mv)) C dX4_lays_12 ml_X4_64 mf_X4_finds (m_finds g a (sF mn yr gr kd pt wt mr) kc os sd tl kp tk tb tn fr to vl wr wd sz (flat nm) mv 0 (by decide)) ⟨rfl, rfl, (Nat.le_of_ble_eq_true rfl), (Nat.le_of_ble_eq_true rfl)⟩ rfl rfl (Nat.le_of_ble_eq_true rfl) 0 rfl rfl rfl [0, 1, 2, 3, 4, 5, 6, 7, 8, 9, 10, 11] [] [0, 1, 2, 3, 4, 5, 6, 7, 8, 9, 10, 11] rfl rfl rfl rfl (by decide) rfl rfl ?_
    have hf : f_lays ((mn, yr, gr, kd, pt, wt, mr), ((kmn, kyr, kgr, kkd, kpt, kwt, kmr), kp), (tb, tn), (wd, sz, nm), tl) s = ((fd 0), ((mn, yr, gr, kd, pt, wt, mr), ((kmn, kyr, kgr, kkd, kpt, kwt, kmr), kp), (tb, tn), (wd, sz, nm), updN tl 0 (tl 0 + 1))) := by simp [f_lays, fnd, c1]
    exact g_iret C Rr dX4_lays_15 ⟨(kc, os, sd, tk, fr, to, vl, wr, mv), by rw [hf]; exact hJ, by rw [hf], by rw [hf]; rfl⟩ rfl
