theorem yrs_le {gr kd pt wt mr : Nat → Nat} {yr mn n : Nat} (h : PB gr kd pt wt mr (sumN gr 12) yr mn) (hn : yr + n ≤ 20000) (p : Nat) : yearsG kd pt wt mr mn gr yr n p ≤ 99999 := (PB_yrs h n hn).2.2.1 p
theorem bIn_le {F : Nat → Nat} {b : Nat} (hF : ∀ j, F j ≤ b) {s : Nat × Int32} (i : Nat) (hs : s.1 ≤ b) : ∀ k, (bIn F i s k).1 ≤ b
  | 0 => hs
  | k + 1 => by
    rw [bIn]
    split
    · exact hF _
    · exact bIn_le hF i hs k
set_option maxHeartbeats 400000 in
set_option maxRecDepth 100000 in
theorem n_kind (g : Gl) (a : Nat → Nat) (X : Xs) (J : Jm) (c : Int32) (p : Int32) (n : Int32) (hX : InvX X) (hJ : OkM X J) : Ct g yX4_kind cX4_kind 9 (some .int) (rk 6 135) [.ref (a 0), .int c, .int p, .int n] (mdX g a X J) (fun r w2 => ∃ J2, OkM (f_kind X c p n).2 J2 ∧ r = some (.int (f_kind X c p n).1) ∧ w2 = mdX g a (f_kind X c p n).2 J2) := by
  obtain ⟨⟨mn, yr, gr, kd, pt, wt, mr⟩, ⟨⟨kmn, kyr, kgr, kkd, kpt, kwt, kmr⟩, kp⟩, ⟨tb, tn⟩, ⟨wd, sz, nm⟩, tl⟩ := X
  obtain ⟨kc, os, sd, tk, fr, to, vl, wr, mv⟩ := J
  obtain ⟨hB, hy, hkp, htb, htn, hwd, hsz⟩ := id hX
  obtain ⟨-, hTle, hgr, hkd, hpt, hwt, hmr, hyr, hmn⟩ := id hB
  refine ct_of (by decide) (Nat.le_of_ble_eq_true rfl) ?_
  intro φ C0 Rr
  have C : Cx φ g cX4_kind 9 RX4 (rk 6 135) := C0
  show Go φ g 9 0 [(0, .ref (a 0)), (1, .int c), (2, .int p), (3, .int n)] [] (mdV g a (sF mn yr gr kd pt wt mr) kc os sd tl kp tk tb tn fr to vl wr wd sz (flat nm) mv)
  refine g_aload_n (pc := 0) C dX4_kind_0 rfl ?_
  refine g_iload_n (pc := 1) C dX4_kind_1 rfl ?_
  refine g_vxi (pc := 2) (ws2 := (mdV g a (sF mn yr gr kd pt wt mr) kc os sd tl kp tk tb tn fr to vl wr wd sz (flat nm) mv)) C dX4_kind_2 ml_X4_51 mf_X4_isCook (m_isCook g a kc os sd tl kp tk tb tn fr to vl wr wd sz (flat nm) mv mn yr gr kd pt wt mr c hB) ⟨rfl, rfl, (Nat.le_of_ble_eq_true rfl), (Nat.le_of_ble_eq_true rfl)⟩ rfl rfl (Nat.le_of_ble_eq_true rfl) 0 rfl rfl rfl [0, 1, 2, 3, 4, 5, 6, 7, 8, 9, 10, 11] [] [0, 1, 2, 3, 4, 5, 6, 7, 8, 9, 10, 11] rfl rfl rfl rfl (by decide) rfl rfl ?_
  refine g_if_eqB (pc := 5) (tgt := 22) C dX4_kind_5 (by decide) (fun c1 => ?_) (fun c1 => ?_)
  · refine g_aload_n (pc := 22) C dX4_kind_22 rfl ?_
    refine g_ldc (pc := 23) C dX4_kind_23 ck_X4_44 rfl ?_
    refine g_vxi (pc := 25) (ws2 := (mdV g a (sF mn yr gr kd pt wt mr) kc os sd (updN tl 0 (tl 0 + 1)) kp tk tb tn fr to vl wr wd sz (flat nm) mv)) C dX4_kind_25 ml_X4_64 mf_X4_finds (m_finds g a (sF mn yr gr kd pt wt mr) kc os sd tl kp tk tb tn fr to vl wr wd sz (flat nm) mv 0 (by decide)) ⟨rfl, rfl, (Nat.le_of_ble_eq_true rfl), (Nat.le_of_ble_eq_true rfl)⟩ rfl rfl (Nat.le_of_ble_eq_true rfl) 0 rfl rfl rfl [0, 1, 2, 3, 4, 5, 6, 7, 8, 9, 10, 11] [] [0, 1, 2, 3, 4, 5, 6, 7, 8, 9, 10, 11] rfl rfl rfl rfl (by decide) rfl rfl ?_
    have hf : f_kind ((mn, yr, gr, kd, pt, wt, mr), ((kmn, kyr, kgr, kkd, kpt, kwt, kmr), kp), (tb, tn), (wd, sz, nm), tl) c p n = ((fd 0), ((mn, yr, gr, kd, pt, wt, mr), ((kmn, kyr, kgr, kkd, kpt, kwt, kmr), kp), (tb, tn), (wd, sz, nm), updN tl 0 (tl 0 + 1))) := by simp [f_kind, fnd, c1]
    exact g_iret C Rr dX4_kind_28 ⟨(kc, os, sd, tk, fr, to, vl, wr, mv), by rw [hf]; exact hJ, by rw [hf], by rw [hf]; rfl⟩ rfl
  · obtain ⟨c_, hu_c, rfl⟩ := inR_cook c1
    have hc8 : c_ < 8 := by omega
    refine g_iload_n (pc := 8) C dX4_kind_8 rfl ?_
    refine g_s0i (pc := 9) C dX4_kind_9 ml_X4_61 mf_X4_isPart (m_isPart g p) ⟨rfl, rfl, (Nat.le_of_ble_eq_true rfl), (Nat.le_of_ble_eq_true rfl)⟩ rfl rfl (Nat.le_of_ble_eq_true rfl) ?_
    refine g_if_eqB (pc := 12) (tgt := 22) C dX4_kind_12 (by decide) (fun c2 => ?_) (fun c2 => ?_)
    · refine g_aload_n (pc := 22) C dX4_kind_22 rfl ?_
      refine g_ldc (pc := 23) C dX4_kind_23 ck_X4_44 rfl ?_
      refine g_vxi (pc := 25) (ws2 := (mdV g a (sF mn yr gr kd pt wt mr) kc os sd (updN tl 0 (tl 0 + 1)) kp tk tb tn fr to vl wr wd sz (flat nm) mv)) C dX4_kind_25 ml_X4_64 mf_X4_finds (m_finds g a (sF mn yr gr kd pt wt mr) kc os sd tl kp tk tb tn fr to vl wr wd sz (flat nm) mv 0 (by decide)) ⟨rfl, rfl, (Nat.le_of_ble_eq_true rfl), (Nat.le_of_ble_eq_true rfl)⟩ rfl rfl (Nat.le_of_ble_eq_true rfl) 0 rfl rfl rfl [0, 1, 2, 3, 4, 5, 6, 7, 8, 9, 10, 11] [] [0, 1, 2, 3, 4, 5, 6, 7, 8, 9, 10, 11] rfl rfl rfl rfl (by decide) rfl rfl ?_
      have hf : f_kind ((mn, yr, gr, kd, pt, wt, mr), ((kmn, kyr, kgr, kkd, kpt, kwt, kmr), kp), (tb, tn), (wd, sz, nm), tl) (nI c_) p n = ((fd 0), ((mn, yr, gr, kd, pt, wt, mr), ((kmn, kyr, kgr, kkd, kpt, kwt, kmr), kp), (tb, tn), (wd, sz, nm), updN tl 0 (tl 0 + 1))) := by simp [f_kind, fnd, c1, c2, ix_nI (show c_ < 2 ^ 31 by omega)]
      exact g_iret C Rr dX4_kind_28 ⟨(kc, os, sd, tk, fr, to, vl, wr, mv), by rw [hf]; exact hJ, by rw [hf], by rw [hf]; rfl⟩ rfl
    · obtain ⟨p_, hl_p, hu_p, rfl⟩ := inR_nat (lo := 0) (hi := 11) c2
      refine g_iload_n (pc := 15) C dX4_kind_15 rfl ?_
      refine g_s0i (pc := 16) C dX4_kind_16 ml_X4_171 mf_X4_isSoon (m_isSoon g n) ⟨rfl, rfl, (Nat.le_of_ble_eq_true rfl), (Nat.le_of_ble_eq_true rfl)⟩ rfl rfl (Nat.le_of_ble_eq_true rfl) ?_
      refine g_if_neB (pc := 19) (tgt := 29) C dX4_kind_19 (by decide) (fun c3 => ?_) (fun c3 => ?_)
      · obtain ⟨n_, hl_n, hu_n, rfl⟩ := inR_nat (lo := 1) (hi := 60) c3
        have hFb : ∀ j, kindF kd pt wt mr mn gr yr c_ p_ n_ j < 2 ^ 31 := fun j => Nat.lt_of_le_of_lt (yrs_le (PB_kd hB (Nat.min_le_right _ _)) (by omega) p_) (by decide)
        refine g_aload_n (pc := 29) C dX4_kind_29 rfl ?_
        refine g_iload_n (pc := 30) C dX4_kind_30 rfl ?_
        refine g_iconst (pc := 31) (v := nI 0) C dX4_kind_31 (by decide) ?_
        refine g_vxi (pc := 32) (ws2 := (mdV g a (sF mn yr gr kd pt wt mr) kc os sd tl kp tk tb tn fr to vl wr wd sz (flat nm) mv)) C dX4_kind_32 ml_X4_102 mf_X4_its (m_its g a kc os sd tl kp tk tb tn fr to vl wr wd sz (flat nm) mv mn yr gr kd pt wt mr c_ 0 (by omega) (by omega)) ⟨rfl, rfl, (Nat.le_of_ble_eq_true rfl), (Nat.le_of_ble_eq_true rfl)⟩ rfl rfl (Nat.le_of_ble_eq_true rfl) 0 rfl rfl rfl [0, 1, 2, 3, 4, 5, 6, 7, 8, 9, 10, 11] [] [0, 1, 2, 3, 4, 5, 6, 7, 8, 9, 10, 11] rfl rfl rfl rfl (by decide) rfl rfl ?_
        refine g_top (y := nI (kd c_)) rfl ?_
        have b4 := hkd c_
        refine g_istore (pc := 35) (lv2 := [(0, .ref (a 0)), (1, .int (nI c_)), (2, .int (nI p_)), (3, .int (nI n_)), (4, .int (nI (kd c_)))]) C dX4_kind_35 (Nat.le_of_ble_eq_true rfl) rfl ?_
        refine g_iconst (pc := 37) (v := nI 0) C dX4_kind_37 (by decide) ?_
        refine g_istore (pc := 38) (lv2 := [(0, .ref (a 0)), (1, .int (nI c_)), (2, .int (nI p_)), (3, .int (nI n_)), (4, .int (nI (kd c_))), (5, .int (nI 0))]) C dX4_kind_38 (Nat.le_of_ble_eq_true rfl) rfl ?_
        refine g_iconst (pc := 40) (v := -1) C dX4_kind_40 (by decide) ?_
        refine g_istore (pc := 41) (lv2 := [(0, .ref (a 0)), (1, .int (nI c_)), (2, .int (nI p_)), (3, .int (nI n_)), (4, .int (nI (kd c_))), (5, .int (nI 0)), (6, .int (-1))]) C dX4_kind_41 (Nat.le_of_ble_eq_true rfl) rfl ?_
        refine g_ws (ws := (mdV g a (sF mn yr gr kd pt wt mr) kc os sd tl kp tk tb tn fr to vl wr wd sz (flat nm) mv)) (ws2 := (mdV g a (sF mn yr gr (updN kd c_ (kd c_)) pt wt mr) kc os sd tl kp tk tb tn fr to vl wr wd sz (flat nm) mv)) (by rw [← updN_self]) ?_
        refine g_iconst (pc := 43) (v := nI 0) C dX4_kind_43 (by decide) ?_
        refine g_istore (pc := 44) (lv2 := [(0, .ref (a 0)), (1, .int (nI c_)), (2, .int (nI p_)), (3, .int (nI n_)), (4, .int (nI (kd c_))), (5, .int (nI 0)), (6, .int (-1)), (7, .int (nI 0))]) C dX4_kind_44 (Nat.le_of_ble_eq_true rfl) rfl ?_
        refine g_loop5 (n := 6) (fun i m sd2 f b x => b = amx (kindF kd pt wt mr mn gr yr c_ p_ n_) i ∧ x = mxI (kindF kd pt wt mr mn gr yr c_ p_ n_) i) (fun i m sd2 f b x => [(0, .ref (a 0)), (1, .int (nI c_)), (2, .int (nI p_)), (3, .int (nI n_)), (4, .int (nI (kd c_))), (5, .int (nI b)), (6, .int x), (7, .int (nI i))]) (fun i m sd2 f b x => (mdV g a (sF mn yr gr (updN kd c_ m) pt wt mr) kc os sd2 tl kp f tb tn fr to vl wr wd sz (flat nm) mv)) ?_ 0 (kd c_) sd tk 0 (-1) (by omega) ⟨rfl, rfl⟩
        intro i m sd2 f b x hi_i hv_i ih_i
        show Go φ g 9 46 [(0, .ref (a 0)), (1, .int (nI c_)), (2, .int (nI p_)), (3, .int (nI n_)), (4, .int (nI (kd c_))), (5, .int (nI b)), (6, .int x), (7, .int (nI i))] [] (mdV g a (sF mn yr gr (updN kd c_ m) pt wt mr) kc os sd2 tl kp f tb tn fr to vl wr wd sz (flat nm) mv)
        have hv_i : b = amx (kindF kd pt wt mr mn gr yr c_ p_ n_) i ∧ x = mxI (kindF kd pt wt mr mn gr yr c_ p_ n_) i := hv_i
        refine g_iload (pc := 46) C dX4_kind_46 rfl ?_
        refine g_iconst (pc := 48) (v := nI 5) C dX4_kind_48 (by decide) ?_
        refine g_icmp_gtN (pc := 49) (tgt := 110) C dX4_kind_49 (by decide) (by omega) (by omega) (fun c5 => ?_) (fun c5 => ?_)
        · refine g_aload_n (pc := 110) C dX4_kind_110 rfl ?_
          refine g_get4 (pc := 111) C dX4_kind_111 0 rfl 0 (by decide) fl_X4_7 rfl ?_
          refine g_iload_n (pc := 114) C dX4_kind_114 rfl ?_
          refine g_iconst (pc := 115) (v := nI 0) C dX4_kind_115 (by decide) ?_
          refine g_s0i (pc := 116) C dX4_kind_116 ml_X4_57 mf_X4_spotOf (m_spotOf g c_ 0) ⟨rfl, rfl, (Nat.le_of_ble_eq_true rfl), (Nat.le_of_ble_eq_true rfl)⟩ rfl rfl (Nat.le_of_ble_eq_true rfl) ?_
          refine g_iload (pc := 119) C dX4_kind_119 rfl ?_
          refine g_iastM (pc := 121) (ws2 := _) C dX4_kind_121 1 rfl rfl (by omega) (by decide) rfl ?_
          refine g_ws (ws := (mdV g a (updN (sF mn yr gr (updN kd c_ m) pt wt mr) (14 + 4 * c_ + 0) (kd c_)) kc os sd2 tl kp f tb tn fr to vl wr wd sz (flat nm) mv)) (ws2 := (mdV g a (sF mn yr gr (updN (updN kd c_ m) c_ (kd c_)) pt wt mr) kc os sd2 tl kp f tb tn fr to vl wr wd sz (flat nm) mv)) (by rw [sF_wk]) ?_
          refine g_ws (ws := (mdV g a (sF mn yr gr (updN (updN kd c_ m) c_ (kd c_)) pt wt mr) kc os sd2 tl kp f tb tn fr to vl wr wd sz (flat nm) mv)) (ws2 := (mdV g a (sF mn yr gr kd pt wt mr) kc os sd2 tl kp f tb tn fr to vl wr wd sz (flat nm) mv)) (by rw [updN_back]) ?_
          refine g_iload (pc := 122) C dX4_kind_122 rfl ?_
          have hf : f_kind ((mn, yr, gr, kd, pt, wt, mr), ((kmn, kyr, kgr, kkd, kpt, kwt, kmr), kp), (tb, tn), (wd, sz, nm), tl) (nI c_) (nI p_) (nI n_) = ((nI b), ((mn, yr, gr, kd, pt, wt, mr), ((kmn, kyr, kgr, kkd, kpt, kwt, kmr), kp), (tb, tn), (wd, sz, nm), tl)) := by simp [f_kind, c1, c2, c3, ix_nI (show c_ < 2 ^ 31 by omega), ix_nI (show p_ < 2 ^ 31 by omega), ix_nI (show n_ < 2 ^ 31 by omega)]; rw [hv_i.1, show i = 6 by omega]
          exact g_iret C Rr dX4_kind_124 ⟨(kc, os, sd2, f, fr, to, vl, wr, mv), by rw [hf]; exact hJ, by rw [hf], by rw [hf]; rfl⟩ rfl
        · refine g_aload_n (pc := 52) C dX4_kind_52 rfl ?_
          refine g_get4 (pc := 53) C dX4_kind_53 0 rfl 0 (by decide) fl_X4_7 rfl ?_
          refine g_iload_n (pc := 56) C dX4_kind_56 rfl ?_
          refine g_iconst (pc := 57) (v := nI 0) C dX4_kind_57 (by decide) ?_
          refine g_s0i (pc := 58) C dX4_kind_58 ml_X4_57 mf_X4_spotOf (m_spotOf g c_ 0) ⟨rfl, rfl, (Nat.le_of_ble_eq_true rfl), (Nat.le_of_ble_eq_true rfl)⟩ rfl rfl (Nat.le_of_ble_eq_true rfl) ?_
          refine g_iload (pc := 61) C dX4_kind_61 rfl ?_
          refine g_iastM (pc := 63) (ws2 := _) C dX4_kind_63 1 rfl rfl (by omega) (by decide) rfl ?_
          refine g_ws (ws := (mdV g a (updN (sF mn yr gr (updN kd c_ m) pt wt mr) (14 + 4 * c_ + 0) i) kc os sd2 tl kp f tb tn fr to vl wr wd sz (flat nm) mv)) (ws2 := (mdV g a (sF mn yr gr (updN (updN kd c_ m) c_ i) pt wt mr) kc os sd2 tl kp f tb tn fr to vl wr wd sz (flat nm) mv)) (by rw [sF_wk]) ?_
          refine g_ws (ws := (mdV g a (sF mn yr gr (updN (updN kd c_ m) c_ i) pt wt mr) kc os sd2 tl kp f tb tn fr to vl wr wd sz (flat nm) mv)) (ws2 := (mdV g a (sF mn yr gr (updN kd c_ i) pt wt mr) kc os sd2 tl kp f tb tn fr to vl wr wd sz (flat nm) mv)) (by rw [updN_twice]) ?_
          refine g_aload_n (pc := 64) C dX4_kind_64 rfl ?_
          refine g_iload_n (pc := 65) C dX4_kind_65 rfl ?_
          refine g_iload_n (pc := 66) C dX4_kind_66 rfl ?_
          refine g_rV (pc := 67) (rest := []) C dX4_kind_67 ml_X4_174 mf_X4_behind (m_behind g a kc os sd2 tl kp f tb tn fr to vl wr wd sz (flat nm) mv mn yr gr (updN kd c_ i) pt wt mr p_ n_ (PB_kd hB (by omega)) (by omega) (by omega)) ⟨rfl, rfl, (Nat.le_of_ble_eq_true rfl), (Nat.le_of_ble_eq_true rfl)⟩ rfl rfl (Nat.le_of_ble_eq_true rfl) 0 rfl rfl rfl [0, 1, 2, 3, 4, 5, 6, 7, 8, 9, 10, 11] [] rfl rfl rfl rfl (by decide) ?_
          intro r9 w9 h9
          obtain ⟨f_6, rfl, rfl⟩ := h9
          refine g_sub (ws2 := (mdV g a (sF mn yr gr (updN kd c_ i) pt wt mr) kc os (sF mn yr gr (updN kd c_ i) pt wt mr) tl kp f_6 tb tn fr to vl wr wd sz (flat nm) mv)) [0, 1, 2, 3, 4, 5, 6, 7, 8, 9, 10, 11] rfl rfl ?_
          show Go φ g 9 70 [(0, .ref (a 0)), (1, .int (nI c_)), (2, .int (nI p_)), (3, .int (nI n_)), (4, .int (nI (kd c_))), (5, .int (nI b)), (6, .int x), (7, .int (nI i))] [.int (nI (yearsG (updN kd c_ i) pt wt mr mn gr yr n_ p_))] (mdV g a (sF mn yr gr (updN kd c_ i) pt wt mr) kc os (sF mn yr gr (updN kd c_ i) pt wt mr) tl kp f_6 tb tn fr to vl wr wd sz (flat nm) mv)
          refine g_top (y := nI (kindF kd pt wt mr mn gr yr c_ p_ n_ i)) (by rw [kindF, Nat.min_eq_left (by omega)]) ?_
          refine g_istore (pc := 70) (lv2 := [(0, .ref (a 0)), (1, .int (nI c_)), (2, .int (nI p_)), (3, .int (nI n_)), (4, .int (nI (kd c_))), (5, .int (nI b)), (6, .int x), (7, .int (nI i)), (8, .int (nI (kindF kd pt wt mr mn gr yr c_ p_ n_ i)))]) C dX4_kind_70 (Nat.le_of_ble_eq_true rfl) rfl ?_
          refine g_iload (pc := 72) C dX4_kind_72 rfl ?_
          refine g_iload (pc := 74) C dX4_kind_74 rfl ?_
          refine g_icmp_le (pc := 76) (tgt := 84) C dX4_kind_76 (by decide) (fun c7 => ?_) (fun c7 => ?_)
          · refine g_iload (pc := 84) C dX4_kind_84 rfl ?_
            refine g_istore (pc := 86) (lv2 := [(0, .ref (a 0)), (1, .int (nI c_)), (2, .int (nI p_)), (3, .int (nI n_)), (4, .int (nI (kd c_))), (5, .int (nI b)), (6, .int x), (7, .int (nI i)), (8, .int (nI (kindF kd pt wt mr mn gr yr c_ p_ n_ i)))]) C dX4_kind_86 (Nat.le_of_ble_eq_true rfl) rfl ?_
            refine g_iload (pc := 88) C dX4_kind_88 rfl ?_
            refine g_iload (pc := 90) C dX4_kind_90 rfl ?_
            refine g_icmp_le (pc := 92) (tgt := 100) C dX4_kind_92 (by decide) (fun c8 => ?_) (fun c8 => ?_)
            · refine g_iload (pc := 100) C dX4_kind_100 rfl ?_
              refine g_istore (pc := 102) (lv2 := [(0, .ref (a 0)), (1, .int (nI c_)), (2, .int (nI p_)), (3, .int (nI n_)), (4, .int (nI (kd c_))), (5, .int (nI b)), (6, .int x), (7, .int (nI i)), (8, .int (nI (kindF kd pt wt mr mn gr yr c_ p_ n_ i)))]) C dX4_kind_102 (Nat.le_of_ble_eq_true rfl) rfl ?_
              refine g_iinc (pc := 104) (v := (nI (i + 1))) (lv2 := [(0, .ref (a 0)), (1, .int (nI c_)), (2, .int (nI p_)), (3, .int (nI n_)), (4, .int (nI (kd c_))), (5, .int (nI b)), (6, .int x), (7, .int (nI (i + 1))), (8, .int (nI (kindF kd pt wt mr mn gr yr c_ p_ n_ i)))]) C dX4_kind_104 rfl (nI_1 _) (Nat.le_of_ble_eq_true rfl) rfl ?_
              refine g_goto (pc := 107) (tgt := 46) C dX4_kind_107 (by decide) ?_
              refine g_lvs (lv2 := [(0, .ref (a 0)), (1, .int (nI c_)), (2, .int (nI p_)), (3, .int (nI n_)), (4, .int (nI (kd c_))), (5, .int (nI b)), (6, .int x), (7, .int (nI (i + 1)))]) [0, 1, 2, 3, 4, 5, 6, 7] rfl ?_
              exact ih_i _ _ _ _ _ (by omega) ⟨hv_i.1.trans (amx_n hFb (by rw [← hv_i.2]; exact Int32.not_lt.mpr c8)).1.symm, hv_i.2.trans (amx_n hFb (by rw [← hv_i.2]; exact Int32.not_lt.mpr c8)).2.symm⟩
            · refine g_iload (pc := 95) C dX4_kind_95 rfl ?_
              refine g_goto (pc := 97) (tgt := 102) C dX4_kind_97 (by decide) ?_
              refine g_istore (pc := 102) (lv2 := [(0, .ref (a 0)), (1, .int (nI c_)), (2, .int (nI p_)), (3, .int (nI n_)), (4, .int (nI (kd c_))), (5, .int (nI b)), (6, .int (nI (kindF kd pt wt mr mn gr yr c_ p_ n_ i))), (7, .int (nI i)), (8, .int (nI (kindF kd pt wt mr mn gr yr c_ p_ n_ i)))]) C dX4_kind_102 (Nat.le_of_ble_eq_true rfl) rfl ?_
              refine g_iinc (pc := 104) (v := (nI (i + 1))) (lv2 := [(0, .ref (a 0)), (1, .int (nI c_)), (2, .int (nI p_)), (3, .int (nI n_)), (4, .int (nI (kd c_))), (5, .int (nI b)), (6, .int (nI (kindF kd pt wt mr mn gr yr c_ p_ n_ i))), (7, .int (nI (i + 1))), (8, .int (nI (kindF kd pt wt mr mn gr yr c_ p_ n_ i)))]) C dX4_kind_104 rfl (nI_1 _) (Nat.le_of_ble_eq_true rfl) rfl ?_
              refine g_goto (pc := 107) (tgt := 46) C dX4_kind_107 (by decide) ?_
              refine g_lvs (lv2 := [(0, .ref (a 0)), (1, .int (nI c_)), (2, .int (nI p_)), (3, .int (nI n_)), (4, .int (nI (kd c_))), (5, .int (nI b)), (6, .int (nI (kindF kd pt wt mr mn gr yr c_ p_ n_ i))), (7, .int (nI (i + 1)))]) [0, 1, 2, 3, 4, 5, 6, 7] rfl ?_
              exact absurd c7 c8
          · refine g_iload (pc := 79) C dX4_kind_79 rfl ?_
            refine g_goto (pc := 81) (tgt := 86) C dX4_kind_81 (by decide) ?_
            refine g_istore (pc := 86) (lv2 := [(0, .ref (a 0)), (1, .int (nI c_)), (2, .int (nI p_)), (3, .int (nI n_)), (4, .int (nI (kd c_))), (5, .int (nI i)), (6, .int x), (7, .int (nI i)), (8, .int (nI (kindF kd pt wt mr mn gr yr c_ p_ n_ i)))]) C dX4_kind_86 (Nat.le_of_ble_eq_true rfl) rfl ?_
            refine g_iload (pc := 88) C dX4_kind_88 rfl ?_
            refine g_iload (pc := 90) C dX4_kind_90 rfl ?_
            refine g_icmp_le (pc := 92) (tgt := 100) C dX4_kind_92 (by decide) (fun c9 => ?_) (fun c9 => ?_)
            · refine g_iload (pc := 100) C dX4_kind_100 rfl ?_
              refine g_istore (pc := 102) (lv2 := [(0, .ref (a 0)), (1, .int (nI c_)), (2, .int (nI p_)), (3, .int (nI n_)), (4, .int (nI (kd c_))), (5, .int (nI i)), (6, .int x), (7, .int (nI i)), (8, .int (nI (kindF kd pt wt mr mn gr yr c_ p_ n_ i)))]) C dX4_kind_102 (Nat.le_of_ble_eq_true rfl) rfl ?_
              refine g_iinc (pc := 104) (v := (nI (i + 1))) (lv2 := [(0, .ref (a 0)), (1, .int (nI c_)), (2, .int (nI p_)), (3, .int (nI n_)), (4, .int (nI (kd c_))), (5, .int (nI i)), (6, .int x), (7, .int (nI (i + 1))), (8, .int (nI (kindF kd pt wt mr mn gr yr c_ p_ n_ i)))]) C dX4_kind_104 rfl (nI_1 _) (Nat.le_of_ble_eq_true rfl) rfl ?_
              refine g_goto (pc := 107) (tgt := 46) C dX4_kind_107 (by decide) ?_
              refine g_lvs (lv2 := [(0, .ref (a 0)), (1, .int (nI c_)), (2, .int (nI p_)), (3, .int (nI n_)), (4, .int (nI (kd c_))), (5, .int (nI i)), (6, .int x), (7, .int (nI (i + 1)))]) [0, 1, 2, 3, 4, 5, 6, 7] rfl ?_
              exact absurd c9 c7
            · refine g_iload (pc := 95) C dX4_kind_95 rfl ?_
              refine g_goto (pc := 97) (tgt := 102) C dX4_kind_97 (by decide) ?_
              refine g_istore (pc := 102) (lv2 := [(0, .ref (a 0)), (1, .int (nI c_)), (2, .int (nI p_)), (3, .int (nI n_)), (4, .int (nI (kd c_))), (5, .int (nI i)), (6, .int (nI (kindF kd pt wt mr mn gr yr c_ p_ n_ i))), (7, .int (nI i)), (8, .int (nI (kindF kd pt wt mr mn gr yr c_ p_ n_ i)))]) C dX4_kind_102 (Nat.le_of_ble_eq_true rfl) rfl ?_
              refine g_iinc (pc := 104) (v := (nI (i + 1))) (lv2 := [(0, .ref (a 0)), (1, .int (nI c_)), (2, .int (nI p_)), (3, .int (nI n_)), (4, .int (nI (kd c_))), (5, .int (nI i)), (6, .int (nI (kindF kd pt wt mr mn gr yr c_ p_ n_ i))), (7, .int (nI (i + 1))), (8, .int (nI (kindF kd pt wt mr mn gr yr c_ p_ n_ i)))]) C dX4_kind_104 rfl (nI_1 _) (Nat.le_of_ble_eq_true rfl) rfl ?_
              refine g_goto (pc := 107) (tgt := 46) C dX4_kind_107 (by decide) ?_
              refine g_lvs (lv2 := [(0, .ref (a 0)), (1, .int (nI c_)), (2, .int (nI p_)), (3, .int (nI n_)), (4, .int (nI (kd c_))), (5, .int (nI i)), (6, .int (nI (kindF kd pt wt mr mn gr yr c_ p_ n_ i))), (7, .int (nI (i + 1)))]) [0, 1, 2, 3, 4, 5, 6, 7] rfl ?_
              exact ih_i _ _ _ _ _ (by omega) ⟨(amx_y hFb (by rw [← hv_i.2]; exact Int32.not_le.mp c9)).1.symm, (amx_y hFb (by rw [← hv_i.2]; exact Int32.not_le.mp c9)).2.symm⟩
      · refine g_aload_n (pc := 22) C dX4_kind_22 rfl ?_
        refine g_ldc (pc := 23) C dX4_kind_23 ck_X4_44 rfl ?_
        refine g_vxi (pc := 25) (ws2 := (mdV g a (sF mn yr gr kd pt wt mr) kc os sd (updN tl 0 (tl 0 + 1)) kp tk tb tn fr to vl wr wd sz (flat nm) mv)) C dX4_kind_25 ml_X4_64 mf_X4_finds (m_finds g a (sF mn yr gr kd pt wt mr) kc os sd tl kp tk tb tn fr to vl wr wd sz (flat nm) mv 0 (by decide)) ⟨rfl, rfl, (Nat.le_of_ble_eq_true rfl), (Nat.le_of_ble_eq_true rfl)⟩ rfl rfl (Nat.le_of_ble_eq_true rfl) 0 rfl rfl rfl [0, 1, 2, 3, 4, 5, 6, 7, 8, 9, 10, 11] [] [0, 1, 2, 3, 4, 5, 6, 7, 8, 9, 10, 11] rfl rfl rfl rfl (by decide) rfl rfl ?_
        have hf : f_kind ((mn, yr, gr, kd, pt, wt, mr), ((kmn, kyr, kgr, kkd, kpt, kwt, kmr), kp), (tb, tn), (wd, sz, nm), tl) (nI c_) (nI p_) n = ((fd 0), ((mn, yr, gr, kd, pt, wt, mr), ((kmn, kyr, kgr, kkd, kpt, kwt, kmr), kp), (tb, tn), (wd, sz, nm), updN tl 0 (tl 0 + 1))) := by simp [f_kind, fnd, c1, c2, c3, ix_nI (show c_ < 2 ^ 31 by omega), ix_nI (show p_ < 2 ^ 31 by omega)]
        exact g_iret C Rr dX4_kind_28 ⟨(kc, os, sd, tk, fr, to, vl, wr, mv), by rw [hf]; exact hJ, by rw [hf], by rw [hf]; rfl⟩ rfl
set_option maxHeartbeats 400000 in
set_option maxRecDepth 100000 in
theorem n_puts (g : Gl) (a : Nat → Nat) (X : Xs) (J : Jm) (c : Int32) (n : Int32) (hX : InvX X) (hJ : OkM X J) : Ct g yX4_puts cX4_puts 8 (some .int) (rk 5 113) [.ref (a 0), .int c, .int n] (mdX g a X J) (fun r w2 => ∃ J2, OkM (f_puts X c n).2 J2 ∧ r = some (.int (f_puts X c n).1) ∧ w2 = mdX g a (f_puts X c n).2 J2) := by
  obtain ⟨⟨mn, yr, gr, kd, pt, wt, mr⟩, ⟨⟨kmn, kyr, kgr, kkd, kpt, kwt, kmr⟩, kp⟩, ⟨tb, tn⟩, ⟨wd, sz, nm⟩, tl⟩ := X
  obtain ⟨kc, os, sd, tk, fr, to, vl, wr, mv⟩ := J
  obtain ⟨hB, hy, hkp, htb, htn, hwd, hsz⟩ := id hX
  obtain ⟨-, hTle, hgr, hkd, hpt, hwt, hmr, hyr, hmn⟩ := id hB
  refine ct_of (by decide) (Nat.le_of_ble_eq_true rfl) ?_
  intro φ C0 Rr
  have C : Cx φ g cX4_puts 8 RX4 (rk 5 113) := C0
  show Go φ g 8 0 [(0, .ref (a 0)), (1, .int c), (2, .int n)] [] (mdV g a (sF mn yr gr kd pt wt mr) kc os sd tl kp tk tb tn fr to vl wr wd sz (flat nm) mv)
  refine g_aload_n (pc := 0) C dX4_puts_0 rfl ?_
  refine g_iload_n (pc := 1) C dX4_puts_1 rfl ?_
  refine g_vxi (pc := 2) (ws2 := (mdV g a (sF mn yr gr kd pt wt mr) kc os sd tl kp tk tb tn fr to vl wr wd sz (flat nm) mv)) C dX4_puts_2 ml_X4_51 mf_X4_isCook (m_isCook g a kc os sd tl kp tk tb tn fr to vl wr wd sz (flat nm) mv mn yr gr kd pt wt mr c hB) ⟨rfl, rfl, (Nat.le_of_ble_eq_true rfl), (Nat.le_of_ble_eq_true rfl)⟩ rfl rfl (Nat.le_of_ble_eq_true rfl) 0 rfl rfl rfl [0, 1, 2, 3, 4, 5, 6, 7, 8, 9, 10, 11] [] [0, 1, 2, 3, 4, 5, 6, 7, 8, 9, 10, 11] rfl rfl rfl rfl (by decide) rfl rfl ?_
  refine g_if_eqB (pc := 5) (tgt := 15) C dX4_puts_5 (by decide) (fun c1 => ?_) (fun c1 => ?_)
  · refine g_aload_n (pc := 15) C dX4_puts_15 rfl ?_
    refine g_ldc (pc := 16) C dX4_puts_16 ck_X4_44 rfl ?_
    refine g_vxi (pc := 18) (ws2 := (mdV g a (sF mn yr gr kd pt wt mr) kc os sd (updN tl 0 (tl 0 + 1)) kp tk tb tn fr to vl wr wd sz (flat nm) mv)) C dX4_puts_18 ml_X4_64 mf_X4_finds (m_finds g a (sF mn yr gr kd pt wt mr) kc os sd tl kp tk tb tn fr to vl wr wd sz (flat nm) mv 0 (by decide)) ⟨rfl, rfl, (Nat.le_of_ble_eq_true rfl), (Nat.le_of_ble_eq_true rfl)⟩ rfl rfl (Nat.le_of_ble_eq_true rfl) 0 rfl rfl rfl [0, 1, 2, 3, 4, 5, 6, 7, 8, 9, 10, 11] [] [0, 1, 2, 3, 4, 5, 6, 7, 8, 9, 10, 11] rfl rfl rfl rfl (by decide) rfl rfl ?_
    have hf : f_puts ((mn, yr, gr, kd, pt, wt, mr), ((kmn, kyr, kgr, kkd, kpt, kwt, kmr), kp), (tb, tn), (wd, sz, nm), tl) c n = ((fd 0), ((mn, yr, gr, kd, pt, wt, mr), ((kmn, kyr, kgr, kkd, kpt, kwt, kmr), kp), (tb, tn), (wd, sz, nm), updN tl 0 (tl 0 + 1))) := by simp [f_puts, fnd, c1]
    exact g_iret C Rr dX4_puts_21 ⟨(kc, os, sd, tk, fr, to, vl, wr, mv), by rw [hf]; exact hJ, by rw [hf], by rw [hf]; rfl⟩ rfl
  · obtain ⟨c_, hu_c, rfl⟩ := inR_cook c1
    have hc8 : c_ < 8 := by omega
    refine g_iload_n (pc := 8) C dX4_puts_8 rfl ?_
    refine g_s0i (pc := 9) C dX4_puts_9 ml_X4_171 mf_X4_isSoon (m_isSoon g n) ⟨rfl, rfl, (Nat.le_of_ble_eq_true rfl), (Nat.le_of_ble_eq_true rfl)⟩ rfl rfl (Nat.le_of_ble_eq_true rfl) ?_
    refine g_if_neB (pc := 12) (tgt := 22) C dX4_puts_12 (by decide) (fun c2 => ?_) (fun c2 => ?_)
    · obtain ⟨n_, hl_n, hu_n, rfl⟩ := inR_nat (lo := 1) (hi := 60) c2
      have hFb : ∀ j, putsF kd pt wt mr mn gr yr c_ n_ j < 2 ^ 31 := fun j => Nat.lt_of_le_of_lt (leastN_le _ _ _ _) (by decide)
      have hmk := maskN_lt gr 12
      refine g_aload_n (pc := 22) C dX4_puts_22 rfl ?_
      refine g_vxi (pc := 23) (ws2 := (mdV g a (sF mn yr gr kd pt wt mr) kc os sd tl kp tk tb tn fr to vl wr wd sz (flat nm) mv)) C dX4_puts_23 ml_X4_148 mf_X4_present (m_present g a kc os sd tl kp tk tb tn fr to vl wr wd sz (flat nm) mv mn yr gr kd pt wt mr hB) ⟨rfl, rfl, (Nat.le_of_ble_eq_true rfl), (Nat.le_of_ble_eq_true rfl)⟩ rfl rfl (Nat.le_of_ble_eq_true rfl) 0 rfl rfl rfl [0, 1, 2, 3, 4, 5, 6, 7, 8, 9, 10, 11] [] [0, 1, 2, 3, 4, 5, 6, 7, 8, 9, 10, 11] rfl rfl rfl rfl (by decide) rfl rfl ?_
      refine g_istore_n (pc := 26) (lv2 := [(0, .ref (a 0)), (1, .int (nI c_)), (2, .int (nI n_)), (3, .int (nI (maskN gr 12)))]) C dX4_puts_26 rfl (Nat.le_of_ble_eq_true rfl) rfl ?_
      refine g_iconst (pc := 27) (v := nI 0) C dX4_puts_27 (by decide) ?_
      refine g_istore (pc := 28) (lv2 := [(0, .ref (a 0)), (1, .int (nI c_)), (2, .int (nI n_)), (3, .int (nI (maskN gr 12))), (4, .int (nI 0))]) C dX4_puts_28 (Nat.le_of_ble_eq_true rfl) rfl ?_
      refine g_iconst (pc := 30) (v := -1) C dX4_puts_30 (by decide) ?_
      refine g_istore (pc := 31) (lv2 := [(0, .ref (a 0)), (1, .int (nI c_)), (2, .int (nI n_)), (3, .int (nI (maskN gr 12))), (4, .int (nI 0)), (5, .int (-1))]) C dX4_puts_31 (Nat.le_of_ble_eq_true rfl) rfl ?_
      refine g_aload_n (pc := 33) C dX4_puts_33 rfl ?_
      refine g_vxn (pc := 34) (ws2 := (mdV g a (sF mn yr gr kd pt wt mr) kc os (sF mn yr gr kd pt wt mr) tl kp tk tb tn fr to vl wr wd sz (flat nm) mv)) C dX4_puts_34 ml_X4_90 mf_X4_laysAside (m_laysAside g a kc os sd tl kp tk tb tn fr to vl wr wd sz (flat nm) mv mn yr gr kd pt wt mr) ⟨rfl, rfl, (Nat.le_of_ble_eq_true rfl), (Nat.le_of_ble_eq_true rfl)⟩ rfl rfl (Nat.le_of_ble_eq_true rfl) 0 rfl rfl rfl [0, 1, 2, 3, 4, 5, 6, 7, 8, 9, 10, 11] [] [0, 1, 2, 3, 4, 5, 6, 7, 8, 9, 10, 11] rfl rfl rfl rfl (by decide) rfl rfl ?_
      refine g_iconst (pc := 37) (v := nI 0) C dX4_puts_37 (by decide) ?_
      refine g_istore (pc := 38) (lv2 := [(0, .ref (a 0)), (1, .int (nI c_)), (2, .int (nI n_)), (3, .int (nI (maskN gr 12))), (4, .int (nI 0)), (5, .int (-1)), (6, .int (nI 0))]) C dX4_puts_38 (Nat.le_of_ble_eq_true rfl) rfl ?_
      refine g_loop3 (n := 12) (fun i f b x => b = amx (putsF kd pt wt mr mn gr yr c_ n_) i ∧ x = mxI (putsF kd pt wt mr mn gr yr c_ n_) i) (fun i f b x => [(0, .ref (a 0)), (1, .int (nI c_)), (2, .int (nI n_)), (3, .int (nI (maskN gr 12))), (4, .int (nI b)), (5, .int x), (6, .int (nI i))]) (fun i f b x => (mdV g a (sF mn yr gr kd pt wt mr) kc os (sF mn yr gr kd pt wt mr) tl kp f tb tn fr to vl wr wd sz (flat nm) mv)) ?_ 0 tk 0 (-1) (by omega) ⟨rfl, rfl⟩
      intro i f b x hi_i hv_i ih_i
      show Go φ g 8 40 [(0, .ref (a 0)), (1, .int (nI c_)), (2, .int (nI n_)), (3, .int (nI (maskN gr 12))), (4, .int (nI b)), (5, .int x), (6, .int (nI i))] [] (mdV g a (sF mn yr gr kd pt wt mr) kc os (sF mn yr gr kd pt wt mr) tl kp f tb tn fr to vl wr wd sz (flat nm) mv)
      have hv_i : b = amx (putsF kd pt wt mr mn gr yr c_ n_) i ∧ x = mxI (putsF kd pt wt mr mn gr yr c_ n_) i := hv_i
      refine g_iload (pc := 40) C dX4_puts_40 rfl ?_
      refine g_bipush (pc := 42) (v := nI 12) C dX4_puts_42 (by decide) ?_
      refine g_icmp_geN (pc := 44) (tgt := 113) C dX4_puts_44 (by decide) (by omega) (by omega) (fun c3 => ?_) (fun c3 => ?_)
      · refine g_iload (pc := 113) C dX4_puts_113 rfl ?_
        have hf : f_puts ((mn, yr, gr, kd, pt, wt, mr), ((kmn, kyr, kgr, kkd, kpt, kwt, kmr), kp), (tb, tn), (wd, sz, nm), tl) (nI c_) (nI n_) = ((nI b), ((mn, yr, gr, kd, pt, wt, mr), ((kmn, kyr, kgr, kkd, kpt, kwt, kmr), kp), (tb, tn), (wd, sz, nm), tl)) := by simp [f_puts, c1, c2, ix_nI (show c_ < 2 ^ 31 by omega), ix_nI (show n_ < 2 ^ 31 by omega)]; rw [hv_i.1, show i = 12 by omega]
        exact g_iret C Rr dX4_puts_115 ⟨(kc, os, sF mn yr gr kd pt wt mr, f, fr, to, vl, wr, mv), by rw [hf]; exact hJ, by rw [hf], by rw [hf]; rfl⟩ rfl
      · refine g_aload_n (pc := 47) C dX4_puts_47 rfl ?_
        refine g_get4 (pc := 48) C dX4_puts_48 0 rfl 0 (by decide) fl_X4_7 rfl ?_
        refine g_iload_n (pc := 51) C dX4_puts_51 rfl ?_
        refine g_iconst (pc := 52) (v := nI 1) C dX4_puts_52 (by decide) ?_
        refine g_s0i (pc := 53) C dX4_puts_53 ml_X4_57 mf_X4_spotOf (m_spotOf g c_ 1) ⟨rfl, rfl, (Nat.le_of_ble_eq_true rfl), (Nat.le_of_ble_eq_true rfl)⟩ rfl rfl (Nat.le_of_ble_eq_true rfl) ?_
        refine g_iload (pc := 56) C dX4_puts_56 rfl ?_
        refine g_iastM (pc := 58) (ws2 := _) C dX4_puts_58 1 rfl rfl (by omega) (by decide) rfl ?_
        refine g_ws (ws := (mdV g a (updN (sF mn yr gr kd pt wt mr) (14 + 4 * c_ + 1) i) kc os (sF mn yr gr kd pt wt mr) tl kp f tb tn fr to vl wr wd sz (flat nm) mv)) (ws2 := (mdV g a (sF mn yr gr kd (updN pt c_ i) wt mr) kc os (sF mn yr gr kd pt wt mr) tl kp f tb tn fr to vl wr wd sz (flat nm) mv)) (by rw [sF_wp]) ?_
        refine g_aload_n (pc := 59) C dX4_puts_59 rfl ?_
        refine g_iload_n (pc := 60) C dX4_puts_60 rfl ?_
        refine g_rV (pc := 61) (rest := []) C dX4_puts_61 ml_X4_144 mf_X4_yearsGo (m_yearsGo g a kc os (sF mn yr gr kd pt wt mr) tl kp f tb tn fr to vl wr wd sz (flat nm) mv mn yr gr kd (updN pt c_ i) wt mr n_ (PB_pt hB (by omega)) (by omega)) ⟨rfl, rfl, (Nat.le_of_ble_eq_true rfl), (Nat.le_of_ble_eq_true rfl)⟩ rfl rfl (Nat.le_of_ble_eq_true rfl) 0 rfl rfl rfl [0, 1, 2, 3, 4, 5, 6, 7, 8, 9, 10, 11] [] rfl rfl rfl rfl (by decide) ?_
        intro r9 w9 h9
        obtain ⟨f_4, rfl, rfl⟩ := h9
        refine g_sub (ws2 := (mdV g a (sF mn (yr + n_) (yearsG kd (updN pt c_ i) wt mr mn gr yr n_) kd (updN pt c_ i) wt mr) kc os (sF mn yr gr kd pt wt mr) tl kp f_4 tb tn fr to vl wr wd sz (flat nm) mv)) [0, 1, 2, 3, 4, 5, 6, 7, 8, 9, 10, 11] rfl rfl ?_
        show Go φ g 8 64 [(0, .ref (a 0)), (1, .int (nI c_)), (2, .int (nI n_)), (3, .int (nI (maskN gr 12))), (4, .int (nI b)), (5, .int x), (6, .int (nI i))] [] (mdV g a (sF mn (yr + n_) (yearsG kd (updN pt c_ i) wt mr mn gr yr n_) kd (updN pt c_ i) wt mr) kc os (sF mn yr gr kd pt wt mr) tl kp f_4 tb tn fr to vl wr wd sz (flat nm) mv)
        refine g_aload_n (pc := 64) C dX4_puts_64 rfl ?_
        refine g_aload_n (pc := 65) C dX4_puts_65 rfl ?_
        refine g_iload_n (pc := 66) C dX4_puts_66 rfl ?_
        refine g_vxi (pc := 67) (ws2 := (mdV g a (sF mn (yr + n_) (yearsG kd (updN pt c_ i) wt mr mn gr yr n_) kd (updN pt c_ i) wt mr) kc os (sF mn yr gr kd pt wt mr) tl kp f_4 tb tn fr to vl wr wd sz (flat nm) mv)) C dX4_puts_67 ml_X4_179 mf_X4_leastTaste (m_leastTaste g a kc os (sF mn yr gr kd pt wt mr) tl kp f_4 tb tn fr to vl wr wd sz (flat nm) mv mn (yr + n_) (yearsG kd (updN pt c_ i) wt mr mn gr yr n_) kd (updN pt c_ i) wt mr (maskN gr 12) (PB_yrs (PB_pt hB (by omega)) n_ (by omega)) (by omega)) ⟨rfl, rfl, (Nat.le_of_ble_eq_true rfl), (Nat.le_of_ble_eq_true rfl)⟩ rfl rfl (Nat.le_of_ble_eq_true rfl) 0 rfl rfl rfl [0, 1, 2, 3, 4, 5, 6, 7, 8, 9, 10, 11] [] [0, 1, 2, 3, 4, 5, 6, 7, 8, 9, 10, 11] rfl rfl rfl rfl (by decide) rfl rfl ?_
        refine g_top (y := nI (putsF kd pt wt mr mn gr yr c_ n_ i)) (by rw [putsF, Nat.min_eq_left (by omega)]) ?_
        refine g_vxi (pc := 70) (ws2 := (mdV g a (sF mn yr gr kd pt wt mr) kc os (sF mn yr gr kd pt wt mr) tl kp f_4 tb tn fr to vl wr wd sz (flat nm) mv)) C dX4_puts_70 ml_X4_93 mf_X4_takesBack (m_takesBack g a kc os tl kp f_4 tb tn fr to vl wr wd sz (flat nm) mv mn (yr + n_) (yearsG kd (updN pt c_ i) wt mr mn gr yr n_) kd (updN pt c_ i) wt mr mn yr gr kd pt wt mr (putsF kd pt wt mr mn gr yr c_ n_ i)) ⟨rfl, rfl, (Nat.le_of_ble_eq_true rfl), (Nat.le_of_ble_eq_true rfl)⟩ rfl rfl (Nat.le_of_ble_eq_true rfl) 0 rfl rfl rfl [0, 1, 2, 3, 4, 5, 6, 7, 8, 9, 10, 11] [] [0, 1, 2, 3, 4, 5, 6, 7, 8, 9, 10, 11] rfl rfl rfl rfl (by decide) rfl rfl ?_
        refine g_istore (pc := 73) (lv2 := [(0, .ref (a 0)), (1, .int (nI c_)), (2, .int (nI n_)), (3, .int (nI (maskN gr 12))), (4, .int (nI b)), (5, .int x), (6, .int (nI i)), (7, .int (nI (putsF kd pt wt mr mn gr yr c_ n_ i)))]) C dX4_puts_73 (Nat.le_of_ble_eq_true rfl) rfl ?_
        refine g_iload (pc := 75) C dX4_puts_75 rfl ?_
        refine g_iload (pc := 77) C dX4_puts_77 rfl ?_
        refine g_icmp_le (pc := 79) (tgt := 87) C dX4_puts_79 (by decide) (fun c5 => ?_) (fun c5 => ?_)
        · refine g_iload (pc := 87) C dX4_puts_87 rfl ?_
          refine g_istore (pc := 89) (lv2 := [(0, .ref (a 0)), (1, .int (nI c_)), (2, .int (nI n_)), (3, .int (nI (maskN gr 12))), (4, .int (nI b)), (5, .int x), (6, .int (nI i)), (7, .int (nI (putsF kd pt wt mr mn gr yr c_ n_ i)))]) C dX4_puts_89 (Nat.le_of_ble_eq_true rfl) rfl ?_
          refine g_iload (pc := 91) C dX4_puts_91 rfl ?_
          refine g_iload (pc := 93) C dX4_puts_93 rfl ?_
          refine g_icmp_le (pc := 95) (tgt := 103) C dX4_puts_95 (by decide) (fun c6 => ?_) (fun c6 => ?_)
          · refine g_iload (pc := 103) C dX4_puts_103 rfl ?_
            refine g_istore (pc := 105) (lv2 := [(0, .ref (a 0)), (1, .int (nI c_)), (2, .int (nI n_)), (3, .int (nI (maskN gr 12))), (4, .int (nI b)), (5, .int x), (6, .int (nI i)), (7, .int (nI (putsF kd pt wt mr mn gr yr c_ n_ i)))]) C dX4_puts_105 (Nat.le_of_ble_eq_true rfl) rfl ?_
            refine g_iinc (pc := 107) (v := (nI (i + 1))) (lv2 := [(0, .ref (a 0)), (1, .int (nI c_)), (2, .int (nI n_)), (3, .int (nI (maskN gr 12))), (4, .int (nI b)), (5, .int x), (6, .int (nI (i + 1))), (7, .int (nI (putsF kd pt wt mr mn gr yr c_ n_ i)))]) C dX4_puts_107 rfl (nI_1 _) (Nat.le_of_ble_eq_true rfl) rfl ?_
            refine g_goto (pc := 110) (tgt := 40) C dX4_puts_110 (by decide) ?_
            refine g_lvs (lv2 := [(0, .ref (a 0)), (1, .int (nI c_)), (2, .int (nI n_)), (3, .int (nI (maskN gr 12))), (4, .int (nI b)), (5, .int x), (6, .int (nI (i + 1)))]) [0, 1, 2, 3, 4, 5, 6] rfl ?_
            exact ih_i _ _ _ (by omega) ⟨hv_i.1.trans (amx_n hFb (by rw [← hv_i.2]; exact Int32.not_lt.mpr c6)).1.symm, hv_i.2.trans (amx_n hFb (by rw [← hv_i.2]; exact Int32.not_lt.mpr c6)).2.symm⟩
          · refine g_iload (pc := 98) C dX4_puts_98 rfl ?_
            refine g_goto (pc := 100) (tgt := 105) C dX4_puts_100 (by decide) ?_
            refine g_istore (pc := 105) (lv2 := [(0, .ref (a 0)), (1, .int (nI c_)), (2, .int (nI n_)), (3, .int (nI (maskN gr 12))), (4, .int (nI b)), (5, .int (nI (putsF kd pt wt mr mn gr yr c_ n_ i))), (6, .int (nI i)), (7, .int (nI (putsF kd pt wt mr mn gr yr c_ n_ i)))]) C dX4_puts_105 (Nat.le_of_ble_eq_true rfl) rfl ?_
            refine g_iinc (pc := 107) (v := (nI (i + 1))) (lv2 := [(0, .ref (a 0)), (1, .int (nI c_)), (2, .int (nI n_)), (3, .int (nI (maskN gr 12))), (4, .int (nI b)), (5, .int (nI (putsF kd pt wt mr mn gr yr c_ n_ i))), (6, .int (nI (i + 1))), (7, .int (nI (putsF kd pt wt mr mn gr yr c_ n_ i)))]) C dX4_puts_107 rfl (nI_1 _) (Nat.le_of_ble_eq_true rfl) rfl ?_
            refine g_goto (pc := 110) (tgt := 40) C dX4_puts_110 (by decide) ?_
            refine g_lvs (lv2 := [(0, .ref (a 0)), (1, .int (nI c_)), (2, .int (nI n_)), (3, .int (nI (maskN gr 12))), (4, .int (nI b)), (5, .int (nI (putsF kd pt wt mr mn gr yr c_ n_ i))), (6, .int (nI (i + 1)))]) [0, 1, 2, 3, 4, 5, 6] rfl ?_
            exact absurd c5 c6
        · refine g_iload (pc := 82) C dX4_puts_82 rfl ?_
          refine g_goto (pc := 84) (tgt := 89) C dX4_puts_84 (by decide) ?_
          refine g_istore (pc := 89) (lv2 := [(0, .ref (a 0)), (1, .int (nI c_)), (2, .int (nI n_)), (3, .int (nI (maskN gr 12))), (4, .int (nI i)), (5, .int x), (6, .int (nI i)), (7, .int (nI (putsF kd pt wt mr mn gr yr c_ n_ i)))]) C dX4_puts_89 (Nat.le_of_ble_eq_true rfl) rfl ?_
          refine g_iload (pc := 91) C dX4_puts_91 rfl ?_
          refine g_iload (pc := 93) C dX4_puts_93 rfl ?_
          refine g_icmp_le (pc := 95) (tgt := 103) C dX4_puts_95 (by decide) (fun c7 => ?_) (fun c7 => ?_)
          · refine g_iload (pc := 103) C dX4_puts_103 rfl ?_
            refine g_istore (pc := 105) (lv2 := [(0, .ref (a 0)), (1, .int (nI c_)), (2, .int (nI n_)), (3, .int (nI (maskN gr 12))), (4, .int (nI i)), (5, .int x), (6, .int (nI i)), (7, .int (nI (putsF kd pt wt mr mn gr yr c_ n_ i)))]) C dX4_puts_105 (Nat.le_of_ble_eq_true rfl) rfl ?_
            refine g_iinc (pc := 107) (v := (nI (i + 1))) (lv2 := [(0, .ref (a 0)), (1, .int (nI c_)), (2, .int (nI n_)), (3, .int (nI (maskN gr 12))), (4, .int (nI i)), (5, .int x), (6, .int (nI (i + 1))), (7, .int (nI (putsF kd pt wt mr mn gr yr c_ n_ i)))]) C dX4_puts_107 rfl (nI_1 _) (Nat.le_of_ble_eq_true rfl) rfl ?_
            refine g_goto (pc := 110) (tgt := 40) C dX4_puts_110 (by decide) ?_
            refine g_lvs (lv2 := [(0, .ref (a 0)), (1, .int (nI c_)), (2, .int (nI n_)), (3, .int (nI (maskN gr 12))), (4, .int (nI i)), (5, .int x), (6, .int (nI (i + 1)))]) [0, 1, 2, 3, 4, 5, 6] rfl ?_
            exact absurd c7 c5
          · refine g_iload (pc := 98) C dX4_puts_98 rfl ?_
            refine g_goto (pc := 100) (tgt := 105) C dX4_puts_100 (by decide) ?_
            refine g_istore (pc := 105) (lv2 := [(0, .ref (a 0)), (1, .int (nI c_)), (2, .int (nI n_)), (3, .int (nI (maskN gr 12))), (4, .int (nI i)), (5, .int (nI (putsF kd pt wt mr mn gr yr c_ n_ i))), (6, .int (nI i)), (7, .int (nI (putsF kd pt wt mr mn gr yr c_ n_ i)))]) C dX4_puts_105 (Nat.le_of_ble_eq_true rfl) rfl ?_
            refine g_iinc (pc := 107) (v := (nI (i + 1))) (lv2 := [(0, .ref (a 0)), (1, .int (nI c_)), (2, .int (nI n_)), (3, .int (nI (maskN gr 12))), (4, .int (nI i)), (5, .int (nI (putsF kd pt wt mr mn gr yr c_ n_ i))), (6, .int (nI (i + 1))), (7, .int (nI (putsF kd pt wt mr mn gr yr c_ n_ i)))]) C dX4_puts_107 rfl (nI_1 _) (Nat.le_of_ble_eq_true rfl) rfl ?_
            refine g_goto (pc := 110) (tgt := 40) C dX4_puts_110 (by decide) ?_
            refine g_lvs (lv2 := [(0, .ref (a 0)), (1, .int (nI c_)), (2, .int (nI n_)), (3, .int (nI (maskN gr 12))), (4, .int (nI i)), (5, .int (nI (putsF kd pt wt mr mn gr yr c_ n_ i))), (6, .int (nI (i + 1)))]) [0, 1, 2, 3, 4, 5, 6] rfl ?_
            exact ih_i _ _ _ (by omega) ⟨(amx_y hFb (by rw [← hv_i.2]; exact Int32.not_le.mp c7)).1.symm, (amx_y hFb (by rw [← hv_i.2]; exact Int32.not_le.mp c7)).2.symm⟩
    · refine g_aload_n (pc := 15) C dX4_puts_15 rfl ?_
      refine g_ldc (pc := 16) C dX4_puts_16 ck_X4_44 rfl ?_
      refine g_vxi (pc := 18) (ws2 := (mdV g a (sF mn yr gr kd pt wt mr) kc os sd (updN tl 0 (tl 0 + 1)) kp tk tb tn fr to vl wr wd sz (flat nm) mv)) C dX4_puts_18 ml_X4_64 mf_X4_finds (m_finds g a (sF mn yr gr kd pt wt mr) kc os sd tl kp tk tb tn fr to vl wr wd sz (flat nm) mv 0 (by decide)) ⟨rfl, rfl, (Nat.le_of_ble_eq_true rfl), (Nat.le_of_ble_eq_true rfl)⟩ rfl rfl (Nat.le_of_ble_eq_true rfl) 0 rfl rfl rfl [0, 1, 2, 3, 4, 5, 6, 7, 8, 9, 10, 11] [] [0, 1, 2, 3, 4, 5, 6, 7, 8, 9, 10, 11] rfl rfl rfl rfl (by decide) rfl rfl ?_
      have hf : f_puts ((mn, yr, gr, kd, pt, wt, mr), ((kmn, kyr, kgr, kkd, kpt, kwt, kmr), kp), (tb, tn), (wd, sz, nm), tl) (nI c_) n = ((fd 0), ((mn, yr, gr, kd, pt, wt, mr), ((kmn, kyr, kgr, kkd, kpt, kwt, kmr), kp), (tb, tn), (wd, sz, nm), updN tl 0 (tl 0 + 1))) := by simp [f_puts, fnd, c1, c2, ix_nI (show c_ < 2 ^ 31 by omega)]
      exact g_iret C Rr dX4_puts_21 ⟨(kc, os, sd, tk, fr, to, vl, wr, mv), by rw [hf]; exact hJ, by rw [hf], by rw [hf]; rfl⟩ rfl
set_option maxHeartbeats 400000 in
set_option maxRecDepth 100000 in
theorem n_best (g : Gl) (a : Nat → Nat) (X : Xs) (J : Jm) (n : Int32) (hX : InvX X) (hJ : OkM X J) : Ct g yX4_best cX4_best 4 (some .int) (rk 5 113) [.ref (a 0), .int n] (mdX g a X J) (fun r w2 => ∃ J2, OkM (f_best X n).2 J2 ∧ r = some (.int (f_best X n).1) ∧ w2 = mdX g a (f_best X n).2 J2) := by
  obtain ⟨⟨mn, yr, gr, kd, pt, wt, mr⟩, ⟨⟨kmn, kyr, kgr, kkd, kpt, kwt, kmr⟩, kp⟩, ⟨tb, tn⟩, ⟨wd, sz, nm⟩, tl⟩ := X
  obtain ⟨kc, os, sd, tk, fr, to, vl, wr, mv⟩ := J
  obtain ⟨hB, hy, hkp, htb, htn, hwd, hsz⟩ := id hX
  obtain ⟨-, hTle, hgr, hkd, hpt, hwt, hmr, hyr, hmn⟩ := id hB
  refine ct_of (by decide) (Nat.le_of_ble_eq_true rfl) ?_
  intro φ C0 Rr
  have C : Cx φ g cX4_best 4 RX4 (rk 5 113) := C0
  show Go φ g 4 0 [(0, .ref (a 0)), (1, .int n)] [] (mdV g a (sF mn yr gr kd pt wt mr) kc os sd tl kp tk tb tn fr to vl wr wd sz (flat nm) mv)
  refine g_iload_n (pc := 0) C dX4_best_0 rfl ?_
  refine g_i2l (pc := 1) C dX4_best_1 ?_
  refine g_lconst (pc := 2) (v := 0) C dX4_best_2 (by decide) ?_
  refine g_ldc2 (pc := 3) C dX4_best_3 ckl_X4_141 rfl ?_
  refine g_s0i (pc := 6) C dX4_best_6 ml_X4_47 mf_X4_in (m_in g ((n).toInt64) 0 (100)) ⟨rfl, rfl, (Nat.le_of_ble_eq_true rfl), (Nat.le_of_ble_eq_true rfl)⟩ rfl rfl (Nat.le_of_ble_eq_true rfl) ?_
  refine g_top (y := bI (inR n 0 100 = true)) (bI_iff (w64.trans inR_iff.symm)) ?_
  refine g_if_neB (pc := 9) (tgt := 19) C dX4_best_9 (by decide) (fun c1 => ?_) (fun c1 => ?_)
  · obtain ⟨n_, hl_n, hu_n, rfl⟩ := inR_nat (lo := 0) (hi := 100) c1
    refine g_aload_n (pc := 19) C dX4_best_19 rfl ?_
    refine g_vxn (pc := 20) (ws2 := (mdV g a (sF mn yr gr kd pt wt mr) kc os (sF mn yr gr kd pt wt mr) tl kp tk tb tn fr to vl wr wd sz (flat nm) mv)) C dX4_best_20 ml_X4_90 mf_X4_laysAside (m_laysAside g a kc os sd tl kp tk tb tn fr to vl wr wd sz (flat nm) mv mn yr gr kd pt wt mr) ⟨rfl, rfl, (Nat.le_of_ble_eq_true rfl), (Nat.le_of_ble_eq_true rfl)⟩ rfl rfl (Nat.le_of_ble_eq_true rfl) 0 rfl rfl rfl [0, 1, 2, 3, 4, 5, 6, 7, 8, 9, 10, 11] [] [0, 1, 2, 3, 4, 5, 6, 7, 8, 9, 10, 11] rfl rfl rfl rfl (by decide) rfl rfl ?_
    refine g_aload_n (pc := 23) C dX4_best_23 rfl ?_
    refine g_iload_n (pc := 24) C dX4_best_24 rfl ?_
    refine g_rV (pc := 25) (rest := []) C dX4_best_25 ml_X4_144 mf_X4_yearsGo (m_yearsGo g a kc os (sF mn yr gr kd pt wt mr) tl kp tk tb tn fr to vl wr wd sz (flat nm) mv mn yr gr kd pt wt mr n_ hB (by omega)) ⟨rfl, rfl, (Nat.le_of_ble_eq_true rfl), (Nat.le_of_ble_eq_true rfl)⟩ rfl rfl (Nat.le_of_ble_eq_true rfl) 0 rfl rfl rfl [0, 1, 2, 3, 4, 5, 6, 7, 8, 9, 10, 11] [] rfl rfl rfl rfl (by decide) ?_
    intro r9 w9 h9
    obtain ⟨f_2, rfl, rfl⟩ := h9
    refine g_sub (ws2 := (mdV g a (sF mn (yr + n_) (yearsG kd pt wt mr mn gr yr n_) kd pt wt mr) kc os (sF mn yr gr kd pt wt mr) tl kp f_2 tb tn fr to vl wr wd sz (flat nm) mv)) [0, 1, 2, 3, 4, 5, 6, 7, 8, 9, 10, 11] rfl rfl ?_
    show Go φ g 4 28 [(0, .ref (a 0)), (1, .int (nI n_))] [] (mdV g a (sF mn (yr + n_) (yearsG kd pt wt mr mn gr yr n_) kd pt wt mr) kc os (sF mn yr gr kd pt wt mr) tl kp f_2 tb tn fr to vl wr wd sz (flat nm) mv)
    have hBn := PB_yrs hB n_ (by omega)
    have htp : ∀ q, tasteN (yearsG kd pt wt mr mn gr yr n_) (sumN (yearsG kd pt wt mr mn gr yr n_) 12) q < 2 ^ 31 := fun q => Nat.lt_of_le_of_lt (Nat.div_le_self _ _) (by have := hBn.2.2.1 q; omega)
    refine g_iconst (pc := 28) (v := nI 1) C dX4_best_28 (by decide) ?_
    refine g_istore_n (pc := 29) (lv2 := [(0, .ref (a 0)), (1, .int (nI n_)), (2, .int (nI 1))]) C dX4_best_29 rfl (Nat.le_of_ble_eq_true rfl) rfl ?_
    refine g_iconst (pc := 30) (v := nI 2) C dX4_best_30 (by decide) ?_
    refine g_istore_n (pc := 31) (lv2 := [(0, .ref (a 0)), (1, .int (nI n_)), (2, .int (nI 1)), (3, .int (nI 2))]) C dX4_best_31 rfl (Nat.le_of_ble_eq_true rfl) rfl ?_
    refine g_loop1 (n := 12) (fun i b => 2 ≤ i ∧ b = bstN (tasteN (yearsG kd pt wt mr mn gr yr n_) (sumN (yearsG kd pt wt mr mn gr yr n_) 12)) i) (fun i b => [(0, .ref (a 0)), (1, .int (nI n_)), (2, .int (nI b)), (3, .int (nI i))]) (fun i b => (mdV g a (sF mn (yr + n_) (yearsG kd pt wt mr mn gr yr n_) kd pt wt mr) kc os (sF mn yr gr kd pt wt mr) tl kp f_2 tb tn fr to vl wr wd sz (flat nm) mv)) ?_ 2 1 (by omega) ⟨by decide, by rw [bstN, if_pos (by decide)]⟩
    intro i b hi_i hv_i ih_i
    show Go φ g 4 32 [(0, .ref (a 0)), (1, .int (nI n_)), (2, .int (nI b)), (3, .int (nI i))] [] (mdV g a (sF mn (yr + n_) (yearsG kd pt wt mr mn gr yr n_) kd pt wt mr) kc os (sF mn yr gr kd pt wt mr) tl kp f_2 tb tn fr to vl wr wd sz (flat nm) mv)
    have hv_i : 2 ≤ i ∧ b = bstN (tasteN (yearsG kd pt wt mr mn gr yr n_) (sumN (yearsG kd pt wt mr mn gr yr n_) 12)) i := hv_i
    have hb := bstN_lt (tasteN (yearsG kd pt wt mr mn gr yr n_) (sumN (yearsG kd pt wt mr mn gr yr n_) 12)) i hv_i.1
    rw [← hv_i.2] at hb
    have ht1 := htp i
    have ht2 := htp b
    refine g_iload_n (pc := 32) C dX4_best_32 rfl ?_
    refine g_bipush (pc := 33) (v := nI 12) C dX4_best_33 (by decide) ?_
    refine g_icmp_geN (pc := 35) (tgt := 63) C dX4_best_35 (by decide) (by omega) (by omega) (fun c3 => ?_) (fun c3 => ?_)
    · refine g_aload_n (pc := 63) C dX4_best_63 rfl ?_
      refine g_iload_n (pc := 64) C dX4_best_64 rfl ?_
      refine g_vxi (pc := 65) (ws2 := (mdV g a (sF mn yr gr kd pt wt mr) kc os (sF mn yr gr kd pt wt mr) tl kp f_2 tb tn fr to vl wr wd sz (flat nm) mv)) C dX4_best_65 ml_X4_93 mf_X4_takesBack (m_takesBack g a kc os tl kp f_2 tb tn fr to vl wr wd sz (flat nm) mv mn (yr + n_) (yearsG kd pt wt mr mn gr yr n_) kd pt wt mr mn yr gr kd pt wt mr b) ⟨rfl, rfl, (Nat.le_of_ble_eq_true rfl), (Nat.le_of_ble_eq_true rfl)⟩ rfl rfl (Nat.le_of_ble_eq_true rfl) 0 rfl rfl rfl [0, 1, 2, 3, 4, 5, 6, 7, 8, 9, 10, 11] [] [0, 1, 2, 3, 4, 5, 6, 7, 8, 9, 10, 11] rfl rfl rfl rfl (by decide) rfl rfl ?_
      have hf : f_best ((mn, yr, gr, kd, pt, wt, mr), ((kmn, kyr, kgr, kkd, kpt, kwt, kmr), kp), (tb, tn), (wd, sz, nm), tl) (nI n_) = ((nI b), ((mn, yr, gr, kd, pt, wt, mr), ((kmn, kyr, kgr, kkd, kpt, kwt, kmr), kp), (tb, tn), (wd, sz, nm), tl)) := by simp [f_best, c1, ix_nI (show n_ < 2 ^ 31 by omega)]; rw [hv_i.2, show i = 12 by omega]
      exact g_iret C Rr dX4_best_68 ⟨(kc, os, sF mn yr gr kd pt wt mr, f_2, fr, to, vl, wr, mv), by rw [hf]; exact hJ, by rw [hf], by rw [hf]; rfl⟩ rfl
    · refine g_aload_n (pc := 38) C dX4_best_38 rfl ?_
      refine g_iload_n (pc := 39) C dX4_best_39 rfl ?_
      refine g_vxi (pc := 40) (ws2 := (mdV g a (sF mn (yr + n_) (yearsG kd pt wt mr mn gr yr n_) kd pt wt mr) kc os (sF mn yr gr kd pt wt mr) tl kp f_2 tb tn fr to vl wr wd sz (flat nm) mv)) C dX4_best_40 ml_X4_79 mf_X4_tasteOf (m_tasteOf g a kc os (sF mn yr gr kd pt wt mr) tl kp f_2 tb tn fr to vl wr wd sz (flat nm) mv mn (yr + n_) (yearsG kd pt wt mr mn gr yr n_) kd pt wt mr i hBn (by omega)) ⟨rfl, rfl, (Nat.le_of_ble_eq_true rfl), (Nat.le_of_ble_eq_true rfl)⟩ rfl rfl (Nat.le_of_ble_eq_true rfl) 0 rfl rfl rfl [0, 1, 2, 3, 4, 5, 6, 7, 8, 9, 10, 11] [] [0, 1, 2, 3, 4, 5, 6, 7, 8, 9, 10, 11] rfl rfl rfl rfl (by decide) rfl rfl ?_
      refine g_aload_n (pc := 43) C dX4_best_43 rfl ?_
      refine g_iload_n (pc := 44) C dX4_best_44 rfl ?_
      refine g_vxi (pc := 45) (ws2 := (mdV g a (sF mn (yr + n_) (yearsG kd pt wt mr mn gr yr n_) kd pt wt mr) kc os (sF mn yr gr kd pt wt mr) tl kp f_2 tb tn fr to vl wr wd sz (flat nm) mv)) C dX4_best_45 ml_X4_79 mf_X4_tasteOf (m_tasteOf g a kc os (sF mn yr gr kd pt wt mr) tl kp f_2 tb tn fr to vl wr wd sz (flat nm) mv mn (yr + n_) (yearsG kd pt wt mr mn gr yr n_) kd pt wt mr b hBn (by omega)) ⟨rfl, rfl, (Nat.le_of_ble_eq_true rfl), (Nat.le_of_ble_eq_true rfl)⟩ rfl rfl (Nat.le_of_ble_eq_true rfl) 0 rfl rfl rfl [0, 1, 2, 3, 4, 5, 6, 7, 8, 9, 10, 11] [] [0, 1, 2, 3, 4, 5, 6, 7, 8, 9, 10, 11] rfl rfl rfl rfl (by decide) rfl rfl ?_
      refine g_icmp_leN (pc := 48) (tgt := 55) C dX4_best_48 (by decide) (by omega) (by omega) (fun c4 => ?_) (fun c4 => ?_)
      · refine g_iload_n (pc := 55) C dX4_best_55 rfl ?_
        refine g_istore_n (pc := 56) (lv2 := [(0, .ref (a 0)), (1, .int (nI n_)), (2, .int (nI b)), (3, .int (nI i))]) C dX4_best_56 rfl (Nat.le_of_ble_eq_true rfl) rfl ?_
        refine g_iinc (pc := 57) (v := (nI (i + 1))) (lv2 := [(0, .ref (a 0)), (1, .int (nI n_)), (2, .int (nI b)), (3, .int (nI (i + 1)))]) C dX4_best_57 rfl (nI_1 _) (Nat.le_of_ble_eq_true rfl) rfl ?_
        refine g_goto (pc := 60) (tgt := 32) C dX4_best_60 (by decide) ?_
        exact ih_i _ (by omega) ⟨by omega, by rw [bstN, if_neg (by omega), ← hv_i.2, if_neg (by omega)]⟩
      · refine g_iload_n (pc := 51) C dX4_best_51 rfl ?_
        refine g_goto (pc := 52) (tgt := 56) C dX4_best_52 (by decide) ?_
        refine g_istore_n (pc := 56) (lv2 := [(0, .ref (a 0)), (1, .int (nI n_)), (2, .int (nI i)), (3, .int (nI i))]) C dX4_best_56 rfl (Nat.le_of_ble_eq_true rfl) rfl ?_
        refine g_iinc (pc := 57) (v := (nI (i + 1))) (lv2 := [(0, .ref (a 0)), (1, .int (nI n_)), (2, .int (nI i)), (3, .int (nI (i + 1)))]) C dX4_best_57 rfl (nI_1 _) (Nat.le_of_ble_eq_true rfl) rfl ?_
        refine g_goto (pc := 60) (tgt := 32) C dX4_best_60 (by decide) ?_
        exact ih_i _ (by omega) ⟨by omega, by rw [bstN, if_neg (by omega), ← hv_i.2, if_pos c4]⟩
  · refine g_aload_n (pc := 12) C dX4_best_12 rfl ?_
    refine g_ldc (pc := 13) C dX4_best_13 ck_X4_44 rfl ?_
    refine g_vxi (pc := 15) (ws2 := (mdV g a (sF mn yr gr kd pt wt mr) kc os sd (updN tl 0 (tl 0 + 1)) kp tk tb tn fr to vl wr wd sz (flat nm) mv)) C dX4_best_15 ml_X4_64 mf_X4_finds (m_finds g a (sF mn yr gr kd pt wt mr) kc os sd tl kp tk tb tn fr to vl wr wd sz (flat nm) mv 0 (by decide)) ⟨rfl, rfl, (Nat.le_of_ble_eq_true rfl), (Nat.le_of_ble_eq_true rfl)⟩ rfl rfl (Nat.le_of_ble_eq_true rfl) 0 rfl rfl rfl [0, 1, 2, 3, 4, 5, 6, 7, 8, 9, 10, 11] [] [0, 1, 2, 3, 4, 5, 6, 7, 8, 9, 10, 11] rfl rfl rfl rfl (by decide) rfl rfl ?_
    have hf : f_best ((mn, yr, gr, kd, pt, wt, mr), ((kmn, kyr, kgr, kkd, kpt, kwt, kmr), kp), (tb, tn), (wd, sz, nm), tl) n = ((fd 0), ((mn, yr, gr, kd, pt, wt, mr), ((kmn, kyr, kgr, kkd, kpt, kwt, kmr), kp), (tb, tn), (wd, sz, nm), updN tl 0 (tl 0 + 1))) := by simp [f_best, fnd, c1]
    exact g_iret C Rr dX4_best_18 ⟨(kc, os, sd, tk, fr, to, vl, wr, mv), by rw [hf]; exact hJ, by rw [hf], by rw [hf]; rfl⟩ rfl
set_option maxHeartbeats 400000 in
set_option maxRecDepth 100000 in
theorem n_weight (g : Gl) (a : Nat → Nat) (X : Xs) (J : Jm) (c : Int32) (p : Int32) (n : Int32) (v : Int32) (hX : InvX X) (hJ : OkM X J) : Ct g yX4_weight cX4_weight 8 (some .int) (rk 6 135) [.ref (a 0), .int c, .int p, .int n, .int v] (mdX g a X J) (fun r w2 => ∃ J2, OkM (f_weight X c p n v).2 J2 ∧ r = some (.int (f_weight X c p n v).1) ∧ w2 = mdX g a (f_weight X c p n v).2 J2) := by
  obtain ⟨⟨mn, yr, gr, kd, pt, wt, mr⟩, ⟨⟨kmn, kyr, kgr, kkd, kpt, kwt, kmr⟩, kp⟩, ⟨tb, tn⟩, ⟨wd, sz, nm⟩, tl⟩ := X
  obtain ⟨kc, os, sd, tk, fr, to, vl, wr, mv⟩ := J
  obtain ⟨hB, hy, hkp, htb, htn, hwd, hsz⟩ := id hX
  obtain ⟨-, hTle, hgr, hkd, hpt, hwt, hmr, hyr, hmn⟩ := id hB
  refine ct_of (by decide) (Nat.le_of_ble_eq_true rfl) ?_
  intro φ C0 Rr
  have C : Cx φ g cX4_weight 8 RX4 (rk 6 135) := C0
  show Go φ g 8 0 [(0, .ref (a 0)), (1, .int c), (2, .int p), (3, .int n), (4, .int v)] [] (mdV g a (sF mn yr gr kd pt wt mr) kc os sd tl kp tk tb tn fr to vl wr wd sz (flat nm) mv)
  refine g_aload_n (pc := 0) C dX4_weight_0 rfl ?_
  refine g_iload_n (pc := 1) C dX4_weight_1 rfl ?_
  refine g_vxi (pc := 2) (ws2 := (mdV g a (sF mn yr gr kd pt wt mr) kc os sd tl kp tk tb tn fr to vl wr wd sz (flat nm) mv)) C dX4_weight_2 ml_X4_51 mf_X4_isCook (m_isCook g a kc os sd tl kp tk tb tn fr to vl wr wd sz (flat nm) mv mn yr gr kd pt wt mr c hB) ⟨rfl, rfl, (Nat.le_of_ble_eq_true rfl), (Nat.le_of_ble_eq_true rfl)⟩ rfl rfl (Nat.le_of_ble_eq_true rfl) 0 rfl rfl rfl [0, 1, 2, 3, 4, 5, 6, 7, 8, 9, 10, 11] [] [0, 1, 2, 3, 4, 5, 6, 7, 8, 9, 10, 11] rfl rfl rfl rfl (by decide) rfl rfl ?_
  refine g_if_eqB (pc := 5) (tgt := 40) C dX4_weight_5 (by decide) (fun c1 => ?_) (fun c1 => ?_)
  · refine g_aload_n (pc := 40) C dX4_weight_40 rfl ?_
    refine g_ldc (pc := 41) C dX4_weight_41 ck_X4_44 rfl ?_
    refine g_vxi (pc := 43) (ws2 := (mdV g a (sF mn yr gr kd pt wt mr) kc os sd (updN tl 0 (tl 0 + 1)) kp tk tb tn fr to vl wr wd sz (flat nm) mv)) C dX4_weight_43 ml_X4_64 mf_X4_finds (m_finds g a (sF mn yr gr kd pt wt mr) kc os sd tl kp tk tb tn fr to vl wr wd sz (flat nm) mv 0 (by decide)) ⟨rfl, rfl, (Nat.le_of_ble_eq_true rfl), (Nat.le_of_ble_eq_true rfl)⟩ rfl rfl (Nat.le_of_ble_eq_true rfl) 0 rfl rfl rfl [0, 1, 2, 3, 4, 5, 6, 7, 8, 9, 10, 11] [] [0, 1, 2, 3, 4, 5, 6, 7, 8, 9, 10, 11] rfl rfl rfl rfl (by decide) rfl rfl ?_
    have hf : f_weight ((mn, yr, gr, kd, pt, wt, mr), ((kmn, kyr, kgr, kkd, kpt, kwt, kmr), kp), (tb, tn), (wd, sz, nm), tl) c p n v = ((fd 0), ((mn, yr, gr, kd, pt, wt, mr), ((kmn, kyr, kgr, kkd, kpt, kwt, kmr), kp), (tb, tn), (wd, sz, nm), updN tl 0 (tl 0 + 1))) := by simp [f_weight, fnd, c1]
    exact g_iret C Rr dX4_weight_46 ⟨(kc, os, sd, tk, fr, to, vl, wr, mv), by rw [hf]; exact hJ, by rw [hf], by rw [hf]; rfl⟩ rfl
  · obtain ⟨c_, hu_c, rfl⟩ := inR_cook c1
    have hc8 : c_ < 8 := by omega
    refine g_iload_n (pc := 8) C dX4_weight_8 rfl ?_
    refine g_s0i (pc := 9) C dX4_weight_9 ml_X4_61 mf_X4_isPart (m_isPart g p) ⟨rfl, rfl, (Nat.le_of_ble_eq_true rfl), (Nat.le_of_ble_eq_true rfl)⟩ rfl rfl (Nat.le_of_ble_eq_true rfl) ?_
    refine g_if_eqB (pc := 12) (tgt := 40) C dX4_weight_12 (by decide) (fun c2 => ?_) (fun c2 => ?_)
    · refine g_aload_n (pc := 40) C dX4_weight_40 rfl ?_
      refine g_ldc (pc := 41) C dX4_weight_41 ck_X4_44 rfl ?_
      refine g_vxi (pc := 43) (ws2 := (mdV g a (sF mn yr gr kd pt wt mr) kc os sd (updN tl 0 (tl 0 + 1)) kp tk tb tn fr to vl wr wd sz (flat nm) mv)) C dX4_weight_43 ml_X4_64 mf_X4_finds (m_finds g a (sF mn yr gr kd pt wt mr) kc os sd tl kp tk tb tn fr to vl wr wd sz (flat nm) mv 0 (by decide)) ⟨rfl, rfl, (Nat.le_of_ble_eq_true rfl), (Nat.le_of_ble_eq_true rfl)⟩ rfl rfl (Nat.le_of_ble_eq_true rfl) 0 rfl rfl rfl [0, 1, 2, 3, 4, 5, 6, 7, 8, 9, 10, 11] [] [0, 1, 2, 3, 4, 5, 6, 7, 8, 9, 10, 11] rfl rfl rfl rfl (by decide) rfl rfl ?_
      have hf : f_weight ((mn, yr, gr, kd, pt, wt, mr), ((kmn, kyr, kgr, kkd, kpt, kwt, kmr), kp), (tb, tn), (wd, sz, nm), tl) (nI c_) p n v = ((fd 0), ((mn, yr, gr, kd, pt, wt, mr), ((kmn, kyr, kgr, kkd, kpt, kwt, kmr), kp), (tb, tn), (wd, sz, nm), updN tl 0 (tl 0 + 1))) := by simp [f_weight, fnd, c1, c2, ix_nI (show c_ < 2 ^ 31 by omega)]
      exact g_iret C Rr dX4_weight_46 ⟨(kc, os, sd, tk, fr, to, vl, wr, mv), by rw [hf]; exact hJ, by rw [hf], by rw [hf]; rfl⟩ rfl
    · obtain ⟨p_, hl_p, hu_p, rfl⟩ := inR_nat (lo := 0) (hi := 11) c2
      refine g_iload_n (pc := 15) C dX4_weight_15 rfl ?_
      refine g_i2l (pc := 16) C dX4_weight_16 ?_
      refine g_lconst (pc := 17) (v := 1) C dX4_weight_17 (by decide) ?_
      refine g_ldc2 (pc := 18) C dX4_weight_18 ckl_X4_177 rfl ?_
      refine g_s0i (pc := 21) C dX4_weight_21 ml_X4_47 mf_X4_in (m_in g ((n).toInt64) 1 (20)) ⟨rfl, rfl, (Nat.le_of_ble_eq_true rfl), (Nat.le_of_ble_eq_true rfl)⟩ rfl rfl (Nat.le_of_ble_eq_true rfl) ?_
      refine g_top (y := bI (inR n 1 20 = true)) (bI_iff (w64.trans inR_iff.symm)) ?_
      refine g_if_eqB (pc := 24) (tgt := 40) C dX4_weight_24 (by decide) (fun c3 => ?_) (fun c3 => ?_)
      · refine g_aload_n (pc := 40) C dX4_weight_40 rfl ?_
        refine g_ldc (pc := 41) C dX4_weight_41 ck_X4_44 rfl ?_
        refine g_vxi (pc := 43) (ws2 := (mdV g a (sF mn yr gr kd pt wt mr) kc os sd (updN tl 0 (tl 0 + 1)) kp tk tb tn fr to vl wr wd sz (flat nm) mv)) C dX4_weight_43 ml_X4_64 mf_X4_finds (m_finds g a (sF mn yr gr kd pt wt mr) kc os sd tl kp tk tb tn fr to vl wr wd sz (flat nm) mv 0 (by decide)) ⟨rfl, rfl, (Nat.le_of_ble_eq_true rfl), (Nat.le_of_ble_eq_true rfl)⟩ rfl rfl (Nat.le_of_ble_eq_true rfl) 0 rfl rfl rfl [0, 1, 2, 3, 4, 5, 6, 7, 8, 9, 10, 11] [] [0, 1, 2, 3, 4, 5, 6, 7, 8, 9, 10, 11] rfl rfl rfl rfl (by decide) rfl rfl ?_
        have hf : f_weight ((mn, yr, gr, kd, pt, wt, mr), ((kmn, kyr, kgr, kkd, kpt, kwt, kmr), kp), (tb, tn), (wd, sz, nm), tl) (nI c_) (nI p_) n v = ((fd 0), ((mn, yr, gr, kd, pt, wt, mr), ((kmn, kyr, kgr, kkd, kpt, kwt, kmr), kp), (tb, tn), (wd, sz, nm), updN tl 0 (tl 0 + 1))) := by simp [f_weight, fnd, c1, c2, c3, ix_nI (show c_ < 2 ^ 31 by omega), ix_nI (show p_ < 2 ^ 31 by omega)]
        exact g_iret C Rr dX4_weight_46 ⟨(kc, os, sd, tk, fr, to, vl, wr, mv), by rw [hf]; exact hJ, by rw [hf], by rw [hf]; rfl⟩ rfl
      · obtain ⟨n_, hl_n, hu_n, rfl⟩ := inR_nat (lo := 1) (hi := 20) c3
        refine g_iload (pc := 27) C dX4_weight_27 rfl ?_
        refine g_i2l (pc := 29) C dX4_weight_29 ?_
        refine g_lconst (pc := 30) (v := 0) C dX4_weight_30 (by decide) ?_
        refine g_ldc2 (pc := 31) C dX4_weight_31 ckl_X4_68 rfl ?_
        refine g_s0i (pc := 34) C dX4_weight_34 ml_X4_47 mf_X4_in (m_in g ((v).toInt64) 0 (99999)) ⟨rfl, rfl, (Nat.le_of_ble_eq_true rfl), (Nat.le_of_ble_eq_true rfl)⟩ rfl rfl (Nat.le_of_ble_eq_true rfl) ?_
        refine g_top (y := bI (inR v 0 99999 = true)) (bI_iff (w64.trans inR_iff.symm)) ?_
        refine g_if_neB (pc := 37) (tgt := 47) C dX4_weight_37 (by decide) (fun c4 => ?_) (fun c4 => ?_)
        · obtain ⟨v_, hl_v, hu_v, rfl⟩ := inR_nat (lo := 0) (hi := 99999) c4
          refine g_aload_n (pc := 47) C dX4_weight_47 rfl ?_
          refine g_iload_n (pc := 48) C dX4_weight_48 rfl ?_
          refine g_iconst (pc := 49) (v := nI 2) C dX4_weight_49 (by decide) ?_
          refine g_vxi (pc := 50) (ws2 := (mdV g a (sF mn yr gr kd pt wt mr) kc os sd tl kp tk tb tn fr to vl wr wd sz (flat nm) mv)) C dX4_weight_50 ml_X4_102 mf_X4_its (m_its g a kc os sd tl kp tk tb tn fr to vl wr wd sz (flat nm) mv mn yr gr kd pt wt mr c_ 2 (by omega) (by omega)) ⟨rfl, rfl, (Nat.le_of_ble_eq_true rfl), (Nat.le_of_ble_eq_true rfl)⟩ rfl rfl (Nat.le_of_ble_eq_true rfl) 0 rfl rfl rfl [0, 1, 2, 3, 4, 5, 6, 7, 8, 9, 10, 11] [] [0, 1, 2, 3, 4, 5, 6, 7, 8, 9, 10, 11] rfl rfl rfl rfl (by decide) rfl rfl ?_
          refine g_top (y := nI (wt c_)) rfl ?_
          have b5 := hwt c_
          refine g_istore (pc := 53) (lv2 := [(0, .ref (a 0)), (1, .int (nI c_)), (2, .int (nI p_)), (3, .int (nI n_)), (4, .int (nI v_)), (5, .int (nI (wt c_)))]) C dX4_weight_53 (Nat.le_of_ble_eq_true rfl) rfl ?_
          refine g_iconst (pc := 55) (v := -1) C dX4_weight_55 (by decide) ?_
          refine g_istore (pc := 56) (lv2 := [(0, .ref (a 0)), (1, .int (nI c_)), (2, .int (nI p_)), (3, .int (nI n_)), (4, .int (nI v_)), (5, .int (nI (wt c_))), (6, .int (-1))]) C dX4_weight_56 (Nat.le_of_ble_eq_true rfl) rfl ?_
          refine g_ws (ws := (mdV g a (sF mn yr gr kd pt wt mr) kc os sd tl kp tk tb tn fr to vl wr wd sz (flat nm) mv)) (ws2 := (mdV g a (sF mn yr gr kd pt (updN wt c_ (wt c_)) mr) kc os sd tl kp tk tb tn fr to vl wr wd sz (flat nm) mv)) (by rw [← updN_self]) ?_
          refine g_iconst (pc := 58) (v := nI 0) C dX4_weight_58 (by decide) ?_
          refine g_istore (pc := 59) (lv2 := [(0, .ref (a 0)), (1, .int (nI c_)), (2, .int (nI p_)), (3, .int (nI n_)), (4, .int (nI v_)), (5, .int (nI (wt c_))), (6, .int (-1)), (7, .int (nI 0))]) C dX4_weight_59 (Nat.le_of_ble_eq_true rfl) rfl ?_
          refine g_loop4 (n := 1000) (fun i m sd2 f x => (x = -1 ∧ ∀ j, j < i → ¬ v_ ≤ yearsG kd pt (updN wt c_ j) mr mn gr yr n_ p_) ∨ (1 ≤ i ∧ x = nI (i - 1) ∧ v_ ≤ yearsG kd pt (updN wt c_ (i - 1)) mr mn gr yr n_ p_ ∧ ∀ j, j < i - 1 → ¬ v_ ≤ yearsG kd pt (updN wt c_ j) mr mn gr yr n_ p_)) (fun i m sd2 f x => [(0, .ref (a 0)), (1, .int (nI c_)), (2, .int (nI p_)), (3, .int (nI n_)), (4, .int (nI v_)), (5, .int (nI (wt c_))), (6, .int x), (7, .int (nI i))]) (fun i m sd2 f x => (mdV g a (sF mn yr gr kd pt (updN wt c_ m) mr) kc os sd2 tl kp f tb tn fr to vl wr wd sz (flat nm) mv)) ?_ 0 (wt c_) sd tk (-1) (by omega) (Or.inl ⟨rfl, fun j hj => absurd hj (Nat.not_lt_zero j)⟩)
          intro i m sd2 f x hi_i hv_i ih_i
          show Go φ g 8 61 [(0, .ref (a 0)), (1, .int (nI c_)), (2, .int (nI p_)), (3, .int (nI n_)), (4, .int (nI v_)), (5, .int (nI (wt c_))), (6, .int x), (7, .int (nI i))] [] (mdV g a (sF mn yr gr kd pt (updN wt c_ m) mr) kc os sd2 tl kp f tb tn fr to vl wr wd sz (flat nm) mv)
          have hv_i : (x = -1 ∧ ∀ j, j < i → ¬ v_ ≤ yearsG kd pt (updN wt c_ j) mr mn gr yr n_ p_) ∨ (1 ≤ i ∧ x = nI (i - 1) ∧ v_ ≤ yearsG kd pt (updN wt c_ (i - 1)) mr mn gr yr n_ p_ ∧ ∀ j, j < i - 1 → ¬ v_ ≤ yearsG kd pt (updN wt c_ j) mr mn gr yr n_ p_) := hv_i
          refine g_iload (pc := 61) C dX4_weight_61 rfl ?_
          refine g_sipush (pc := 63) (v := nI 999) C dX4_weight_63 (by decide) ?_
          refine g_icmp_gtN (pc := 66) (tgt := 111) C dX4_weight_66 (by decide) (by omega) (by omega) (fun c6 => ?_) (fun c6 => ?_)
          · refine g_aload_n (pc := 111) C dX4_weight_111 rfl ?_
            refine g_get4 (pc := 112) C dX4_weight_112 0 rfl 0 (by decide) fl_X4_7 rfl ?_
            refine g_iload_n (pc := 115) C dX4_weight_115 rfl ?_
            refine g_iconst (pc := 116) (v := nI 2) C dX4_weight_116 (by decide) ?_
            refine g_s0i (pc := 117) C dX4_weight_117 ml_X4_57 mf_X4_spotOf (m_spotOf g c_ 2) ⟨rfl, rfl, (Nat.le_of_ble_eq_true rfl), (Nat.le_of_ble_eq_true rfl)⟩ rfl rfl (Nat.le_of_ble_eq_true rfl) ?_
            refine g_iload (pc := 120) C dX4_weight_120 rfl ?_
            refine g_iastM (pc := 122) (ws2 := _) C dX4_weight_122 1 rfl rfl (by omega) (by decide) rfl ?_
            refine g_ws (ws := (mdV g a (updN (sF mn yr gr kd pt (updN wt c_ m) mr) (14 + 4 * c_ + 2) (wt c_)) kc os sd2 tl kp f tb tn fr to vl wr wd sz (flat nm) mv)) (ws2 := (mdV g a (sF mn yr gr kd pt (updN (updN wt c_ m) c_ (wt c_)) mr) kc os sd2 tl kp f tb tn fr to vl wr wd sz (flat nm) mv)) (by rw [sF_ww]) ?_
            refine g_ws (ws := (mdV g a (sF mn yr gr kd pt (updN (updN wt c_ m) c_ (wt c_)) mr) kc os sd2 tl kp f tb tn fr to vl wr wd sz (flat nm) mv)) (ws2 := (mdV g a (sF mn yr gr kd pt wt mr) kc os sd2 tl kp f tb tn fr to vl wr wd sz (flat nm) mv)) (by rw [updN_back]) ?_
            refine g_iload (pc := 123) C dX4_weight_123 rfl ?_
            refine g_if_ge (pc := 125) (tgt := 137) C dX4_weight_125 (by decide) (fun c7 => ?_) (fun c7 => ?_)
            · refine g_iload (pc := 137) C dX4_weight_137 rfl ?_
              have hf : f_weight ((mn, yr, gr, kd, pt, wt, mr), ((kmn, kyr, kgr, kkd, kpt, kwt, kmr), kp), (tb, tn), (wd, sz, nm), tl) (nI c_) (nI p_) (nI n_) (nI v_) = (x, ((mn, yr, gr, kd, pt, wt, mr), ((kmn, kyr, kgr, kkd, kpt, kwt, kmr), kp), (tb, tn), (wd, sz, nm), tl)) := by 
                rcases hv_i with ⟨h1, h2⟩ | ⟨h1, h2, h3, h4⟩
                · exact absurd (h1 ▸ c7) (by decide)
                · simp only [f_weight, c1, c2, c3, c4, ix_nI (show c_ < 2 ^ 31 by omega), ix_nI (show p_ < 2 ^ 31 by omega), ix_nI (show n_ < 2 ^ 31 by omega), ix_nI (show v_ < 2 ^ 31 by omega), Bool.and_self, if_true]
                  rw [wgN_at h4 h3 (by omega), if_pos (by omega), h2]
              exact g_iret C Rr dX4_weight_139 ⟨(kc, os, sd2, f, fr, to, vl, wr, mv), by rw [hf]; exact hJ, by rw [hf], by rw [hf]; rfl⟩ rfl
            · refine g_aload_n (pc := 128) C dX4_weight_128 rfl ?_
              refine g_ldc (pc := 129) C dX4_weight_129 ck_X4_162 rfl ?_
              refine g_vxi (pc := 131) (ws2 := (mdV g a (sF mn yr gr kd pt wt mr) kc os sd2 (updN tl 3 (tl 3 + 1)) kp f tb tn fr to vl wr wd sz (flat nm) mv)) C dX4_weight_131 ml_X4_64 mf_X4_finds (m_finds g a (sF mn yr gr kd pt wt mr) kc os sd2 tl kp f tb tn fr to vl wr wd sz (flat nm) mv 3 (by decide)) ⟨rfl, rfl, (Nat.le_of_ble_eq_true rfl), (Nat.le_of_ble_eq_true rfl)⟩ rfl rfl (Nat.le_of_ble_eq_true rfl) 0 rfl rfl rfl [0, 1, 2, 3, 4, 5, 6, 7, 8, 9, 10, 11] [] [0, 1, 2, 3, 4, 5, 6, 7, 8, 9, 10, 11] rfl rfl rfl rfl (by decide) rfl rfl ?_
              refine g_goto (pc := 134) (tgt := 139) C dX4_weight_134 (by decide) ?_
              have hf : f_weight ((mn, yr, gr, kd, pt, wt, mr), ((kmn, kyr, kgr, kkd, kpt, kwt, kmr), kp), (tb, tn), (wd, sz, nm), tl) (nI c_) (nI p_) (nI n_) (nI v_) = ((fd 3), ((mn, yr, gr, kd, pt, wt, mr), ((kmn, kyr, kgr, kkd, kpt, kwt, kmr), kp), (tb, tn), (wd, sz, nm), updN tl 3 (tl 3 + 1))) := by 
                rcases hv_i with ⟨h1, h2⟩ | ⟨h1, h2, h3, h4⟩
                · simp only [f_weight, c1, c2, c3, c4, ix_nI (show c_ < 2 ^ 31 by omega), ix_nI (show p_ < 2 ^ 31 by omega), ix_nI (show n_ < 2 ^ 31 by omega), ix_nI (show v_ < 2 ^ 31 by omega), Bool.and_self, if_true]
                  rw [wgN_none (fun j hj => h2 j (by omega)), if_neg (by decide)]
                  rfl
                · exact absurd (show 0 ≤ x by rw [h2]; exact nI_pos' (by omega)) c7
              exact g_iret C Rr dX4_weight_139 ⟨(kc, os, sd2, f, fr, to, vl, wr, mv), by rw [hf]; exact hJ, by rw [hf], by rw [hf]; rfl⟩ rfl
          · refine g_iload (pc := 69) C dX4_weight_69 rfl ?_
            refine g_if_ge (pc := 71) (tgt := 111) C dX4_weight_71 (by decide) (fun c8 => ?_) (fun c8 => ?_)
            · refine g_aload_n (pc := 111) C dX4_weight_111 rfl ?_
              refine g_get4 (pc := 112) C dX4_weight_112 0 rfl 0 (by decide) fl_X4_7 rfl ?_
              refine g_iload_n (pc := 115) C dX4_weight_115 rfl ?_
              refine g_iconst (pc := 116) (v := nI 2) C dX4_weight_116 (by decide) ?_
              refine g_s0i (pc := 117) C dX4_weight_117 ml_X4_57 mf_X4_spotOf (m_spotOf g c_ 2) ⟨rfl, rfl, (Nat.le_of_ble_eq_true rfl), (Nat.le_of_ble_eq_true rfl)⟩ rfl rfl (Nat.le_of_ble_eq_true rfl) ?_
              refine g_iload (pc := 120) C dX4_weight_120 rfl ?_
              refine g_iastM (pc := 122) (ws2 := _) C dX4_weight_122 1 rfl rfl (by omega) (by decide) rfl ?_
              refine g_ws (ws := (mdV g a (updN (sF mn yr gr kd pt (updN wt c_ m) mr) (14 + 4 * c_ + 2) (wt c_)) kc os sd2 tl kp f tb tn fr to vl wr wd sz (flat nm) mv)) (ws2 := (mdV g a (sF mn yr gr kd pt (updN (updN wt c_ m) c_ (wt c_)) mr) kc os sd2 tl kp f tb tn fr to vl wr wd sz (flat nm) mv)) (by rw [sF_ww]) ?_
              refine g_ws (ws := (mdV g a (sF mn yr gr kd pt (updN (updN wt c_ m) c_ (wt c_)) mr) kc os sd2 tl kp f tb tn fr to vl wr wd sz (flat nm) mv)) (ws2 := (mdV g a (sF mn yr gr kd pt wt mr) kc os sd2 tl kp f tb tn fr to vl wr wd sz (flat nm) mv)) (by rw [updN_back]) ?_
              refine g_iload (pc := 123) C dX4_weight_123 rfl ?_
              refine g_if_ge (pc := 125) (tgt := 137) C dX4_weight_125 (by decide) (fun c9 => ?_) (fun c9 => ?_)
              · refine g_iload (pc := 137) C dX4_weight_137 rfl ?_
                have hf : f_weight ((mn, yr, gr, kd, pt, wt, mr), ((kmn, kyr, kgr, kkd, kpt, kwt, kmr), kp), (tb, tn), (wd, sz, nm), tl) (nI c_) (nI p_) (nI n_) (nI v_) = (x, ((mn, yr, gr, kd, pt, wt, mr), ((kmn, kyr, kgr, kkd, kpt, kwt, kmr), kp), (tb, tn), (wd, sz, nm), tl)) := by 
                  rcases hv_i with ⟨h1, h2⟩ | ⟨h1, h2, h3, h4⟩
                  · exact absurd (h1 ▸ c9) (by decide)
                  · simp only [f_weight, c1, c2, c3, c4, ix_nI (show c_ < 2 ^ 31 by omega), ix_nI (show p_ < 2 ^ 31 by omega), ix_nI (show n_ < 2 ^ 31 by omega), ix_nI (show v_ < 2 ^ 31 by omega), Bool.and_self, if_true]
                    rw [wgN_at h4 h3 (by omega), if_pos (by omega), h2]
                exact g_iret C Rr dX4_weight_139 ⟨(kc, os, sd2, f, fr, to, vl, wr, mv), by rw [hf]; exact hJ, by rw [hf], by rw [hf]; rfl⟩ rfl
              · refine g_aload_n (pc := 128) C dX4_weight_128 rfl ?_
                refine g_ldc (pc := 129) C dX4_weight_129 ck_X4_162 rfl ?_
                refine g_vxi (pc := 131) (ws2 := (mdV g a (sF mn yr gr kd pt wt mr) kc os sd2 (updN tl 3 (tl 3 + 1)) kp f tb tn fr to vl wr wd sz (flat nm) mv)) C dX4_weight_131 ml_X4_64 mf_X4_finds (m_finds g a (sF mn yr gr kd pt wt mr) kc os sd2 tl kp f tb tn fr to vl wr wd sz (flat nm) mv 3 (by decide)) ⟨rfl, rfl, (Nat.le_of_ble_eq_true rfl), (Nat.le_of_ble_eq_true rfl)⟩ rfl rfl (Nat.le_of_ble_eq_true rfl) 0 rfl rfl rfl [0, 1, 2, 3, 4, 5, 6, 7, 8, 9, 10, 11] [] [0, 1, 2, 3, 4, 5, 6, 7, 8, 9, 10, 11] rfl rfl rfl rfl (by decide) rfl rfl ?_
                refine g_goto (pc := 134) (tgt := 139) C dX4_weight_134 (by decide) ?_
                have hf : f_weight ((mn, yr, gr, kd, pt, wt, mr), ((kmn, kyr, kgr, kkd, kpt, kwt, kmr), kp), (tb, tn), (wd, sz, nm), tl) (nI c_) (nI p_) (nI n_) (nI v_) = ((fd 3), ((mn, yr, gr, kd, pt, wt, mr), ((kmn, kyr, kgr, kkd, kpt, kwt, kmr), kp), (tb, tn), (wd, sz, nm), updN tl 3 (tl 3 + 1))) := by 
                  exact absurd c8 c9
                exact g_iret C Rr dX4_weight_139 ⟨(kc, os, sd2, f, fr, to, vl, wr, mv), by rw [hf]; exact hJ, by rw [hf], by rw [hf]; rfl⟩ rfl
            · have hj := (hv_i.resolve_right (fun q => c8 (by rw [q.2.1]; exact nI_pos' (by omega)))).2
              have hWb := yrs_le (PB_wt (c := c_) (k := i) hB (by omega)) (show yr + n_ ≤ 20000 by omega) p_
              refine g_aload_n (pc := 74) C dX4_weight_74 rfl ?_
              refine g_get4 (pc := 75) C dX4_weight_75 0 rfl 0 (by decide) fl_X4_7 rfl ?_
              refine g_iload_n (pc := 78) C dX4_weight_78 rfl ?_
              refine g_iconst (pc := 79) (v := nI 2) C dX4_weight_79 (by decide) ?_
              refine g_s0i (pc := 80) C dX4_weight_80 ml_X4_57 mf_X4_spotOf (m_spotOf g c_ 2) ⟨rfl, rfl, (Nat.le_of_ble_eq_true rfl), (Nat.le_of_ble_eq_true rfl)⟩ rfl rfl (Nat.le_of_ble_eq_true rfl) ?_
              refine g_iload (pc := 83) C dX4_weight_83 rfl ?_
              refine g_iastM (pc := 85) (ws2 := _) C dX4_weight_85 1 rfl rfl (by omega) (by decide) rfl ?_
              refine g_ws (ws := (mdV g a (updN (sF mn yr gr kd pt (updN wt c_ m) mr) (14 + 4 * c_ + 2) i) kc os sd2 tl kp f tb tn fr to vl wr wd sz (flat nm) mv)) (ws2 := (mdV g a (sF mn yr gr kd pt (updN (updN wt c_ m) c_ i) mr) kc os sd2 tl kp f tb tn fr to vl wr wd sz (flat nm) mv)) (by rw [sF_ww]) ?_
              refine g_ws (ws := (mdV g a (sF mn yr gr kd pt (updN (updN wt c_ m) c_ i) mr) kc os sd2 tl kp f tb tn fr to vl wr wd sz (flat nm) mv)) (ws2 := (mdV g a (sF mn yr gr kd pt (updN wt c_ i) mr) kc os sd2 tl kp f tb tn fr to vl wr wd sz (flat nm) mv)) (by rw [updN_twice]) ?_
              refine g_aload_n (pc := 86) C dX4_weight_86 rfl ?_
              refine g_iload_n (pc := 87) C dX4_weight_87 rfl ?_
              refine g_iload_n (pc := 88) C dX4_weight_88 rfl ?_
              refine g_rV (pc := 89) (rest := []) C dX4_weight_89 ml_X4_174 mf_X4_behind (m_behind g a kc os sd2 tl kp f tb tn fr to vl wr wd sz (flat nm) mv mn yr gr kd pt (updN wt c_ i) mr p_ n_ (PB_wt hB (by omega)) (by omega) (by omega)) ⟨rfl, rfl, (Nat.le_of_ble_eq_true rfl), (Nat.le_of_ble_eq_true rfl)⟩ rfl rfl (Nat.le_of_ble_eq_true rfl) 0 rfl rfl rfl [0, 1, 2, 3, 4, 5, 6, 7, 8, 9, 10, 11] [] rfl rfl rfl rfl (by decide) ?_
              intro r9 w9 h9
              obtain ⟨f_10, rfl, rfl⟩ := h9
              refine g_sub (ws2 := (mdV g a (sF mn yr gr kd pt (updN wt c_ i) mr) kc os (sF mn yr gr kd pt (updN wt c_ i) mr) tl kp f_10 tb tn fr to vl wr wd sz (flat nm) mv)) [0, 1, 2, 3, 4, 5, 6, 7, 8, 9, 10, 11] rfl rfl ?_
              show Go φ g 8 92 [(0, .ref (a 0)), (1, .int (nI c_)), (2, .int (nI p_)), (3, .int (nI n_)), (4, .int (nI v_)), (5, .int (nI (wt c_))), (6, .int x), (7, .int (nI i))] [.int (nI (yearsG kd pt (updN wt c_ i) mr mn gr yr n_ p_))] (mdV g a (sF mn yr gr kd pt (updN wt c_ i) mr) kc os (sF mn yr gr kd pt (updN wt c_ i) mr) tl kp f_10 tb tn fr to vl wr wd sz (flat nm) mv)
              refine g_iload (pc := 92) C dX4_weight_92 rfl ?_
              refine g_icmp_ltN (pc := 94) (tgt := 102) C dX4_weight_94 (by decide) (by omega) (by omega) (fun c11 => ?_) (fun c11 => ?_)
              · refine g_iconst (pc := 102) (v := -1) C dX4_weight_102 (by decide) ?_
                refine g_istore (pc := 103) (lv2 := [(0, .ref (a 0)), (1, .int (nI c_)), (2, .int (nI p_)), (3, .int (nI n_)), (4, .int (nI v_)), (5, .int (nI (wt c_))), (6, .int (-1)), (7, .int (nI i))]) C dX4_weight_103 (Nat.le_of_ble_eq_true rfl) rfl ?_
                refine g_iinc (pc := 105) (v := (nI (i + 1))) (lv2 := [(0, .ref (a 0)), (1, .int (nI c_)), (2, .int (nI p_)), (3, .int (nI n_)), (4, .int (nI v_)), (5, .int (nI (wt c_))), (6, .int (-1)), (7, .int (nI (i + 1)))]) C dX4_weight_105 rfl (nI_1 _) (Nat.le_of_ble_eq_true rfl) rfl ?_
                refine g_goto (pc := 108) (tgt := 61) C dX4_weight_108 (by decide) ?_
                exact ih_i _ _ _ _ (by omega) (Or.inl ⟨rfl, fun j hj2 => by
                  rcases Nat.lt_or_ge j i with q9 | q9
                  · exact hj j q9
                  · rw [show j = i by omega]
                    omega⟩)
              · refine g_iload (pc := 97) C dX4_weight_97 rfl ?_
                refine g_goto (pc := 99) (tgt := 103) C dX4_weight_99 (by decide) ?_
                refine g_istore (pc := 103) (lv2 := [(0, .ref (a 0)), (1, .int (nI c_)), (2, .int (nI p_)), (3, .int (nI n_)), (4, .int (nI v_)), (5, .int (nI (wt c_))), (6, .int (nI i)), (7, .int (nI i))]) C dX4_weight_103 (Nat.le_of_ble_eq_true rfl) rfl ?_
                refine g_iinc (pc := 105) (v := (nI (i + 1))) (lv2 := [(0, .ref (a 0)), (1, .int (nI c_)), (2, .int (nI p_)), (3, .int (nI n_)), (4, .int (nI v_)), (5, .int (nI (wt c_))), (6, .int (nI i)), (7, .int (nI (i + 1)))]) C dX4_weight_105 rfl (nI_1 _) (Nat.le_of_ble_eq_true rfl) rfl ?_
                refine g_goto (pc := 108) (tgt := 61) C dX4_weight_108 (by decide) ?_
                exact ih_i _ _ _ _ (by omega) (Or.inr ⟨by omega, rfl, c11, hj⟩)
        · refine g_aload_n (pc := 40) C dX4_weight_40 rfl ?_
          refine g_ldc (pc := 41) C dX4_weight_41 ck_X4_44 rfl ?_
          refine g_vxi (pc := 43) (ws2 := (mdV g a (sF mn yr gr kd pt wt mr) kc os sd (updN tl 0 (tl 0 + 1)) kp tk tb tn fr to vl wr wd sz (flat nm) mv)) C dX4_weight_43 ml_X4_64 mf_X4_finds (m_finds g a (sF mn yr gr kd pt wt mr) kc os sd tl kp tk tb tn fr to vl wr wd sz (flat nm) mv 0 (by decide)) ⟨rfl, rfl, (Nat.le_of_ble_eq_true rfl), (Nat.le_of_ble_eq_true rfl)⟩ rfl rfl (Nat.le_of_ble_eq_true rfl) 0 rfl rfl rfl [0, 1, 2, 3, 4, 5, 6, 7, 8, 9, 10, 11] [] [0, 1, 2, 3, 4, 5, 6, 7, 8, 9, 10, 11] rfl rfl rfl rfl (by decide) rfl rfl ?_
          have hf : f_weight ((mn, yr, gr, kd, pt, wt, mr), ((kmn, kyr, kgr, kkd, kpt, kwt, kmr), kp), (tb, tn), (wd, sz, nm), tl) (nI c_) (nI p_) (nI n_) v = ((fd 0), ((mn, yr, gr, kd, pt, wt, mr), ((kmn, kyr, kgr, kkd, kpt, kwt, kmr), kp), (tb, tn), (wd, sz, nm), updN tl 0 (tl 0 + 1))) := by simp [f_weight, fnd, c1, c2, c3, c4, ix_nI (show c_ < 2 ^ 31 by omega), ix_nI (show p_ < 2 ^ 31 by omega), ix_nI (show n_ < 2 ^ 31 by omega)]
          exact g_iret C Rr dX4_weight_46 ⟨(kc, os, sd, tk, fr, to, vl, wr, mv), by rw [hf]; exact hJ, by rw [hf], by rw [hf]; rfl⟩ rfl
set_option maxHeartbeats 400000 in
set_option maxRecDepth 100000 in
theorem n_dull (g : Gl) (a : Nat → Nat) (X : Xs) (J : Jm) (n : Int32) (hX : InvX X) (hJ : OkM X J) : Ct g yX4_dull cX4_dull 5 (some .int) (rk 5 113) [.ref (a 0), .int n] (mdX g a X J) (fun r w2 => ∃ J2, OkM (f_dull X n).2 J2 ∧ r = some (.int (f_dull X n).1) ∧ w2 = mdX g a (f_dull X n).2 J2) := by
  obtain ⟨⟨mn, yr, gr, kd, pt, wt, mr⟩, ⟨⟨kmn, kyr, kgr, kkd, kpt, kwt, kmr⟩, kp⟩, ⟨tb, tn⟩, ⟨wd, sz, nm⟩, tl⟩ := X
  obtain ⟨kc, os, sd, tk, fr, to, vl, wr, mv⟩ := J
  obtain ⟨hB, hy, hkp, htb, htn, hwd, hsz⟩ := id hX
  obtain ⟨-, hTle, hgr, hkd, hpt, hwt, hmr, hyr, hmn⟩ := id hB
  refine ct_of (by decide) (Nat.le_of_ble_eq_true rfl) ?_
  intro φ C0 Rr
  have C : Cx φ g cX4_dull 5 RX4 (rk 5 113) := C0
  show Go φ g 5 0 [(0, .ref (a 0)), (1, .int n)] [] (mdV g a (sF mn yr gr kd pt wt mr) kc os sd tl kp tk tb tn fr to vl wr wd sz (flat nm) mv)
  refine g_iload_n (pc := 0) C dX4_dull_0 rfl ?_
  refine g_s0i (pc := 1) C dX4_dull_1 ml_X4_171 mf_X4_isSoon (m_isSoon g n) ⟨rfl, rfl, (Nat.le_of_ble_eq_true rfl), (Nat.le_of_ble_eq_true rfl)⟩ rfl rfl (Nat.le_of_ble_eq_true rfl) ?_
  refine g_if_neB (pc := 4) (tgt := 14) C dX4_dull_4 (by decide) (fun c1 => ?_) (fun c1 => ?_)
  · obtain ⟨n_, hl_n, hu_n, rfl⟩ := inR_nat (lo := 1) (hi := 60) c1
    refine g_iconst (pc := 14) (v := nI 0) C dX4_dull_14 (by decide) ?_
    refine g_istore_n (pc := 15) (lv2 := [(0, .ref (a 0)), (1, .int (nI n_)), (2, .int (nI 0))]) C dX4_dull_15 rfl (Nat.le_of_ble_eq_true rfl) rfl ?_
    refine g_aload_n (pc := 16) C dX4_dull_16 rfl ?_
    refine g_vxn (pc := 17) (ws2 := (mdV g a (sF mn yr gr kd pt wt mr) kc os (sF mn yr gr kd pt wt mr) tl kp tk tb tn fr to vl wr wd sz (flat nm) mv)) C dX4_dull_17 ml_X4_90 mf_X4_laysAside (m_laysAside g a kc os sd tl kp tk tb tn fr to vl wr wd sz (flat nm) mv mn yr gr kd pt wt mr) ⟨rfl, rfl, (Nat.le_of_ble_eq_true rfl), (Nat.le_of_ble_eq_true rfl)⟩ rfl rfl (Nat.le_of_ble_eq_true rfl) 0 rfl rfl rfl [0, 1, 2, 3, 4, 5, 6, 7, 8, 9, 10, 11] [] [0, 1, 2, 3, 4, 5, 6, 7, 8, 9, 10, 11] rfl rfl rfl rfl (by decide) rfl rfl ?_
    refine g_iconst (pc := 20) (v := nI 0) C dX4_dull_20 (by decide) ?_
    refine g_istore_n (pc := 21) (lv2 := [(0, .ref (a 0)), (1, .int (nI n_)), (2, .int (nI 0)), (3, .int (nI 0))]) C dX4_dull_21 rfl (Nat.le_of_ble_eq_true rfl) rfl ?_
    refine g_loop2 (n := mn) (fun i f x => x = maskN (dullF kd pt wt mr mn gr yr n_) i) (fun i f x => [(0, .ref (a 0)), (1, .int (nI n_)), (2, .int (nI x)), (3, .int (nI i))]) (fun i f x => (mdV g a (sF mn yr gr kd pt wt mr) kc os (sF mn yr gr kd pt wt mr) tl kp f tb tn fr to vl wr wd sz (flat nm) mv)) ?_ 0 tk 0 (by omega) rfl
    intro i f x hi_i hv_i ih_i
    show Go φ g 5 22 [(0, .ref (a 0)), (1, .int (nI n_)), (2, .int (nI x)), (3, .int (nI i))] [] (mdV g a (sF mn yr gr kd pt wt mr) kc os (sF mn yr gr kd pt wt mr) tl kp f tb tn fr to vl wr wd sz (flat nm) mv)
    have hv_i : x = maskN (dullF kd pt wt mr mn gr yr n_) i := hv_i
    refine g_iload_n (pc := 22) C dX4_dull_22 rfl ?_
    refine g_aload_n (pc := 23) C dX4_dull_23 rfl ?_
    refine g_get4 (pc := 24) C dX4_dull_24 0 rfl 0 (by decide) fl_X4_7 rfl ?_
    refine g_iconst (pc := 27) (v := nI 0) C dX4_dull_27 (by decide) ?_
    refine g_ialdM (pc := 28) C dX4_dull_28 1 rfl rfl (by omega) (by decide) ?_
    refine g_top (congrArg nI sF_r0) ?_
    refine g_icmp_geN (pc := 29) (tgt := 112) C dX4_dull_29 (by decide) (by omega) (by omega) (fun c2 => ?_) (fun c2 => ?_)
    · refine g_iload_n (pc := 112) C dX4_dull_112 rfl ?_
      have hf : f_dull ((mn, yr, gr, kd, pt, wt, mr), ((kmn, kyr, kgr, kkd, kpt, kwt, kmr), kp), (tb, tn), (wd, sz, nm), tl) (nI n_) = ((nI x), ((mn, yr, gr, kd, pt, wt, mr), ((kmn, kyr, kgr, kkd, kpt, kwt, kmr), kp), (tb, tn), (wd, sz, nm), tl)) := by simp [f_dull, c1, ix_nI (show n_ < 2 ^ 31 by omega)]; rw [hv_i, show i = mn by omega]
      exact g_iret C Rr dX4_dull_113 ⟨(kc, os, sF mn yr gr kd pt wt mr, f, fr, to, vl, wr, mv), by rw [hf]; exact hJ, by rw [hf], by rw [hf]; rfl⟩ rfl
    · refine g_iconst (pc := 32) (v := nI 0) C dX4_dull_32 (by decide) ?_
      refine g_istore (pc := 33) (lv2 := [(0, .ref (a 0)), (1, .int (nI n_)), (2, .int (nI x)), (3, .int (nI i)), (4, .int (nI 0))]) C dX4_dull_33 (Nat.le_of_ble_eq_true rfl) rfl ?_
      refine g_loop1 (n := mn) (fun j P => ∀ k, P k = if k < j ∧ k ≠ i then 0 else pt k) (fun j P => [(0, .ref (a 0)), (1, .int (nI n_)), (2, .int (nI x)), (3, .int (nI i)), (4, .int (nI j))]) (fun j P => (mdV g a (sF mn yr gr kd P wt mr) kc os (sF mn yr gr kd pt wt mr) tl kp f tb tn fr to vl wr wd sz (flat nm) mv)) ?_ 0 pt (by omega) (fun k => by rw [if_neg (by omega)])
      intro j P hi_j hv_j ih_j
      show Go φ g 5 35 [(0, .ref (a 0)), (1, .int (nI n_)), (2, .int (nI x)), (3, .int (nI i)), (4, .int (nI j))] [] (mdV g a (sF mn yr gr kd P wt mr) kc os (sF mn yr gr kd pt wt mr) tl kp f tb tn fr to vl wr wd sz (flat nm) mv)
      have hv_j : ∀ k, P k = if k < j ∧ k ≠ i then 0 else pt k := hv_j
      refine g_iload (pc := 35) C dX4_dull_35 rfl ?_
      refine g_aload_n (pc := 37) C dX4_dull_37 rfl ?_
      refine g_get4 (pc := 38) C dX4_dull_38 0 rfl 0 (by decide) fl_X4_7 rfl ?_
      refine g_iconst (pc := 41) (v := nI 0) C dX4_dull_41 (by decide) ?_
      refine g_ialdM (pc := 42) C dX4_dull_42 1 rfl rfl (by omega) (by decide) ?_
      refine g_top (congrArg nI sF_r0) ?_
      refine g_icmp_geN (pc := 43) (tgt := 80) C dX4_dull_43 (by decide) (by omega) (by omega) (fun c3 => ?_) (fun c3 => ?_)
      · have hPw : P = waterN pt mn i := funext (fun k => by rw [hv_j k, show j = mn by omega]; rfl)
        refine g_ws (ws := (mdV g a (sF mn yr gr kd P wt mr) kc os (sF mn yr gr kd pt wt mr) tl kp f tb tn fr to vl wr wd sz (flat nm) mv)) (ws2 := (mdV g a (sF mn yr gr kd (waterN pt mn i) wt mr) kc os (sF mn yr gr kd pt wt mr) tl kp f tb tn fr to vl wr wd sz (flat nm) mv)) (by rw [hPw]) ?_
        have hBw := PB_wa (c := i) hB
        have hBn := PB_yrs hBw n_ (by omega)
        refine g_aload_n (pc := 80) C dX4_dull_80 rfl ?_
        refine g_iload_n (pc := 81) C dX4_dull_81 rfl ?_
        refine g_rV (pc := 82) (rest := []) C dX4_dull_82 ml_X4_144 mf_X4_yearsGo (m_yearsGo g a kc os (sF mn yr gr kd pt wt mr) tl kp f tb tn fr to vl wr wd sz (flat nm) mv mn yr gr kd (waterN pt mn i) wt mr n_ hBw (by omega)) ⟨rfl, rfl, (Nat.le_of_ble_eq_true rfl), (Nat.le_of_ble_eq_true rfl)⟩ rfl rfl (Nat.le_of_ble_eq_true rfl) 0 rfl rfl rfl [0, 1, 2, 3, 4, 5, 6, 7, 8, 9, 10, 11] [] rfl rfl rfl rfl (by decide) ?_
        intro r9 w9 h9
        obtain ⟨f_4, rfl, rfl⟩ := h9
        refine g_sub (ws2 := (mdV g a (sF mn (yr + n_) (yearsG kd (waterN pt mn i) wt mr mn gr yr n_) kd (waterN pt mn i) wt mr) kc os (sF mn yr gr kd pt wt mr) tl kp f_4 tb tn fr to vl wr wd sz (flat nm) mv)) [0, 1, 2, 3, 4, 5, 6, 7, 8, 9, 10, 11] rfl rfl ?_
        show Go φ g 5 85 [(0, .ref (a 0)), (1, .int (nI n_)), (2, .int (nI x)), (3, .int (nI i)), (4, .int (nI j))] [] (mdV g a (sF mn (yr + n_) (yearsG kd (waterN pt mn i) wt mr mn gr yr n_) kd (waterN pt mn i) wt mr) kc os (sF mn yr gr kd pt wt mr) tl kp f_4 tb tn fr to vl wr wd sz (flat nm) mv)
        refine g_aload_n (pc := 85) C dX4_dull_85 rfl ?_
        refine g_aload_n (pc := 86) C dX4_dull_86 rfl ?_
        refine g_vxi (pc := 87) (ws2 := (mdV g a (sF mn (yr + n_) (yearsG kd (waterN pt mn i) wt mr mn gr yr n_) kd (waterN pt mn i) wt mr) kc os (sF mn yr gr kd pt wt mr) tl kp f_4 tb tn fr to vl wr wd sz (flat nm) mv)) C dX4_dull_87 ml_X4_151 mf_X4_isVague (m_isVague g a kc os (sF mn yr gr kd pt wt mr) tl kp f_4 tb tn fr to vl wr wd sz (flat nm) mv mn (yr + n_) (yearsG kd (waterN pt mn i) wt mr mn gr yr n_) kd (waterN pt mn i) wt mr hBn) ⟨rfl, rfl, (Nat.le_of_ble_eq_true rfl), (Nat.le_of_ble_eq_true rfl)⟩ rfl rfl (Nat.le_of_ble_eq_true rfl) 0 rfl rfl rfl [0, 1, 2, 3, 4, 5, 6, 7, 8, 9, 10, 11] [] [0, 1, 2, 3, 4, 5, 6, 7, 8, 9, 10, 11] rfl rfl rfl rfl (by decide) rfl rfl ?_
        refine g_if_eqB (pc := 90) (tgt := 101) C dX4_dull_90 (by decide) (fun c5 => ?_) (fun c5 => ?_)
        · refine g_iload_n (pc := 101) C dX4_dull_101 rfl ?_
          refine g_vxi (pc := 102) (ws2 := (mdV g a (sF mn yr gr kd pt wt mr) kc os (sF mn yr gr kd pt wt mr) tl kp f_4 tb tn fr to vl wr wd sz (flat nm) mv)) C dX4_dull_102 ml_X4_93 mf_X4_takesBack (m_takesBack g a kc os tl kp f_4 tb tn fr to vl wr wd sz (flat nm) mv mn (yr + n_) (yearsG kd (waterN pt mn i) wt mr mn gr yr n_) kd (waterN pt mn i) wt mr mn yr gr kd pt wt mr x) ⟨rfl, rfl, (Nat.le_of_ble_eq_true rfl), (Nat.le_of_ble_eq_true rfl)⟩ rfl rfl (Nat.le_of_ble_eq_true rfl) 0 rfl rfl rfl [0, 1, 2, 3, 4, 5, 6, 7, 8, 9, 10, 11] [] [0, 1, 2, 3, 4, 5, 6, 7, 8, 9, 10, 11] rfl rfl rfl rfl (by decide) rfl rfl ?_
          refine g_istore_n (pc := 105) (lv2 := [(0, .ref (a 0)), (1, .int (nI n_)), (2, .int (nI x)), (3, .int (nI i)), (4, .int (nI j))]) C dX4_dull_105 rfl (Nat.le_of_ble_eq_true rfl) rfl ?_
          refine g_iinc (pc := 106) (v := (nI (i + 1))) (lv2 := [(0, .ref (a 0)), (1, .int (nI n_)), (2, .int (nI x)), (3, .int (nI (i + 1))), (4, .int (nI j))]) C dX4_dull_106 rfl (nI_1 _) (Nat.le_of_ble_eq_true rfl) rfl ?_
          refine g_goto (pc := 109) (tgt := 22) C dX4_dull_109 (by decide) ?_
          refine g_lvs (lv2 := [(0, .ref (a 0)), (1, .int (nI n_)), (2, .int (nI x)), (3, .int (nI (i + 1)))]) [0, 1, 2, 3] rfl ?_
          exact ih_i _ _ (by omega) (by rw [maskN, ← hv_i, if_neg (by rw [dullF, if_neg c5]; decide), Nat.add_zero])
        · refine g_iload_n (pc := 93) C dX4_dull_93 rfl ?_
          refine g_iconst (pc := 94) (v := nI 1) C dX4_dull_94 (by decide) ?_
          refine g_iload_n (pc := 95) C dX4_dull_95 rfl ?_
          refine g_ishl (pc := 96) C dX4_dull_96 ?_
          refine g_ior (pc := 97) C dX4_dull_97 ?_
          refine g_top (y := nI (x + 2 ^ i)) (nI_setbit (by rw [hv_i]; exact maskN_lt _ i) (by omega)) ?_
          refine g_goto (pc := 98) (tgt := 102) C dX4_dull_98 (by decide) ?_
          refine g_vxi (pc := 102) (ws2 := (mdV g a (sF mn yr gr kd pt wt mr) kc os (sF mn yr gr kd pt wt mr) tl kp f_4 tb tn fr to vl wr wd sz (flat nm) mv)) C dX4_dull_102 ml_X4_93 mf_X4_takesBack (m_takesBack g a kc os tl kp f_4 tb tn fr to vl wr wd sz (flat nm) mv mn (yr + n_) (yearsG kd (waterN pt mn i) wt mr mn gr yr n_) kd (waterN pt mn i) wt mr mn yr gr kd pt wt mr (x + 2 ^ i)) ⟨rfl, rfl, (Nat.le_of_ble_eq_true rfl), (Nat.le_of_ble_eq_true rfl)⟩ rfl rfl (Nat.le_of_ble_eq_true rfl) 0 rfl rfl rfl [0, 1, 2, 3, 4, 5, 6, 7, 8, 9, 10, 11] [] [0, 1, 2, 3, 4, 5, 6, 7, 8, 9, 10, 11] rfl rfl rfl rfl (by decide) rfl rfl ?_
          refine g_istore_n (pc := 105) (lv2 := [(0, .ref (a 0)), (1, .int (nI n_)), (2, .int (nI (x + 2 ^ i))), (3, .int (nI i)), (4, .int (nI j))]) C dX4_dull_105 rfl (Nat.le_of_ble_eq_true rfl) rfl ?_
          refine g_iinc (pc := 106) (v := (nI (i + 1))) (lv2 := [(0, .ref (a 0)), (1, .int (nI n_)), (2, .int (nI (x + 2 ^ i))), (3, .int (nI (i + 1))), (4, .int (nI j))]) C dX4_dull_106 rfl (nI_1 _) (Nat.le_of_ble_eq_true rfl) rfl ?_
          refine g_goto (pc := 109) (tgt := 22) C dX4_dull_109 (by decide) ?_
          refine g_lvs (lv2 := [(0, .ref (a 0)), (1, .int (nI n_)), (2, .int (nI (x + 2 ^ i))), (3, .int (nI (i + 1)))]) [0, 1, 2, 3] rfl ?_
          exact ih_i _ _ (by omega) (by rw [maskN, ← hv_i, if_pos (by rw [dullF, if_pos c5]; decide)])
      · refine g_aload_n (pc := 46) C dX4_dull_46 rfl ?_
        refine g_get4 (pc := 47) C dX4_dull_47 0 rfl 0 (by decide) fl_X4_7 rfl ?_
        refine g_iload (pc := 50) C dX4_dull_50 rfl ?_
        refine g_iconst (pc := 52) (v := nI 1) C dX4_dull_52 (by decide) ?_
        refine g_s0i (pc := 53) C dX4_dull_53 ml_X4_57 mf_X4_spotOf (m_spotOf g j 1) ⟨rfl, rfl, (Nat.le_of_ble_eq_true rfl), (Nat.le_of_ble_eq_true rfl)⟩ rfl rfl (Nat.le_of_ble_eq_true rfl) ?_
        refine g_iload (pc := 56) C dX4_dull_56 rfl ?_
        refine g_iload_n (pc := 58) C dX4_dull_58 rfl ?_
        refine g_icmp_neN (pc := 59) (tgt := 72) C dX4_dull_59 (by decide) (by omega) (by omega) (fun c6 => ?_) (fun c6 => ?_)
        · refine g_iconst (pc := 72) (v := nI 0) C dX4_dull_72 (by decide) ?_
          refine g_iastM (pc := 73) (ws2 := _) C dX4_dull_73 1 rfl rfl (by omega) (by decide) rfl ?_
          refine g_ws (ws := (mdV g a (updN (sF mn yr gr kd P wt mr) (14 + 4 * j + 1) 0) kc os (sF mn yr gr kd pt wt mr) tl kp f tb tn fr to vl wr wd sz (flat nm) mv)) (ws2 := (mdV g a (sF mn yr gr kd (updN P j 0) wt mr) kc os (sF mn yr gr kd pt wt mr) tl kp f tb tn fr to vl wr wd sz (flat nm) mv)) (by rw [sF_wp]) ?_
          refine g_iinc (pc := 74) (v := (nI (j + 1))) (lv2 := [(0, .ref (a 0)), (1, .int (nI n_)), (2, .int (nI x)), (3, .int (nI i)), (4, .int (nI (j + 1)))]) C dX4_dull_74 rfl (nI_1 _) (Nat.le_of_ble_eq_true rfl) rfl ?_
          refine g_goto (pc := 77) (tgt := 35) C dX4_dull_77 (by decide) ?_
          exact ih_j _ (by omega) (fun k => by
            by_cases e : k = j
            · rw [e, updN_s, if_pos (by omega)]
            · rw [updN_n e, hv_j k]
              simp only [show (k < j ∧ k ≠ i) ↔ (k < j + 1 ∧ k ≠ i) by omega])
        · refine g_aload_n (pc := 62) C dX4_dull_62 rfl ?_
          refine g_iload (pc := 63) C dX4_dull_63 rfl ?_
          refine g_iconst (pc := 65) (v := nI 1) C dX4_dull_65 (by decide) ?_
          refine g_vxi (pc := 66) (ws2 := (mdV g a (sF mn yr gr kd P wt mr) kc os (sF mn yr gr kd pt wt mr) tl kp f tb tn fr to vl wr wd sz (flat nm) mv)) C dX4_dull_66 ml_X4_102 mf_X4_its (m_its g a kc os (sF mn yr gr kd pt wt mr) tl kp f tb tn fr to vl wr wd sz (flat nm) mv mn yr gr kd P wt mr j 1 (by omega) (by omega)) ⟨rfl, rfl, (Nat.le_of_ble_eq_true rfl), (Nat.le_of_ble_eq_true rfl)⟩ rfl rfl (Nat.le_of_ble_eq_true rfl) 0 rfl rfl rfl [0, 1, 2, 3, 4, 5, 6, 7, 8, 9, 10, 11] [] [0, 1, 2, 3, 4, 5, 6, 7, 8, 9, 10, 11] rfl rfl rfl rfl (by decide) rfl rfl ?_
          refine g_top (y := nI (P j)) rfl ?_
          refine g_goto (pc := 69) (tgt := 73) C dX4_dull_69 (by decide) ?_
          refine g_iastM (pc := 73) (ws2 := _) C dX4_dull_73 1 rfl rfl (by omega) (by decide) rfl ?_
          refine g_ws (ws := (mdV g a (updN (sF mn yr gr kd P wt mr) (14 + 4 * j + 1) (P j)) kc os (sF mn yr gr kd pt wt mr) tl kp f tb tn fr to vl wr wd sz (flat nm) mv)) (ws2 := (mdV g a (sF mn yr gr kd (updN P j (P j)) wt mr) kc os (sF mn yr gr kd pt wt mr) tl kp f tb tn fr to vl wr wd sz (flat nm) mv)) (by rw [sF_wp]) ?_
          refine g_iinc (pc := 74) (v := (nI (j + 1))) (lv2 := [(0, .ref (a 0)), (1, .int (nI n_)), (2, .int (nI x)), (3, .int (nI i)), (4, .int (nI (j + 1)))]) C dX4_dull_74 rfl (nI_1 _) (Nat.le_of_ble_eq_true rfl) rfl ?_
          refine g_goto (pc := 77) (tgt := 35) C dX4_dull_77 (by decide) ?_
          exact ih_j _ (by omega) (fun k => by
            by_cases e : k = j
            · rw [e, updN_s, hv_j j, if_neg (by omega), if_neg (by omega)]
            · rw [updN_n e, hv_j k]
              simp only [show (k < j ∧ k ≠ i) ↔ (k < j + 1 ∧ k ≠ i) by omega])
  · refine g_aload_n (pc := 7) C dX4_dull_7 rfl ?_
    refine g_ldc (pc := 8) C dX4_dull_8 ck_X4_44 rfl ?_
    refine g_vxi (pc := 10) (ws2 := (mdV g a (sF mn yr gr kd pt wt mr) kc os sd (updN tl 0 (tl 0 + 1)) kp tk tb tn fr to vl wr wd sz (flat nm) mv)) C dX4_dull_10 ml_X4_64 mf_X4_finds (m_finds g a (sF mn yr gr kd pt wt mr) kc os sd tl kp tk tb tn fr to vl wr wd sz (flat nm) mv 0 (by decide)) ⟨rfl, rfl, (Nat.le_of_ble_eq_true rfl), (Nat.le_of_ble_eq_true rfl)⟩ rfl rfl (Nat.le_of_ble_eq_true rfl) 0 rfl rfl rfl [0, 1, 2, 3, 4, 5, 6, 7, 8, 9, 10, 11] [] [0, 1, 2, 3, 4, 5, 6, 7, 8, 9, 10, 11] rfl rfl rfl rfl (by decide) rfl rfl ?_
    have hf : f_dull ((mn, yr, gr, kd, pt, wt, mr), ((kmn, kyr, kgr, kkd, kpt, kwt, kmr), kp), (tb, tn), (wd, sz, nm), tl) n = ((fd 0), ((mn, yr, gr, kd, pt, wt, mr), ((kmn, kyr, kgr, kkd, kpt, kwt, kmr), kp), (tb, tn), (wd, sz, nm), updN tl 0 (tl 0 + 1))) := by simp [f_dull, fnd, c1]
    exact g_iret C Rr dX4_dull_13 ⟨(kc, os, sd, tk, fr, to, vl, wr, mv), by rw [hf]; exact hJ, by rw [hf], by rw [hf]; rfl⟩ rfl
set_option maxHeartbeats 400000 in
set_option maxRecDepth 100000 in
theorem n_better (g : Gl) (a : Nat → Nat) (X : Xs) (J : Jm) (p : Int32) (n : Int32) (hX : InvX X) (hJ : OkM X J) : Ct g yX4_better cX4_better 8 (some .int) (rk 6 135) [.ref (a 0), .int p, .int n] (mdX g a X J) (fun r w2 => ∃ J2, OkM (f_better X p n).2 J2 ∧ r = some (.int (f_better X p n).1) ∧ w2 = mdX g a (f_better X p n).2 J2) := by
  obtain ⟨⟨mn, yr, gr, kd, pt, wt, mr⟩, ⟨⟨kmn, kyr, kgr, kkd, kpt, kwt, kmr⟩, kp⟩, ⟨tb, tn⟩, ⟨wd, sz, nm⟩, tl⟩ := X
  obtain ⟨kc, os, sd, tk, fr, to, vl, wr, mv⟩ := J
  obtain ⟨hB, hy, hkp, htb, htn, hwd, hsz⟩ := id hX
  obtain ⟨-, hTle, hgr, hkd, hpt, hwt, hmr, hyr, hmn⟩ := id hB
  refine ct_of (by decide) (Nat.le_of_ble_eq_true rfl) ?_
  intro φ C0 Rr
  have C : Cx φ g cX4_better 8 RX4 (rk 6 135) := C0
  show Go φ g 8 0 [(0, .ref (a 0)), (1, .int p), (2, .int n)] [] (mdV g a (sF mn yr gr kd pt wt mr) kc os sd tl kp tk tb tn fr to vl wr wd sz (flat nm) mv)
  refine g_iload_n (pc := 0) C dX4_better_0 rfl ?_
  refine g_s0i (pc := 1) C dX4_better_1 ml_X4_61 mf_X4_isPart (m_isPart g p) ⟨rfl, rfl, (Nat.le_of_ble_eq_true rfl), (Nat.le_of_ble_eq_true rfl)⟩ rfl rfl (Nat.le_of_ble_eq_true rfl) ?_
  refine g_if_eqB (pc := 4) (tgt := 14) C dX4_better_4 (by decide) (fun c1 => ?_) (fun c1 => ?_)
  · refine g_aload_n (pc := 14) C dX4_better_14 rfl ?_
    refine g_ldc (pc := 15) C dX4_better_15 ck_X4_44 rfl ?_
    refine g_vxi (pc := 17) (ws2 := (mdV g a (sF mn yr gr kd pt wt mr) kc os sd (updN tl 0 (tl 0 + 1)) kp tk tb tn fr to vl wr wd sz (flat nm) mv)) C dX4_better_17 ml_X4_64 mf_X4_finds (m_finds g a (sF mn yr gr kd pt wt mr) kc os sd tl kp tk tb tn fr to vl wr wd sz (flat nm) mv 0 (by decide)) ⟨rfl, rfl, (Nat.le_of_ble_eq_true rfl), (Nat.le_of_ble_eq_true rfl)⟩ rfl rfl (Nat.le_of_ble_eq_true rfl) 0 rfl rfl rfl [0, 1, 2, 3, 4, 5, 6, 7, 8, 9, 10, 11] [] [0, 1, 2, 3, 4, 5, 6, 7, 8, 9, 10, 11] rfl rfl rfl rfl (by decide) rfl rfl ?_
    have hf : f_better ((mn, yr, gr, kd, pt, wt, mr), ((kmn, kyr, kgr, kkd, kpt, kwt, kmr), kp), (tb, tn), (wd, sz, nm), tl) p n = ((fd 0), ((mn, yr, gr, kd, pt, wt, mr), ((kmn, kyr, kgr, kkd, kpt, kwt, kmr), kp), (tb, tn), (wd, sz, nm), updN tl 0 (tl 0 + 1))) := by simp [f_better, fnd, c1]
    exact g_iret C Rr dX4_better_20 ⟨(kc, os, sd, tk, fr, to, vl, wr, mv), by rw [hf]; exact hJ, by rw [hf], by rw [hf]; rfl⟩ rfl
  · obtain ⟨p_, hl_p, hu_p, rfl⟩ := inR_nat (lo := 0) (hi := 11) c1
    refine g_iload_n (pc := 7) C dX4_better_7 rfl ?_
    refine g_s0i (pc := 8) C dX4_better_8 ml_X4_171 mf_X4_isSoon (m_isSoon g n) ⟨rfl, rfl, (Nat.le_of_ble_eq_true rfl), (Nat.le_of_ble_eq_true rfl)⟩ rfl rfl (Nat.le_of_ble_eq_true rfl) ?_
    refine g_if_neB (pc := 11) (tgt := 21) C dX4_better_11 (by decide) (fun c2 => ?_) (fun c2 => ?_)
    · obtain ⟨n_, hl_n, hu_n, rfl⟩ := inR_nat (lo := 1) (hi := 60) c2
      have hY := yrs_le hB (show yr + n_ ≤ 20000 by omega) p_
      refine g_iconst (pc := 21) (v := -1) C dX4_better_21 (by decide) ?_
      refine g_istore_n (pc := 22) (lv2 := [(0, .ref (a 0)), (1, .int (nI p_)), (2, .int (nI n_)), (3, .int (-1))]) C dX4_better_22 rfl (Nat.le_of_ble_eq_true rfl) rfl ?_
      refine g_aload_n (pc := 23) C dX4_better_23 rfl ?_
      refine g_iload_n (pc := 24) C dX4_better_24 rfl ?_
      refine g_iload_n (pc := 25) C dX4_better_25 rfl ?_
      refine g_rV (pc := 26) (rest := []) C dX4_better_26 ml_X4_174 mf_X4_behind (m_behind g a kc os sd tl kp tk tb tn fr to vl wr wd sz (flat nm) mv mn yr gr kd pt wt mr p_ n_ hB (by omega) (by omega)) ⟨rfl, rfl, (Nat.le_of_ble_eq_true rfl), (Nat.le_of_ble_eq_true rfl)⟩ rfl rfl (Nat.le_of_ble_eq_true rfl) 0 rfl rfl rfl [0, 1, 2, 3, 4, 5, 6, 7, 8, 9, 10, 11] [] rfl rfl rfl rfl (by decide) ?_
      intro r9 w9 h9
      obtain ⟨f_3, rfl, rfl⟩ := h9
      refine g_sub (ws2 := (mdV g a (sF mn yr gr kd pt wt mr) kc os (sF mn yr gr kd pt wt mr) tl kp f_3 tb tn fr to vl wr wd sz (flat nm) mv)) [0, 1, 2, 3, 4, 5, 6, 7, 8, 9, 10, 11] rfl rfl ?_
      show Go φ g 8 29 [(0, .ref (a 0)), (1, .int (nI p_)), (2, .int (nI n_)), (3, .int (-1))] [.int (nI (yearsG kd pt wt mr mn gr yr n_ p_))] (mdV g a (sF mn yr gr kd pt wt mr) kc os (sF mn yr gr kd pt wt mr) tl kp f_3 tb tn fr to vl wr wd sz (flat nm) mv)
      refine g_istore (pc := 29) (lv2 := [(0, .ref (a 0)), (1, .int (nI p_)), (2, .int (nI n_)), (3, .int (-1)), (4, .int (nI (yearsG kd pt wt mr mn gr yr n_ p_)))]) C dX4_better_29 (Nat.le_of_ble_eq_true rfl) rfl ?_
      refine g_iconst (pc := 31) (v := nI 0) C dX4_better_31 (by decide) ?_
      refine g_istore (pc := 32) (lv2 := [(0, .ref (a 0)), (1, .int (nI p_)), (2, .int (nI n_)), (3, .int (-1)), (4, .int (nI (yearsG kd pt wt mr mn gr yr n_ p_))), (5, .int (nI 0))]) C dX4_better_32 (Nat.le_of_ble_eq_true rfl) rfl ?_
      refine g_loop4 (n := mn) (fun i sd2 f m x => m ≤ 99999 ∧ (m, x) = bOut (pairF kd pt wt mr mn gr yr p_ n_) mn (yearsG kd pt wt mr mn gr yr n_ p_, -1) i) (fun i sd2 f m x => [(0, .ref (a 0)), (1, .int (nI p_)), (2, .int (nI n_)), (3, .int x), (4, .int (nI m)), (5, .int (nI i))]) (fun i sd2 f m x => (mdV g a (sF mn yr gr kd pt wt mr) kc os sd2 tl kp f tb tn fr to vl wr wd sz (flat nm) mv)) ?_ 0 (sF mn yr gr kd pt wt mr) f_3 (yearsG kd pt wt mr mn gr yr n_ p_) (-1) (by omega) ⟨hY, rfl⟩
      intro i sd2 f m x hi_i hv_i ih_i
      show Go φ g 8 34 [(0, .ref (a 0)), (1, .int (nI p_)), (2, .int (nI n_)), (3, .int x), (4, .int (nI m)), (5, .int (nI i))] [] (mdV g a (sF mn yr gr kd pt wt mr) kc os sd2 tl kp f tb tn fr to vl wr wd sz (flat nm) mv)
      have hv_i : m ≤ 99999 ∧ (m, x) = bOut (pairF kd pt wt mr mn gr yr p_ n_) mn (yearsG kd pt wt mr mn gr yr n_ p_, -1) i := hv_i
      refine g_iload (pc := 34) C dX4_better_34 rfl ?_
      refine g_aload_n (pc := 36) C dX4_better_36 rfl ?_
      refine g_get4 (pc := 37) C dX4_better_37 0 rfl 0 (by decide) fl_X4_7 rfl ?_
      refine g_iconst (pc := 40) (v := nI 0) C dX4_better_40 (by decide) ?_
      refine g_ialdM (pc := 41) C dX4_better_41 1 rfl rfl (by omega) (by decide) ?_
      refine g_top (congrArg nI sF_r0) ?_
      refine g_icmp_geN (pc := 42) (tgt := 134) C dX4_better_42 (by decide) (by omega) (by omega) (fun c4 => ?_) (fun c4 => ?_)
      · refine g_iload_n (pc := 134) C dX4_better_134 rfl ?_
        refine g_if_ge (pc := 135) (tgt := 147) C dX4_better_135 (by decide) (fun c5 => ?_) (fun c5 => ?_)
        · refine g_iload_n (pc := 147) C dX4_better_147 rfl ?_
          have hf : f_better ((mn, yr, gr, kd, pt, wt, mr), ((kmn, kyr, kgr, kkd, kpt, kwt, kmr), kp), (tb, tn), (wd, sz, nm), tl) (nI p_) (nI n_) = (x, ((mn, yr, gr, kd, pt, wt, mr), ((kmn, kyr, kgr, kkd, kpt, kwt, kmr), kp), (tb, tn), (wd, sz, nm), tl)) := by simp only [f_better, c1, c2, ix_nI (show p_ < 2 ^ 31 by omega), ix_nI (show n_ < 2 ^ 31 by omega), Bool.and_self, if_true]; rw [show bOut (pairF kd pt wt mr mn gr yr p_ n_) mn (yearsG kd pt wt mr mn gr yr n_ p_, -1) mn = (m, x) from by rw [hv_i.2, show i = mn by omega], if_neg (Int32.not_lt.mpr c5)]
          exact g_iret C Rr dX4_better_148 ⟨(kc, os, sd2, f, fr, to, vl, wr, mv), by rw [hf]; exact hJ, by rw [hf], by rw [hf]; rfl⟩ rfl
        · refine g_aload_n (pc := 138) C dX4_better_138 rfl ?_
          refine g_ldc (pc := 139) C dX4_better_139 ck_X4_162 rfl ?_
          refine g_vxi (pc := 141) (ws2 := (mdV g a (sF mn yr gr kd pt wt mr) kc os sd2 (updN tl 3 (tl 3 + 1)) kp f tb tn fr to vl wr wd sz (flat nm) mv)) C dX4_better_141 ml_X4_64 mf_X4_finds (m_finds g a (sF mn yr gr kd pt wt mr) kc os sd2 tl kp f tb tn fr to vl wr wd sz (flat nm) mv 3 (by decide)) ⟨rfl, rfl, (Nat.le_of_ble_eq_true rfl), (Nat.le_of_ble_eq_true rfl)⟩ rfl rfl (Nat.le_of_ble_eq_true rfl) 0 rfl rfl rfl [0, 1, 2, 3, 4, 5, 6, 7, 8, 9, 10, 11] [] [0, 1, 2, 3, 4, 5, 6, 7, 8, 9, 10, 11] rfl rfl rfl rfl (by decide) rfl rfl ?_
          refine g_goto (pc := 144) (tgt := 148) C dX4_better_144 (by decide) ?_
          have hf : f_better ((mn, yr, gr, kd, pt, wt, mr), ((kmn, kyr, kgr, kkd, kpt, kwt, kmr), kp), (tb, tn), (wd, sz, nm), tl) (nI p_) (nI n_) = ((fd 3), ((mn, yr, gr, kd, pt, wt, mr), ((kmn, kyr, kgr, kkd, kpt, kwt, kmr), kp), (tb, tn), (wd, sz, nm), updN tl 3 (tl 3 + 1))) := by simp only [f_better, c1, c2, ix_nI (show p_ < 2 ^ 31 by omega), ix_nI (show n_ < 2 ^ 31 by omega), Bool.and_self, if_true]; rw [show bOut (pairF kd pt wt mr mn gr yr p_ n_) mn (yearsG kd pt wt mr mn gr yr n_ p_, -1) mn = (m, x) from by rw [hv_i.2, show i = mn by omega], if_pos (Int32.not_le.mp c5)]; rfl
          exact g_iret C Rr dX4_better_148 ⟨(kc, os, sd2, f, fr, to, vl, wr, mv), by rw [hf]; exact hJ, by rw [hf], by rw [hf]; rfl⟩ rfl
      · refine g_iload (pc := 45) C dX4_better_45 rfl ?_
        refine g_iconst (pc := 47) (v := nI 1) C dX4_better_47 (by decide) ?_
        refine g_iaddN (pc := 48) C dX4_better_48 ?_
        refine g_istore (pc := 49) (lv2 := [(0, .ref (a 0)), (1, .int (nI p_)), (2, .int (nI n_)), (3, .int x), (4, .int (nI m)), (5, .int (nI i)), (6, .int (nI (i + 1)))]) C dX4_better_49 (Nat.le_of_ble_eq_true rfl) rfl ?_
        refine g_loop4 (n := mn) (fun j sd3 f3 m2 x2 => i + 1 ≤ j ∧ (m2, x2) = bIn (pairF kd pt wt mr mn gr yr p_ n_ i) i (m, x) (j - (i + 1))) (fun j sd3 f3 m2 x2 => [(0, .ref (a 0)), (1, .int (nI p_)), (2, .int (nI n_)), (3, .int x2), (4, .int (nI m2)), (5, .int (nI i)), (6, .int (nI j))]) (fun j sd3 f3 m2 x2 => (mdV g a (sF mn yr gr kd pt wt mr) kc os sd3 tl kp f3 tb tn fr to vl wr wd sz (flat nm) mv)) ?_ (i + 1) sd2 f m x (by omega) ⟨Nat.le_refl _, by rw [Nat.sub_self]; rfl⟩
        intro j sd3 f3 m2 x2 hi_j hv_j ih_j
        show Go φ g 8 51 [(0, .ref (a 0)), (1, .int (nI p_)), (2, .int (nI n_)), (3, .int x2), (4, .int (nI m2)), (5, .int (nI i)), (6, .int (nI j))] [] (mdV g a (sF mn yr gr kd pt wt mr) kc os sd3 tl kp f3 tb tn fr to vl wr wd sz (flat nm) mv)
        have hv_j : i + 1 ≤ j ∧ (m2, x2) = bIn (pairF kd pt wt mr mn gr yr p_ n_ i) i (m, x) (j - (i + 1)) := hv_j
        have hm2 : m2 ≤ 99999 := by have h9 : (bIn (pairF kd pt wt mr mn gr yr p_ n_ i) i (m, x) (j - (i + 1))).1 ≤ 99999 := bIn_le (F := pairF kd pt wt mr mn gr yr p_ n_ i) (fun q => yrs_le (PB_ex (i := i) (j := q) hB) (show yr + n_ ≤ 20000 by omega) p_) (s := (m, x)) i hv_i.1 (j - (i + 1)); rw [← hv_j.2] at h9; exact h9
        refine g_iload (pc := 51) C dX4_better_51 rfl ?_
        refine g_aload_n (pc := 53) C dX4_better_53 rfl ?_
        refine g_get4 (pc := 54) C dX4_better_54 0 rfl 0 (by decide) fl_X4_7 rfl ?_
        refine g_iconst (pc := 57) (v := nI 0) C dX4_better_57 (by decide) ?_
        refine g_ialdM (pc := 58) C dX4_better_58 1 rfl rfl (by omega) (by decide) ?_
        refine g_top (congrArg nI sF_r0) ?_
        refine g_icmp_geN (pc := 59) (tgt := 128) C dX4_better_59 (by decide) (by omega) (by omega) (fun c6 => ?_) (fun c6 => ?_)
        · refine g_iinc (pc := 128) (v := (nI (i + 1))) (lv2 := [(0, .ref (a 0)), (1, .int (nI p_)), (2, .int (nI n_)), (3, .int x2), (4, .int (nI m2)), (5, .int (nI (i + 1))), (6, .int (nI j))]) C dX4_better_128 rfl (nI_1 _) (Nat.le_of_ble_eq_true rfl) rfl ?_
          refine g_goto (pc := 131) (tgt := 34) C dX4_better_131 (by decide) ?_
          refine g_lvs (lv2 := [(0, .ref (a 0)), (1, .int (nI p_)), (2, .int (nI n_)), (3, .int x2), (4, .int (nI m2)), (5, .int (nI (i + 1)))]) [0, 1, 2, 3, 4, 5] rfl ?_
          exact ih_i _ _ _ _ (by omega) ⟨hm2, by rw [bOut, ← hv_i.2, hv_j.2, show j = mn by omega]⟩
        · refine g_aload_n (pc := 62) C dX4_better_62 rfl ?_
          refine g_iload (pc := 63) C dX4_better_63 rfl ?_
          refine g_iload (pc := 65) C dX4_better_65 rfl ?_
          refine g_vxn (pc := 67) (ws2 := (mdV g a (sF mn yr gr (exchN kd i j) (exchN pt i j) (exchN wt i j) (exchN mr i j)) kc os sd3 tl kp f3 tb tn fr to vl wr wd sz (flat nm) mv)) C dX4_better_67 ml_X4_134 mf_X4_swaps (m_swaps g a kc os sd3 tl kp f3 tb tn fr to vl wr wd sz (flat nm) mv mn yr gr kd pt wt mr i j (by omega) (by omega)) ⟨rfl, rfl, (Nat.le_of_ble_eq_true rfl), (Nat.le_of_ble_eq_true rfl)⟩ rfl rfl (Nat.le_of_ble_eq_true rfl) 0 rfl rfl rfl [0, 1, 2, 3, 4, 5, 6, 7, 8, 9, 10, 11] [] [0, 1, 2, 3, 4, 5, 6, 7, 8, 9, 10, 11] rfl rfl rfl rfl (by decide) rfl rfl ?_
          refine g_aload_n (pc := 70) C dX4_better_70 rfl ?_
          refine g_iload_n (pc := 71) C dX4_better_71 rfl ?_
          refine g_iload_n (pc := 72) C dX4_better_72 rfl ?_
          refine g_rV (pc := 73) (rest := []) C dX4_better_73 ml_X4_174 mf_X4_behind (m_behind g a kc os sd3 tl kp f3 tb tn fr to vl wr wd sz (flat nm) mv mn yr gr (exchN kd i j) (exchN pt i j) (exchN wt i j) (exchN mr i j) p_ n_ (PB_ex hB) (by omega) (by omega)) ⟨rfl, rfl, (Nat.le_of_ble_eq_true rfl), (Nat.le_of_ble_eq_true rfl)⟩ rfl rfl (Nat.le_of_ble_eq_true rfl) 0 rfl rfl rfl [0, 1, 2, 3, 4, 5, 6, 7, 8, 9, 10, 11] [] rfl rfl rfl rfl (by decide) ?_
          intro r9 w9 h9
          obtain ⟨f_7, rfl, rfl⟩ := h9
          refine g_sub (ws2 := (mdV g a (sF mn yr gr (exchN kd i j) (exchN pt i j) (exchN wt i j) (exchN mr i j)) kc os (sF mn yr gr (exchN kd i j) (exchN pt i j) (exchN wt i j) (exchN mr i j)) tl kp f_7 tb tn fr to vl wr wd sz (flat nm) mv)) [0, 1, 2, 3, 4, 5, 6, 7, 8, 9, 10, 11] rfl rfl ?_
          show Go φ g 8 76 [(0, .ref (a 0)), (1, .int (nI p_)), (2, .int (nI n_)), (3, .int x2), (4, .int (nI m2)), (5, .int (nI i)), (6, .int (nI j))] [.int (nI (yearsG (exchN kd i j) (exchN pt i j) (exchN wt i j) (exchN mr i j) mn gr yr n_ p_))] (mdV g a (sF mn yr gr (exchN kd i j) (exchN pt i j) (exchN wt i j) (exchN mr i j)) kc os (sF mn yr gr (exchN kd i j) (exchN pt i j) (exchN wt i j) (exchN mr i j)) tl kp f_7 tb tn fr to vl wr wd sz (flat nm) mv)
          refine g_top (y := nI (pairF kd pt wt mr mn gr yr p_ n_ i j)) rfl ?_
          have hPb : pairF kd pt wt mr mn gr yr p_ n_ i j ≤ 99999 := yrs_le (PB_ex (i := i) (j := j) hB) (show yr + n_ ≤ 20000 by omega) p_
          refine g_istore (pc := 76) (lv2 := [(0, .ref (a 0)), (1, .int (nI p_)), (2, .int (nI n_)), (3, .int x2), (4, .int (nI m2)), (5, .int (nI i)), (6, .int (nI j)), (7, .int (nI (pairF kd pt wt mr mn gr yr p_ n_ i j)))]) C dX4_better_76 (Nat.le_of_ble_eq_true rfl) rfl ?_
          refine g_aload_n (pc := 78) C dX4_better_78 rfl ?_
          refine g_iload (pc := 79) C dX4_better_79 rfl ?_
          refine g_iload (pc := 81) C dX4_better_81 rfl ?_
          refine g_vxn (pc := 83) (ws2 := (mdV g a (sF mn yr gr (exchN (exchN kd i j) i j) (exchN (exchN pt i j) i j) (exchN (exchN wt i j) i j) (exchN (exchN mr i j) i j)) kc os (sF mn yr gr (exchN kd i j) (exchN pt i j) (exchN wt i j) (exchN mr i j)) tl kp f_7 tb tn fr to vl wr wd sz (flat nm) mv)) C dX4_better_83 ml_X4_134 mf_X4_swaps (m_swaps g a kc os (sF mn yr gr (exchN kd i j) (exchN pt i j) (exchN wt i j) (exchN mr i j)) tl kp f_7 tb tn fr to vl wr wd sz (flat nm) mv mn yr gr (exchN kd i j) (exchN pt i j) (exchN wt i j) (exchN mr i j) i j (by omega) (by omega)) ⟨rfl, rfl, (Nat.le_of_ble_eq_true rfl), (Nat.le_of_ble_eq_true rfl)⟩ rfl rfl (Nat.le_of_ble_eq_true rfl) 0 rfl rfl rfl [0, 1, 2, 3, 4, 5, 6, 7, 8, 9, 10, 11] [] [0, 1, 2, 3, 4, 5, 6, 7, 8, 9, 10, 11] rfl rfl rfl rfl (by decide) rfl rfl ?_
          refine g_ws (ws := (mdV g a (sF mn yr gr (exchN (exchN kd i j) i j) (exchN (exchN pt i j) i j) (exchN (exchN wt i j) i j) (exchN (exchN mr i j) i j)) kc os (sF mn yr gr (exchN kd i j) (exchN pt i j) (exchN wt i j) (exchN mr i j)) tl kp f_7 tb tn fr to vl wr wd sz (flat nm) mv)) (ws2 := (mdV g a (sF mn yr gr kd pt wt mr) kc os (sF mn yr gr (exchN kd i j) (exchN pt i j) (exchN wt i j) (exchN mr i j)) tl kp f_7 tb tn fr to vl wr wd sz (flat nm) mv)) (by rw [exch_back (by omega), exch_back (by omega), exch_back (by omega), exch_back (by omega)]) ?_
          refine g_iload (pc := 86) C dX4_better_86 rfl ?_
          refine g_iload (pc := 88) C dX4_better_88 rfl ?_
          refine g_icmp_leN (pc := 90) (tgt := 104) C dX4_better_90 (by decide) (by omega) (by omega) (fun c8 => ?_) (fun c8 => ?_)
          · refine g_iload_n (pc := 104) C dX4_better_104 rfl ?_
            refine g_istore_n (pc := 105) (lv2 := [(0, .ref (a 0)), (1, .int (nI p_)), (2, .int (nI n_)), (3, .int x2), (4, .int (nI m2)), (5, .int (nI i)), (6, .int (nI j)), (7, .int (nI (pairF kd pt wt mr mn gr yr p_ n_ i j)))]) C dX4_better_105 rfl (Nat.le_of_ble_eq_true rfl) rfl ?_
            refine g_iload (pc := 106) C dX4_better_106 rfl ?_
            refine g_iload (pc := 108) C dX4_better_108 rfl ?_
            refine g_icmp_leN (pc := 110) (tgt := 118) C dX4_better_110 (by decide) (by omega) (by omega) (fun c9 => ?_) (fun c9 => ?_)
            · refine g_iload (pc := 118) C dX4_better_118 rfl ?_
              refine g_istore (pc := 120) (lv2 := [(0, .ref (a 0)), (1, .int (nI p_)), (2, .int (nI n_)), (3, .int x2), (4, .int (nI m2)), (5, .int (nI i)), (6, .int (nI j)), (7, .int (nI (pairF kd pt wt mr mn gr yr p_ n_ i j)))]) C dX4_better_120 (Nat.le_of_ble_eq_true rfl) rfl ?_
              refine g_iinc (pc := 122) (v := (nI (j + 1))) (lv2 := [(0, .ref (a 0)), (1, .int (nI p_)), (2, .int (nI n_)), (3, .int x2), (4, .int (nI m2)), (5, .int (nI i)), (6, .int (nI (j + 1))), (7, .int (nI (pairF kd pt wt mr mn gr yr p_ n_ i j)))]) C dX4_better_122 rfl (nI_1 _) (Nat.le_of_ble_eq_true rfl) rfl ?_
              refine g_goto (pc := 125) (tgt := 51) C dX4_better_125 (by decide) ?_
              refine g_lvs (lv2 := [(0, .ref (a 0)), (1, .int (nI p_)), (2, .int (nI n_)), (3, .int x2), (4, .int (nI m2)), (5, .int (nI i)), (6, .int (nI (j + 1)))]) [0, 1, 2, 3, 4, 5, 6] rfl ?_
              exact ih_j _ _ _ _ (by omega) ⟨by omega, by rw [show j + 1 - (i + 1) = (j - (i + 1)) + 1 by omega, bIn, ← hv_j.2, show i + 1 + (j - (i + 1)) = j by omega, if_neg (by show ¬ _ < _; omega)]⟩
            · refine g_iload (pc := 113) C dX4_better_113 rfl ?_
              refine g_goto (pc := 115) (tgt := 120) C dX4_better_115 (by decide) ?_
              refine g_istore (pc := 120) (lv2 := [(0, .ref (a 0)), (1, .int (nI p_)), (2, .int (nI n_)), (3, .int x2), (4, .int (nI (pairF kd pt wt mr mn gr yr p_ n_ i j))), (5, .int (nI i)), (6, .int (nI j)), (7, .int (nI (pairF kd pt wt mr mn gr yr p_ n_ i j)))]) C dX4_better_120 (Nat.le_of_ble_eq_true rfl) rfl ?_
              refine g_iinc (pc := 122) (v := (nI (j + 1))) (lv2 := [(0, .ref (a 0)), (1, .int (nI p_)), (2, .int (nI n_)), (3, .int x2), (4, .int (nI (pairF kd pt wt mr mn gr yr p_ n_ i j))), (5, .int (nI i)), (6, .int (nI (j + 1))), (7, .int (nI (pairF kd pt wt mr mn gr yr p_ n_ i j)))]) C dX4_better_122 rfl (nI_1 _) (Nat.le_of_ble_eq_true rfl) rfl ?_
              refine g_goto (pc := 125) (tgt := 51) C dX4_better_125 (by decide) ?_
              refine g_lvs (lv2 := [(0, .ref (a 0)), (1, .int (nI p_)), (2, .int (nI n_)), (3, .int x2), (4, .int (nI (pairF kd pt wt mr mn gr yr p_ n_ i j))), (5, .int (nI i)), (6, .int (nI (j + 1)))]) [0, 1, 2, 3, 4, 5, 6] rfl ?_
              exact absurd c9 (by omega)
          · refine g_bipush (pc := 93) (v := nI 10) C dX4_better_93 (by decide) ?_
            refine g_iload (pc := 95) C dX4_better_95 rfl ?_
            refine g_imulN (pc := 97) C dX4_better_97 ?_
            refine g_iload (pc := 98) C dX4_better_98 rfl ?_
            refine g_iaddN (pc := 100) C dX4_better_100 ?_
            refine g_goto (pc := 101) (tgt := 105) C dX4_better_101 (by decide) ?_
            refine g_istore_n (pc := 105) (lv2 := [(0, .ref (a 0)), (1, .int (nI p_)), (2, .int (nI n_)), (3, .int (nI ((10 * i) + j))), (4, .int (nI m2)), (5, .int (nI i)), (6, .int (nI j)), (7, .int (nI (pairF kd pt wt mr mn gr yr p_ n_ i j)))]) C dX4_better_105 rfl (Nat.le_of_ble_eq_true rfl) rfl ?_
            refine g_iload (pc := 106) C dX4_better_106 rfl ?_
            refine g_iload (pc := 108) C dX4_better_108 rfl ?_
            refine g_icmp_leN (pc := 110) (tgt := 118) C dX4_better_110 (by decide) (by omega) (by omega) (fun c10 => ?_) (fun c10 => ?_)
            · refine g_iload (pc := 118) C dX4_better_118 rfl ?_
              refine g_istore (pc := 120) (lv2 := [(0, .ref (a 0)), (1, .int (nI p_)), (2, .int (nI n_)), (3, .int (nI ((10 * i) + j))), (4, .int (nI m2)), (5, .int (nI i)), (6, .int (nI j)), (7, .int (nI (pairF kd pt wt mr mn gr yr p_ n_ i j)))]) C dX4_better_120 (Nat.le_of_ble_eq_true rfl) rfl ?_
              refine g_iinc (pc := 122) (v := (nI (j + 1))) (lv2 := [(0, .ref (a 0)), (1, .int (nI p_)), (2, .int (nI n_)), (3, .int (nI ((10 * i) + j))), (4, .int (nI m2)), (5, .int (nI i)), (6, .int (nI (j + 1))), (7, .int (nI (pairF kd pt wt mr mn gr yr p_ n_ i j)))]) C dX4_better_122 rfl (nI_1 _) (Nat.le_of_ble_eq_true rfl) rfl ?_
              refine g_goto (pc := 125) (tgt := 51) C dX4_better_125 (by decide) ?_
              refine g_lvs (lv2 := [(0, .ref (a 0)), (1, .int (nI p_)), (2, .int (nI n_)), (3, .int (nI ((10 * i) + j))), (4, .int (nI m2)), (5, .int (nI i)), (6, .int (nI (j + 1)))]) [0, 1, 2, 3, 4, 5, 6] rfl ?_
              exact absurd c10 (by omega)
            · refine g_iload (pc := 113) C dX4_better_113 rfl ?_
              refine g_goto (pc := 115) (tgt := 120) C dX4_better_115 (by decide) ?_
              refine g_istore (pc := 120) (lv2 := [(0, .ref (a 0)), (1, .int (nI p_)), (2, .int (nI n_)), (3, .int (nI ((10 * i) + j))), (4, .int (nI (pairF kd pt wt mr mn gr yr p_ n_ i j))), (5, .int (nI i)), (6, .int (nI j)), (7, .int (nI (pairF kd pt wt mr mn gr yr p_ n_ i j)))]) C dX4_better_120 (Nat.le_of_ble_eq_true rfl) rfl ?_
              refine g_iinc (pc := 122) (v := (nI (j + 1))) (lv2 := [(0, .ref (a 0)), (1, .int (nI p_)), (2, .int (nI n_)), (3, .int (nI ((10 * i) + j))), (4, .int (nI (pairF kd pt wt mr mn gr yr p_ n_ i j))), (5, .int (nI i)), (6, .int (nI (j + 1))), (7, .int (nI (pairF kd pt wt mr mn gr yr p_ n_ i j)))]) C dX4_better_122 rfl (nI_1 _) (Nat.le_of_ble_eq_true rfl) rfl ?_
              refine g_goto (pc := 125) (tgt := 51) C dX4_better_125 (by decide) ?_
              refine g_lvs (lv2 := [(0, .ref (a 0)), (1, .int (nI p_)), (2, .int (nI n_)), (3, .int (nI ((10 * i) + j))), (4, .int (nI (pairF kd pt wt mr mn gr yr p_ n_ i j))), (5, .int (nI i)), (6, .int (nI (j + 1)))]) [0, 1, 2, 3, 4, 5, 6] rfl ?_
              exact ih_j _ _ _ _ (by omega) ⟨by omega, by rw [show j + 1 - (i + 1) = (j - (i + 1)) + 1 by omega, bIn, ← hv_j.2, show i + 1 + (j - (i + 1)) = j by omega, if_pos c10]⟩
    · refine g_aload_n (pc := 14) C dX4_better_14 rfl ?_
      refine g_ldc (pc := 15) C dX4_better_15 ck_X4_44 rfl ?_
      refine g_vxi (pc := 17) (ws2 := (mdV g a (sF mn yr gr kd pt wt mr) kc os sd (updN tl 0 (tl 0 + 1)) kp tk tb tn fr to vl wr wd sz (flat nm) mv)) C dX4_better_17 ml_X4_64 mf_X4_finds (m_finds g a (sF mn yr gr kd pt wt mr) kc os sd tl kp tk tb tn fr to vl wr wd sz (flat nm) mv 0 (by decide)) ⟨rfl, rfl, (Nat.le_of_ble_eq_true rfl), (Nat.le_of_ble_eq_true rfl)⟩ rfl rfl (Nat.le_of_ble_eq_true rfl) 0 rfl rfl rfl [0, 1, 2, 3, 4, 5, 6, 7, 8, 9, 10, 11] [] [0, 1, 2, 3, 4, 5, 6, 7, 8, 9, 10, 11] rfl rfl rfl rfl (by decide) rfl rfl ?_
      have hf : f_better ((mn, yr, gr, kd, pt, wt, mr), ((kmn, kyr, kgr, kkd, kpt, kwt, kmr), kp), (tb, tn), (wd, sz, nm), tl) (nI p_) n = ((fd 0), ((mn, yr, gr, kd, pt, wt, mr), ((kmn, kyr, kgr, kkd, kpt, kwt, kmr), kp), (tb, tn), (wd, sz, nm), updN tl 0 (tl 0 + 1))) := by simp [f_better, fnd, c1, c2, ix_nI (show p_ < 2 ^ 31 by omega)]
      exact g_iret C Rr dX4_better_20 ⟨(kc, os, sd, tk, fr, to, vl, wr, mv), by rw [hf]; exact hJ, by rw [hf], by rw [hf]; rfl⟩ rfl
