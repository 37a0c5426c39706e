theorem wlt {wd : Nat → Nat} (h : ∀ s, wd s = 0 ∨ wd s = 8 ∨ wd s = 16 ∨ wd s = 64) (s : Nat) : wd s < 2 ^ 31 := by have := h s; omega
def wrS (wd : Nat → Nat) (s : Int32) : Int32 := if inR s 0 3 = true then if wd (ix s) = 0 then fd 5 else 0 else fd 0
theorem isW_sz {v : Int32} {m : Nat} (h : m ≤ 40) : (nI 0 ≤ v ∧ v ≤ nI m - nI 1) ↔ inR v 0 ((m : Int) - 1) = true := by
  rw [inR_iff, Int32.le_iff_toInt_le, Int32.le_iff_toInt_le, pk_sub_toInt (by omega) (by decide), nI_toInt (by decide)]
  exact Iff.rfl
theorem in_sz {v : Int32} {m : Nat} (h : m ≤ 40) : ((0 : Int64) ≤ v.toInt64 ∧ v.toInt64 ≤ (nI m - nI 1).toInt64) ↔ inR v 0 ((m : Int) - 1) = true := by
  rw [w64, Int32.toInt_toInt64, pk_sub_toInt (by omega) (by decide)]
  exact inR_iff.symm
set_option maxHeartbeats 400000 in
set_option maxRecDepth 100000 in
theorem m_isOne (g : Gl) (p : Int32)  : Ct g yX4_isOne cX4_isOne 1 (some .boolean) (rk 1 25) [.int p] ([]) (fun r w2 => r = some (.int (bI (inR p 0 3 = true))) ∧ w2 = []) := by
  refine ct_of (by decide) (Nat.le_of_ble_eq_true rfl) ?_
  intro φ C0 Rr
  have C : Cx φ g cX4_isOne 1 RX4 (rk 1 25) := C0
  show Go φ g 1 0 [(0, .int p)] [] ([])
  refine g_iload_n (pc := 0) C dX4_isOne_0 rfl ?_
  refine g_i2l (pc := 1) C dX4_isOne_1 ?_
  refine g_lconst (pc := 2) (v := 0) C dX4_isOne_2 (by decide) ?_
  refine g_ldc2 (pc := 3) C dX4_isOne_3 ckl_X4_122 rfl ?_
  refine g_s0i (pc := 6) C dX4_isOne_6 ml_X4_47 mf_X4_in (m_in g ((p).toInt64) 0 (3)) ⟨rfl, rfl, (Nat.le_of_ble_eq_true rfl), (Nat.le_of_ble_eq_true rfl)⟩ rfl rfl (Nat.le_of_ble_eq_true rfl) ?_
  refine g_top (y := bI (inR p 0 3 = true)) (bI_iff (w64.trans inR_iff.symm)) ?_
  exact g_zret C Rr dX4_isOne_9 nar_bI ⟨rfl, rfl⟩ rfl
set_option maxHeartbeats 400000 in
set_option maxRecDepth 100000 in
theorem m_narrowed (g : Gl) (w : Nat) (v : Int64) (hw : w < 2 ^ 31) : Ct g yX4_narrowed cX4_narrowed 3 (some .long) (rk 0 0) [.int (nI w), .long v] ([]) (fun r w2 => r = some (.long (narW w v)) ∧ w2 = []) := by
  refine ct_of (by decide) (Nat.le_of_ble_eq_true rfl) ?_
  intro φ C0 Rr
  have C : Cx φ g cX4_narrowed 3 RX4 (rk 0 0) := C0
  show Go φ g 3 0 [(0, .int (nI w)), (1, .long v)] [] ([])
  refine g_iload_n (pc := 0) C dX4_narrowed_0 rfl ?_
  refine g_bipush (pc := 1) (v := nI 8) C dX4_narrowed_1 (by decide) ?_
  refine g_icmp_neN (pc := 3) (tgt := 13) C dX4_narrowed_3 (by decide) (by omega) (by omega) (fun c1 => ?_) (fun c1 => ?_)
  · refine g_iload_n (pc := 13) C dX4_narrowed_13 rfl ?_
    refine g_bipush (pc := 14) (v := nI 16) C dX4_narrowed_14 (by decide) ?_
    refine g_icmp_neN (pc := 16) (tgt := 26) C dX4_narrowed_16 (by decide) (by omega) (by omega) (fun c2 => ?_) (fun c2 => ?_)
    · refine g_lload_n (pc := 26) C dX4_narrowed_26 rfl ?_
      exact g_lret C Rr dX4_narrowed_27 ⟨by rw [narW, if_neg c1, if_neg c2], rfl⟩ rfl
    · refine g_lload_n (pc := 19) C dX4_narrowed_19 rfl ?_
      refine g_l2i (pc := 20) C dX4_narrowed_20 ?_
      refine g_i2s (pc := 21) C dX4_narrowed_21 ?_
      refine g_i2l (pc := 22) C dX4_narrowed_22 ?_
      refine g_goto (pc := 23) (tgt := 27) C dX4_narrowed_23 (by decide) ?_
      exact g_lret C Rr dX4_narrowed_27 ⟨by rw [narW, if_neg c1, if_pos c2], rfl⟩ rfl
  · refine g_lload_n (pc := 6) C dX4_narrowed_6 rfl ?_
    refine g_l2i (pc := 7) C dX4_narrowed_7 ?_
    refine g_i2b (pc := 8) C dX4_narrowed_8 ?_
    refine g_i2l (pc := 9) C dX4_narrowed_9 ?_
    refine g_goto (pc := 10) (tgt := 27) C dX4_narrowed_10 (by decide) ?_
    exact g_lret C Rr dX4_narrowed_27 ⟨by rw [narW, if_pos c1], rfl⟩ rfl
set_option maxHeartbeats 400000 in
set_option maxRecDepth 100000 in
theorem n_sheet (g : Gl) (a : Nat → Nat) (X : Xs) (J : Jm) (s : Int32) (b : Int32) (n : Int32) (hX : InvX X) (hJ : OkM X J) : Ct g yX4_sheet cX4_sheet 5 (some .int) (rk 2 45) [.ref (a 0), .int s, .int b, .int n] (mdX g a X J) (fun r w2 => ∃ J2, OkM (f_sheet X s b n).2 J2 ∧ r = some (.int (f_sheet X s b n).1) ∧ w2 = mdX g a (f_sheet X s b n).2 J2) := by
  obtain ⟨⟨mn, yr, gr, kd, pt, wt, mr⟩, ⟨⟨kmn, kyr, kgr, kkd, kpt, kwt, kmr⟩, kp⟩, ⟨tb, tn⟩, ⟨wd, sz, nm⟩, tl⟩ := X
  obtain ⟨kc, os, sd, tk, fr, to, vl, wr, mv⟩ := J
  obtain ⟨hB, hy, hkp, htb, htn, hwd, hsz⟩ := id hX
  obtain ⟨-, hTle, hgr, hkd, hpt, hwt, hmr, hyr, hmn⟩ := id hB
  refine ct_of (by decide) (Nat.le_of_ble_eq_true rfl) ?_
  intro φ C0 Rr
  have C : Cx φ g cX4_sheet 5 RX4 (rk 2 45) := C0
  show Go φ g 5 0 [(0, .ref (a 0)), (1, .int s), (2, .int b), (3, .int n)] [] (mdV g a (sF mn yr gr kd pt wt mr) kc os sd tl kp tk tb tn fr to vl wr wd sz (flat nm) mv)
  refine g_iload_n (pc := 0) C dX4_sheet_0 rfl ?_
  refine g_s0i (pc := 1) C dX4_sheet_1 ml_X4_278 mf_X4_isOne (m_isOne g s) ⟨rfl, rfl, (Nat.le_of_ble_eq_true rfl), (Nat.le_of_ble_eq_true rfl)⟩ rfl rfl (Nat.le_of_ble_eq_true rfl) ?_
  refine g_if_eqB (pc := 4) (tgt := 29) C dX4_sheet_4 (by decide) (fun c1 => ?_) (fun c1 => ?_)
  · refine g_aload_n (pc := 29) C dX4_sheet_29 rfl ?_
    refine g_ldc (pc := 30) C dX4_sheet_30 ck_X4_44 rfl ?_
    refine g_vxi (pc := 32) (ws2 := (mdV g a (sF mn yr gr kd pt wt mr) kc os sd (updN tl 0 (tl 0 + 1)) kp tk tb tn fr to vl wr wd sz (flat nm) mv)) C dX4_sheet_32 ml_X4_64 mf_X4_finds (m_finds g a (sF mn yr gr kd pt wt mr) kc os sd tl kp tk tb tn fr to vl wr wd sz (flat nm) mv 0 (by decide)) ⟨rfl, rfl, (Nat.le_of_ble_eq_true rfl), (Nat.le_of_ble_eq_true rfl)⟩ rfl rfl (Nat.le_of_ble_eq_true rfl) 0 rfl rfl rfl [0, 1, 2, 3, 4, 5, 6, 7, 8, 9, 10, 11] [] [0, 1, 2, 3, 4, 5, 6, 7, 8, 9, 10, 11] rfl rfl rfl rfl (by decide) rfl rfl ?_
    have hf : f_sheet ((mn, yr, gr, kd, pt, wt, mr), ((kmn, kyr, kgr, kkd, kpt, kwt, kmr), kp), (tb, tn), (wd, sz, nm), tl) s b n = ((fd 0), ((mn, yr, gr, kd, pt, wt, mr), ((kmn, kyr, kgr, kkd, kpt, kwt, kmr), kp), (tb, tn), (wd, sz, nm), updN tl 0 (tl 0 + 1))) := by simp [f_sheet, isWd, fnd, c1, show nI 0 = 0 from rfl]
    exact g_iret C Rr dX4_sheet_35 ⟨(kc, os, sd, tk, fr, to, vl, wr, mv), by rw [hf]; exact hJ, by rw [hf], by rw [hf]; rfl⟩ rfl
  · obtain ⟨s_, hl_s, hu_s, rfl⟩ := inR_nat (lo := 0) (hi := 3) c1
    refine g_iload_n (pc := 7) C dX4_sheet_7 rfl ?_
    refine g_if_eq (pc := 8) (tgt := 36) C dX4_sheet_8 (by decide) (fun c2 => ?_) (fun c2 => ?_)
    · obtain rfl : b = nI 0 := c2
      refine g_iload_n (pc := 36) C dX4_sheet_36 rfl ?_
      refine g_if_ge (pc := 37) (tgt := 48) C dX4_sheet_37 (by decide) (fun c3 => ?_) (fun c3 => ?_)
      · refine g_iload_n (pc := 48) C dX4_sheet_48 rfl ?_
        refine g_bipush (pc := 49) (v := nI 40) C dX4_sheet_49 (by decide) ?_
        refine g_icmp_le (pc := 51) (tgt := 61) C dX4_sheet_51 (by decide) (fun c4 => ?_) (fun c4 => ?_)
        · obtain ⟨n_, hu_n, rfl⟩ := le40 c3 c4
          refine g_aload_n (pc := 61) C dX4_sheet_61 rfl ?_
          refine g_get4 (pc := 62) C dX4_sheet_62 0 rfl 13 (by decide) fl_X4_31 rfl ?_
          refine g_iload_n (pc := 65) C dX4_sheet_65 rfl ?_
          refine g_iload_n (pc := 66) C dX4_sheet_66 rfl ?_
          refine g_iastM (pc := 67) (ws2 := (mdV g a (sF mn yr gr kd pt wt mr) kc os sd tl kp tk tb tn fr to vl wr (updN wd s_ 0) sz (flat nm) mv)) C dX4_sheet_67 8 rfl rfl (by omega) (by decide) rfl ?_
          refine g_aload_n (pc := 68) C dX4_sheet_68 rfl ?_
          refine g_get4 (pc := 69) C dX4_sheet_69 0 rfl 14 (by decide) fl_X4_34 rfl ?_
          refine g_iload_n (pc := 72) C dX4_sheet_72 rfl ?_
          refine g_iload_n (pc := 73) C dX4_sheet_73 rfl ?_
          refine g_if_neN (pc := 74) (tgt := 81) C dX4_sheet_74 (by decide) (by decide) (fun h => absurd h (by decide)) (fun _ => ?_)
          refine g_iconst (pc := 77) (v := nI 0) C dX4_sheet_77 (by decide) ?_
          refine g_goto (pc := 78) (tgt := 82) C dX4_sheet_78 (by decide) ?_
          refine g_iastM (pc := 82) (ws2 := (mdV g a (sF mn yr gr kd pt wt mr) kc os sd tl kp tk tb tn fr to vl wr (updN wd s_ 0) (updN sz s_ 0) (flat nm) mv)) C dX4_sheet_82 9 rfl rfl (by omega) (by decide) rfl ?_
          refine g_iconst (pc := 83) (v := nI 0) C dX4_sheet_83 (by decide) ?_
          refine g_istore (pc := 84) (lv2 := [(0, .ref (a 0)), (1, .int (nI s_)), (2, .int (nI 0)), (3, .int (nI n_)), (4, .int (nI 0))]) C dX4_sheet_84 (Nat.le_of_ble_eq_true rfl) rfl ?_
          refine g_loop1 (n := 40) (fun (i : Nat) (F : Nat → Int64) => ∀ k, F k = if 40 * s_ ≤ k ∧ k < 40 * s_ + i then 0 else flat nm k) (fun (i : Nat) (F : Nat → Int64) => [(0, .ref (a 0)), (1, .int (nI s_)), (2, .int (nI 0)), (3, .int (nI n_)), (4, .int (nI i))]) (fun (i : Nat) (F : Nat → Int64) => (mdV g a (sF mn yr gr kd pt wt mr) kc os sd tl kp tk tb tn fr to vl wr (updN wd s_ 0) (updN sz s_ 0) F mv)) ?_ 0 (flat nm) (by omega) (fun k => by rw [if_neg (by omega)])
          intro i F hi_i hv_i ih_i
          show Go φ g 5 86 [(0, .ref (a 0)), (1, .int (nI s_)), (2, .int (nI 0)), (3, .int (nI n_)), (4, .int (nI i))] [] (mdV g a (sF mn yr gr kd pt wt mr) kc os sd tl kp tk tb tn fr to vl wr (updN wd s_ 0) (updN sz s_ 0) F mv)
          have hv_i : ∀ k, F k = if 40 * s_ ≤ k ∧ k < 40 * s_ + i then 0 else flat nm k := hv_i
          refine g_iload (pc := 86) C dX4_sheet_86 rfl ?_
          refine g_bipush (pc := 88) (v := nI 40) C dX4_sheet_88 (by decide) ?_
          refine g_icmp_geN (pc := 90) (tgt := 112) C dX4_sheet_90 (by decide) (by omega) (by omega) (fun c6 => ?_) (fun c6 => ?_)
          · refine g_ws (ws := (mdV g a (sF mn yr gr kd pt wt mr) kc os sd tl kp tk tb tn fr to vl wr (updN wd s_ 0) (updN sz s_ 0) F mv)) (ws2 := (mdV g a (sF mn yr gr kd pt wt mr) kc os sd tl kp tk tb tn fr to vl wr (updN wd s_ 0) (updN sz s_ 0) (flat (updH nm s_ (fun _ => 0))) mv)) (by rw [flat_zero hv_i (by omega)]) ?_
            refine g_aload_n (pc := 112) C dX4_sheet_112 rfl ?_
            refine g_get4 (pc := 113) C dX4_sheet_113 0 rfl 14 (by decide) fl_X4_34 rfl ?_
            refine g_iload_n (pc := 116) C dX4_sheet_116 rfl ?_
            refine g_ialdM (pc := 117) C dX4_sheet_117 9 rfl rfl (by omega) (by decide) ?_
            refine g_top (y := nI 0) (by rw [updN_s]) ?_
            have hf : f_sheet ((mn, yr, gr, kd, pt, wt, mr), ((kmn, kyr, kgr, kkd, kpt, kwt, kmr), kp), (tb, tn), (wd, sz, nm), tl) (nI s_) (nI 0) (nI n_) = ((nI 0), ((mn, yr, gr, kd, pt, wt, mr), ((kmn, kyr, kgr, kkd, kpt, kwt, kmr), kp), (tb, tn), (updN wd s_ 0, updN sz s_ 0, updH nm s_ (fun _ => 0)), tl)) := by simp [f_sheet, isWd, fnd, c1, c3, c4, c6, Nat.not_lt.mpr c6, ix_nI (show s_ < 2 ^ 31 by omega), ix_nI (show n_ < 2 ^ 31 by omega), ix_nI (show 0 < 2 ^ 31 by decide)]
            exact g_iret C Rr dX4_sheet_118 ⟨(kc, os, sd, tk, fr, to, vl, wr, mv), by rw [hf]; exact hJ, by rw [hf], by rw [hf]; rfl⟩ rfl
          · refine g_aload_n (pc := 93) C dX4_sheet_93 rfl ?_
            refine g_get4 (pc := 94) C dX4_sheet_94 0 rfl 15 (by decide) fl_X4_37 rfl ?_
            refine g_bipush (pc := 97) (v := nI 40) C dX4_sheet_97 (by decide) ?_
            refine g_iload_n (pc := 99) C dX4_sheet_99 rfl ?_
            refine g_imulN (pc := 100) C dX4_sheet_100 ?_
            refine g_iload (pc := 101) C dX4_sheet_101 rfl ?_
            refine g_iaddN (pc := 103) C dX4_sheet_103 ?_
            refine g_lconst (pc := 104) (v := 0) C dX4_sheet_104 (by decide) ?_
            refine g_lastN (pc := 105) (ws2 := (mdV g a (sF mn yr gr kd pt wt mr) kc os sd tl kp tk tb tn fr to vl wr (updN wd s_ 0) (updN sz s_ 0) (vp_updL F ((40 * s_) + i) 0) mv)) C dX4_sheet_105 10 rfl rfl (by omega) (by decide) rfl ?_
            refine g_iinc (pc := 106) (v := (nI (i + 1))) (lv2 := [(0, .ref (a 0)), (1, .int (nI s_)), (2, .int (nI 0)), (3, .int (nI n_)), (4, .int (nI (i + 1)))]) C dX4_sheet_106 rfl (nI_1 _) (Nat.le_of_ble_eq_true rfl) rfl ?_
            refine g_goto (pc := 109) (tgt := 86) C dX4_sheet_109 (by decide) ?_
            exact ih_i _ (by omega) (fun k => by
              unfold vp_updL
              by_cases e : k = 40 * s_ + i
              · rw [if_pos e, if_pos (by omega)]
              · rw [if_neg e, hv_i k]
                simp only [show (40 * s_ ≤ k ∧ k < 40 * s_ + i) ↔ (40 * s_ ≤ k ∧ k < 40 * s_ + (i + 1)) by omega])
        · refine g_aload_n (pc := 54) C dX4_sheet_54 rfl ?_
          refine g_ldc (pc := 55) C dX4_sheet_55 ck_X4_44 rfl ?_
          refine g_vxi (pc := 57) (ws2 := (mdV g a (sF mn yr gr kd pt wt mr) kc os sd (updN tl 0 (tl 0 + 1)) kp tk tb tn fr to vl wr wd sz (flat nm) mv)) C dX4_sheet_57 ml_X4_64 mf_X4_finds (m_finds g a (sF mn yr gr kd pt wt mr) kc os sd tl kp tk tb tn fr to vl wr wd sz (flat nm) mv 0 (by decide)) ⟨rfl, rfl, (Nat.le_of_ble_eq_true rfl), (Nat.le_of_ble_eq_true rfl)⟩ rfl rfl (Nat.le_of_ble_eq_true rfl) 0 rfl rfl rfl [0, 1, 2, 3, 4, 5, 6, 7, 8, 9, 10, 11] [] [0, 1, 2, 3, 4, 5, 6, 7, 8, 9, 10, 11] rfl rfl rfl rfl (by decide) rfl rfl ?_
          have hf : f_sheet ((mn, yr, gr, kd, pt, wt, mr), ((kmn, kyr, kgr, kkd, kpt, kwt, kmr), kp), (tb, tn), (wd, sz, nm), tl) (nI s_) (nI 0) n = ((fd 0), ((mn, yr, gr, kd, pt, wt, mr), ((kmn, kyr, kgr, kkd, kpt, kwt, kmr), kp), (tb, tn), (wd, sz, nm), updN tl 0 (tl 0 + 1))) := by simp [f_sheet, isWd, fnd, c1, c3, c4, ix_nI (show s_ < 2 ^ 31 by omega), ix_nI (show 0 < 2 ^ 31 by decide)]
          exact g_iret C Rr dX4_sheet_60 ⟨(kc, os, sd, tk, fr, to, vl, wr, mv), by rw [hf]; exact hJ, by rw [hf], by rw [hf]; rfl⟩ rfl
      · refine g_aload_n (pc := 40) C dX4_sheet_40 rfl ?_
        refine g_ldc_w (pc := 41) C dX4_sheet_41 ck_X4_281 rfl ?_
        refine g_vxi (pc := 44) (ws2 := (mdV g a (sF mn yr gr kd pt wt mr) kc os sd (updN tl 6 (tl 6 + 1)) kp tk tb tn fr to vl wr wd sz (flat nm) mv)) C dX4_sheet_44 ml_X4_64 mf_X4_finds (m_finds g a (sF mn yr gr kd pt wt mr) kc os sd tl kp tk tb tn fr to vl wr wd sz (flat nm) mv 6 (by decide)) ⟨rfl, rfl, (Nat.le_of_ble_eq_true rfl), (Nat.le_of_ble_eq_true rfl)⟩ rfl rfl (Nat.le_of_ble_eq_true rfl) 0 rfl rfl rfl [0, 1, 2, 3, 4, 5, 6, 7, 8, 9, 10, 11] [] [0, 1, 2, 3, 4, 5, 6, 7, 8, 9, 10, 11] rfl rfl rfl rfl (by decide) rfl rfl ?_
        have hf : f_sheet ((mn, yr, gr, kd, pt, wt, mr), ((kmn, kyr, kgr, kkd, kpt, kwt, kmr), kp), (tb, tn), (wd, sz, nm), tl) (nI s_) (nI 0) n = ((fd 6), ((mn, yr, gr, kd, pt, wt, mr), ((kmn, kyr, kgr, kkd, kpt, kwt, kmr), kp), (tb, tn), (wd, sz, nm), updN tl 6 (tl 6 + 1))) := by simp [f_sheet, isWd, fnd, c1, c3, ix_nI (show s_ < 2 ^ 31 by omega), ix_nI (show 0 < 2 ^ 31 by decide)]
        exact g_iret C Rr dX4_sheet_47 ⟨(kc, os, sd, tk, fr, to, vl, wr, mv), by rw [hf]; exact hJ, by rw [hf], by rw [hf]; rfl⟩ rfl
    · refine g_iload_n (pc := 11) C dX4_sheet_11 rfl ?_
      refine g_bipush (pc := 12) (v := nI 8) C dX4_sheet_12 (by decide) ?_
      refine g_icmp_eq (pc := 14) (tgt := 36) C dX4_sheet_14 (by decide) (fun c7 => ?_) (fun c7 => ?_)
      · obtain rfl : b = nI 8 := c7
        refine g_iload_n (pc := 36) C dX4_sheet_36 rfl ?_
        refine g_if_ge (pc := 37) (tgt := 48) C dX4_sheet_37 (by decide) (fun c8 => ?_) (fun c8 => ?_)
        · refine g_iload_n (pc := 48) C dX4_sheet_48 rfl ?_
          refine g_bipush (pc := 49) (v := nI 40) C dX4_sheet_49 (by decide) ?_
          refine g_icmp_le (pc := 51) (tgt := 61) C dX4_sheet_51 (by decide) (fun c9 => ?_) (fun c9 => ?_)
          · obtain ⟨n_, hu_n, rfl⟩ := le40 c8 c9
            refine g_aload_n (pc := 61) C dX4_sheet_61 rfl ?_
            refine g_get4 (pc := 62) C dX4_sheet_62 0 rfl 13 (by decide) fl_X4_31 rfl ?_
            refine g_iload_n (pc := 65) C dX4_sheet_65 rfl ?_
            refine g_iload_n (pc := 66) C dX4_sheet_66 rfl ?_
            refine g_iastM (pc := 67) (ws2 := (mdV g a (sF mn yr gr kd pt wt mr) kc os sd tl kp tk tb tn fr to vl wr (updN wd s_ 8) sz (flat nm) mv)) C dX4_sheet_67 8 rfl rfl (by omega) (by decide) rfl ?_
            refine g_aload_n (pc := 68) C dX4_sheet_68 rfl ?_
            refine g_get4 (pc := 69) C dX4_sheet_69 0 rfl 14 (by decide) fl_X4_34 rfl ?_
            refine g_iload_n (pc := 72) C dX4_sheet_72 rfl ?_
            refine g_iload_n (pc := 73) C dX4_sheet_73 rfl ?_
            refine g_if_neN (pc := 74) (tgt := 81) C dX4_sheet_74 (by decide) (by decide) (fun _ => ?_) (fun h => absurd h (by decide))
            refine g_iload_n (pc := 81) C dX4_sheet_81 rfl ?_
            refine g_iastM (pc := 82) (ws2 := (mdV g a (sF mn yr gr kd pt wt mr) kc os sd tl kp tk tb tn fr to vl wr (updN wd s_ 8) (updN sz s_ n_) (flat nm) mv)) C dX4_sheet_82 9 rfl rfl (by omega) (by decide) rfl ?_
            refine g_iconst (pc := 83) (v := nI 0) C dX4_sheet_83 (by decide) ?_
            refine g_istore (pc := 84) (lv2 := [(0, .ref (a 0)), (1, .int (nI s_)), (2, .int (nI 8)), (3, .int (nI n_)), (4, .int (nI 0))]) C dX4_sheet_84 (Nat.le_of_ble_eq_true rfl) rfl ?_
            refine g_loop1 (n := 40) (fun (i : Nat) (F : Nat → Int64) => ∀ k, F k = if 40 * s_ ≤ k ∧ k < 40 * s_ + i then 0 else flat nm k) (fun (i : Nat) (F : Nat → Int64) => [(0, .ref (a 0)), (1, .int (nI s_)), (2, .int (nI 8)), (3, .int (nI n_)), (4, .int (nI i))]) (fun (i : Nat) (F : Nat → Int64) => (mdV g a (sF mn yr gr kd pt wt mr) kc os sd tl kp tk tb tn fr to vl wr (updN wd s_ 8) (updN sz s_ n_) F mv)) ?_ 0 (flat nm) (by omega) (fun k => by rw [if_neg (by omega)])
            intro i F hi_i hv_i ih_i
            show Go φ g 5 86 [(0, .ref (a 0)), (1, .int (nI s_)), (2, .int (nI 8)), (3, .int (nI n_)), (4, .int (nI i))] [] (mdV g a (sF mn yr gr kd pt wt mr) kc os sd tl kp tk tb tn fr to vl wr (updN wd s_ 8) (updN sz s_ n_) F mv)
            have hv_i : ∀ k, F k = if 40 * s_ ≤ k ∧ k < 40 * s_ + i then 0 else flat nm k := hv_i
            refine g_iload (pc := 86) C dX4_sheet_86 rfl ?_
            refine g_bipush (pc := 88) (v := nI 40) C dX4_sheet_88 (by decide) ?_
            refine g_icmp_geN (pc := 90) (tgt := 112) C dX4_sheet_90 (by decide) (by omega) (by omega) (fun c11 => ?_) (fun c11 => ?_)
            · refine g_ws (ws := (mdV g a (sF mn yr gr kd pt wt mr) kc os sd tl kp tk tb tn fr to vl wr (updN wd s_ 8) (updN sz s_ n_) F mv)) (ws2 := (mdV g a (sF mn yr gr kd pt wt mr) kc os sd tl kp tk tb tn fr to vl wr (updN wd s_ 8) (updN sz s_ n_) (flat (updH nm s_ (fun _ => 0))) mv)) (by rw [flat_zero hv_i (by omega)]) ?_
              refine g_aload_n (pc := 112) C dX4_sheet_112 rfl ?_
              refine g_get4 (pc := 113) C dX4_sheet_113 0 rfl 14 (by decide) fl_X4_34 rfl ?_
              refine g_iload_n (pc := 116) C dX4_sheet_116 rfl ?_
              refine g_ialdM (pc := 117) C dX4_sheet_117 9 rfl rfl (by omega) (by decide) ?_
              refine g_top (y := nI n_) (by rw [updN_s]) ?_
              have hf : f_sheet ((mn, yr, gr, kd, pt, wt, mr), ((kmn, kyr, kgr, kkd, kpt, kwt, kmr), kp), (tb, tn), (wd, sz, nm), tl) (nI s_) (nI 8) (nI n_) = ((nI n_), ((mn, yr, gr, kd, pt, wt, mr), ((kmn, kyr, kgr, kkd, kpt, kwt, kmr), kp), (tb, tn), (updN wd s_ 8, updN sz s_ n_, updH nm s_ (fun _ => 0)), tl)) := by simp [f_sheet, isWd, fnd, c1, c2, c8, c9, c11, Nat.not_lt.mpr c11, ix_nI (show s_ < 2 ^ 31 by omega), ix_nI (show n_ < 2 ^ 31 by omega), ix_nI (show 8 < 2 ^ 31 by decide)]
              exact g_iret C Rr dX4_sheet_118 ⟨(kc, os, sd, tk, fr, to, vl, wr, mv), by rw [hf]; exact hJ, by rw [hf], by rw [hf]; rfl⟩ rfl
            · refine g_aload_n (pc := 93) C dX4_sheet_93 rfl ?_
              refine g_get4 (pc := 94) C dX4_sheet_94 0 rfl 15 (by decide) fl_X4_37 rfl ?_
              refine g_bipush (pc := 97) (v := nI 40) C dX4_sheet_97 (by decide) ?_
              refine g_iload_n (pc := 99) C dX4_sheet_99 rfl ?_
              refine g_imulN (pc := 100) C dX4_sheet_100 ?_
              refine g_iload (pc := 101) C dX4_sheet_101 rfl ?_
              refine g_iaddN (pc := 103) C dX4_sheet_103 ?_
              refine g_lconst (pc := 104) (v := 0) C dX4_sheet_104 (by decide) ?_
              refine g_lastN (pc := 105) (ws2 := (mdV g a (sF mn yr gr kd pt wt mr) kc os sd tl kp tk tb tn fr to vl wr (updN wd s_ 8) (updN sz s_ n_) (vp_updL F ((40 * s_) + i) 0) mv)) C dX4_sheet_105 10 rfl rfl (by omega) (by decide) rfl ?_
              refine g_iinc (pc := 106) (v := (nI (i + 1))) (lv2 := [(0, .ref (a 0)), (1, .int (nI s_)), (2, .int (nI 8)), (3, .int (nI n_)), (4, .int (nI (i + 1)))]) C dX4_sheet_106 rfl (nI_1 _) (Nat.le_of_ble_eq_true rfl) rfl ?_
              refine g_goto (pc := 109) (tgt := 86) C dX4_sheet_109 (by decide) ?_
              exact ih_i _ (by omega) (fun k => by
                unfold vp_updL
                by_cases e : k = 40 * s_ + i
                · rw [if_pos e, if_pos (by omega)]
                · rw [if_neg e, hv_i k]
                  simp only [show (40 * s_ ≤ k ∧ k < 40 * s_ + i) ↔ (40 * s_ ≤ k ∧ k < 40 * s_ + (i + 1)) by omega])
          · refine g_aload_n (pc := 54) C dX4_sheet_54 rfl ?_
            refine g_ldc (pc := 55) C dX4_sheet_55 ck_X4_44 rfl ?_
            refine g_vxi (pc := 57) (ws2 := (mdV g a (sF mn yr gr kd pt wt mr) kc os sd (updN tl 0 (tl 0 + 1)) kp tk tb tn fr to vl wr wd sz (flat nm) mv)) C dX4_sheet_57 ml_X4_64 mf_X4_finds (m_finds g a (sF mn yr gr kd pt wt mr) kc os sd tl kp tk tb tn fr to vl wr wd sz (flat nm) mv 0 (by decide)) ⟨rfl, rfl, (Nat.le_of_ble_eq_true rfl), (Nat.le_of_ble_eq_true rfl)⟩ rfl rfl (Nat.le_of_ble_eq_true rfl) 0 rfl rfl rfl [0, 1, 2, 3, 4, 5, 6, 7, 8, 9, 10, 11] [] [0, 1, 2, 3, 4, 5, 6, 7, 8, 9, 10, 11] rfl rfl rfl rfl (by decide) rfl rfl ?_
            have hf : f_sheet ((mn, yr, gr, kd, pt, wt, mr), ((kmn, kyr, kgr, kkd, kpt, kwt, kmr), kp), (tb, tn), (wd, sz, nm), tl) (nI s_) (nI 8) n = ((fd 0), ((mn, yr, gr, kd, pt, wt, mr), ((kmn, kyr, kgr, kkd, kpt, kwt, kmr), kp), (tb, tn), (wd, sz, nm), updN tl 0 (tl 0 + 1))) := by simp [f_sheet, isWd, fnd, c1, c2, c8, c9, ix_nI (show s_ < 2 ^ 31 by omega), ix_nI (show 8 < 2 ^ 31 by decide)]
            exact g_iret C Rr dX4_sheet_60 ⟨(kc, os, sd, tk, fr, to, vl, wr, mv), by rw [hf]; exact hJ, by rw [hf], by rw [hf]; rfl⟩ rfl
        · refine g_aload_n (pc := 40) C dX4_sheet_40 rfl ?_
          refine g_ldc_w (pc := 41) C dX4_sheet_41 ck_X4_281 rfl ?_
          refine g_vxi (pc := 44) (ws2 := (mdV g a (sF mn yr gr kd pt wt mr) kc os sd (updN tl 6 (tl 6 + 1)) kp tk tb tn fr to vl wr wd sz (flat nm) mv)) C dX4_sheet_44 ml_X4_64 mf_X4_finds (m_finds g a (sF mn yr gr kd pt wt mr) kc os sd tl kp tk tb tn fr to vl wr wd sz (flat nm) mv 6 (by decide)) ⟨rfl, rfl, (Nat.le_of_ble_eq_true rfl), (Nat.le_of_ble_eq_true rfl)⟩ rfl rfl (Nat.le_of_ble_eq_true rfl) 0 rfl rfl rfl [0, 1, 2, 3, 4, 5, 6, 7, 8, 9, 10, 11] [] [0, 1, 2, 3, 4, 5, 6, 7, 8, 9, 10, 11] rfl rfl rfl rfl (by decide) rfl rfl ?_
          have hf : f_sheet ((mn, yr, gr, kd, pt, wt, mr), ((kmn, kyr, kgr, kkd, kpt, kwt, kmr), kp), (tb, tn), (wd, sz, nm), tl) (nI s_) (nI 8) n = ((fd 6), ((mn, yr, gr, kd, pt, wt, mr), ((kmn, kyr, kgr, kkd, kpt, kwt, kmr), kp), (tb, tn), (wd, sz, nm), updN tl 6 (tl 6 + 1))) := by simp [f_sheet, isWd, fnd, c1, c2, c8, ix_nI (show s_ < 2 ^ 31 by omega), ix_nI (show 8 < 2 ^ 31 by decide)]
          exact g_iret C Rr dX4_sheet_47 ⟨(kc, os, sd, tk, fr, to, vl, wr, mv), by rw [hf]; exact hJ, by rw [hf], by rw [hf]; rfl⟩ rfl
      · refine g_iload_n (pc := 17) C dX4_sheet_17 rfl ?_
        refine g_bipush (pc := 18) (v := nI 16) C dX4_sheet_18 (by decide) ?_
        refine g_icmp_eq (pc := 20) (tgt := 36) C dX4_sheet_20 (by decide) (fun c12 => ?_) (fun c12 => ?_)
        · obtain rfl : b = nI 16 := c12
          refine g_iload_n (pc := 36) C dX4_sheet_36 rfl ?_
          refine g_if_ge (pc := 37) (tgt := 48) C dX4_sheet_37 (by decide) (fun c13 => ?_) (fun c13 => ?_)
          · refine g_iload_n (pc := 48) C dX4_sheet_48 rfl ?_
            refine g_bipush (pc := 49) (v := nI 40) C dX4_sheet_49 (by decide) ?_
            refine g_icmp_le (pc := 51) (tgt := 61) C dX4_sheet_51 (by decide) (fun c14 => ?_) (fun c14 => ?_)
            · obtain ⟨n_, hu_n, rfl⟩ := le40 c13 c14
              refine g_aload_n (pc := 61) C dX4_sheet_61 rfl ?_
              refine g_get4 (pc := 62) C dX4_sheet_62 0 rfl 13 (by decide) fl_X4_31 rfl ?_
              refine g_iload_n (pc := 65) C dX4_sheet_65 rfl ?_
              refine g_iload_n (pc := 66) C dX4_sheet_66 rfl ?_
              refine g_iastM (pc := 67) (ws2 := (mdV g a (sF mn yr gr kd pt wt mr) kc os sd tl kp tk tb tn fr to vl wr (updN wd s_ 16) sz (flat nm) mv)) C dX4_sheet_67 8 rfl rfl (by omega) (by decide) rfl ?_
              refine g_aload_n (pc := 68) C dX4_sheet_68 rfl ?_
              refine g_get4 (pc := 69) C dX4_sheet_69 0 rfl 14 (by decide) fl_X4_34 rfl ?_
              refine g_iload_n (pc := 72) C dX4_sheet_72 rfl ?_
              refine g_iload_n (pc := 73) C dX4_sheet_73 rfl ?_
              refine g_if_neN (pc := 74) (tgt := 81) C dX4_sheet_74 (by decide) (by decide) (fun _ => ?_) (fun h => absurd h (by decide))
              refine g_iload_n (pc := 81) C dX4_sheet_81 rfl ?_
              refine g_iastM (pc := 82) (ws2 := (mdV g a (sF mn yr gr kd pt wt mr) kc os sd tl kp tk tb tn fr to vl wr (updN wd s_ 16) (updN sz s_ n_) (flat nm) mv)) C dX4_sheet_82 9 rfl rfl (by omega) (by decide) rfl ?_
              refine g_iconst (pc := 83) (v := nI 0) C dX4_sheet_83 (by decide) ?_
              refine g_istore (pc := 84) (lv2 := [(0, .ref (a 0)), (1, .int (nI s_)), (2, .int (nI 16)), (3, .int (nI n_)), (4, .int (nI 0))]) C dX4_sheet_84 (Nat.le_of_ble_eq_true rfl) rfl ?_
              refine g_loop1 (n := 40) (fun (i : Nat) (F : Nat → Int64) => ∀ k, F k = if 40 * s_ ≤ k ∧ k < 40 * s_ + i then 0 else flat nm k) (fun (i : Nat) (F : Nat → Int64) => [(0, .ref (a 0)), (1, .int (nI s_)), (2, .int (nI 16)), (3, .int (nI n_)), (4, .int (nI i))]) (fun (i : Nat) (F : Nat → Int64) => (mdV g a (sF mn yr gr kd pt wt mr) kc os sd tl kp tk tb tn fr to vl wr (updN wd s_ 16) (updN sz s_ n_) F mv)) ?_ 0 (flat nm) (by omega) (fun k => by rw [if_neg (by omega)])
              intro i F hi_i hv_i ih_i
              show Go φ g 5 86 [(0, .ref (a 0)), (1, .int (nI s_)), (2, .int (nI 16)), (3, .int (nI n_)), (4, .int (nI i))] [] (mdV g a (sF mn yr gr kd pt wt mr) kc os sd tl kp tk tb tn fr to vl wr (updN wd s_ 16) (updN sz s_ n_) F mv)
              have hv_i : ∀ k, F k = if 40 * s_ ≤ k ∧ k < 40 * s_ + i then 0 else flat nm k := hv_i
              refine g_iload (pc := 86) C dX4_sheet_86 rfl ?_
              refine g_bipush (pc := 88) (v := nI 40) C dX4_sheet_88 (by decide) ?_
              refine g_icmp_geN (pc := 90) (tgt := 112) C dX4_sheet_90 (by decide) (by omega) (by omega) (fun c16 => ?_) (fun c16 => ?_)
              · refine g_ws (ws := (mdV g a (sF mn yr gr kd pt wt mr) kc os sd tl kp tk tb tn fr to vl wr (updN wd s_ 16) (updN sz s_ n_) F mv)) (ws2 := (mdV g a (sF mn yr gr kd pt wt mr) kc os sd tl kp tk tb tn fr to vl wr (updN wd s_ 16) (updN sz s_ n_) (flat (updH nm s_ (fun _ => 0))) mv)) (by rw [flat_zero hv_i (by omega)]) ?_
                refine g_aload_n (pc := 112) C dX4_sheet_112 rfl ?_
                refine g_get4 (pc := 113) C dX4_sheet_113 0 rfl 14 (by decide) fl_X4_34 rfl ?_
                refine g_iload_n (pc := 116) C dX4_sheet_116 rfl ?_
                refine g_ialdM (pc := 117) C dX4_sheet_117 9 rfl rfl (by omega) (by decide) ?_
                refine g_top (y := nI n_) (by rw [updN_s]) ?_
                have hf : f_sheet ((mn, yr, gr, kd, pt, wt, mr), ((kmn, kyr, kgr, kkd, kpt, kwt, kmr), kp), (tb, tn), (wd, sz, nm), tl) (nI s_) (nI 16) (nI n_) = ((nI n_), ((mn, yr, gr, kd, pt, wt, mr), ((kmn, kyr, kgr, kkd, kpt, kwt, kmr), kp), (tb, tn), (updN wd s_ 16, updN sz s_ n_, updH nm s_ (fun _ => 0)), tl)) := by simp [f_sheet, isWd, fnd, c1, c2, c7, c13, c14, c16, Nat.not_lt.mpr c16, ix_nI (show s_ < 2 ^ 31 by omega), ix_nI (show n_ < 2 ^ 31 by omega), ix_nI (show 16 < 2 ^ 31 by decide)]
                exact g_iret C Rr dX4_sheet_118 ⟨(kc, os, sd, tk, fr, to, vl, wr, mv), by rw [hf]; exact hJ, by rw [hf], by rw [hf]; rfl⟩ rfl
              · refine g_aload_n (pc := 93) C dX4_sheet_93 rfl ?_
                refine g_get4 (pc := 94) C dX4_sheet_94 0 rfl 15 (by decide) fl_X4_37 rfl ?_
                refine g_bipush (pc := 97) (v := nI 40) C dX4_sheet_97 (by decide) ?_
                refine g_iload_n (pc := 99) C dX4_sheet_99 rfl ?_
                refine g_imulN (pc := 100) C dX4_sheet_100 ?_
                refine g_iload (pc := 101) C dX4_sheet_101 rfl ?_
                refine g_iaddN (pc := 103) C dX4_sheet_103 ?_
                refine g_lconst (pc := 104) (v := 0) C dX4_sheet_104 (by decide) ?_
                refine g_lastN (pc := 105) (ws2 := (mdV g a (sF mn yr gr kd pt wt mr) kc os sd tl kp tk tb tn fr to vl wr (updN wd s_ 16) (updN sz s_ n_) (vp_updL F ((40 * s_) + i) 0) mv)) C dX4_sheet_105 10 rfl rfl (by omega) (by decide) rfl ?_
                refine g_iinc (pc := 106) (v := (nI (i + 1))) (lv2 := [(0, .ref (a 0)), (1, .int (nI s_)), (2, .int (nI 16)), (3, .int (nI n_)), (4, .int (nI (i + 1)))]) C dX4_sheet_106 rfl (nI_1 _) (Nat.le_of_ble_eq_true rfl) rfl ?_
                refine g_goto (pc := 109) (tgt := 86) C dX4_sheet_109 (by decide) ?_
                exact ih_i _ (by omega) (fun k => by
                  unfold vp_updL
                  by_cases e : k = 40 * s_ + i
                  · rw [if_pos e, if_pos (by omega)]
                  · rw [if_neg e, hv_i k]
                    simp only [show (40 * s_ ≤ k ∧ k < 40 * s_ + i) ↔ (40 * s_ ≤ k ∧ k < 40 * s_ + (i + 1)) by omega])
            · refine g_aload_n (pc := 54) C dX4_sheet_54 rfl ?_
              refine g_ldc (pc := 55) C dX4_sheet_55 ck_X4_44 rfl ?_
              refine g_vxi (pc := 57) (ws2 := (mdV g a (sF mn yr gr kd pt wt mr) kc os sd (updN tl 0 (tl 0 + 1)) kp tk tb tn fr to vl wr wd sz (flat nm) mv)) C dX4_sheet_57 ml_X4_64 mf_X4_finds (m_finds g a (sF mn yr gr kd pt wt mr) kc os sd tl kp tk tb tn fr to vl wr wd sz (flat nm) mv 0 (by decide)) ⟨rfl, rfl, (Nat.le_of_ble_eq_true rfl), (Nat.le_of_ble_eq_true rfl)⟩ rfl rfl (Nat.le_of_ble_eq_true rfl) 0 rfl rfl rfl [0, 1, 2, 3, 4, 5, 6, 7, 8, 9, 10, 11] [] [0, 1, 2, 3, 4, 5, 6, 7, 8, 9, 10, 11] rfl rfl rfl rfl (by decide) rfl rfl ?_
              have hf : f_sheet ((mn, yr, gr, kd, pt, wt, mr), ((kmn, kyr, kgr, kkd, kpt, kwt, kmr), kp), (tb, tn), (wd, sz, nm), tl) (nI s_) (nI 16) n = ((fd 0), ((mn, yr, gr, kd, pt, wt, mr), ((kmn, kyr, kgr, kkd, kpt, kwt, kmr), kp), (tb, tn), (wd, sz, nm), updN tl 0 (tl 0 + 1))) := by simp [f_sheet, isWd, fnd, c1, c2, c7, c13, c14, ix_nI (show s_ < 2 ^ 31 by omega), ix_nI (show 16 < 2 ^ 31 by decide)]
              exact g_iret C Rr dX4_sheet_60 ⟨(kc, os, sd, tk, fr, to, vl, wr, mv), by rw [hf]; exact hJ, by rw [hf], by rw [hf]; rfl⟩ rfl
          · refine g_aload_n (pc := 40) C dX4_sheet_40 rfl ?_
            refine g_ldc_w (pc := 41) C dX4_sheet_41 ck_X4_281 rfl ?_
            refine g_vxi (pc := 44) (ws2 := (mdV g a (sF mn yr gr kd pt wt mr) kc os sd (updN tl 6 (tl 6 + 1)) kp tk tb tn fr to vl wr wd sz (flat nm) mv)) C dX4_sheet_44 ml_X4_64 mf_X4_finds (m_finds g a (sF mn yr gr kd pt wt mr) kc os sd tl kp tk tb tn fr to vl wr wd sz (flat nm) mv 6 (by decide)) ⟨rfl, rfl, (Nat.le_of_ble_eq_true rfl), (Nat.le_of_ble_eq_true rfl)⟩ rfl rfl (Nat.le_of_ble_eq_true rfl) 0 rfl rfl rfl [0, 1, 2, 3, 4, 5, 6, 7, 8, 9, 10, 11] [] [0, 1, 2, 3, 4, 5, 6, 7, 8, 9, 10, 11] rfl rfl rfl rfl (by decide) rfl rfl ?_
            have hf : f_sheet ((mn, yr, gr, kd, pt, wt, mr), ((kmn, kyr, kgr, kkd, kpt, kwt, kmr), kp), (tb, tn), (wd, sz, nm), tl) (nI s_) (nI 16) n = ((fd 6), ((mn, yr, gr, kd, pt, wt, mr), ((kmn, kyr, kgr, kkd, kpt, kwt, kmr), kp), (tb, tn), (wd, sz, nm), updN tl 6 (tl 6 + 1))) := by simp [f_sheet, isWd, fnd, c1, c2, c7, c13, ix_nI (show s_ < 2 ^ 31 by omega), ix_nI (show 16 < 2 ^ 31 by decide)]
            exact g_iret C Rr dX4_sheet_47 ⟨(kc, os, sd, tk, fr, to, vl, wr, mv), by rw [hf]; exact hJ, by rw [hf], by rw [hf]; rfl⟩ rfl
        · refine g_iload_n (pc := 23) C dX4_sheet_23 rfl ?_
          refine g_bipush (pc := 24) (v := nI 64) C dX4_sheet_24 (by decide) ?_
          refine g_icmp_eq (pc := 26) (tgt := 36) C dX4_sheet_26 (by decide) (fun c17 => ?_) (fun c17 => ?_)
          · obtain rfl : b = nI 64 := c17
            refine g_iload_n (pc := 36) C dX4_sheet_36 rfl ?_
            refine g_if_ge (pc := 37) (tgt := 48) C dX4_sheet_37 (by decide) (fun c18 => ?_) (fun c18 => ?_)
            · refine g_iload_n (pc := 48) C dX4_sheet_48 rfl ?_
              refine g_bipush (pc := 49) (v := nI 40) C dX4_sheet_49 (by decide) ?_
              refine g_icmp_le (pc := 51) (tgt := 61) C dX4_sheet_51 (by decide) (fun c19 => ?_) (fun c19 => ?_)
              · obtain ⟨n_, hu_n, rfl⟩ := le40 c18 c19
                refine g_aload_n (pc := 61) C dX4_sheet_61 rfl ?_
                refine g_get4 (pc := 62) C dX4_sheet_62 0 rfl 13 (by decide) fl_X4_31 rfl ?_
                refine g_iload_n (pc := 65) C dX4_sheet_65 rfl ?_
                refine g_iload_n (pc := 66) C dX4_sheet_66 rfl ?_
                refine g_iastM (pc := 67) (ws2 := (mdV g a (sF mn yr gr kd pt wt mr) kc os sd tl kp tk tb tn fr to vl wr (updN wd s_ 64) sz (flat nm) mv)) C dX4_sheet_67 8 rfl rfl (by omega) (by decide) rfl ?_
                refine g_aload_n (pc := 68) C dX4_sheet_68 rfl ?_
                refine g_get4 (pc := 69) C dX4_sheet_69 0 rfl 14 (by decide) fl_X4_34 rfl ?_
                refine g_iload_n (pc := 72) C dX4_sheet_72 rfl ?_
                refine g_iload_n (pc := 73) C dX4_sheet_73 rfl ?_
                refine g_if_neN (pc := 74) (tgt := 81) C dX4_sheet_74 (by decide) (by decide) (fun _ => ?_) (fun h => absurd h (by decide))
                refine g_iload_n (pc := 81) C dX4_sheet_81 rfl ?_
                refine g_iastM (pc := 82) (ws2 := (mdV g a (sF mn yr gr kd pt wt mr) kc os sd tl kp tk tb tn fr to vl wr (updN wd s_ 64) (updN sz s_ n_) (flat nm) mv)) C dX4_sheet_82 9 rfl rfl (by omega) (by decide) rfl ?_
                refine g_iconst (pc := 83) (v := nI 0) C dX4_sheet_83 (by decide) ?_
                refine g_istore (pc := 84) (lv2 := [(0, .ref (a 0)), (1, .int (nI s_)), (2, .int (nI 64)), (3, .int (nI n_)), (4, .int (nI 0))]) C dX4_sheet_84 (Nat.le_of_ble_eq_true rfl) rfl ?_
                refine g_loop1 (n := 40) (fun (i : Nat) (F : Nat → Int64) => ∀ k, F k = if 40 * s_ ≤ k ∧ k < 40 * s_ + i then 0 else flat nm k) (fun (i : Nat) (F : Nat → Int64) => [(0, .ref (a 0)), (1, .int (nI s_)), (2, .int (nI 64)), (3, .int (nI n_)), (4, .int (nI i))]) (fun (i : Nat) (F : Nat → Int64) => (mdV g a (sF mn yr gr kd pt wt mr) kc os sd tl kp tk tb tn fr to vl wr (updN wd s_ 64) (updN sz s_ n_) F mv)) ?_ 0 (flat nm) (by omega) (fun k => by rw [if_neg (by omega)])
                intro i F hi_i hv_i ih_i
                show Go φ g 5 86 [(0, .ref (a 0)), (1, .int (nI s_)), (2, .int (nI 64)), (3, .int (nI n_)), (4, .int (nI i))] [] (mdV g a (sF mn yr gr kd pt wt mr) kc os sd tl kp tk tb tn fr to vl wr (updN wd s_ 64) (updN sz s_ n_) F mv)
                have hv_i : ∀ k, F k = if 40 * s_ ≤ k ∧ k < 40 * s_ + i then 0 else flat nm k := hv_i
                refine g_iload (pc := 86) C dX4_sheet_86 rfl ?_
                refine g_bipush (pc := 88) (v := nI 40) C dX4_sheet_88 (by decide) ?_
                refine g_icmp_geN (pc := 90) (tgt := 112) C dX4_sheet_90 (by decide) (by omega) (by omega) (fun c21 => ?_) (fun c21 => ?_)
                · refine g_ws (ws := (mdV g a (sF mn yr gr kd pt wt mr) kc os sd tl kp tk tb tn fr to vl wr (updN wd s_ 64) (updN sz s_ n_) F mv)) (ws2 := (mdV g a (sF mn yr gr kd pt wt mr) kc os sd tl kp tk tb tn fr to vl wr (updN wd s_ 64) (updN sz s_ n_) (flat (updH nm s_ (fun _ => 0))) mv)) (by rw [flat_zero hv_i (by omega)]) ?_
                  refine g_aload_n (pc := 112) C dX4_sheet_112 rfl ?_
                  refine g_get4 (pc := 113) C dX4_sheet_113 0 rfl 14 (by decide) fl_X4_34 rfl ?_
                  refine g_iload_n (pc := 116) C dX4_sheet_116 rfl ?_
                  refine g_ialdM (pc := 117) C dX4_sheet_117 9 rfl rfl (by omega) (by decide) ?_
                  refine g_top (y := nI n_) (by rw [updN_s]) ?_
                  have hf : f_sheet ((mn, yr, gr, kd, pt, wt, mr), ((kmn, kyr, kgr, kkd, kpt, kwt, kmr), kp), (tb, tn), (wd, sz, nm), tl) (nI s_) (nI 64) (nI n_) = ((nI n_), ((mn, yr, gr, kd, pt, wt, mr), ((kmn, kyr, kgr, kkd, kpt, kwt, kmr), kp), (tb, tn), (updN wd s_ 64, updN sz s_ n_, updH nm s_ (fun _ => 0)), tl)) := by simp [f_sheet, isWd, fnd, c1, c2, c7, c12, c18, c19, c21, Nat.not_lt.mpr c21, ix_nI (show s_ < 2 ^ 31 by omega), ix_nI (show n_ < 2 ^ 31 by omega), ix_nI (show 64 < 2 ^ 31 by decide)]
                  exact g_iret C Rr dX4_sheet_118 ⟨(kc, os, sd, tk, fr, to, vl, wr, mv), by rw [hf]; exact hJ, by rw [hf], by rw [hf]; rfl⟩ rfl
                · refine g_aload_n (pc := 93) C dX4_sheet_93 rfl ?_
                  refine g_get4 (pc := 94) C dX4_sheet_94 0 rfl 15 (by decide) fl_X4_37 rfl ?_
                  refine g_bipush (pc := 97) (v := nI 40) C dX4_sheet_97 (by decide) ?_
                  refine g_iload_n (pc := 99) C dX4_sheet_99 rfl ?_
                  refine g_imulN (pc := 100) C dX4_sheet_100 ?_
                  refine g_iload (pc := 101) C dX4_sheet_101 rfl ?_
                  refine g_iaddN (pc := 103) C dX4_sheet_103 ?_
                  refine g_lconst (pc := 104) (v := 0) C dX4_sheet_104 (by decide) ?_
                  refine g_lastN (pc := 105) (ws2 := (mdV g a (sF mn yr gr kd pt wt mr) kc os sd tl kp tk tb tn fr to vl wr (updN wd s_ 64) (updN sz s_ n_) (vp_updL F ((40 * s_) + i) 0) mv)) C dX4_sheet_105 10 rfl rfl (by omega) (by decide) rfl ?_
                  refine g_iinc (pc := 106) (v := (nI (i + 1))) (lv2 := [(0, .ref (a 0)), (1, .int (nI s_)), (2, .int (nI 64)), (3, .int (nI n_)), (4, .int (nI (i + 1)))]) C dX4_sheet_106 rfl (nI_1 _) (Nat.le_of_ble_eq_true rfl) rfl ?_
                  refine g_goto (pc := 109) (tgt := 86) C dX4_sheet_109 (by decide) ?_
                  exact ih_i _ (by omega) (fun k => by
                    unfold vp_updL
                    by_cases e : k = 40 * s_ + i
                    · rw [if_pos e, if_pos (by omega)]
                    · rw [if_neg e, hv_i k]
                      simp only [show (40 * s_ ≤ k ∧ k < 40 * s_ + i) ↔ (40 * s_ ≤ k ∧ k < 40 * s_ + (i + 1)) by omega])
              · refine g_aload_n (pc := 54) C dX4_sheet_54 rfl ?_
                refine g_ldc (pc := 55) C dX4_sheet_55 ck_X4_44 rfl ?_
                refine g_vxi (pc := 57) (ws2 := (mdV g a (sF mn yr gr kd pt wt mr) kc os sd (updN tl 0 (tl 0 + 1)) kp tk tb tn fr to vl wr wd sz (flat nm) mv)) C dX4_sheet_57 ml_X4_64 mf_X4_finds (m_finds g a (sF mn yr gr kd pt wt mr) kc os sd tl kp tk tb tn fr to vl wr wd sz (flat nm) mv 0 (by decide)) ⟨rfl, rfl, (Nat.le_of_ble_eq_true rfl), (Nat.le_of_ble_eq_true rfl)⟩ rfl rfl (Nat.le_of_ble_eq_true rfl) 0 rfl rfl rfl [0, 1, 2, 3, 4, 5, 6, 7, 8, 9, 10, 11] [] [0, 1, 2, 3, 4, 5, 6, 7, 8, 9, 10, 11] rfl rfl rfl rfl (by decide) rfl rfl ?_
                have hf : f_sheet ((mn, yr, gr, kd, pt, wt, mr), ((kmn, kyr, kgr, kkd, kpt, kwt, kmr), kp), (tb, tn), (wd, sz, nm), tl) (nI s_) (nI 64) n = ((fd 0), ((mn, yr, gr, kd, pt, wt, mr), ((kmn, kyr, kgr, kkd, kpt, kwt, kmr), kp), (tb, tn), (wd, sz, nm), updN tl 0 (tl 0 + 1))) := by simp [f_sheet, isWd, fnd, c1, c2, c7, c12, c18, c19, ix_nI (show s_ < 2 ^ 31 by omega), ix_nI (show 64 < 2 ^ 31 by decide)]
                exact g_iret C Rr dX4_sheet_60 ⟨(kc, os, sd, tk, fr, to, vl, wr, mv), by rw [hf]; exact hJ, by rw [hf], by rw [hf]; rfl⟩ rfl
            · refine g_aload_n (pc := 40) C dX4_sheet_40 rfl ?_
              refine g_ldc_w (pc := 41) C dX4_sheet_41 ck_X4_281 rfl ?_
              refine g_vxi (pc := 44) (ws2 := (mdV g a (sF mn yr gr kd pt wt mr) kc os sd (updN tl 6 (tl 6 + 1)) kp tk tb tn fr to vl wr wd sz (flat nm) mv)) C dX4_sheet_44 ml_X4_64 mf_X4_finds (m_finds g a (sF mn yr gr kd pt wt mr) kc os sd tl kp tk tb tn fr to vl wr wd sz (flat nm) mv 6 (by decide)) ⟨rfl, rfl, (Nat.le_of_ble_eq_true rfl), (Nat.le_of_ble_eq_true rfl)⟩ rfl rfl (Nat.le_of_ble_eq_true rfl) 0 rfl rfl rfl [0, 1, 2, 3, 4, 5, 6, 7, 8, 9, 10, 11] [] [0, 1, 2, 3, 4, 5, 6, 7, 8, 9, 10, 11] rfl rfl rfl rfl (by decide) rfl rfl ?_
              have hf : f_sheet ((mn, yr, gr, kd, pt, wt, mr), ((kmn, kyr, kgr, kkd, kpt, kwt, kmr), kp), (tb, tn), (wd, sz, nm), tl) (nI s_) (nI 64) n = ((fd 6), ((mn, yr, gr, kd, pt, wt, mr), ((kmn, kyr, kgr, kkd, kpt, kwt, kmr), kp), (tb, tn), (wd, sz, nm), updN tl 6 (tl 6 + 1))) := by simp [f_sheet, isWd, fnd, c1, c2, c7, c12, c18, ix_nI (show s_ < 2 ^ 31 by omega), ix_nI (show 64 < 2 ^ 31 by decide)]
              exact g_iret C Rr dX4_sheet_47 ⟨(kc, os, sd, tk, fr, to, vl, wr, mv), by rw [hf]; exact hJ, by rw [hf], by rw [hf]; rfl⟩ rfl
          · refine g_aload_n (pc := 29) C dX4_sheet_29 rfl ?_
            refine g_ldc (pc := 30) C dX4_sheet_30 ck_X4_44 rfl ?_
            refine g_vxi (pc := 32) (ws2 := (mdV g a (sF mn yr gr kd pt wt mr) kc os sd (updN tl 0 (tl 0 + 1)) kp tk tb tn fr to vl wr wd sz (flat nm) mv)) C dX4_sheet_32 ml_X4_64 mf_X4_finds (m_finds g a (sF mn yr gr kd pt wt mr) kc os sd tl kp tk tb tn fr to vl wr wd sz (flat nm) mv 0 (by decide)) ⟨rfl, rfl, (Nat.le_of_ble_eq_true rfl), (Nat.le_of_ble_eq_true rfl)⟩ rfl rfl (Nat.le_of_ble_eq_true rfl) 0 rfl rfl rfl [0, 1, 2, 3, 4, 5, 6, 7, 8, 9, 10, 11] [] [0, 1, 2, 3, 4, 5, 6, 7, 8, 9, 10, 11] rfl rfl rfl rfl (by decide) rfl rfl ?_
            have hf : f_sheet ((mn, yr, gr, kd, pt, wt, mr), ((kmn, kyr, kgr, kkd, kpt, kwt, kmr), kp), (tb, tn), (wd, sz, nm), tl) (nI s_) b n = ((fd 0), ((mn, yr, gr, kd, pt, wt, mr), ((kmn, kyr, kgr, kkd, kpt, kwt, kmr), kp), (tb, tn), (wd, sz, nm), updN tl 0 (tl 0 + 1))) := by simp [f_sheet, isWd, fnd, c1, c2, c7, c12, c17, ix_nI (show s_ < 2 ^ 31 by omega), show nI 0 = 0 from rfl]
            exact g_iret C Rr dX4_sheet_35 ⟨(kc, os, sd, tk, fr, to, vl, wr, mv), by rw [hf]; exact hJ, by rw [hf], by rw [hf]; rfl⟩ rfl
set_option maxHeartbeats 400000 in
set_option maxRecDepth 100000 in
theorem c_isWidth (g : Gl) (b : Int32)  : Ct g yX3_isWidth cX3_isWidth 1 (some .boolean) (rk 0 0) [.int b] ([]) (fun r w2 => r = some (.int (bI (isWd b = true))) ∧ w2 = []) := by
  refine ct_of (by decide) (Nat.le_of_ble_eq_true rfl) ?_
  intro φ C0 Rr
  have C : Cx φ g cX3_isWidth 1 RX3 (rk 0 0) := C0
  show Go φ g 1 0 [(0, .int b)] [] ([])
  refine g_iload_n (pc := 0) C dX3_isWidth_0 rfl ?_
  refine g_if_eq (pc := 1) (tgt := 22) C dX3_isWidth_1 (by decide) (fun c1 => ?_) (fun c1 => ?_)
  · refine g_iconst (pc := 22) (v := nI 1) C dX3_isWidth_22 (by decide) ?_
    refine g_goto (pc := 23) (tgt := 27) C dX3_isWidth_23 (by decide) ?_
    exact g_zret C Rr dX3_isWidth_27 (by first | rfl | decide) ⟨by rw [bI_t (by simp [isWd, show nI 0 = 0 from rfl, c1])], rfl⟩ rfl
  · refine g_iload_n (pc := 4) C dX3_isWidth_4 rfl ?_
    refine g_bipush (pc := 5) (v := nI 8) C dX3_isWidth_5 (by decide) ?_
    refine g_icmp_eq (pc := 7) (tgt := 22) C dX3_isWidth_7 (by decide) (fun c2 => ?_) (fun c2 => ?_)
    · refine g_iconst (pc := 22) (v := nI 1) C dX3_isWidth_22 (by decide) ?_
      refine g_goto (pc := 23) (tgt := 27) C dX3_isWidth_23 (by decide) ?_
      exact g_zret C Rr dX3_isWidth_27 (by first | rfl | decide) ⟨by rw [bI_t (by simp [isWd, show nI 0 = 0 from rfl, c1, c2])], rfl⟩ rfl
    · refine g_iload_n (pc := 10) C dX3_isWidth_10 rfl ?_
      refine g_bipush (pc := 11) (v := nI 16) C dX3_isWidth_11 (by decide) ?_
      refine g_icmp_eq (pc := 13) (tgt := 22) C dX3_isWidth_13 (by decide) (fun c3 => ?_) (fun c3 => ?_)
      · refine g_iconst (pc := 22) (v := nI 1) C dX3_isWidth_22 (by decide) ?_
        refine g_goto (pc := 23) (tgt := 27) C dX3_isWidth_23 (by decide) ?_
        exact g_zret C Rr dX3_isWidth_27 (by first | rfl | decide) ⟨by rw [bI_t (by simp [isWd, show nI 0 = 0 from rfl, c1, c2, c3])], rfl⟩ rfl
      · refine g_iload_n (pc := 16) C dX3_isWidth_16 rfl ?_
        refine g_bipush (pc := 17) (v := nI 64) C dX3_isWidth_17 (by decide) ?_
        refine g_icmp_ne (pc := 19) (tgt := 26) C dX3_isWidth_19 (by decide) (fun c4 => ?_) (fun c4 => ?_)
        · refine g_iconst (pc := 26) (v := nI 0) C dX3_isWidth_26 (by decide) ?_
          exact g_zret C Rr dX3_isWidth_27 (by first | rfl | decide) ⟨by rw [bI_f (by simp [isWd, show nI 0 = 0 from rfl, c1, c2, c3, c4])], rfl⟩ rfl
        · refine g_iconst (pc := 22) (v := nI 1) C dX3_isWidth_22 (by decide) ?_
          refine g_goto (pc := 23) (tgt := 27) C dX3_isWidth_23 (by decide) ?_
          exact g_zret C Rr dX3_isWidth_27 (by first | rfl | decide) ⟨by rw [bI_t (by simp [isWd, show nI 0 = 0 from rfl, c1, c2, c3, c4])], rfl⟩ rfl
set_option maxHeartbeats 400000 in
set_option maxRecDepth 100000 in
theorem c_layOut (g : Gl) (a0 : Nat → Nat) (N : Nat → Int64) (wd : Nat) (sz : Nat) (w : Nat) (n : Nat)  : Ct g yX1_layOut cX1_layOut 4 none (rk 0 0) [.ref (a0 0), .int (nI w), .int (nI n)] (shV g a0 N wd sz) (fun r w2 => r = none ∧ w2 = (shV g a0 (fun _ => 0) w n)) := by
  refine ct_of (by decide) (Nat.le_of_ble_eq_true rfl) ?_
  intro φ C0 Rr
  have C : Cx φ g cX1_layOut 4 RX1 (rk 0 0) := C0
  show Go φ g 4 0 [(0, .ref (a0 0)), (1, .int (nI w)), (2, .int (nI n))] [] (shV g a0 N wd sz)
  refine g_iconst (pc := 0) (v := nI 0) C dX1_layOut_0 (by decide) ?_
  refine g_istore_n (pc := 1) (lv2 := [(0, .ref (a0 0)), (1, .int (nI w)), (2, .int (nI n)), (3, .int (nI 0))]) C dX1_layOut_1 rfl (Nat.le_of_ble_eq_true rfl) rfl ?_
  refine g_loop1 (n := 40) (fun (i : Nat) (F : Nat → Int64) => ∀ k, k < i → F k = 0) (fun (i : Nat) (F : Nat → Int64) => [(0, .ref (a0 0)), (1, .int (nI w)), (2, .int (nI n)), (3, .int (nI i))]) (fun (i : Nat) (F : Nat → Int64) => (shV g a0 F wd sz)) ?_ 0 N (by omega) (fun k hk => absurd hk (Nat.not_lt_zero k))
  intro i F hi_i hv_i ih_i
  show Go φ g 4 2 [(0, .ref (a0 0)), (1, .int (nI w)), (2, .int (nI n)), (3, .int (nI i))] [] (shV g a0 F wd sz)
  have hv_i : ∀ k, k < i → F k = 0 := hv_i
  refine g_iload_n (pc := 2) C dX1_layOut_2 rfl ?_
  refine g_bipush (pc := 3) (v := nI 40) C dX1_layOut_3 (by decide) ?_
  refine g_icmp_geN (pc := 5) (tgt := 21) C dX1_layOut_5 (by decide) (by omega) (by omega) (fun c1 => ?_) (fun c1 => ?_)
  · refine g_arrcL (q0 := 1) (f2 := fun _ => 0) (ws2 := (shV g a0 (fun _ => 0) wd sz)) rfl (fun j hj => hv_i j (by omega)) rfl ?_
    refine g_aload_n (pc := 21) C dX1_layOut_21 rfl ?_
    refine g_iload_n (pc := 22) C dX1_layOut_22 rfl ?_
    refine g_put1 (pc := 23) (ws2 := (shV g a0 (fun _ => 0) w sz)) C dX1_layOut_23 0 rfl 1 (by decide) fl_X1_15 rfl rfl rfl (Nat.le_of_ble_eq_true rfl) rfl ?_
    refine g_aload_n (pc := 26) C dX1_layOut_26 rfl ?_
    refine g_iload_n (pc := 27) C dX1_layOut_27 rfl ?_
    refine g_put1 (pc := 28) (ws2 := (shV g a0 (fun _ => 0) w n)) C dX1_layOut_28 0 rfl 2 (by decide) fl_X1_19 rfl rfl rfl (Nat.le_of_ble_eq_true rfl) rfl ?_
    exact g_vret C Rr dX1_layOut_31 ⟨rfl, rfl⟩ rfl
  · refine g_aload_n (pc := 8) C dX1_layOut_8 rfl ?_
    refine g_get1 (pc := 9) C dX1_layOut_9 0 rfl 0 (by decide) fl_X1_9 rfl ?_
    refine g_iload_n (pc := 12) C dX1_layOut_12 rfl ?_
    refine g_lconst (pc := 13) (v := 0) C dX1_layOut_13 (by decide) ?_
    refine g_lastN (pc := 14) (ws2 := (shV g a0 (vp_updL F i 0) wd sz)) C dX1_layOut_14 1 rfl rfl (by omega) (by decide) rfl ?_
    refine g_iinc (pc := 15) (v := (nI (i + 1))) (lv2 := [(0, .ref (a0 0)), (1, .int (nI w)), (2, .int (nI n)), (3, .int (nI (i + 1)))]) C dX1_layOut_15 rfl (nI_1 _) (Nat.le_of_ble_eq_true rfl) rfl ?_
    refine g_goto (pc := 18) (tgt := 2) C dX1_layOut_18 (by decide) ?_
    exact ih_i _ (by omega) (fun k hk => by
      unfold vp_updL
      by_cases e : k = i
      · rw [if_pos e]
      · rw [if_neg e, hv_i k (by omega)])
set_option maxHeartbeats 400000 in
set_option maxRecDepth 100000 in
theorem c_isMissing (g : Gl) (a0 : Nat → Nat) (N : Nat → Int64) (wd : Nat) (sz : Nat) (hw : wd < 2 ^ 31) : Ct g yX1_isMissing cX1_isMissing 1 (some .boolean) (rk 0 0) [.ref (a0 0)] (shV g a0 N wd sz) (fun r w2 => r = some (.int (bI (wd = 0))) ∧ w2 = (shV g a0 N wd sz)) := by
  refine ct_of (by decide) (Nat.le_of_ble_eq_true rfl) ?_
  intro φ C0 Rr
  have C : Cx φ g cX1_isMissing 1 RX1 (rk 0 0) := C0
  show Go φ g 1 0 [(0, .ref (a0 0))] [] (shV g a0 N wd sz)
  refine g_aload_n (pc := 0) C dX1_isMissing_0 rfl ?_
  refine g_get1 (pc := 1) C dX1_isMissing_1 0 rfl 1 (by decide) fl_X1_15 rfl ?_
  refine g_if_neN (pc := 4) (tgt := 11) C dX1_isMissing_4 (by decide) (by omega) (fun c1 => ?_) (fun c1 => ?_)
  · refine g_iconst (pc := 11) (v := nI 0) C dX1_isMissing_11 (by decide) ?_
    exact g_zret C Rr dX1_isMissing_12 (by first | rfl | decide) ⟨by rw [bI_f (by omega)], rfl⟩ rfl
  · refine g_iconst (pc := 7) (v := nI 1) C dX1_isMissing_7 (by decide) ?_
    refine g_goto (pc := 8) (tgt := 12) C dX1_isMissing_8 (by decide) ?_
    exact g_zret C Rr dX1_isMissing_12 (by first | rfl | decide) ⟨by rw [bI_t (by omega)], rfl⟩ rfl
set_option maxHeartbeats 400000 in
set_option maxRecDepth 100000 in
theorem c_put (g : Gl) (a0 : Nat → Nat) (N : Nat → Int64) (wd : Nat) (sz : Nat) (i : Nat) (v : Int64) (hw : wd < 2 ^ 31) (hi : i < 40) : Ct g yX1_put cX1_put 4 none (rk 0 0) [.ref (a0 0), .int (nI i), .long v] (shV g a0 N wd sz) (fun r w2 => r = none ∧ w2 = (shV g a0 (vp_updL N i (narW wd v)) wd sz)) := by
  refine ct_of (by decide) (Nat.le_of_ble_eq_true rfl) ?_
  intro φ C0 Rr
  have C : Cx φ g cX1_put 4 RX1 (rk 0 0) := C0
  show Go φ g 4 0 [(0, .ref (a0 0)), (1, .int (nI i)), (2, .long v)] [] (shV g a0 N wd sz)
  refine g_aload_n (pc := 0) C dX1_put_0 rfl ?_
  refine g_get1 (pc := 1) C dX1_put_1 0 rfl 1 (by decide) fl_X1_15 rfl ?_
  by_cases c1 : (nI wd) = nI 8
  · refine g_top c1 (g_lookup (pc := 4) (off := 28) (tgt := 32) C dX1_put_4 (by decide) (by decide) (by decide) ?_)
    refine g_aload_n (pc := 32) C dX1_put_32 rfl ?_
    refine g_get1 (pc := 33) C dX1_put_33 0 rfl 0 (by decide) fl_X1_9 rfl ?_
    refine g_iload_n (pc := 36) C dX1_put_36 rfl ?_
    refine g_lload_n (pc := 37) C dX1_put_37 rfl ?_
    refine g_l2i (pc := 38) C dX1_put_38 ?_
    refine g_i2b (pc := 39) C dX1_put_39 ?_
    refine g_i2l (pc := 40) C dX1_put_40 ?_
    refine g_lastN (pc := 41) (ws2 := (shV g a0 (vp_updL N i ((((v.toInt32).toInt8.toInt32)).toInt64)) wd sz)) C dX1_put_41 1 rfl rfl (by omega) (by decide) rfl ?_
    refine g_goto (pc := 42) (tgt := 65) C dX1_put_42 (by decide) ?_
    exact g_vret C Rr dX1_put_65 ⟨rfl, by rw [narW, if_pos (by simpa [nI_eq hw (show 8 < 2 ^ 31 by decide)] using c1)]⟩ rfl
  by_cases c2 : (nI wd) = nI 16
  · refine g_top c2 (g_lookup (pc := 4) (off := 41) (tgt := 45) C dX1_put_4 (by decide) (by decide) (by decide) ?_)
    refine g_aload_n (pc := 45) C dX1_put_45 rfl ?_
    refine g_get1 (pc := 46) C dX1_put_46 0 rfl 0 (by decide) fl_X1_9 rfl ?_
    refine g_iload_n (pc := 49) C dX1_put_49 rfl ?_
    refine g_lload_n (pc := 50) C dX1_put_50 rfl ?_
    refine g_l2i (pc := 51) C dX1_put_51 ?_
    refine g_i2s (pc := 52) C dX1_put_52 ?_
    refine g_i2l (pc := 53) C dX1_put_53 ?_
    refine g_lastN (pc := 54) (ws2 := (shV g a0 (vp_updL N i ((((v.toInt32).toInt16.toInt32)).toInt64)) wd sz)) C dX1_put_54 1 rfl rfl (by omega) (by decide) rfl ?_
    refine g_goto (pc := 55) (tgt := 65) C dX1_put_55 (by decide) ?_
    exact g_vret C Rr dX1_put_65 ⟨rfl, by rw [narW, if_neg (fun q => c1 (congrArg nI q)), if_pos (by simpa [nI_eq hw (show 16 < 2 ^ 31 by decide)] using c2)]⟩ rfl
  refine g_lookup (pc := 4) (off := 54) (tgt := 58) C dX1_put_4 (by decide) (by have : ¬ (8 : Int) = ((nI wd)).toInt := fun q => sw_ne c1 (by decide) q.symm; have : ¬ (16 : Int) = ((nI wd)).toInt := fun q => sw_ne c2 (by decide) q.symm; simp [Op.lookupswitch.offset, *]) (by decide) ?_
  refine g_aload_n (pc := 58) C dX1_put_58 rfl ?_
  refine g_get1 (pc := 59) C dX1_put_59 0 rfl 0 (by decide) fl_X1_9 rfl ?_
  refine g_iload_n (pc := 62) C dX1_put_62 rfl ?_
  refine g_lload_n (pc := 63) C dX1_put_63 rfl ?_
  refine g_lastN (pc := 64) (ws2 := (shV g a0 (vp_updL N i v) wd sz)) C dX1_put_64 1 rfl rfl (by omega) (by decide) rfl ?_
  exact g_vret C Rr dX1_put_65 ⟨rfl, by rw [narW, if_neg (fun q => c1 (congrArg nI q)), if_neg (fun q => c2 (congrArg nI q))]⟩ rfl
set_option maxHeartbeats 400000 in
set_option maxRecDepth 100000 in
theorem x_sheet (g : Gl) (A : Ac) (X : Xs) (J : Jc) (s : Int32) (b : Int32) (n : Int32) (hX : InvX X) (hJ : OkJ X J) : Ct g yX3_sheet cX3_sheet 4 (some .int) (rk 2 42) [.ref (A.1 0), .int s, .int b, .int n] (spX g A X J) (fun r w2 => ∃ J2, OkJ (f_sheet X s b n).2 J2 ∧ r = some (.int (f_sheet X s b n).1) ∧ w2 = spX g A (f_sheet X s b n).2 J2) := by
  obtain ⟨ao, ap, ak, at', au, ae, a0, a1, a2, a3, ay⟩ := A
  obtain ⟨⟨mn, yr, gr, kd, pt, wt, mr⟩, ⟨ks, kp⟩, ⟨tb, tn⟩, ⟨wd, sz, nm⟩, tl⟩ := X
  obtain ⟨la, ⟨⟨kmn, kyr, kgr, kkd, kpt, kwt, kmr⟩, kla⟩, ⟨⟨tmn, tyr, tgr, tkd, tpt, twt, tmr⟩, tla⟩, ⟨pl, tk, sr, vl⟩⟩ := J
  obtain ⟨hB, hy, hkp, htb, htn, hwd, hsz⟩ := id hX
  obtain ⟨-, hTle, hgr, hkd, hpt, hwt, hmr, hyr, hmn⟩ := id hB
  refine ct_of (by decide) (Nat.le_of_ble_eq_true rfl) ?_
  intro φ C0 Rr
  have C : Cx φ g cX3_sheet 4 RX3 (rk 2 42) := C0
  show Go φ g 4 0 [(0, .ref (ao 0)), (1, .int s), (2, .int b), (3, .int n)] [] (fl [spO g ao ap ak at' au ae ay kp, potV g ap gr la kd pt wt mr (sumN gr 12) yr mn, potV g ak kgr kla kkd kpt kwt kmr (sumN kgr 12) kyr kmn, potV g at' tgr tla tkd tpt twt tmr (sumN tgr 12) tyr tmn, tpV g au (tbB tb) tn pl tk sr vl, shA g ae a0 a1 a2 a3, shV g a0 (nm 0) (wd 0) (sz 0), shV g a1 (nm 1) (wd 1) (sz 1), shV g a2 (nm 2) (wd 2) (sz 2), shV g a3 (nm 3) (wd 3) (sz 3), arr7 g ay tl])
  refine g_iload_n (pc := 0) C dX3_sheet_0 rfl ?_
  refine g_s0i (pc := 1) C dX3_sheet_1 ml_X3_172 mf_X3_isSheet (c_isSheet g s) ⟨rfl, rfl, (Nat.le_of_ble_eq_true rfl), (Nat.le_of_ble_eq_true rfl)⟩ rfl rfl (Nat.le_of_ble_eq_true rfl) ?_
  refine g_if_eqB (pc := 4) (tgt := 14) C dX3_sheet_4 (by decide) (fun c1 => ?_) (fun c1 => ?_)
  · refine g_aload_n (pc := 14) C dX3_sheet_14 rfl ?_
    refine g_iconst (pc := 15) (v := nI 0) C dX3_sheet_15 (by decide) ?_
    refine g_bxi (pc := 16) (cs := [spO g ao ap ak at' au ae ay kp, arr7 g ay tl]) (ds := [spO g ao ap ak at' au ae ay kp, arr7 g ay (updN tl 0 (tl 0 + 1))]) (bs2 := [spO g ao ap ak at' au ae ay kp, potV g ap gr la kd pt wt mr (sumN gr 12) yr mn, potV g ak kgr kla kkd kpt kwt kmr (sumN kgr 12) kyr kmn, potV g at' tgr tla tkd tpt twt tmr (sumN tgr 12) tyr tmn, tpV g au (tbB tb) tn pl tk sr vl, shA g ae a0 a1 a2 a3, shV g a0 (nm 0) (wd 0) (sz 0), shV g a1 (nm 1) (wd 1) (sz 1), shV g a2 (nm 2) (wd 2) (sz 2), shV g a3 (nm 3) (wd 3) (sz 3), arr7 g ay (updN tl 0 (tl 0 + 1))]) C dX3_sheet_16 ml_X3_47 mf_X3_finding (c_finding g ao ap ak at' au ae ay kp tl 0 (by decide)) ⟨rfl, rfl, (Nat.le_of_ble_eq_true rfl), (Nat.le_of_ble_eq_true rfl)⟩ rfl rfl (Nat.le_of_ble_eq_true rfl) rfl rfl 0 rfl rfl rfl [0, 10] rfl rfl rfl rfl ?_
    have hf : f_sheet ((mn, yr, gr, kd, pt, wt, mr), (ks, kp), (tb, tn), (wd, sz, nm), tl) s b n = ((fd 0), ((mn, yr, gr, kd, pt, wt, mr), (ks, kp), (tb, tn), (wd, sz, nm), updN tl 0 (tl 0 + 1))) := by simp [f_sheet, fnd, c1]
    exact g_iret C Rr dX3_sheet_19 ⟨(la, ((kmn, kyr, kgr, kkd, kpt, kwt, kmr), kla), ((tmn, tyr, tgr, tkd, tpt, twt, tmr), tla), (pl, tk, sr, vl)), by rw [hf]; exact (fun h => hJ h), by rw [hf], by rw [hf]; rfl⟩ (spX_ad g (ao, ap, ak, at', au, ae, a0, a1, a2, a3, ay) ((mn, yr, gr, kd, pt, wt, mr), (ks, kp), (tb, tn), (wd, sz, nm), updN tl 0 (tl 0 + 1)) ((mn, yr, gr, kd, pt, wt, mr), (ks, kp), (tb, tn), (wd, sz, nm), tl) (la, ((kmn, kyr, kgr, kkd, kpt, kwt, kmr), kla), ((tmn, tyr, tgr, tkd, tpt, twt, tmr), tla), (pl, tk, sr, vl)) (la, ((kmn, kyr, kgr, kkd, kpt, kwt, kmr), kla), ((tmn, tyr, tgr, tkd, tpt, twt, tmr), tla), (pl, tk, sr, vl)))
  · obtain ⟨s_, hl_s, hu_s, rfl⟩ := inR_nat (lo := 0) (hi := 3) c1
    refine g_iload_n (pc := 7) C dX3_sheet_7 rfl ?_
    refine g_s0i (pc := 8) C dX3_sheet_8 ml_X3_175 mf_X3_isWidth (c_isWidth g b) ⟨rfl, rfl, (Nat.le_of_ble_eq_true rfl), (Nat.le_of_ble_eq_true rfl)⟩ rfl rfl (Nat.le_of_ble_eq_true rfl) ?_
    refine g_if_neB (pc := 11) (tgt := 20) C dX3_sheet_11 (by decide) (fun c2 => ?_) (fun c2 => ?_)
    · obtain ⟨b_, hw_b, rfl⟩ := isWd_nat c2
      refine g_iload_n (pc := 20) C dX3_sheet_20 rfl ?_
      refine g_if_ge (pc := 21) (tgt := 31) C dX3_sheet_21 (by decide) (fun c3 => ?_) (fun c3 => ?_)
      · refine g_iload_n (pc := 31) C dX3_sheet_31 rfl ?_
        refine g_bipush (pc := 32) (v := nI 40) C dX3_sheet_32 (by decide) ?_
        refine g_icmp_le (pc := 34) (tgt := 43) C dX3_sheet_34 (by decide) (fun c4 => ?_) (fun c4 => ?_)
        · obtain ⟨n_, hu_n, rfl⟩ := le40 c3 c4
          rcases (show s_ = 0 ∨ s_ = 1 ∨ s_ = 2 ∨ s_ = 3 by omega) with rfl | rfl | rfl | rfl
          · refine g_aload_n (pc := 43) C dX3_sheet_43 rfl ?_
            refine g_get3 (pc := 44) C dX3_sheet_44 0 rfl 4 (by decide) fl_X3_31 rfl ?_
            refine g_iload_n (pc := 47) C dX3_sheet_47 rfl ?_
            refine g_aaldN (pc := 48) C dX3_sheet_48 24 rfl rfl (by decide) (by decide) rfl ?_
            refine g_iload_n (pc := 49) C dX3_sheet_49 rfl ?_
            refine g_iload_n (pc := 50) C dX3_sheet_50 rfl ?_
            refine g_if_neN (pc := 51) (tgt := 58) C dX3_sheet_51 (by decide) (by omega) (fun c5 => ?_) (fun c5 => ?_)
            · refine g_iload_n (pc := 58) C dX3_sheet_58 rfl ?_
              refine g_bxn (pc := 59) (cs := [shV g a0 (nm 0) (wd 0) (sz 0)]) (ds := [shV g a0 (fun _ => 0) b_ n_]) (bs2 := [spO g ao ap ak at' au ae ay kp, potV g ap gr la kd pt wt mr (sumN gr 12) yr mn, potV g ak kgr kla kkd kpt kwt kmr (sumN kgr 12) kyr kmn, potV g at' tgr tla tkd tpt twt tmr (sumN tgr 12) tyr tmn, tpV g au (tbB tb) tn pl tk sr vl, shA g ae a0 a1 a2 a3, shV g a0 (fun _ => 0) b_ n_, shV g a1 (nm 1) (wd 1) (sz 1), shV g a2 (nm 2) (wd 2) (sz 2), shV g a3 (nm 3) (wd 3) (sz 3), arr7 g ay tl]) C dX3_sheet_59 ml_X3_178 mf_X1_layOut (c_layOut g a0 (nm 0) (wd 0) (sz 0) b_ n_) ⟨rfl, rfl, (Nat.le_of_ble_eq_true rfl), (Nat.le_of_ble_eq_true rfl)⟩ rfl rfl (Nat.le_of_ble_eq_true rfl) (fl1 _) (fl1 _) 0 rfl rfl rfl [6] rfl rfl rfl rfl ?_
              refine g_aload_n (pc := 62) C dX3_sheet_62 rfl ?_
              refine g_get3 (pc := 63) C dX3_sheet_63 0 rfl 4 (by decide) fl_X3_31 rfl ?_
              refine g_iload_n (pc := 66) C dX3_sheet_66 rfl ?_
              refine g_aaldN (pc := 67) C dX3_sheet_67 24 rfl rfl (by decide) (by decide) rfl ?_
              refine g_get1 (pc := 68) C dX3_sheet_68 25 rfl 2 (by decide) fl_X3_181 rfl ?_
              have hf : f_sheet ((mn, yr, gr, kd, pt, wt, mr), (ks, kp), (tb, tn), (wd, sz, nm), tl) (nI 0) (nI b_) (nI n_) = ((nI n_), ((mn, yr, gr, kd, pt, wt, mr), (ks, kp), (tb, tn), (updN wd 0 b_, updN sz 0 n_, updH nm 0 (fun _ => 0)), tl)) := by simp [f_sheet, fnd, c1, c2, c3, c4, c5, ix_nI (show b_ < 2 ^ 31 by omega), ix_nI (show n_ < 2 ^ 31 by omega), ix_nI (show 0 < 2 ^ 31 by decide)]
              exact g_iret C Rr dX3_sheet_71 ⟨(la, ((kmn, kyr, kgr, kkd, kpt, kwt, kmr), kla), ((tmn, tyr, tgr, tkd, tpt, twt, tmr), tla), (pl, tk, sr, vl)), by rw [hf]; exact (fun h => hJ h), by rw [hf], by rw [hf]; rfl⟩ (spX_ad g (ao, ap, ak, at', au, ae, a0, a1, a2, a3, ay) ((mn, yr, gr, kd, pt, wt, mr), (ks, kp), (tb, tn), (updN wd 0 b_, updN sz 0 n_, updH nm 0 (fun _ => 0)), tl) ((mn, yr, gr, kd, pt, wt, mr), (ks, kp), (tb, tn), (wd, sz, nm), tl) (la, ((kmn, kyr, kgr, kkd, kpt, kwt, kmr), kla), ((tmn, tyr, tgr, tkd, tpt, twt, tmr), tla), (pl, tk, sr, vl)) (la, ((kmn, kyr, kgr, kkd, kpt, kwt, kmr), kla), ((tmn, tyr, tgr, tkd, tpt, twt, tmr), tla), (pl, tk, sr, vl)))
            · refine g_iconst (pc := 54) (v := nI 0) C dX3_sheet_54 (by decide) ?_
              refine g_goto (pc := 55) (tgt := 59) C dX3_sheet_55 (by decide) ?_
              refine g_bxn (pc := 59) (cs := [shV g a0 (nm 0) (wd 0) (sz 0)]) (ds := [shV g a0 (fun _ => 0) b_ 0]) (bs2 := [spO g ao ap ak at' au ae ay kp, potV g ap gr la kd pt wt mr (sumN gr 12) yr mn, potV g ak kgr kla kkd kpt kwt kmr (sumN kgr 12) kyr kmn, potV g at' tgr tla tkd tpt twt tmr (sumN tgr 12) tyr tmn, tpV g au (tbB tb) tn pl tk sr vl, shA g ae a0 a1 a2 a3, shV g a0 (fun _ => 0) b_ 0, shV g a1 (nm 1) (wd 1) (sz 1), shV g a2 (nm 2) (wd 2) (sz 2), shV g a3 (nm 3) (wd 3) (sz 3), arr7 g ay tl]) C dX3_sheet_59 ml_X3_178 mf_X1_layOut (c_layOut g a0 (nm 0) (wd 0) (sz 0) b_ 0) ⟨rfl, rfl, (Nat.le_of_ble_eq_true rfl), (Nat.le_of_ble_eq_true rfl)⟩ rfl rfl (Nat.le_of_ble_eq_true rfl) (fl1 _) (fl1 _) 0 rfl rfl rfl [6] rfl rfl rfl rfl ?_
              refine g_aload_n (pc := 62) C dX3_sheet_62 rfl ?_
              refine g_get3 (pc := 63) C dX3_sheet_63 0 rfl 4 (by decide) fl_X3_31 rfl ?_
              refine g_iload_n (pc := 66) C dX3_sheet_66 rfl ?_
              refine g_aaldN (pc := 67) C dX3_sheet_67 24 rfl rfl (by decide) (by decide) rfl ?_
              refine g_get1 (pc := 68) C dX3_sheet_68 25 rfl 2 (by decide) fl_X3_181 rfl ?_
              have hf : f_sheet ((mn, yr, gr, kd, pt, wt, mr), (ks, kp), (tb, tn), (wd, sz, nm), tl) (nI 0) (nI b_) (nI n_) = ((nI 0), ((mn, yr, gr, kd, pt, wt, mr), (ks, kp), (tb, tn), (updN wd 0 b_, updN sz 0 0, updH nm 0 (fun _ => 0)), tl)) := by simp only [f_sheet, c1, c2, c3, c4, ix_nI (show b_ < 2 ^ 31 by omega), ix_nI (show n_ < 2 ^ 31 by omega), ix_nI (show 0 < 2 ^ 31 by decide), Bool.and_self, if_true, if_pos c5]
              exact g_iret C Rr dX3_sheet_71 ⟨(la, ((kmn, kyr, kgr, kkd, kpt, kwt, kmr), kla), ((tmn, tyr, tgr, tkd, tpt, twt, tmr), tla), (pl, tk, sr, vl)), by rw [hf]; exact (fun h => hJ h), by rw [hf], by rw [hf]; rfl⟩ (spX_ad g (ao, ap, ak, at', au, ae, a0, a1, a2, a3, ay) ((mn, yr, gr, kd, pt, wt, mr), (ks, kp), (tb, tn), (updN wd 0 b_, updN sz 0 0, updH nm 0 (fun _ => 0)), tl) ((mn, yr, gr, kd, pt, wt, mr), (ks, kp), (tb, tn), (wd, sz, nm), tl) (la, ((kmn, kyr, kgr, kkd, kpt, kwt, kmr), kla), ((tmn, tyr, tgr, tkd, tpt, twt, tmr), tla), (pl, tk, sr, vl)) (la, ((kmn, kyr, kgr, kkd, kpt, kwt, kmr), kla), ((tmn, tyr, tgr, tkd, tpt, twt, tmr), tla), (pl, tk, sr, vl)))
          · refine g_aload_n (pc := 43) C dX3_sheet_43 rfl ?_
            refine g_get3 (pc := 44) C dX3_sheet_44 0 rfl 4 (by decide) fl_X3_31 rfl ?_
            refine g_iload_n (pc := 47) C dX3_sheet_47 rfl ?_
            refine g_aaldN (pc := 48) C dX3_sheet_48 24 rfl rfl (by decide) (by decide) rfl ?_
            refine g_iload_n (pc := 49) C dX3_sheet_49 rfl ?_
            refine g_iload_n (pc := 50) C dX3_sheet_50 rfl ?_
            refine g_if_neN (pc := 51) (tgt := 58) C dX3_sheet_51 (by decide) (by omega) (fun c6 => ?_) (fun c6 => ?_)
            · refine g_iload_n (pc := 58) C dX3_sheet_58 rfl ?_
              refine g_bxn (pc := 59) (cs := [shV g a1 (nm 1) (wd 1) (sz 1)]) (ds := [shV g a1 (fun _ => 0) b_ n_]) (bs2 := [spO g ao ap ak at' au ae ay kp, potV g ap gr la kd pt wt mr (sumN gr 12) yr mn, potV g ak kgr kla kkd kpt kwt kmr (sumN kgr 12) kyr kmn, potV g at' tgr tla tkd tpt twt tmr (sumN tgr 12) tyr tmn, tpV g au (tbB tb) tn pl tk sr vl, shA g ae a0 a1 a2 a3, shV g a0 (nm 0) (wd 0) (sz 0), shV g a1 (fun _ => 0) b_ n_, shV g a2 (nm 2) (wd 2) (sz 2), shV g a3 (nm 3) (wd 3) (sz 3), arr7 g ay tl]) C dX3_sheet_59 ml_X3_178 mf_X1_layOut (c_layOut g a1 (nm 1) (wd 1) (sz 1) b_ n_) ⟨rfl, rfl, (Nat.le_of_ble_eq_true rfl), (Nat.le_of_ble_eq_true rfl)⟩ rfl rfl (Nat.le_of_ble_eq_true rfl) (fl1 _) (fl1 _) 0 rfl rfl rfl [7] rfl rfl rfl rfl ?_
              refine g_aload_n (pc := 62) C dX3_sheet_62 rfl ?_
              refine g_get3 (pc := 63) C dX3_sheet_63 0 rfl 4 (by decide) fl_X3_31 rfl ?_
              refine g_iload_n (pc := 66) C dX3_sheet_66 rfl ?_
              refine g_aaldN (pc := 67) C dX3_sheet_67 24 rfl rfl (by decide) (by decide) rfl ?_
              refine g_get1 (pc := 68) C dX3_sheet_68 27 rfl 2 (by decide) fl_X3_181 rfl ?_
              have hf : f_sheet ((mn, yr, gr, kd, pt, wt, mr), (ks, kp), (tb, tn), (wd, sz, nm), tl) (nI 1) (nI b_) (nI n_) = ((nI n_), ((mn, yr, gr, kd, pt, wt, mr), (ks, kp), (tb, tn), (updN wd 1 b_, updN sz 1 n_, updH nm 1 (fun _ => 0)), tl)) := by simp [f_sheet, fnd, c1, c2, c3, c4, c6, ix_nI (show b_ < 2 ^ 31 by omega), ix_nI (show n_ < 2 ^ 31 by omega), ix_nI (show 1 < 2 ^ 31 by decide)]
              exact g_iret C Rr dX3_sheet_71 ⟨(la, ((kmn, kyr, kgr, kkd, kpt, kwt, kmr), kla), ((tmn, tyr, tgr, tkd, tpt, twt, tmr), tla), (pl, tk, sr, vl)), by rw [hf]; exact (fun h => hJ h), by rw [hf], by rw [hf]; rfl⟩ (spX_ad g (ao, ap, ak, at', au, ae, a0, a1, a2, a3, ay) ((mn, yr, gr, kd, pt, wt, mr), (ks, kp), (tb, tn), (updN wd 1 b_, updN sz 1 n_, updH nm 1 (fun _ => 0)), tl) ((mn, yr, gr, kd, pt, wt, mr), (ks, kp), (tb, tn), (wd, sz, nm), tl) (la, ((kmn, kyr, kgr, kkd, kpt, kwt, kmr), kla), ((tmn, tyr, tgr, tkd, tpt, twt, tmr), tla), (pl, tk, sr, vl)) (la, ((kmn, kyr, kgr, kkd, kpt, kwt, kmr), kla), ((tmn, tyr, tgr, tkd, tpt, twt, tmr), tla), (pl, tk, sr, vl)))
            · refine g_iconst (pc := 54) (v := nI 0) C dX3_sheet_54 (by decide) ?_
              refine g_goto (pc := 55) (tgt := 59) C dX3_sheet_55 (by decide) ?_
              refine g_bxn (pc := 59) (cs := [shV g a1 (nm 1) (wd 1) (sz 1)]) (ds := [shV g a1 (fun _ => 0) b_ 0]) (bs2 := [spO g ao ap ak at' au ae ay kp, potV g ap gr la kd pt wt mr (sumN gr 12) yr mn, potV g ak kgr kla kkd kpt kwt kmr (sumN kgr 12) kyr kmn, potV g at' tgr tla tkd tpt twt tmr (sumN tgr 12) tyr tmn, tpV g au (tbB tb) tn pl tk sr vl, shA g ae a0 a1 a2 a3, shV g a0 (nm 0) (wd 0) (sz 0), shV g a1 (fun _ => 0) b_ 0, shV g a2 (nm 2) (wd 2) (sz 2), shV g a3 (nm 3) (wd 3) (sz 3), arr7 g ay tl]) C dX3_sheet_59 ml_X3_178 mf_X1_layOut (c_layOut g a1 (nm 1) (wd 1) (sz 1) b_ 0) ⟨rfl, rfl, (Nat.le_of_ble_eq_true rfl), (Nat.le_of_ble_eq_true rfl)⟩ rfl rfl (Nat.le_of_ble_eq_true rfl) (fl1 _) (fl1 _) 0 rfl rfl rfl [7] rfl rfl rfl rfl ?_
              refine g_aload_n (pc := 62) C dX3_sheet_62 rfl ?_
              refine g_get3 (pc := 63) C dX3_sheet_63 0 rfl 4 (by decide) fl_X3_31 rfl ?_
              refine g_iload_n (pc := 66) C dX3_sheet_66 rfl ?_
              refine g_aaldN (pc := 67) C dX3_sheet_67 24 rfl rfl (by decide) (by decide) rfl ?_
              refine g_get1 (pc := 68) C dX3_sheet_68 27 rfl 2 (by decide) fl_X3_181 rfl ?_
              have hf : f_sheet ((mn, yr, gr, kd, pt, wt, mr), (ks, kp), (tb, tn), (wd, sz, nm), tl) (nI 1) (nI b_) (nI n_) = ((nI 0), ((mn, yr, gr, kd, pt, wt, mr), (ks, kp), (tb, tn), (updN wd 1 b_, updN sz 1 0, updH nm 1 (fun _ => 0)), tl)) := by simp only [f_sheet, c1, c2, c3, c4, ix_nI (show b_ < 2 ^ 31 by omega), ix_nI (show n_ < 2 ^ 31 by omega), ix_nI (show 1 < 2 ^ 31 by decide), Bool.and_self, if_true, if_pos c6]
              exact g_iret C Rr dX3_sheet_71 ⟨(la, ((kmn, kyr, kgr, kkd, kpt, kwt, kmr), kla), ((tmn, tyr, tgr, tkd, tpt, twt, tmr), tla), (pl, tk, sr, vl)), by rw [hf]; exact (fun h => hJ h), by rw [hf], by rw [hf]; rfl⟩ (spX_ad g (ao, ap, ak, at', au, ae, a0, a1, a2, a3, ay) ((mn, yr, gr, kd, pt, wt, mr), (ks, kp), (tb, tn), (updN wd 1 b_, updN sz 1 0, updH nm 1 (fun _ => 0)), tl) ((mn, yr, gr, kd, pt, wt, mr), (ks, kp), (tb, tn), (wd, sz, nm), tl) (la, ((kmn, kyr, kgr, kkd, kpt, kwt, kmr), kla), ((tmn, tyr, tgr, tkd, tpt, twt, tmr), tla), (pl, tk, sr, vl)) (la, ((kmn, kyr, kgr, kkd, kpt, kwt, kmr), kla), ((tmn, tyr, tgr, tkd, tpt, twt, tmr), tla), (pl, tk, sr, vl)))
          · refine g_aload_n (pc := 43) C dX3_sheet_43 rfl ?_
            refine g_get3 (pc := 44) C dX3_sheet_44 0 rfl 4 (by decide) fl_X3_31 rfl ?_
            refine g_iload_n (pc := 47) C dX3_sheet_47 rfl ?_
            refine g_aaldN (pc := 48) C dX3_sheet_48 24 rfl rfl (by decide) (by decide) rfl ?_
            refine g_iload_n (pc := 49) C dX3_sheet_49 rfl ?_
            refine g_iload_n (pc := 50) C dX3_sheet_50 rfl ?_
            refine g_if_neN (pc := 51) (tgt := 58) C dX3_sheet_51 (by decide) (by omega) (fun c7 => ?_) (fun c7 => ?_)
            · refine g_iload_n (pc := 58) C dX3_sheet_58 rfl ?_
              refine g_bxn (pc := 59) (cs := [shV g a2 (nm 2) (wd 2) (sz 2)]) (ds := [shV g a2 (fun _ => 0) b_ n_]) (bs2 := [spO g ao ap ak at' au ae ay kp, potV g ap gr la kd pt wt mr (sumN gr 12) yr mn, potV g ak kgr kla kkd kpt kwt kmr (sumN kgr 12) kyr kmn, potV g at' tgr tla tkd tpt twt tmr (sumN tgr 12) tyr tmn, tpV g au (tbB tb) tn pl tk sr vl, shA g ae a0 a1 a2 a3, shV g a0 (nm 0) (wd 0) (sz 0), shV g a1 (nm 1) (wd 1) (sz 1), shV g a2 (fun _ => 0) b_ n_, shV g a3 (nm 3) (wd 3) (sz 3), arr7 g ay tl]) C dX3_sheet_59 ml_X3_178 mf_X1_layOut (c_layOut g a2 (nm 2) (wd 2) (sz 2) b_ n_) ⟨rfl, rfl, (Nat.le_of_ble_eq_true rfl), (Nat.le_of_ble_eq_true rfl)⟩ rfl rfl (Nat.le_of_ble_eq_true rfl) (fl1 _) (fl1 _) 0 rfl rfl rfl [8] rfl rfl rfl rfl ?_
              refine g_aload_n (pc := 62) C dX3_sheet_62 rfl ?_
              refine g_get3 (pc := 63) C dX3_sheet_63 0 rfl 4 (by decide) fl_X3_31 rfl ?_
              refine g_iload_n (pc := 66) C dX3_sheet_66 rfl ?_
              refine g_aaldN (pc := 67) C dX3_sheet_67 24 rfl rfl (by decide) (by decide) rfl ?_
              refine g_get1 (pc := 68) C dX3_sheet_68 29 rfl 2 (by decide) fl_X3_181 rfl ?_
              have hf : f_sheet ((mn, yr, gr, kd, pt, wt, mr), (ks, kp), (tb, tn), (wd, sz, nm), tl) (nI 2) (nI b_) (nI n_) = ((nI n_), ((mn, yr, gr, kd, pt, wt, mr), (ks, kp), (tb, tn), (updN wd 2 b_, updN sz 2 n_, updH nm 2 (fun _ => 0)), tl)) := by simp [f_sheet, fnd, c1, c2, c3, c4, c7, ix_nI (show b_ < 2 ^ 31 by omega), ix_nI (show n_ < 2 ^ 31 by omega), ix_nI (show 2 < 2 ^ 31 by decide)]
              exact g_iret C Rr dX3_sheet_71 ⟨(la, ((kmn, kyr, kgr, kkd, kpt, kwt, kmr), kla), ((tmn, tyr, tgr, tkd, tpt, twt, tmr), tla), (pl, tk, sr, vl)), by rw [hf]; exact (fun h => hJ h), by rw [hf], by rw [hf]; rfl⟩ (spX_ad g (ao, ap, ak, at', au, ae, a0, a1, a2, a3, ay) ((mn, yr, gr, kd, pt, wt, mr), (ks, kp), (tb, tn), (updN wd 2 b_, updN sz 2 n_, updH nm 2 (fun _ => 0)), tl) ((mn, yr, gr, kd, pt, wt, mr), (ks, kp), (tb, tn), (wd, sz, nm), tl) (la, ((kmn, kyr, kgr, kkd, kpt, kwt, kmr), kla), ((tmn, tyr, tgr, tkd, tpt, twt, tmr), tla), (pl, tk, sr, vl)) (la, ((kmn, kyr, kgr, kkd, kpt, kwt, kmr), kla), ((tmn, tyr, tgr, tkd, tpt, twt, tmr), tla), (pl, tk, sr, vl)))
            · refine g_iconst (pc := 54) (v := nI 0) C dX3_sheet_54 (by decide) ?_
              refine g_goto (pc := 55) (tgt := 59) C dX3_sheet_55 (by decide) ?_
              refine g_bxn (pc := 59) (cs := [shV g a2 (nm 2) (wd 2) (sz 2)]) (ds := [shV g a2 (fun _ => 0) b_ 0]) (bs2 := [spO g ao ap ak at' au ae ay kp, potV g ap gr la kd pt wt mr (sumN gr 12) yr mn, potV g ak kgr kla kkd kpt kwt kmr (sumN kgr 12) kyr kmn, potV g at' tgr tla tkd tpt twt tmr (sumN tgr 12) tyr tmn, tpV g au (tbB tb) tn pl tk sr vl, shA g ae a0 a1 a2 a3, shV g a0 (nm 0) (wd 0) (sz 0), shV g a1 (nm 1) (wd 1) (sz 1), shV g a2 (fun _ => 0) b_ 0, shV g a3 (nm 3) (wd 3) (sz 3), arr7 g ay tl]) C dX3_sheet_59 ml_X3_178 mf_X1_layOut (c_layOut g a2 (nm 2) (wd 2) (sz 2) b_ 0) ⟨rfl, rfl, (Nat.le_of_ble_eq_true rfl), (Nat.le_of_ble_eq_true rfl)⟩ rfl rfl (Nat.le_of_ble_eq_true rfl) (fl1 _) (fl1 _) 0 rfl rfl rfl [8] rfl rfl rfl rfl ?_
              refine g_aload_n (pc := 62) C dX3_sheet_62 rfl ?_
              refine g_get3 (pc := 63) C dX3_sheet_63 0 rfl 4 (by decide) fl_X3_31 rfl ?_
              refine g_iload_n (pc := 66) C dX3_sheet_66 rfl ?_
              refine g_aaldN (pc := 67) C dX3_sheet_67 24 rfl rfl (by decide) (by decide) rfl ?_
              refine g_get1 (pc := 68) C dX3_sheet_68 29 rfl 2 (by decide) fl_X3_181 rfl ?_
              have hf : f_sheet ((mn, yr, gr, kd, pt, wt, mr), (ks, kp), (tb, tn), (wd, sz, nm), tl) (nI 2) (nI b_) (nI n_) = ((nI 0), ((mn, yr, gr, kd, pt, wt, mr), (ks, kp), (tb, tn), (updN wd 2 b_, updN sz 2 0, updH nm 2 (fun _ => 0)), tl)) := by simp only [f_sheet, c1, c2, c3, c4, ix_nI (show b_ < 2 ^ 31 by omega), ix_nI (show n_ < 2 ^ 31 by omega), ix_nI (show 2 < 2 ^ 31 by decide), Bool.and_self, if_true, if_pos c7]
              exact g_iret C Rr dX3_sheet_71 ⟨(la, ((kmn, kyr, kgr, kkd, kpt, kwt, kmr), kla), ((tmn, tyr, tgr, tkd, tpt, twt, tmr), tla), (pl, tk, sr, vl)), by rw [hf]; exact (fun h => hJ h), by rw [hf], by rw [hf]; rfl⟩ (spX_ad g (ao, ap, ak, at', au, ae, a0, a1, a2, a3, ay) ((mn, yr, gr, kd, pt, wt, mr), (ks, kp), (tb, tn), (updN wd 2 b_, updN sz 2 0, updH nm 2 (fun _ => 0)), tl) ((mn, yr, gr, kd, pt, wt, mr), (ks, kp), (tb, tn), (wd, sz, nm), tl) (la, ((kmn, kyr, kgr, kkd, kpt, kwt, kmr), kla), ((tmn, tyr, tgr, tkd, tpt, twt, tmr), tla), (pl, tk, sr, vl)) (la, ((kmn, kyr, kgr, kkd, kpt, kwt, kmr), kla), ((tmn, tyr, tgr, tkd, tpt, twt, tmr), tla), (pl, tk, sr, vl)))
          · refine g_aload_n (pc := 43) C dX3_sheet_43 rfl ?_
            refine g_get3 (pc := 44) C dX3_sheet_44 0 rfl 4 (by decide) fl_X3_31 rfl ?_
            refine g_iload_n (pc := 47) C dX3_sheet_47 rfl ?_
            refine g_aaldN (pc := 48) C dX3_sheet_48 24 rfl rfl (by decide) (by decide) rfl ?_
            refine g_iload_n (pc := 49) C dX3_sheet_49 rfl ?_
            refine g_iload_n (pc := 50) C dX3_sheet_50 rfl ?_
            refine g_if_neN (pc := 51) (tgt := 58) C dX3_sheet_51 (by decide) (by omega) (fun c8 => ?_) (fun c8 => ?_)
            · refine g_iload_n (pc := 58) C dX3_sheet_58 rfl ?_
              refine g_bxn (pc := 59) (cs := [shV g a3 (nm 3) (wd 3) (sz 3)]) (ds := [shV g a3 (fun _ => 0) b_ n_]) (bs2 := [spO g ao ap ak at' au ae ay kp, potV g ap gr la kd pt wt mr (sumN gr 12) yr mn, potV g ak kgr kla kkd kpt kwt kmr (sumN kgr 12) kyr kmn, potV g at' tgr tla tkd tpt twt tmr (sumN tgr 12) tyr tmn, tpV g au (tbB tb) tn pl tk sr vl, shA g ae a0 a1 a2 a3, shV g a0 (nm 0) (wd 0) (sz 0), shV g a1 (nm 1) (wd 1) (sz 1), shV g a2 (nm 2) (wd 2) (sz 2), shV g a3 (fun _ => 0) b_ n_, arr7 g ay tl]) C dX3_sheet_59 ml_X3_178 mf_X1_layOut (c_layOut g a3 (nm 3) (wd 3) (sz 3) b_ n_) ⟨rfl, rfl, (Nat.le_of_ble_eq_true rfl), (Nat.le_of_ble_eq_true rfl)⟩ rfl rfl (Nat.le_of_ble_eq_true rfl) (fl1 _) (fl1 _) 0 rfl rfl rfl [9] rfl rfl rfl rfl ?_
              refine g_aload_n (pc := 62) C dX3_sheet_62 rfl ?_
              refine g_get3 (pc := 63) C dX3_sheet_63 0 rfl 4 (by decide) fl_X3_31 rfl ?_
              refine g_iload_n (pc := 66) C dX3_sheet_66 rfl ?_
              refine g_aaldN (pc := 67) C dX3_sheet_67 24 rfl rfl (by decide) (by decide) rfl ?_
              refine g_get1 (pc := 68) C dX3_sheet_68 31 rfl 2 (by decide) fl_X3_181 rfl ?_
              have hf : f_sheet ((mn, yr, gr, kd, pt, wt, mr), (ks, kp), (tb, tn), (wd, sz, nm), tl) (nI 3) (nI b_) (nI n_) = ((nI n_), ((mn, yr, gr, kd, pt, wt, mr), (ks, kp), (tb, tn), (updN wd 3 b_, updN sz 3 n_, updH nm 3 (fun _ => 0)), tl)) := by simp [f_sheet, fnd, c1, c2, c3, c4, c8, ix_nI (show b_ < 2 ^ 31 by omega), ix_nI (show n_ < 2 ^ 31 by omega), ix_nI (show 3 < 2 ^ 31 by decide)]
              exact g_iret C Rr dX3_sheet_71 ⟨(la, ((kmn, kyr, kgr, kkd, kpt, kwt, kmr), kla), ((tmn, tyr, tgr, tkd, tpt, twt, tmr), tla), (pl, tk, sr, vl)), by rw [hf]; exact (fun h => hJ h), by rw [hf], by rw [hf]; rfl⟩ (spX_ad g (ao, ap, ak, at', au, ae, a0, a1, a2, a3, ay) ((mn, yr, gr, kd, pt, wt, mr), (ks, kp), (tb, tn), (updN wd 3 b_, updN sz 3 n_, updH nm 3 (fun _ => 0)), tl) ((mn, yr, gr, kd, pt, wt, mr), (ks, kp), (tb, tn), (wd, sz, nm), tl) (la, ((kmn, kyr, kgr, kkd, kpt, kwt, kmr), kla), ((tmn, tyr, tgr, tkd, tpt, twt, tmr), tla), (pl, tk, sr, vl)) (la, ((kmn, kyr, kgr, kkd, kpt, kwt, kmr), kla), ((tmn, tyr, tgr, tkd, tpt, twt, tmr), tla), (pl, tk, sr, vl)))
            · refine g_iconst (pc := 54) (v := nI 0) C dX3_sheet_54 (by decide) ?_
              refine g_goto (pc := 55) (tgt := 59) C dX3_sheet_55 (by decide) ?_
              refine g_bxn (pc := 59) (cs := [shV g a3 (nm 3) (wd 3) (sz 3)]) (ds := [shV g a3 (fun _ => 0) b_ 0]) (bs2 := [spO g ao ap ak at' au ae ay kp, potV g ap gr la kd pt wt mr (sumN gr 12) yr mn, potV g ak kgr kla kkd kpt kwt kmr (sumN kgr 12) kyr kmn, potV g at' tgr tla tkd tpt twt tmr (sumN tgr 12) tyr tmn, tpV g au (tbB tb) tn pl tk sr vl, shA g ae a0 a1 a2 a3, shV g a0 (nm 0) (wd 0) (sz 0), shV g a1 (nm 1) (wd 1) (sz 1), shV g a2 (nm 2) (wd 2) (sz 2), shV g a3 (fun _ => 0) b_ 0, arr7 g ay tl]) C dX3_sheet_59 ml_X3_178 mf_X1_layOut (c_layOut g a3 (nm 3) (wd 3) (sz 3) b_ 0) ⟨rfl, rfl, (Nat.le_of_ble_eq_true rfl), (Nat.le_of_ble_eq_true rfl)⟩ rfl rfl (Nat.le_of_ble_eq_true rfl) (fl1 _) (fl1 _) 0 rfl rfl rfl [9] rfl rfl rfl rfl ?_
              refine g_aload_n (pc := 62) C dX3_sheet_62 rfl ?_
              refine g_get3 (pc := 63) C dX3_sheet_63 0 rfl 4 (by decide) fl_X3_31 rfl ?_
              refine g_iload_n (pc := 66) C dX3_sheet_66 rfl ?_
              refine g_aaldN (pc := 67) C dX3_sheet_67 24 rfl rfl (by decide) (by decide) rfl ?_
              refine g_get1 (pc := 68) C dX3_sheet_68 31 rfl 2 (by decide) fl_X3_181 rfl ?_
              have hf : f_sheet ((mn, yr, gr, kd, pt, wt, mr), (ks, kp), (tb, tn), (wd, sz, nm), tl) (nI 3) (nI b_) (nI n_) = ((nI 0), ((mn, yr, gr, kd, pt, wt, mr), (ks, kp), (tb, tn), (updN wd 3 b_, updN sz 3 0, updH nm 3 (fun _ => 0)), tl)) := by simp only [f_sheet, c1, c2, c3, c4, ix_nI (show b_ < 2 ^ 31 by omega), ix_nI (show n_ < 2 ^ 31 by omega), ix_nI (show 3 < 2 ^ 31 by decide), Bool.and_self, if_true, if_pos c8]
              exact g_iret C Rr dX3_sheet_71 ⟨(la, ((kmn, kyr, kgr, kkd, kpt, kwt, kmr), kla), ((tmn, tyr, tgr, tkd, tpt, twt, tmr), tla), (pl, tk, sr, vl)), by rw [hf]; exact (fun h => hJ h), by rw [hf], by rw [hf]; rfl⟩ (spX_ad g (ao, ap, ak, at', au, ae, a0, a1, a2, a3, ay) ((mn, yr, gr, kd, pt, wt, mr), (ks, kp), (tb, tn), (updN wd 3 b_, updN sz 3 0, updH nm 3 (fun _ => 0)), tl) ((mn, yr, gr, kd, pt, wt, mr), (ks, kp), (tb, tn), (wd, sz, nm), tl) (la, ((kmn, kyr, kgr, kkd, kpt, kwt, kmr), kla), ((tmn, tyr, tgr, tkd, tpt, twt, tmr), tla), (pl, tk, sr, vl)) (la, ((kmn, kyr, kgr, kkd, kpt, kwt, kmr), kla), ((tmn, tyr, tgr, tkd, tpt, twt, tmr), tla), (pl, tk, sr, vl)))
        · refine g_aload_n (pc := 37) C dX3_sheet_37 rfl ?_
          refine g_iconst (pc := 38) (v := nI 0) C dX3_sheet_38 (by decide) ?_
          refine g_bxi (pc := 39) (cs := [spO g ao ap ak at' au ae ay kp, arr7 g ay tl]) (ds := [spO g ao ap ak at' au ae ay kp, arr7 g ay (updN tl 0 (tl 0 + 1))]) (bs2 := [spO g ao ap ak at' au ae ay kp, potV g ap gr la kd pt wt mr (sumN gr 12) yr mn, potV g ak kgr kla kkd kpt kwt kmr (sumN kgr 12) kyr kmn, potV g at' tgr tla tkd tpt twt tmr (sumN tgr 12) tyr tmn, tpV g au (tbB tb) tn pl tk sr vl, shA g ae a0 a1 a2 a3, shV g a0 (nm 0) (wd 0) (sz 0), shV g a1 (nm 1) (wd 1) (sz 1), shV g a2 (nm 2) (wd 2) (sz 2), shV g a3 (nm 3) (wd 3) (sz 3), arr7 g ay (updN tl 0 (tl 0 + 1))]) C dX3_sheet_39 ml_X3_47 mf_X3_finding (c_finding g ao ap ak at' au ae ay kp tl 0 (by decide)) ⟨rfl, rfl, (Nat.le_of_ble_eq_true rfl), (Nat.le_of_ble_eq_true rfl)⟩ rfl rfl (Nat.le_of_ble_eq_true rfl) rfl rfl 0 rfl rfl rfl [0, 10] rfl rfl rfl rfl ?_
          have hf : f_sheet ((mn, yr, gr, kd, pt, wt, mr), (ks, kp), (tb, tn), (wd, sz, nm), tl) (nI s_) (nI b_) n = ((fd 0), ((mn, yr, gr, kd, pt, wt, mr), (ks, kp), (tb, tn), (wd, sz, nm), updN tl 0 (tl 0 + 1))) := by simp [f_sheet, fnd, c1, c2, c3, c4, ix_nI (show s_ < 2 ^ 31 by omega), ix_nI (show b_ < 2 ^ 31 by omega)]
          exact g_iret C Rr dX3_sheet_42 ⟨(la, ((kmn, kyr, kgr, kkd, kpt, kwt, kmr), kla), ((tmn, tyr, tgr, tkd, tpt, twt, tmr), tla), (pl, tk, sr, vl)), by rw [hf]; exact (fun h => hJ h), by rw [hf], by rw [hf]; rfl⟩ (spX_ad g (ao, ap, ak, at', au, ae, a0, a1, a2, a3, ay) ((mn, yr, gr, kd, pt, wt, mr), (ks, kp), (tb, tn), (wd, sz, nm), updN tl 0 (tl 0 + 1)) ((mn, yr, gr, kd, pt, wt, mr), (ks, kp), (tb, tn), (wd, sz, nm), tl) (la, ((kmn, kyr, kgr, kkd, kpt, kwt, kmr), kla), ((tmn, tyr, tgr, tkd, tpt, twt, tmr), tla), (pl, tk, sr, vl)) (la, ((kmn, kyr, kgr, kkd, kpt, kwt, kmr), kla), ((tmn, tyr, tgr, tkd, tpt, twt, tmr), tla), (pl, tk, sr, vl)))
      · refine g_aload_n (pc := 24) C dX3_sheet_24 rfl ?_
        refine g_bipush (pc := 25) (v := nI 6) C dX3_sheet_25 (by decide) ?_
        refine g_bxi (pc := 27) (cs := [spO g ao ap ak at' au ae ay kp, arr7 g ay tl]) (ds := [spO g ao ap ak at' au ae ay kp, arr7 g ay (updN tl 6 (tl 6 + 1))]) (bs2 := [spO g ao ap ak at' au ae ay kp, potV g ap gr la kd pt wt mr (sumN gr 12) yr mn, potV g ak kgr kla kkd kpt kwt kmr (sumN kgr 12) kyr kmn, potV g at' tgr tla tkd tpt twt tmr (sumN tgr 12) tyr tmn, tpV g au (tbB tb) tn pl tk sr vl, shA g ae a0 a1 a2 a3, shV g a0 (nm 0) (wd 0) (sz 0), shV g a1 (nm 1) (wd 1) (sz 1), shV g a2 (nm 2) (wd 2) (sz 2), shV g a3 (nm 3) (wd 3) (sz 3), arr7 g ay (updN tl 6 (tl 6 + 1))]) C dX3_sheet_27 ml_X3_47 mf_X3_finding (c_finding g ao ap ak at' au ae ay kp tl 6 (by decide)) ⟨rfl, rfl, (Nat.le_of_ble_eq_true rfl), (Nat.le_of_ble_eq_true rfl)⟩ rfl rfl (Nat.le_of_ble_eq_true rfl) rfl rfl 0 rfl rfl rfl [0, 10] rfl rfl rfl rfl ?_
        have hf : f_sheet ((mn, yr, gr, kd, pt, wt, mr), (ks, kp), (tb, tn), (wd, sz, nm), tl) (nI s_) (nI b_) n = ((fd 6), ((mn, yr, gr, kd, pt, wt, mr), (ks, kp), (tb, tn), (wd, sz, nm), updN tl 6 (tl 6 + 1))) := by simp [f_sheet, fnd, c1, c2, c3, ix_nI (show s_ < 2 ^ 31 by omega), ix_nI (show b_ < 2 ^ 31 by omega)]
        exact g_iret C Rr dX3_sheet_30 ⟨(la, ((kmn, kyr, kgr, kkd, kpt, kwt, kmr), kla), ((tmn, tyr, tgr, tkd, tpt, twt, tmr), tla), (pl, tk, sr, vl)), by rw [hf]; exact (fun h => hJ h), by rw [hf], by rw [hf]; rfl⟩ (spX_ad g (ao, ap, ak, at', au, ae, a0, a1, a2, a3, ay) ((mn, yr, gr, kd, pt, wt, mr), (ks, kp), (tb, tn), (wd, sz, nm), updN tl 6 (tl 6 + 1)) ((mn, yr, gr, kd, pt, wt, mr), (ks, kp), (tb, tn), (wd, sz, nm), tl) (la, ((kmn, kyr, kgr, kkd, kpt, kwt, kmr), kla), ((tmn, tyr, tgr, tkd, tpt, twt, tmr), tla), (pl, tk, sr, vl)) (la, ((kmn, kyr, kgr, kkd, kpt, kwt, kmr), kla), ((tmn, tyr, tgr, tkd, tpt, twt, tmr), tla), (pl, tk, sr, vl)))
    · refine g_aload_n (pc := 14) C dX3_sheet_14 rfl ?_
      refine g_iconst (pc := 15) (v := nI 0) C dX3_sheet_15 (by decide) ?_
      refine g_bxi (pc := 16) (cs := [spO g ao ap ak at' au ae ay kp, arr7 g ay tl]) (ds := [spO g ao ap ak at' au ae ay kp, arr7 g ay (updN tl 0 (tl 0 + 1))]) (bs2 := [spO g ao ap ak at' au ae ay kp, potV g ap gr la kd pt wt mr (sumN gr 12) yr mn, potV g ak kgr kla kkd kpt kwt kmr (sumN kgr 12) kyr kmn, potV g at' tgr tla tkd tpt twt tmr (sumN tgr 12) tyr tmn, tpV g au (tbB tb) tn pl tk sr vl, shA g ae a0 a1 a2 a3, shV g a0 (nm 0) (wd 0) (sz 0), shV g a1 (nm 1) (wd 1) (sz 1), shV g a2 (nm 2) (wd 2) (sz 2), shV g a3 (nm 3) (wd 3) (sz 3), arr7 g ay (updN tl 0 (tl 0 + 1))]) C dX3_sheet_16 ml_X3_47 mf_X3_finding (c_finding g ao ap ak at' au ae ay kp tl 0 (by decide)) ⟨rfl, rfl, (Nat.le_of_ble_eq_true rfl), (Nat.le_of_ble_eq_true rfl)⟩ rfl rfl (Nat.le_of_ble_eq_true rfl) rfl rfl 0 rfl rfl rfl [0, 10] rfl rfl rfl rfl ?_
      have hf : f_sheet ((mn, yr, gr, kd, pt, wt, mr), (ks, kp), (tb, tn), (wd, sz, nm), tl) (nI s_) b n = ((fd 0), ((mn, yr, gr, kd, pt, wt, mr), (ks, kp), (tb, tn), (wd, sz, nm), updN tl 0 (tl 0 + 1))) := by simp [f_sheet, fnd, c1, c2, ix_nI (show s_ < 2 ^ 31 by omega)]
      exact g_iret C Rr dX3_sheet_19 ⟨(la, ((kmn, kyr, kgr, kkd, kpt, kwt, kmr), kla), ((tmn, tyr, tgr, tkd, tpt, twt, tmr), tla), (pl, tk, sr, vl)), by rw [hf]; exact (fun h => hJ h), by rw [hf], by rw [hf]; rfl⟩ (spX_ad g (ao, ap, ak, at', au, ae, a0, a1, a2, a3, ay) ((mn, yr, gr, kd, pt, wt, mr), (ks, kp), (tb, tn), (wd, sz, nm), updN tl 0 (tl 0 + 1)) ((mn, yr, gr, kd, pt, wt, mr), (ks, kp), (tb, tn), (wd, sz, nm), tl) (la, ((kmn, kyr, kgr, kkd, kpt, kwt, kmr), kla), ((tmn, tyr, tgr, tkd, tpt, twt, tmr), tla), (pl, tk, sr, vl)) (la, ((kmn, kyr, kgr, kkd, kpt, kwt, kmr), kla), ((tmn, tyr, tgr, tkd, tpt, twt, tmr), tla), (pl, tk, sr, vl)))
set_option maxHeartbeats 400000 in
set_option maxRecDepth 100000 in
theorem x_write (g : Gl) (A : Ac) (X : Xs) (J : Jc) (s : Int32) (i : Int32) (v : Int64) (hX : InvX X) (hJ : OkJ X J) : Ct g yX3_write cX3_write 8 (some .long) (rk 2 42) [.ref (A.1 0), .int s, .int i, .long v] (spX g A X J) (fun r w2 => ∃ J2, OkJ (f_write X s i v).2 J2 ∧ r = some (.long (f_write X s i v).1) ∧ w2 = spX g A (f_write X s i v).2 J2) := by
  obtain ⟨ao, ap, ak, at', au, ae, a0, a1, a2, a3, ay⟩ := A
  obtain ⟨⟨mn, yr, gr, kd, pt, wt, mr⟩, ⟨ks, kp⟩, ⟨tb, tn⟩, ⟨wd, sz, nm⟩, tl⟩ := X
  obtain ⟨la, ⟨⟨kmn, kyr, kgr, kkd, kpt, kwt, kmr⟩, kla⟩, ⟨⟨tmn, tyr, tgr, tkd, tpt, twt, tmr⟩, tla⟩, ⟨pl, tk, sr, vl⟩⟩ := J
  obtain ⟨hB, hy, hkp, htb, htn, hwd, hsz⟩ := id hX
  obtain ⟨-, hTle, hgr, hkd, hpt, hwt, hmr, hyr, hmn⟩ := id hB
  refine ct_of (by decide) (Nat.le_of_ble_eq_true rfl) ?_
  intro φ C0 Rr
  have C : Cx φ g cX3_write 8 RX3 (rk 2 42) := C0
  show Go φ g 8 0 [(0, .ref (ao 0)), (1, .int s), (2, .int i), (3, .long v)] [] (fl [spO g ao ap ak at' au ae ay kp, potV g ap gr la kd pt wt mr (sumN gr 12) yr mn, potV g ak kgr kla kkd kpt kwt kmr (sumN kgr 12) kyr kmn, potV g at' tgr tla tkd tpt twt tmr (sumN tgr 12) tyr tmn, tpV g au (tbB tb) tn pl tk sr vl, shA g ae a0 a1 a2 a3, shV g a0 (nm 0) (wd 0) (sz 0), shV g a1 (nm 1) (wd 1) (sz 1), shV g a2 (nm 2) (wd 2) (sz 2), shV g a3 (nm 3) (wd 3) (sz 3), arr7 g ay tl])
  refine g_iload_n (pc := 0) C dX3_write_0 rfl ?_
  refine g_s0i (pc := 1) C dX3_write_1 ml_X3_172 mf_X3_isSheet (c_isSheet g s) ⟨rfl, rfl, (Nat.le_of_ble_eq_true rfl), (Nat.le_of_ble_eq_true rfl)⟩ rfl rfl (Nat.le_of_ble_eq_true rfl) ?_
  refine g_if_neB (pc := 4) (tgt := 14) C dX3_write_4 (by decide) (fun c1 => ?_) (fun c1 => ?_)
  · obtain ⟨s_, hl_s, hu_s, rfl⟩ := inR_nat (lo := 0) (hi := 3) c1
    have hz0 := hsz 0
    have hz1 := hsz 1
    have hz2 := hsz 2
    have hz3 := hsz 3
    rcases (show s_ = 0 ∨ s_ = 1 ∨ s_ = 2 ∨ s_ = 3 by omega) with rfl | rfl | rfl | rfl
    · refine g_aload_n (pc := 14) C dX3_write_14 rfl ?_
      refine g_get3 (pc := 15) C dX3_write_15 0 rfl 4 (by decide) fl_X3_31 rfl ?_
      refine g_iload_n (pc := 18) C dX3_write_18 rfl ?_
      refine g_aaldN (pc := 19) C dX3_write_19 24 rfl rfl (by decide) (by decide) rfl ?_
      refine g_astore (pc := 20) (lv2 := [(0, .ref (ao 0)), (1, .int (nI 0)), (2, .int i), (3, .long v), (5, .ref (a0 0))]) C dX3_write_20 (Nat.le_of_ble_eq_true rfl) rfl ?_
      refine g_aload (pc := 22) C dX3_write_22 rfl ?_
      refine g_bxi (pc := 24) (cs := [shV g a0 (nm 0) (wd 0) (sz 0)]) (ds := [shV g a0 (nm 0) (wd 0) (sz 0)]) (bs2 := [spO g ao ap ak at' au ae ay kp, potV g ap gr la kd pt wt mr (sumN gr 12) yr mn, potV g ak kgr kla kkd kpt kwt kmr (sumN kgr 12) kyr kmn, potV g at' tgr tla tkd tpt twt tmr (sumN tgr 12) tyr tmn, tpV g au (tbB tb) tn pl tk sr vl, shA g ae a0 a1 a2 a3, shV g a0 (nm 0) (wd 0) (sz 0), shV g a1 (nm 1) (wd 1) (sz 1), shV g a2 (nm 2) (wd 2) (sz 2), shV g a3 (nm 3) (wd 3) (sz 3), arr7 g ay tl]) C dX3_write_24 ml_X3_184 mf_X1_isMissing (c_isMissing g a0 (nm 0) (wd 0) (sz 0) (wlt hwd _)) ⟨rfl, rfl, (Nat.le_of_ble_eq_true rfl), (Nat.le_of_ble_eq_true rfl)⟩ rfl rfl (Nat.le_of_ble_eq_true rfl) (fl1 _) (fl1 _) 0 rfl rfl rfl [6] rfl rfl rfl rfl ?_
      refine g_if_eqB (pc := 27) (tgt := 37) C dX3_write_27 (by decide) (fun c2 => ?_) (fun c2 => ?_)
      · refine g_iload_n (pc := 37) C dX3_write_37 rfl ?_
        refine g_iconst (pc := 38) (v := nI 0) C dX3_write_38 (by decide) ?_
        refine g_aload (pc := 39) C dX3_write_39 rfl ?_
        refine g_get1 (pc := 41) C dX3_write_41 25 rfl 2 (by decide) fl_X3_181 rfl ?_
        refine g_iconst (pc := 44) (v := nI 1) C dX3_write_44 (by decide) ?_
        refine g_isub (pc := 45) C dX3_write_45 ?_
        refine g_s0i (pc := 46) C dX3_write_46 ml_X3_52 mf_X3_isWithin (c_isWithin g i (nI 0) ((nI (sz 0)) - (nI 1))) ⟨rfl, rfl, (Nat.le_of_ble_eq_true rfl), (Nat.le_of_ble_eq_true rfl)⟩ rfl rfl (Nat.le_of_ble_eq_true rfl) ?_
        refine g_top (y := bI (inR i 0 ((sz 0 : Int) - 1) = true)) (bI_iff (isW_sz (by omega))) ?_
        refine g_if_neB (pc := 49) (tgt := 59) C dX3_write_49 (by decide) (fun c3 => ?_) (fun c3 => ?_)
        · obtain ⟨i_, hu_i, rfl⟩ := inR_cook c3
          refine g_aload (pc := 59) C dX3_write_59 rfl ?_
          refine g_get1 (pc := 61) C dX3_write_61 25 rfl 0 (by decide) fl_X3_187 rfl ?_
          refine g_iload_n (pc := 64) C dX3_write_64 rfl ?_
          refine g_laldN (pc := 65) C dX3_write_65 26 rfl rfl (by omega) (by decide) ?_
          refine g_lstore (pc := 66) (lv2 := [(0, .ref (ao 0)), (1, .int (nI 0)), (2, .int (nI i_)), (3, .long v), (5, .ref (a0 0)), (6, .long ((nm 0) i_))]) C dX3_write_66 (Nat.le_of_ble_eq_true rfl) rfl ?_
          refine g_aload (pc := 68) C dX3_write_68 rfl ?_
          refine g_iload_n (pc := 70) C dX3_write_70 rfl ?_
          refine g_lload_n (pc := 71) C dX3_write_71 rfl ?_
          refine g_bxn (pc := 72) (cs := [shV g a0 (nm 0) (wd 0) (sz 0)]) (ds := [shV g a0 (vp_updL (nm 0) i_ (narW (wd 0) v)) (wd 0) (sz 0)]) (bs2 := [spO g ao ap ak at' au ae ay kp, potV g ap gr la kd pt wt mr (sumN gr 12) yr mn, potV g ak kgr kla kkd kpt kwt kmr (sumN kgr 12) kyr kmn, potV g at' tgr tla tkd tpt twt tmr (sumN tgr 12) tyr tmn, tpV g au (tbB tb) tn pl tk sr vl, shA g ae a0 a1 a2 a3, shV g a0 (vp_updL (nm 0) i_ (narW (wd 0) v)) (wd 0) (sz 0), shV g a1 (nm 1) (wd 1) (sz 1), shV g a2 (nm 2) (wd 2) (sz 2), shV g a3 (nm 3) (wd 3) (sz 3), arr7 g ay tl]) C dX3_write_72 ml_X3_191 mf_X1_put (c_put g a0 (nm 0) (wd 0) (sz 0) i_ v (wlt hwd _) (by omega)) ⟨rfl, rfl, (Nat.le_of_ble_eq_true rfl), (Nat.le_of_ble_eq_true rfl)⟩ rfl rfl (Nat.le_of_ble_eq_true rfl) (fl1 _) (fl1 _) 0 rfl rfl rfl [6] rfl rfl rfl rfl ?_
          refine g_lload (pc := 75) C dX3_write_75 rfl ?_
          have hf : f_write ((mn, yr, gr, kd, pt, wt, mr), (ks, kp), (tb, tn), (wd, sz, nm), tl) (nI 0) (nI i_) v = (((nm 0) i_), ((mn, yr, gr, kd, pt, wt, mr), (ks, kp), (tb, tn), (wd, sz, updH nm 0 (vp_updL (nm 0) i_ (narW (wd 0) v))), tl)) := by simp [f_write, fndL, fnd, c1, c2, c3, ix_nI (show i_ < 2 ^ 31 by omega), ix_nI (show 0 < 2 ^ 31 by decide)]
          exact g_lret C Rr dX3_write_77 ⟨(la, ((kmn, kyr, kgr, kkd, kpt, kwt, kmr), kla), ((tmn, tyr, tgr, tkd, tpt, twt, tmr), tla), (pl, tk, sr, vl)), by rw [hf]; exact (fun h => hJ h), by rw [hf], by rw [hf]; rfl⟩ (spX_ad g (ao, ap, ak, at', au, ae, a0, a1, a2, a3, ay) ((mn, yr, gr, kd, pt, wt, mr), (ks, kp), (tb, tn), (wd, sz, updH nm 0 (vp_updL (nm 0) i_ (narW (wd 0) v))), tl) ((mn, yr, gr, kd, pt, wt, mr), (ks, kp), (tb, tn), (wd, sz, nm), tl) (la, ((kmn, kyr, kgr, kkd, kpt, kwt, kmr), kla), ((tmn, tyr, tgr, tkd, tpt, twt, tmr), tla), (pl, tk, sr, vl)) (la, ((kmn, kyr, kgr, kkd, kpt, kwt, kmr), kla), ((tmn, tyr, tgr, tkd, tpt, twt, tmr), tla), (pl, tk, sr, vl)))
        · refine g_aload_n (pc := 52) C dX3_write_52 rfl ?_
          refine g_iconst (pc := 53) (v := nI 0) C dX3_write_53 (by decide) ?_
          refine g_bxi (pc := 54) (cs := [spO g ao ap ak at' au ae ay kp, arr7 g ay tl]) (ds := [spO g ao ap ak at' au ae ay kp, arr7 g ay (updN tl 0 (tl 0 + 1))]) (bs2 := [spO g ao ap ak at' au ae ay kp, potV g ap gr la kd pt wt mr (sumN gr 12) yr mn, potV g ak kgr kla kkd kpt kwt kmr (sumN kgr 12) kyr kmn, potV g at' tgr tla tkd tpt twt tmr (sumN tgr 12) tyr tmn, tpV g au (tbB tb) tn pl tk sr vl, shA g ae a0 a1 a2 a3, shV g a0 (nm 0) (wd 0) (sz 0), shV g a1 (nm 1) (wd 1) (sz 1), shV g a2 (nm 2) (wd 2) (sz 2), shV g a3 (nm 3) (wd 3) (sz 3), arr7 g ay (updN tl 0 (tl 0 + 1))]) C dX3_write_54 ml_X3_47 mf_X3_finding (c_finding g ao ap ak at' au ae ay kp tl 0 (by decide)) ⟨rfl, rfl, (Nat.le_of_ble_eq_true rfl), (Nat.le_of_ble_eq_true rfl)⟩ rfl rfl (Nat.le_of_ble_eq_true rfl) rfl rfl 0 rfl rfl rfl [0, 10] rfl rfl rfl rfl ?_
          refine g_i2l (pc := 57) C dX3_write_57 ?_
          have hf : f_write ((mn, yr, gr, kd, pt, wt, mr), (ks, kp), (tb, tn), (wd, sz, nm), tl) (nI 0) i v = ((((fd 0)).toInt64), ((mn, yr, gr, kd, pt, wt, mr), (ks, kp), (tb, tn), (wd, sz, nm), updN tl 0 (tl 0 + 1))) := by simp [f_write, fndL, fnd, c1, c2, c3, ix_nI (show 0 < 2 ^ 31 by decide)]
          exact g_lret C Rr dX3_write_58 ⟨(la, ((kmn, kyr, kgr, kkd, kpt, kwt, kmr), kla), ((tmn, tyr, tgr, tkd, tpt, twt, tmr), tla), (pl, tk, sr, vl)), by rw [hf]; exact (fun h => hJ h), by rw [hf], by rw [hf]; rfl⟩ (spX_ad g (ao, ap, ak, at', au, ae, a0, a1, a2, a3, ay) ((mn, yr, gr, kd, pt, wt, mr), (ks, kp), (tb, tn), (wd, sz, nm), updN tl 0 (tl 0 + 1)) ((mn, yr, gr, kd, pt, wt, mr), (ks, kp), (tb, tn), (wd, sz, nm), tl) (la, ((kmn, kyr, kgr, kkd, kpt, kwt, kmr), kla), ((tmn, tyr, tgr, tkd, tpt, twt, tmr), tla), (pl, tk, sr, vl)) (la, ((kmn, kyr, kgr, kkd, kpt, kwt, kmr), kla), ((tmn, tyr, tgr, tkd, tpt, twt, tmr), tla), (pl, tk, sr, vl)))
      · refine g_aload_n (pc := 30) C dX3_write_30 rfl ?_
        refine g_iconst (pc := 31) (v := nI 5) C dX3_write_31 (by decide) ?_
        refine g_bxi (pc := 32) (cs := [spO g ao ap ak at' au ae ay kp, arr7 g ay tl]) (ds := [spO g ao ap ak at' au ae ay kp, arr7 g ay (updN tl 5 (tl 5 + 1))]) (bs2 := [spO g ao ap ak at' au ae ay kp, potV g ap gr la kd pt wt mr (sumN gr 12) yr mn, potV g ak kgr kla kkd kpt kwt kmr (sumN kgr 12) kyr kmn, potV g at' tgr tla tkd tpt twt tmr (sumN tgr 12) tyr tmn, tpV g au (tbB tb) tn pl tk sr vl, shA g ae a0 a1 a2 a3, shV g a0 (nm 0) (wd 0) (sz 0), shV g a1 (nm 1) (wd 1) (sz 1), shV g a2 (nm 2) (wd 2) (sz 2), shV g a3 (nm 3) (wd 3) (sz 3), arr7 g ay (updN tl 5 (tl 5 + 1))]) C dX3_write_32 ml_X3_47 mf_X3_finding (c_finding g ao ap ak at' au ae ay kp tl 5 (by decide)) ⟨rfl, rfl, (Nat.le_of_ble_eq_true rfl), (Nat.le_of_ble_eq_true rfl)⟩ rfl rfl (Nat.le_of_ble_eq_true rfl) rfl rfl 0 rfl rfl rfl [0, 10] rfl rfl rfl rfl ?_
        refine g_i2l (pc := 35) C dX3_write_35 ?_
        have hf : f_write ((mn, yr, gr, kd, pt, wt, mr), (ks, kp), (tb, tn), (wd, sz, nm), tl) (nI 0) i v = ((((fd 5)).toInt64), ((mn, yr, gr, kd, pt, wt, mr), (ks, kp), (tb, tn), (wd, sz, nm), updN tl 5 (tl 5 + 1))) := by simp [f_write, fndL, fnd, c1, c2, ix_nI (show 0 < 2 ^ 31 by decide)]
        exact g_lret C Rr dX3_write_36 ⟨(la, ((kmn, kyr, kgr, kkd, kpt, kwt, kmr), kla), ((tmn, tyr, tgr, tkd, tpt, twt, tmr), tla), (pl, tk, sr, vl)), by rw [hf]; exact (fun h => hJ h), by rw [hf], by rw [hf]; rfl⟩ (spX_ad g (ao, ap, ak, at', au, ae, a0, a1, a2, a3, ay) ((mn, yr, gr, kd, pt, wt, mr), (ks, kp), (tb, tn), (wd, sz, nm), updN tl 5 (tl 5 + 1)) ((mn, yr, gr, kd, pt, wt, mr), (ks, kp), (tb, tn), (wd, sz, nm), tl) (la, ((kmn, kyr, kgr, kkd, kpt, kwt, kmr), kla), ((tmn, tyr, tgr, tkd, tpt, twt, tmr), tla), (pl, tk, sr, vl)) (la, ((kmn, kyr, kgr, kkd, kpt, kwt, kmr), kla), ((tmn, tyr, tgr, tkd, tpt, twt, tmr), tla), (pl, tk, sr, vl)))
    · refine g_aload_n (pc := 14) C dX3_write_14 rfl ?_
      refine g_get3 (pc := 15) C dX3_write_15 0 rfl 4 (by decide) fl_X3_31 rfl ?_
      refine g_iload_n (pc := 18) C dX3_write_18 rfl ?_
      refine g_aaldN (pc := 19) C dX3_write_19 24 rfl rfl (by decide) (by decide) rfl ?_
      refine g_astore (pc := 20) (lv2 := [(0, .ref (ao 0)), (1, .int (nI 1)), (2, .int i), (3, .long v), (5, .ref (a1 0))]) C dX3_write_20 (Nat.le_of_ble_eq_true rfl) rfl ?_
      refine g_aload (pc := 22) C dX3_write_22 rfl ?_
      refine g_bxi (pc := 24) (cs := [shV g a1 (nm 1) (wd 1) (sz 1)]) (ds := [shV g a1 (nm 1) (wd 1) (sz 1)]) (bs2 := [spO g ao ap ak at' au ae ay kp, potV g ap gr la kd pt wt mr (sumN gr 12) yr mn, potV g ak kgr kla kkd kpt kwt kmr (sumN kgr 12) kyr kmn, potV g at' tgr tla tkd tpt twt tmr (sumN tgr 12) tyr tmn, tpV g au (tbB tb) tn pl tk sr vl, shA g ae a0 a1 a2 a3, shV g a0 (nm 0) (wd 0) (sz 0), shV g a1 (nm 1) (wd 1) (sz 1), shV g a2 (nm 2) (wd 2) (sz 2), shV g a3 (nm 3) (wd 3) (sz 3), arr7 g ay tl]) C dX3_write_24 ml_X3_184 mf_X1_isMissing (c_isMissing g a1 (nm 1) (wd 1) (sz 1) (wlt hwd _)) ⟨rfl, rfl, (Nat.le_of_ble_eq_true rfl), (Nat.le_of_ble_eq_true rfl)⟩ rfl rfl (Nat.le_of_ble_eq_true rfl) (fl1 _) (fl1 _) 0 rfl rfl rfl [7] rfl rfl rfl rfl ?_
      refine g_if_eqB (pc := 27) (tgt := 37) C dX3_write_27 (by decide) (fun c4 => ?_) (fun c4 => ?_)
      · refine g_iload_n (pc := 37) C dX3_write_37 rfl ?_
        refine g_iconst (pc := 38) (v := nI 0) C dX3_write_38 (by decide) ?_
        refine g_aload (pc := 39) C dX3_write_39 rfl ?_
        refine g_get1 (pc := 41) C dX3_write_41 27 rfl 2 (by decide) fl_X3_181 rfl ?_
        refine g_iconst (pc := 44) (v := nI 1) C dX3_write_44 (by decide) ?_
        refine g_isub (pc := 45) C dX3_write_45 ?_
        refine g_s0i (pc := 46) C dX3_write_46 ml_X3_52 mf_X3_isWithin (c_isWithin g i (nI 0) ((nI (sz 1)) - (nI 1))) ⟨rfl, rfl, (Nat.le_of_ble_eq_true rfl), (Nat.le_of_ble_eq_true rfl)⟩ rfl rfl (Nat.le_of_ble_eq_true rfl) ?_
        refine g_top (y := bI (inR i 0 ((sz 1 : Int) - 1) = true)) (bI_iff (isW_sz (by omega))) ?_
        refine g_if_neB (pc := 49) (tgt := 59) C dX3_write_49 (by decide) (fun c5 => ?_) (fun c5 => ?_)
        · obtain ⟨i_, hu_i, rfl⟩ := inR_cook c5
          refine g_aload (pc := 59) C dX3_write_59 rfl ?_
          refine g_get1 (pc := 61) C dX3_write_61 27 rfl 0 (by decide) fl_X3_187 rfl ?_
          refine g_iload_n (pc := 64) C dX3_write_64 rfl ?_
          refine g_laldN (pc := 65) C dX3_write_65 28 rfl rfl (by omega) (by decide) ?_
          refine g_lstore (pc := 66) (lv2 := [(0, .ref (ao 0)), (1, .int (nI 1)), (2, .int (nI i_)), (3, .long v), (5, .ref (a1 0)), (6, .long ((nm 1) i_))]) C dX3_write_66 (Nat.le_of_ble_eq_true rfl) rfl ?_
          refine g_aload (pc := 68) C dX3_write_68 rfl ?_
          refine g_iload_n (pc := 70) C dX3_write_70 rfl ?_
          refine g_lload_n (pc := 71) C dX3_write_71 rfl ?_
          refine g_bxn (pc := 72) (cs := [shV g a1 (nm 1) (wd 1) (sz 1)]) (ds := [shV g a1 (vp_updL (nm 1) i_ (narW (wd 1) v)) (wd 1) (sz 1)]) (bs2 := [spO g ao ap ak at' au ae ay kp, potV g ap gr la kd pt wt mr (sumN gr 12) yr mn, potV g ak kgr kla kkd kpt kwt kmr (sumN kgr 12) kyr kmn, potV g at' tgr tla tkd tpt twt tmr (sumN tgr 12) tyr tmn, tpV g au (tbB tb) tn pl tk sr vl, shA g ae a0 a1 a2 a3, shV g a0 (nm 0) (wd 0) (sz 0), shV g a1 (vp_updL (nm 1) i_ (narW (wd 1) v)) (wd 1) (sz 1), shV g a2 (nm 2) (wd 2) (sz 2), shV g a3 (nm 3) (wd 3) (sz 3), arr7 g ay tl]) C dX3_write_72 ml_X3_191 mf_X1_put (c_put g a1 (nm 1) (wd 1) (sz 1) i_ v (wlt hwd _) (by omega)) ⟨rfl, rfl, (Nat.le_of_ble_eq_true rfl), (Nat.le_of_ble_eq_true rfl)⟩ rfl rfl (Nat.le_of_ble_eq_true rfl) (fl1 _) (fl1 _) 0 rfl rfl rfl [7] rfl rfl rfl rfl ?_
          refine g_lload (pc := 75) C dX3_write_75 rfl ?_
          have hf : f_write ((mn, yr, gr, kd, pt, wt, mr), (ks, kp), (tb, tn), (wd, sz, nm), tl) (nI 1) (nI i_) v = (((nm 1) i_), ((mn, yr, gr, kd, pt, wt, mr), (ks, kp), (tb, tn), (wd, sz, updH nm 1 (vp_updL (nm 1) i_ (narW (wd 1) v))), tl)) := by simp [f_write, fndL, fnd, c1, c4, c5, ix_nI (show i_ < 2 ^ 31 by omega), ix_nI (show 1 < 2 ^ 31 by decide)]
          exact g_lret C Rr dX3_write_77 ⟨(la, ((kmn, kyr, kgr, kkd, kpt, kwt, kmr), kla), ((tmn, tyr, tgr, tkd, tpt, twt, tmr), tla), (pl, tk, sr, vl)), by rw [hf]; exact (fun h => hJ h), by rw [hf], by rw [hf]; rfl⟩ (spX_ad g (ao, ap, ak, at', au, ae, a0, a1, a2, a3, ay) ((mn, yr, gr, kd, pt, wt, mr), (ks, kp), (tb, tn), (wd, sz, updH nm 1 (vp_updL (nm 1) i_ (narW (wd 1) v))), tl) ((mn, yr, gr, kd, pt, wt, mr), (ks, kp), (tb, tn), (wd, sz, nm), tl) (la, ((kmn, kyr, kgr, kkd, kpt, kwt, kmr), kla), ((tmn, tyr, tgr, tkd, tpt, twt, tmr), tla), (pl, tk, sr, vl)) (la, ((kmn, kyr, kgr, kkd, kpt, kwt, kmr), kla), ((tmn, tyr, tgr, tkd, tpt, twt, tmr), tla), (pl, tk, sr, vl)))
        · refine g_aload_n (pc := 52) C dX3_write_52 rfl ?_
          refine g_iconst (pc := 53) (v := nI 0) C dX3_write_53 (by decide) ?_
          refine g_bxi (pc := 54) (cs := [spO g ao ap ak at' au ae ay kp, arr7 g ay tl]) (ds := [spO g ao ap ak at' au ae ay kp, arr7 g ay (updN tl 0 (tl 0 + 1))]) (bs2 := [spO g ao ap ak at' au ae ay kp, potV g ap gr la kd pt wt mr (sumN gr 12) yr mn, potV g ak kgr kla kkd kpt kwt kmr (sumN kgr 12) kyr kmn, potV g at' tgr tla tkd tpt twt tmr (sumN tgr 12) tyr tmn, tpV g au (tbB tb) tn pl tk sr vl, shA g ae a0 a1 a2 a3, shV g a0 (nm 0) (wd 0) (sz 0), shV g a1 (nm 1) (wd 1) (sz 1), shV g a2 (nm 2) (wd 2) (sz 2), shV g a3 (nm 3) (wd 3) (sz 3), arr7 g ay (updN tl 0 (tl 0 + 1))]) C dX3_write_54 ml_X3_47 mf_X3_finding (c_finding g ao ap ak at' au ae ay kp tl 0 (by decide)) ⟨rfl, rfl, (Nat.le_of_ble_eq_true rfl), (Nat.le_of_ble_eq_true rfl)⟩ rfl rfl (Nat.le_of_ble_eq_true rfl) rfl rfl 0 rfl rfl rfl [0, 10] rfl rfl rfl rfl ?_
          refine g_i2l (pc := 57) C dX3_write_57 ?_
          have hf : f_write ((mn, yr, gr, kd, pt, wt, mr), (ks, kp), (tb, tn), (wd, sz, nm), tl) (nI 1) i v = ((((fd 0)).toInt64), ((mn, yr, gr, kd, pt, wt, mr), (ks, kp), (tb, tn), (wd, sz, nm), updN tl 0 (tl 0 + 1))) := by simp [f_write, fndL, fnd, c1, c4, c5, ix_nI (show 1 < 2 ^ 31 by decide)]
          exact g_lret C Rr dX3_write_58 ⟨(la, ((kmn, kyr, kgr, kkd, kpt, kwt, kmr), kla), ((tmn, tyr, tgr, tkd, tpt, twt, tmr), tla), (pl, tk, sr, vl)), by rw [hf]; exact (fun h => hJ h), by rw [hf], by rw [hf]; rfl⟩ (spX_ad g (ao, ap, ak, at', au, ae, a0, a1, a2, a3, ay) ((mn, yr, gr, kd, pt, wt, mr), (ks, kp), (tb, tn), (wd, sz, nm), updN tl 0 (tl 0 + 1)) ((mn, yr, gr, kd, pt, wt, mr), (ks, kp), (tb, tn), (wd, sz, nm), tl) (la, ((kmn, kyr, kgr, kkd, kpt, kwt, kmr), kla), ((tmn, tyr, tgr, tkd, tpt, twt, tmr), tla), (pl, tk, sr, vl)) (la, ((kmn, kyr, kgr, kkd, kpt, kwt, kmr), kla), ((tmn, tyr, tgr, tkd, tpt, twt, tmr), tla), (pl, tk, sr, vl)))
      · refine g_aload_n (pc := 30) C dX3_write_30 rfl ?_
        refine g_iconst (pc := 31) (v := nI 5) C dX3_write_31 (by decide) ?_
        refine g_bxi (pc := 32) (cs := [spO g ao ap ak at' au ae ay kp, arr7 g ay tl]) (ds := [spO g ao ap ak at' au ae ay kp, arr7 g ay (updN tl 5 (tl 5 + 1))]) (bs2 := [spO g ao ap ak at' au ae ay kp, potV g ap gr la kd pt wt mr (sumN gr 12) yr mn, potV g ak kgr kla kkd kpt kwt kmr (sumN kgr 12) kyr kmn, potV g at' tgr tla tkd tpt twt tmr (sumN tgr 12) tyr tmn, tpV g au (tbB tb) tn pl tk sr vl, shA g ae a0 a1 a2 a3, shV g a0 (nm 0) (wd 0) (sz 0), shV g a1 (nm 1) (wd 1) (sz 1), shV g a2 (nm 2) (wd 2) (sz 2), shV g a3 (nm 3) (wd 3) (sz 3), arr7 g ay (updN tl 5 (tl 5 + 1))]) C dX3_write_32 ml_X3_47 mf_X3_finding (c_finding g ao ap ak at' au ae ay kp tl 5 (by decide)) ⟨rfl, rfl, (Nat.le_of_ble_eq_true rfl), (Nat.le_of_ble_eq_true rfl)⟩ rfl rfl (Nat.le_of_ble_eq_true rfl) rfl rfl 0 rfl rfl rfl [0, 10] rfl rfl rfl rfl ?_
        refine g_i2l (pc := 35) C dX3_write_35 ?_
        have hf : f_write ((mn, yr, gr, kd, pt, wt, mr), (ks, kp), (tb, tn), (wd, sz, nm), tl) (nI 1) i v = ((((fd 5)).toInt64), ((mn, yr, gr, kd, pt, wt, mr), (ks, kp), (tb, tn), (wd, sz, nm), updN tl 5 (tl 5 + 1))) := by simp [f_write, fndL, fnd, c1, c4, ix_nI (show 1 < 2 ^ 31 by decide)]
        exact g_lret C Rr dX3_write_36 ⟨(la, ((kmn, kyr, kgr, kkd, kpt, kwt, kmr), kla), ((tmn, tyr, tgr, tkd, tpt, twt, tmr), tla), (pl, tk, sr, vl)), by rw [hf]; exact (fun h => hJ h), by rw [hf], by rw [hf]; rfl⟩ (spX_ad g (ao, ap, ak, at', au, ae, a0, a1, a2, a3, ay) ((mn, yr, gr, kd, pt, wt, mr), (ks, kp), (tb, tn), (wd, sz, nm), updN tl 5 (tl 5 + 1)) ((mn, yr, gr, kd, pt, wt, mr), (ks, kp), (tb, tn), (wd, sz, nm), tl) (la, ((kmn, kyr, kgr, kkd, kpt, kwt, kmr), kla), ((tmn, tyr, tgr, tkd, tpt, twt, tmr), tla), (pl, tk, sr, vl)) (la, ((kmn, kyr, kgr, kkd, kpt, kwt, kmr), kla), ((tmn, tyr, tgr, tkd, tpt, twt, tmr), tla), (pl, tk, sr, vl)))
    · refine g_aload_n (pc := 14) C dX3_write_14 rfl ?_
      refine g_get3 (pc := 15) C dX3_write_15 0 rfl 4 (by decide) fl_X3_31 rfl ?_
      refine g_iload_n (pc := 18) C dX3_write_18 rfl ?_
      refine g_aaldN (pc := 19) C dX3_write_19 24 rfl rfl (by decide) (by decide) rfl ?_
      refine g_astore (pc := 20) (lv2 := [(0, .ref (ao 0)), (1, .int (nI 2)), (2, .int i), (3, .long v), (5, .ref (a2 0))]) C dX3_write_20 (Nat.le_of_ble_eq_true rfl) rfl ?_
      refine g_aload (pc := 22) C dX3_write_22 rfl ?_
      refine g_bxi (pc := 24) (cs := [shV g a2 (nm 2) (wd 2) (sz 2)]) (ds := [shV g a2 (nm 2) (wd 2) (sz 2)]) (bs2 := [spO g ao ap ak at' au ae ay kp, potV g ap gr la kd pt wt mr (sumN gr 12) yr mn, potV g ak kgr kla kkd kpt kwt kmr (sumN kgr 12) kyr kmn, potV g at' tgr tla tkd tpt twt tmr (sumN tgr 12) tyr tmn, tpV g au (tbB tb) tn pl tk sr vl, shA g ae a0 a1 a2 a3, shV g a0 (nm 0) (wd 0) (sz 0), shV g a1 (nm 1) (wd 1) (sz 1), shV g a2 (nm 2) (wd 2) (sz 2), shV g a3 (nm 3) (wd 3) (sz 3), arr7 g ay tl]) C dX3_write_24 ml_X3_184 mf_X1_isMissing (c_isMissing g a2 (nm 2) (wd 2) (sz 2) (wlt hwd _)) ⟨rfl, rfl, (Nat.le_of_ble_eq_true rfl), (Nat.le_of_ble_eq_true rfl)⟩ rfl rfl (Nat.le_of_ble_eq_true rfl) (fl1 _) (fl1 _) 0 rfl rfl rfl [8] rfl rfl rfl rfl ?_
      refine g_if_eqB (pc := 27) (tgt := 37) C dX3_write_27 (by decide) (fun c6 => ?_) (fun c6 => ?_)
      · refine g_iload_n (pc := 37) C dX3_write_37 rfl ?_
        refine g_iconst (pc := 38) (v := nI 0) C dX3_write_38 (by decide) ?_
        refine g_aload (pc := 39) C dX3_write_39 rfl ?_
        refine g_get1 (pc := 41) C dX3_write_41 29 rfl 2 (by decide) fl_X3_181 rfl ?_
        refine g_iconst (pc := 44) (v := nI 1) C dX3_write_44 (by decide) ?_
        refine g_isub (pc := 45) C dX3_write_45 ?_
        refine g_s0i (pc := 46) C dX3_write_46 ml_X3_52 mf_X3_isWithin (c_isWithin g i (nI 0) ((nI (sz 2)) - (nI 1))) ⟨rfl, rfl, (Nat.le_of_ble_eq_true rfl), (Nat.le_of_ble_eq_true rfl)⟩ rfl rfl (Nat.le_of_ble_eq_true rfl) ?_
        refine g_top (y := bI (inR i 0 ((sz 2 : Int) - 1) = true)) (bI_iff (isW_sz (by omega))) ?_
        refine g_if_neB (pc := 49) (tgt := 59) C dX3_write_49 (by decide) (fun c7 => ?_) (fun c7 => ?_)
        · obtain ⟨i_, hu_i, rfl⟩ := inR_cook c7
          refine g_aload (pc := 59) C dX3_write_59 rfl ?_
          refine g_get1 (pc := 61) C dX3_write_61 29 rfl 0 (by decide) fl_X3_187 rfl ?_
          refine g_iload_n (pc := 64) C dX3_write_64 rfl ?_
          refine g_laldN (pc := 65) C dX3_write_65 30 rfl rfl (by omega) (by decide) ?_
          refine g_lstore (pc := 66) (lv2 := [(0, .ref (ao 0)), (1, .int (nI 2)), (2, .int (nI i_)), (3, .long v), (5, .ref (a2 0)), (6, .long ((nm 2) i_))]) C dX3_write_66 (Nat.le_of_ble_eq_true rfl) rfl ?_
          refine g_aload (pc := 68) C dX3_write_68 rfl ?_
          refine g_iload_n (pc := 70) C dX3_write_70 rfl ?_
          refine g_lload_n (pc := 71) C dX3_write_71 rfl ?_
          refine g_bxn (pc := 72) (cs := [shV g a2 (nm 2) (wd 2) (sz 2)]) (ds := [shV g a2 (vp_updL (nm 2) i_ (narW (wd 2) v)) (wd 2) (sz 2)]) (bs2 := [spO g ao ap ak at' au ae ay kp, potV g ap gr la kd pt wt mr (sumN gr 12) yr mn, potV g ak kgr kla kkd kpt kwt kmr (sumN kgr 12) kyr kmn, potV g at' tgr tla tkd tpt twt tmr (sumN tgr 12) tyr tmn, tpV g au (tbB tb) tn pl tk sr vl, shA g ae a0 a1 a2 a3, shV g a0 (nm 0) (wd 0) (sz 0), shV g a1 (nm 1) (wd 1) (sz 1), shV g a2 (vp_updL (nm 2) i_ (narW (wd 2) v)) (wd 2) (sz 2), shV g a3 (nm 3) (wd 3) (sz 3), arr7 g ay tl]) C dX3_write_72 ml_X3_191 mf_X1_put (c_put g a2 (nm 2) (wd 2) (sz 2) i_ v (wlt hwd _) (by omega)) ⟨rfl, rfl, (Nat.le_of_ble_eq_true rfl), (Nat.le_of_ble_eq_true rfl)⟩ rfl rfl (Nat.le_of_ble_eq_true rfl) (fl1 _) (fl1 _) 0 rfl rfl rfl [8] rfl rfl rfl rfl ?_
          refine g_lload (pc := 75) C dX3_write_75 rfl ?_
          have hf : f_write ((mn, yr, gr, kd, pt, wt, mr), (ks, kp), (tb, tn), (wd, sz, nm), tl) (nI 2) (nI i_) v = (((nm 2) i_), ((mn, yr, gr, kd, pt, wt, mr), (ks, kp), (tb, tn), (wd, sz, updH nm 2 (vp_updL (nm 2) i_ (narW (wd 2) v))), tl)) := by simp [f_write, fndL, fnd, c1, c6, c7, ix_nI (show i_ < 2 ^ 31 by omega), ix_nI (show 2 < 2 ^ 31 by decide)]
          exact g_lret C Rr dX3_write_77 ⟨(la, ((kmn, kyr, kgr, kkd, kpt, kwt, kmr), kla), ((tmn, tyr, tgr, tkd, tpt, twt, tmr), tla), (pl, tk, sr, vl)), by rw [hf]; exact (fun h => hJ h), by rw [hf], by rw [hf]; rfl⟩ (spX_ad g (ao, ap, ak, at', au, ae, a0, a1, a2, a3, ay) ((mn, yr, gr, kd, pt, wt, mr), (ks, kp), (tb, tn), (wd, sz, updH nm 2 (vp_updL (nm 2) i_ (narW (wd 2) v))), tl) ((mn, yr, gr, kd, pt, wt, mr), (ks, kp), (tb, tn), (wd, sz, nm), tl) (la, ((kmn, kyr, kgr, kkd, kpt, kwt, kmr), kla), ((tmn, tyr, tgr, tkd, tpt, twt, tmr), tla), (pl, tk, sr, vl)) (la, ((kmn, kyr, kgr, kkd, kpt, kwt, kmr), kla), ((tmn, tyr, tgr, tkd, tpt, twt, tmr), tla), (pl, tk, sr, vl)))
        · refine g_aload_n (pc := 52) C dX3_write_52 rfl ?_
          refine g_iconst (pc := 53) (v := nI 0) C dX3_write_53 (by decide) ?_
          refine g_bxi (pc := 54) (cs := [spO g ao ap ak at' au ae ay kp, arr7 g ay tl]) (ds := [spO g ao ap ak at' au ae ay kp, arr7 g ay (updN tl 0 (tl 0 + 1))]) (bs2 := [spO g ao ap ak at' au ae ay kp, potV g ap gr la kd pt wt mr (sumN gr 12) yr mn, potV g ak kgr kla kkd kpt kwt kmr (sumN kgr 12) kyr kmn, potV g at' tgr tla tkd tpt twt tmr (sumN tgr 12) tyr tmn, tpV g au (tbB tb) tn pl tk sr vl, shA g ae a0 a1 a2 a3, shV g a0 (nm 0) (wd 0) (sz 0), shV g a1 (nm 1) (wd 1) (sz 1), shV g a2 (nm 2) (wd 2) (sz 2), shV g a3 (nm 3) (wd 3) (sz 3), arr7 g ay (updN tl 0 (tl 0 + 1))]) C dX3_write_54 ml_X3_47 mf_X3_finding (c_finding g ao ap ak at' au ae ay kp tl 0 (by decide)) ⟨rfl, rfl, (Nat.le_of_ble_eq_true rfl), (Nat.le_of_ble_eq_true rfl)⟩ rfl rfl (Nat.le_of_ble_eq_true rfl) rfl rfl 0 rfl rfl rfl [0, 10] rfl rfl rfl rfl ?_
          refine g_i2l (pc := 57) C dX3_write_57 ?_
          have hf : f_write ((mn, yr, gr, kd, pt, wt, mr), (ks, kp), (tb, tn), (wd, sz, nm), tl) (nI 2) i v = ((((fd 0)).toInt64), ((mn, yr, gr, kd, pt, wt, mr), (ks, kp), (tb, tn), (wd, sz, nm), updN tl 0 (tl 0 + 1))) := by simp [f_write, fndL, fnd, c1, c6, c7, ix_nI (show 2 < 2 ^ 31 by decide)]
          exact g_lret C Rr dX3_write_58 ⟨(la, ((kmn, kyr, kgr, kkd, kpt, kwt, kmr), kla), ((tmn, tyr, tgr, tkd, tpt, twt, tmr), tla), (pl, tk, sr, vl)), by rw [hf]; exact (fun h => hJ h), by rw [hf], by rw [hf]; rfl⟩ (spX_ad g (ao, ap, ak, at', au, ae, a0, a1, a2, a3, ay) ((mn, yr, gr, kd, pt, wt, mr), (ks, kp), (tb, tn), (wd, sz, nm), updN tl 0 (tl 0 + 1)) ((mn, yr, gr, kd, pt, wt, mr), (ks, kp), (tb, tn), (wd, sz, nm), tl) (la, ((kmn, kyr, kgr, kkd, kpt, kwt, kmr), kla), ((tmn, tyr, tgr, tkd, tpt, twt, tmr), tla), (pl, tk, sr, vl)) (la, ((kmn, kyr, kgr, kkd, kpt, kwt, kmr), kla), ((tmn, tyr, tgr, tkd, tpt, twt, tmr), tla), (pl, tk, sr, vl)))
      · refine g_aload_n (pc := 30) C dX3_write_30 rfl ?_
        refine g_iconst (pc := 31) (v := nI 5) C dX3_write_31 (by decide) ?_
        refine g_bxi (pc := 32) (cs := [spO g ao ap ak at' au ae ay kp, arr7 g ay tl]) (ds := [spO g ao ap ak at' au ae ay kp, arr7 g ay (updN tl 5 (tl 5 + 1))]) (bs2 := [spO g ao ap ak at' au ae ay kp, potV g ap gr la kd pt wt mr (sumN gr 12) yr mn, potV g ak kgr kla kkd kpt kwt kmr (sumN kgr 12) kyr kmn, potV g at' tgr tla tkd tpt twt tmr (sumN tgr 12) tyr tmn, tpV g au (tbB tb) tn pl tk sr vl, shA g ae a0 a1 a2 a3, shV g a0 (nm 0) (wd 0) (sz 0), shV g a1 (nm 1) (wd 1) (sz 1), shV g a2 (nm 2) (wd 2) (sz 2), shV g a3 (nm 3) (wd 3) (sz 3), arr7 g ay (updN tl 5 (tl 5 + 1))]) C dX3_write_32 ml_X3_47 mf_X3_finding (c_finding g ao ap ak at' au ae ay kp tl 5 (by decide)) ⟨rfl, rfl, (Nat.le_of_ble_eq_true rfl), (Nat.le_of_ble_eq_true rfl)⟩ rfl rfl (Nat.le_of_ble_eq_true rfl) rfl rfl 0 rfl rfl rfl [0, 10] rfl rfl rfl rfl ?_
        refine g_i2l (pc := 35) C dX3_write_35 ?_
        have hf : f_write ((mn, yr, gr, kd, pt, wt, mr), (ks, kp), (tb, tn), (wd, sz, nm), tl) (nI 2) i v = ((((fd 5)).toInt64), ((mn, yr, gr, kd, pt, wt, mr), (ks, kp), (tb, tn), (wd, sz, nm), updN tl 5 (tl 5 + 1))) := by simp [f_write, fndL, fnd, c1, c6, ix_nI (show 2 < 2 ^ 31 by decide)]
        exact g_lret C Rr dX3_write_36 ⟨(la, ((kmn, kyr, kgr, kkd, kpt, kwt, kmr), kla), ((tmn, tyr, tgr, tkd, tpt, twt, tmr), tla), (pl, tk, sr, vl)), by rw [hf]; exact (fun h => hJ h), by rw [hf], by rw [hf]; rfl⟩ (spX_ad g (ao, ap, ak, at', au, ae, a0, a1, a2, a3, ay) ((mn, yr, gr, kd, pt, wt, mr), (ks, kp), (tb, tn), (wd, sz, nm), updN tl 5 (tl 5 + 1)) ((mn, yr, gr, kd, pt, wt, mr), (ks, kp), (tb, tn), (wd, sz, nm), tl) (la, ((kmn, kyr, kgr, kkd, kpt, kwt, kmr), kla), ((tmn, tyr, tgr, tkd, tpt, twt, tmr), tla), (pl, tk, sr, vl)) (la, ((kmn, kyr, kgr, kkd, kpt, kwt, kmr), kla), ((tmn, tyr, tgr, tkd, tpt, twt, tmr), tla), (pl, tk, sr, vl)))
    · refine g_aload_n (pc := 14) C dX3_write_14 rfl ?_
      refine g_get3 (pc := 15) C dX3_write_15 0 rfl 4 (by decide) fl_X3_31 rfl ?_
      refine g_iload_n (pc := 18) C dX3_write_18 rfl ?_
      refine g_aaldN (pc := 19) C dX3_write_19 24 rfl rfl (by decide) (by decide) rfl ?_
      refine g_astore (pc := 20) (lv2 := [(0, .ref (ao 0)), (1, .int (nI 3)), (2, .int i), (3, .long v), (5, .ref (a3 0))]) C dX3_write_20 (Nat.le_of_ble_eq_true rfl) rfl ?_
      refine g_aload (pc := 22) C dX3_write_22 rfl ?_
      refine g_bxi (pc := 24) (cs := [shV g a3 (nm 3) (wd 3) (sz 3)]) (ds := [shV g a3 (nm 3) (wd 3) (sz 3)]) (bs2 := [spO g ao ap ak at' au ae ay kp, potV g ap gr la kd pt wt mr (sumN gr 12) yr mn, potV g ak kgr kla kkd kpt kwt kmr (sumN kgr 12) kyr kmn, potV g at' tgr tla tkd tpt twt tmr (sumN tgr 12) tyr tmn, tpV g au (tbB tb) tn pl tk sr vl, shA g ae a0 a1 a2 a3, shV g a0 (nm 0) (wd 0) (sz 0), shV g a1 (nm 1) (wd 1) (sz 1), shV g a2 (nm 2) (wd 2) (sz 2), shV g a3 (nm 3) (wd 3) (sz 3), arr7 g ay tl]) C dX3_write_24 ml_X3_184 mf_X1_isMissing (c_isMissing g a3 (nm 3) (wd 3) (sz 3) (wlt hwd _)) ⟨rfl, rfl, (Nat.le_of_ble_eq_true rfl), (Nat.le_of_ble_eq_true rfl)⟩ rfl rfl (Nat.le_of_ble_eq_true rfl) (fl1 _) (fl1 _) 0 rfl rfl rfl [9] rfl rfl rfl rfl ?_
      refine g_if_eqB (pc := 27) (tgt := 37) C dX3_write_27 (by decide) (fun c8 => ?_) (fun c8 => ?_)
      · refine g_iload_n (pc := 37) C dX3_write_37 rfl ?_
        refine g_iconst (pc := 38) (v := nI 0) C dX3_write_38 (by decide) ?_
        refine g_aload (pc := 39) C dX3_write_39 rfl ?_
        refine g_get1 (pc := 41) C dX3_write_41 31 rfl 2 (by decide) fl_X3_181 rfl ?_
        refine g_iconst (pc := 44) (v := nI 1) C dX3_write_44 (by decide) ?_
        refine g_isub (pc := 45) C dX3_write_45 ?_
        refine g_s0i (pc := 46) C dX3_write_46 ml_X3_52 mf_X3_isWithin (c_isWithin g i (nI 0) ((nI (sz 3)) - (nI 1))) ⟨rfl, rfl, (Nat.le_of_ble_eq_true rfl), (Nat.le_of_ble_eq_true rfl)⟩ rfl rfl (Nat.le_of_ble_eq_true rfl) ?_
        refine g_top (y := bI (inR i 0 ((sz 3 : Int) - 1) = true)) (bI_iff (isW_sz (by omega))) ?_
        refine g_if_neB (pc := 49) (tgt := 59) C dX3_write_49 (by decide) (fun c9 => ?_) (fun c9 => ?_)
        · obtain ⟨i_, hu_i, rfl⟩ := inR_cook c9
          refine g_aload (pc := 59) C dX3_write_59 rfl ?_
          refine g_get1 (pc := 61) C dX3_write_61 31 rfl 0 (by decide) fl_X3_187 rfl ?_
          refine g_iload_n (pc := 64) C dX3_write_64 rfl ?_
          refine g_laldN (pc := 65) C dX3_write_65 32 rfl rfl (by omega) (by decide) ?_
          refine g_lstore (pc := 66) (lv2 := [(0, .ref (ao 0)), (1, .int (nI 3)), (2, .int (nI i_)), (3, .long v), (5, .ref (a3 0)), (6, .long ((nm 3) i_))]) C dX3_write_66 (Nat.le_of_ble_eq_true rfl) rfl ?_
          refine g_aload (pc := 68) C dX3_write_68 rfl ?_
          refine g_iload_n (pc := 70) C dX3_write_70 rfl ?_
          refine g_lload_n (pc := 71) C dX3_write_71 rfl ?_
          refine g_bxn (pc := 72) (cs := [shV g a3 (nm 3) (wd 3) (sz 3)]) (ds := [shV g a3 (vp_updL (nm 3) i_ (narW (wd 3) v)) (wd 3) (sz 3)]) (bs2 := [spO g ao ap ak at' au ae ay kp, potV g ap gr la kd pt wt mr (sumN gr 12) yr mn, potV g ak kgr kla kkd kpt kwt kmr (sumN kgr 12) kyr kmn, potV g at' tgr tla tkd tpt twt tmr (sumN tgr 12) tyr tmn, tpV g au (tbB tb) tn pl tk sr vl, shA g ae a0 a1 a2 a3, shV g a0 (nm 0) (wd 0) (sz 0), shV g a1 (nm 1) (wd 1) (sz 1), shV g a2 (nm 2) (wd 2) (sz 2), shV g a3 (vp_updL (nm 3) i_ (narW (wd 3) v)) (wd 3) (sz 3), arr7 g ay tl]) C dX3_write_72 ml_X3_191 mf_X1_put (c_put g a3 (nm 3) (wd 3) (sz 3) i_ v (wlt hwd _) (by omega)) ⟨rfl, rfl, (Nat.le_of_ble_eq_true rfl), (Nat.le_of_ble_eq_true rfl)⟩ rfl rfl (Nat.le_of_ble_eq_true rfl) (fl1 _) (fl1 _) 0 rfl rfl rfl [9] rfl rfl rfl rfl ?_
          refine g_lload (pc := 75) C dX3_write_75 rfl ?_
          have hf : f_write ((mn, yr, gr, kd, pt, wt, mr), (ks, kp), (tb, tn), (wd, sz, nm), tl) (nI 3) (nI i_) v = (((nm 3) i_), ((mn, yr, gr, kd, pt, wt, mr), (ks, kp), (tb, tn), (wd, sz, updH nm 3 (vp_updL (nm 3) i_ (narW (wd 3) v))), tl)) := by simp [f_write, fndL, fnd, c1, c8, c9, ix_nI (show i_ < 2 ^ 31 by omega), ix_nI (show 3 < 2 ^ 31 by decide)]
          exact g_lret C Rr dX3_write_77 ⟨(la, ((kmn, kyr, kgr, kkd, kpt, kwt, kmr), kla), ((tmn, tyr, tgr, tkd, tpt, twt, tmr), tla), (pl, tk, sr, vl)), by rw [hf]; exact (fun h => hJ h), by rw [hf], by rw [hf]; rfl⟩ (spX_ad g (ao, ap, ak, at', au, ae, a0, a1, a2, a3, ay) ((mn, yr, gr, kd, pt, wt, mr), (ks, kp), (tb, tn), (wd, sz, updH nm 3 (vp_updL (nm 3) i_ (narW (wd 3) v))), tl) ((mn, yr, gr, kd, pt, wt, mr), (ks, kp), (tb, tn), (wd, sz, nm), tl) (la, ((kmn, kyr, kgr, kkd, kpt, kwt, kmr), kla), ((tmn, tyr, tgr, tkd, tpt, twt, tmr), tla), (pl, tk, sr, vl)) (la, ((kmn, kyr, kgr, kkd, kpt, kwt, kmr), kla), ((tmn, tyr, tgr, tkd, tpt, twt, tmr), tla), (pl, tk, sr, vl)))
        · refine g_aload_n (pc := 52) C dX3_write_52 rfl ?_
          refine g_iconst (pc := 53) (v := nI 0) C dX3_write_53 (by decide) ?_
          refine g_bxi (pc := 54) (cs := [spO g ao ap ak at' au ae ay kp, arr7 g ay tl]) (ds := [spO g ao ap ak at' au ae ay kp, arr7 g ay (updN tl 0 (tl 0 + 1))]) (bs2 := [spO g ao ap ak at' au ae ay kp, potV g ap gr la kd pt wt mr (sumN gr 12) yr mn, potV g ak kgr kla kkd kpt kwt kmr (sumN kgr 12) kyr kmn, potV g at' tgr tla tkd tpt twt tmr (sumN tgr 12) tyr tmn, tpV g au (tbB tb) tn pl tk sr vl, shA g ae a0 a1 a2 a3, shV g a0 (nm 0) (wd 0) (sz 0), shV g a1 (nm 1) (wd 1) (sz 1), shV g a2 (nm 2) (wd 2) (sz 2), shV g a3 (nm 3) (wd 3) (sz 3), arr7 g ay (updN tl 0 (tl 0 + 1))]) C dX3_write_54 ml_X3_47 mf_X3_finding (c_finding g ao ap ak at' au ae ay kp tl 0 (by decide)) ⟨rfl, rfl, (Nat.le_of_ble_eq_true rfl), (Nat.le_of_ble_eq_true rfl)⟩ rfl rfl (Nat.le_of_ble_eq_true rfl) rfl rfl 0 rfl rfl rfl [0, 10] rfl rfl rfl rfl ?_
          refine g_i2l (pc := 57) C dX3_write_57 ?_
          have hf : f_write ((mn, yr, gr, kd, pt, wt, mr), (ks, kp), (tb, tn), (wd, sz, nm), tl) (nI 3) i v = ((((fd 0)).toInt64), ((mn, yr, gr, kd, pt, wt, mr), (ks, kp), (tb, tn), (wd, sz, nm), updN tl 0 (tl 0 + 1))) := by simp [f_write, fndL, fnd, c1, c8, c9, ix_nI (show 3 < 2 ^ 31 by decide)]
          exact g_lret C Rr dX3_write_58 ⟨(la, ((kmn, kyr, kgr, kkd, kpt, kwt, kmr), kla), ((tmn, tyr, tgr, tkd, tpt, twt, tmr), tla), (pl, tk, sr, vl)), by rw [hf]; exact (fun h => hJ h), by rw [hf], by rw [hf]; rfl⟩ (spX_ad g (ao, ap, ak, at', au, ae, a0, a1, a2, a3, ay) ((mn, yr, gr, kd, pt, wt, mr), (ks, kp), (tb, tn), (wd, sz, nm), updN tl 0 (tl 0 + 1)) ((mn, yr, gr, kd, pt, wt, mr), (ks, kp), (tb, tn), (wd, sz, nm), tl) (la, ((kmn, kyr, kgr, kkd, kpt, kwt, kmr), kla), ((tmn, tyr, tgr, tkd, tpt, twt, tmr), tla), (pl, tk, sr, vl)) (la, ((kmn, kyr, kgr, kkd, kpt, kwt, kmr), kla), ((tmn, tyr, tgr, tkd, tpt, twt, tmr), tla), (pl, tk, sr, vl)))
      · refine g_aload_n (pc := 30) C dX3_write_30 rfl ?_
        refine g_iconst (pc := 31) (v := nI 5) C dX3_write_31 (by decide) ?_
        refine g_bxi (pc := 32) (cs := [spO g ao ap ak at' au ae ay kp, arr7 g ay tl]) (ds := [spO g ao ap ak at' au ae ay kp, arr7 g ay (updN tl 5 (tl 5 + 1))]) (bs2 := [spO g ao ap ak at' au ae ay kp, potV g ap gr la kd pt wt mr (sumN gr 12) yr mn, potV g ak kgr kla kkd kpt kwt kmr (sumN kgr 12) kyr kmn, potV g at' tgr tla tkd tpt twt tmr (sumN tgr 12) tyr tmn, tpV g au (tbB tb) tn pl tk sr vl, shA g ae a0 a1 a2 a3, shV g a0 (nm 0) (wd 0) (sz 0), shV g a1 (nm 1) (wd 1) (sz 1), shV g a2 (nm 2) (wd 2) (sz 2), shV g a3 (nm 3) (wd 3) (sz 3), arr7 g ay (updN tl 5 (tl 5 + 1))]) C dX3_write_32 ml_X3_47 mf_X3_finding (c_finding g ao ap ak at' au ae ay kp tl 5 (by decide)) ⟨rfl, rfl, (Nat.le_of_ble_eq_true rfl), (Nat.le_of_ble_eq_true rfl)⟩ rfl rfl (Nat.le_of_ble_eq_true rfl) rfl rfl 0 rfl rfl rfl [0, 10] rfl rfl rfl rfl ?_
        refine g_i2l (pc := 35) C dX3_write_35 ?_
        have hf : f_write ((mn, yr, gr, kd, pt, wt, mr), (ks, kp), (tb, tn), (wd, sz, nm), tl) (nI 3) i v = ((((fd 5)).toInt64), ((mn, yr, gr, kd, pt, wt, mr), (ks, kp), (tb, tn), (wd, sz, nm), updN tl 5 (tl 5 + 1))) := by simp [f_write, fndL, fnd, c1, c8, ix_nI (show 3 < 2 ^ 31 by decide)]
        exact g_lret C Rr dX3_write_36 ⟨(la, ((kmn, kyr, kgr, kkd, kpt, kwt, kmr), kla), ((tmn, tyr, tgr, tkd, tpt, twt, tmr), tla), (pl, tk, sr, vl)), by rw [hf]; exact (fun h => hJ h), by rw [hf], by rw [hf]; rfl⟩ (spX_ad g (ao, ap, ak, at', au, ae, a0, a1, a2, a3, ay) ((mn, yr, gr, kd, pt, wt, mr), (ks, kp), (tb, tn), (wd, sz, nm), updN tl 5 (tl 5 + 1)) ((mn, yr, gr, kd, pt, wt, mr), (ks, kp), (tb, tn), (wd, sz, nm), tl) (la, ((kmn, kyr, kgr, kkd, kpt, kwt, kmr), kla), ((tmn, tyr, tgr, tkd, tpt, twt, tmr), tla), (pl, tk, sr, vl)) (la, ((kmn, kyr, kgr, kkd, kpt, kwt, kmr), kla), ((tmn, tyr, tgr, tkd, tpt, twt, tmr), tla), (pl, tk, sr, vl)))
  · refine g_aload_n (pc := 7) C dX3_write_7 rfl ?_
    refine g_iconst (pc := 8) (v := nI 0) C dX3_write_8 (by decide) ?_
    refine g_bxi (pc := 9) (cs := [spO g ao ap ak at' au ae ay kp, arr7 g ay tl]) (ds := [spO g ao ap ak at' au ae ay kp, arr7 g ay (updN tl 0 (tl 0 + 1))]) (bs2 := [spO g ao ap ak at' au ae ay kp, potV g ap gr la kd pt wt mr (sumN gr 12) yr mn, potV g ak kgr kla kkd kpt kwt kmr (sumN kgr 12) kyr kmn, potV g at' tgr tla tkd tpt twt tmr (sumN tgr 12) tyr tmn, tpV g au (tbB tb) tn pl tk sr vl, shA g ae a0 a1 a2 a3, shV g a0 (nm 0) (wd 0) (sz 0), shV g a1 (nm 1) (wd 1) (sz 1), shV g a2 (nm 2) (wd 2) (sz 2), shV g a3 (nm 3) (wd 3) (sz 3), arr7 g ay (updN tl 0 (tl 0 + 1))]) C dX3_write_9 ml_X3_47 mf_X3_finding (c_finding g ao ap ak at' au ae ay kp tl 0 (by decide)) ⟨rfl, rfl, (Nat.le_of_ble_eq_true rfl), (Nat.le_of_ble_eq_true rfl)⟩ rfl rfl (Nat.le_of_ble_eq_true rfl) rfl rfl 0 rfl rfl rfl [0, 10] rfl rfl rfl rfl ?_
    refine g_i2l (pc := 12) C dX3_write_12 ?_
    have hf : f_write ((mn, yr, gr, kd, pt, wt, mr), (ks, kp), (tb, tn), (wd, sz, nm), tl) s i v = ((((fd 0)).toInt64), ((mn, yr, gr, kd, pt, wt, mr), (ks, kp), (tb, tn), (wd, sz, nm), updN tl 0 (tl 0 + 1))) := by simp [f_write, fndL, fnd, c1]
    exact g_lret C Rr dX3_write_13 ⟨(la, ((kmn, kyr, kgr, kkd, kpt, kwt, kmr), kla), ((tmn, tyr, tgr, tkd, tpt, twt, tmr), tla), (pl, tk, sr, vl)), by rw [hf]; exact (fun h => hJ h), by rw [hf], by rw [hf]; rfl⟩ (spX_ad g (ao, ap, ak, at', au, ae, a0, a1, a2, a3, ay) ((mn, yr, gr, kd, pt, wt, mr), (ks, kp), (tb, tn), (wd, sz, nm), updN tl 0 (tl 0 + 1)) ((mn, yr, gr, kd, pt, wt, mr), (ks, kp), (tb, tn), (wd, sz, nm), tl) (la, ((kmn, kyr, kgr, kkd, kpt, kwt, kmr), kla), ((tmn, tyr, tgr, tkd, tpt, twt, tmr), tla), (pl, tk, sr, vl)) (la, ((kmn, kyr, kgr, kkd, kpt, kwt, kmr), kla), ((tmn, tyr, tgr, tkd, tpt, twt, tmr), tla), (pl, tk, sr, vl)))
set_option maxHeartbeats 400000 in
set_option maxRecDepth 100000 in
theorem m_wrong (g : Gl) (a : Nat → Nat) (s : Nat → Nat) (ks : Nat → Nat) (os : Nat → Nat) (sd : Nat → Nat) (sts : Nat → Nat) (kp : Nat) (tk : Nat → Nat) (tp : Nat → Nat) (tn : Nat) (fr : Nat) (to : Nat) (vl : Nat) (wr : Nat) (bo : Nat → Nat) (so : Nat → Nat) (nm : Nat → Int64) (mv : Nat → Int64) (q : Int32) (hw : ∀ s, bo s < 2 ^ 31) : Ct g yX4_wrongSheet cX4_wrongSheet 2 (some .int) (rk 2 45) [.ref (a 0), .int q] (mdV g a s ks os sd sts kp tk tp tn fr to vl wr bo so nm mv) (fun r w2 => r = some (.int (wrS bo q)) ∧ w2 = (mdV g a s ks os sd sts kp tk tp tn fr to vl wr bo so nm mv)) := by
  refine ct_of (by decide) (Nat.le_of_ble_eq_true rfl) ?_
  intro φ C0 Rr
  have C : Cx φ g cX4_wrongSheet 2 RX4 (rk 2 45) := C0
  show Go φ g 2 0 [(0, .ref (a 0)), (1, .int q)] [] (mdV g a s ks os sd sts kp tk tp tn fr to vl wr bo so nm mv)
  refine g_iload_n (pc := 0) C dX4_wrongSheet_0 rfl ?_
  refine g_s0i (pc := 1) C dX4_wrongSheet_1 ml_X4_278 mf_X4_isOne (m_isOne g q) ⟨rfl, rfl, (Nat.le_of_ble_eq_true rfl), (Nat.le_of_ble_eq_true rfl)⟩ rfl rfl (Nat.le_of_ble_eq_true rfl) ?_
  refine g_if_neB (pc := 4) (tgt := 12) C dX4_wrongSheet_4 (by decide) (fun c1 => ?_) (fun c1 => ?_)
  · obtain ⟨q_, hl_q, hu_q, rfl⟩ := inR_nat (lo := 0) (hi := 3) c1
    refine g_aload_n (pc := 12) C dX4_wrongSheet_12 rfl ?_
    refine g_get4 (pc := 13) C dX4_wrongSheet_13 0 rfl 13 (by decide) fl_X4_31 rfl ?_
    refine g_iload_n (pc := 16) C dX4_wrongSheet_16 rfl ?_
    refine g_ialdM (pc := 17) C dX4_wrongSheet_17 8 rfl rfl (by omega) (by decide) ?_
    refine g_if_neN (pc := 18) (tgt := 27) C dX4_wrongSheet_18 (by decide) (hw _) (fun c2 => ?_) (fun c2 => ?_)
    · refine g_iconst (pc := 27) (v := nI 0) C dX4_wrongSheet_27 (by decide) ?_
      exact g_iret C Rr dX4_wrongSheet_28 ⟨by first | (simp [wrS, c1, c2, ix_nI (show q_ < 2 ^ 31 by omega)]; done) | (simp [wrS, c1, c2, ix_nI (show q_ < 2 ^ 31 by omega)]; rfl), rfl⟩ rfl
    · refine g_ldc_w (pc := 21) C dX4_wrongSheet_21 ck_X4_282 rfl ?_
      refine g_goto (pc := 24) (tgt := 28) C dX4_wrongSheet_24 (by decide) ?_
      exact g_iret C Rr dX4_wrongSheet_28 ⟨by first | (simp [wrS, c1, c2, ix_nI (show q_ < 2 ^ 31 by omega)]; done) | (simp [wrS, c1, c2, ix_nI (show q_ < 2 ^ 31 by omega)]; rfl), rfl⟩ rfl
  · refine g_ldc (pc := 7) C dX4_wrongSheet_7 ck_X4_44 rfl ?_
    refine g_goto (pc := 9) (tgt := 28) C dX4_wrongSheet_9 (by decide) ?_
    exact g_iret C Rr dX4_wrongSheet_28 ⟨by first | (simp [wrS, c1]; done) | (simp [wrS, c1]; rfl), rfl⟩ rfl
set_option maxHeartbeats 400000 in
set_option maxRecDepth 100000 in
theorem n_write (g : Gl) (a : Nat → Nat) (X : Xs) (J : Jm) (s : Int32) (i : Int32) (v : Int64) (hX : InvX X) (hJ : OkM X J) : Ct g yX4_write cX4_write 8 (some .long) (rk 3 66) [.ref (a 0), .int s, .int i, .long v] (mdX g a X J) (fun r w2 => ∃ J2, OkM (f_write X s i v).2 J2 ∧ r = some (.long (f_write X s i v).1) ∧ w2 = mdX g a (f_write X s i v).2 J2) := by
  obtain ⟨⟨mn, yr, gr, kd, pt, wt, mr⟩, ⟨⟨kmn, kyr, kgr, kkd, kpt, kwt, kmr⟩, kp⟩, ⟨tb, tn⟩, ⟨wd, sz, nm⟩, tl⟩ := X
  obtain ⟨kc, os, sd, tk, fr, to, vl, wr, mv⟩ := J
  obtain ⟨hB, hy, hkp, htb, htn, hwd, hsz⟩ := id hX
  obtain ⟨-, hTle, hgr, hkd, hpt, hwt, hmr, hyr, hmn⟩ := id hB
  refine ct_of (by decide) (Nat.le_of_ble_eq_true rfl) ?_
  intro φ C0 Rr
  have C : Cx φ g cX4_write 8 RX4 (rk 3 66) := C0
  show Go φ g 8 0 [(0, .ref (a 0)), (1, .int s), (2, .int i), (3, .long v)] [] (mdV g a (sF mn yr gr kd pt wt mr) kc os sd tl kp tk tb tn fr to vl wr wd sz (flat nm) mv)
  refine g_aload_n (pc := 0) C dX4_write_0 rfl ?_
  refine g_iload_n (pc := 1) C dX4_write_1 rfl ?_
  refine g_vxi (pc := 2) (ws2 := (mdV g a (sF mn yr gr kd pt wt mr) kc os sd tl kp tk tb tn fr to vl wr wd sz (flat nm) mv)) C dX4_write_2 ml_X4_283 mf_X4_wrongSheet (m_wrong g a (sF mn yr gr kd pt wt mr) kc os sd tl kp tk tb tn fr to vl wr wd sz (flat nm) mv s (wlt hwd)) ⟨rfl, rfl, (Nat.le_of_ble_eq_true rfl), (Nat.le_of_ble_eq_true rfl)⟩ rfl rfl (Nat.le_of_ble_eq_true rfl) 0 rfl rfl rfl [0, 1, 2, 3, 4, 5, 6, 7, 8, 9, 10, 11] [] [0, 1, 2, 3, 4, 5, 6, 7, 8, 9, 10, 11] rfl rfl rfl rfl (by decide) rfl rfl ?_
  by_cases c1 : inR s 0 3 = true
  · obtain ⟨s_, hl_s, hu_s, rfl⟩ := inR_nat (lo := 0) (hi := 3) c1
    have hzs := hsz s_
    have hws := hwd s_
    by_cases c2 : wd s_ = 0
    · refine g_top (y := (-1000000006)) (by rw [wrS, if_pos c1, ix_nI (show s_ < 2 ^ 31 by omega), if_pos c2]; rfl) ?_
      refine g_istore (pc := 5) (lv2 := [(0, .ref (a 0)), (1, .int (nI s_)), (2, .int i), (3, .long v), (5, .int (-1000000006))]) C dX4_write_5 (Nat.le_of_ble_eq_true rfl) rfl ?_
      refine g_iload (pc := 7) C dX4_write_7 rfl ?_
      refine g_if_eq (pc := 9) (tgt := 20) C dX4_write_9 (by decide) (fun h => absurd h (by decide)) (fun _ => ?_)
      refine g_aload_n (pc := 12) C dX4_write_12 rfl ?_
      refine g_iload (pc := 13) C dX4_write_13 rfl ?_
      refine g_vxi (pc := 15) (ws2 := (mdV g a (sF mn yr gr kd pt wt mr) kc os sd (updN tl 5 (tl 5 + 1)) kp tk tb tn fr to vl wr wd sz (flat nm) mv)) C dX4_write_15 ml_X4_64 mf_X4_finds (m_finds g a (sF mn yr gr kd pt wt mr) kc os sd tl kp tk tb tn fr to vl wr wd sz (flat nm) mv 5 (by decide)) ⟨rfl, rfl, (Nat.le_of_ble_eq_true rfl), (Nat.le_of_ble_eq_true rfl)⟩ rfl rfl (Nat.le_of_ble_eq_true rfl) 0 rfl rfl rfl [0, 1, 2, 3, 4, 5, 6, 7, 8, 9, 10, 11] [] [0, 1, 2, 3, 4, 5, 6, 7, 8, 9, 10, 11] rfl rfl rfl rfl (by decide) rfl rfl ?_
      refine g_i2l (pc := 18) C dX4_write_18 ?_
      have hf : f_write ((mn, yr, gr, kd, pt, wt, mr), ((kmn, kyr, kgr, kkd, kpt, kwt, kmr), kp), (tb, tn), (wd, sz, nm), tl) (nI s_) i v = ((((fd 5)).toInt64), ((mn, yr, gr, kd, pt, wt, mr), ((kmn, kyr, kgr, kkd, kpt, kwt, kmr), kp), (tb, tn), (wd, sz, nm), updN tl 5 (tl 5 + 1))) := by simp [f_write, fndL, fnd, c1, c2, ix_nI (show s_ < 2 ^ 31 by omega)]
      exact g_lret C Rr dX4_write_19 ⟨(kc, os, sd, tk, fr, to, vl, wr, mv), by rw [hf]; exact hJ, by rw [hf], by rw [hf]; rfl⟩ rfl
    · refine g_top (y := (nI 0)) (by rw [wrS, if_pos c1, ix_nI (show s_ < 2 ^ 31 by omega), if_neg c2]; rfl) ?_
      refine g_istore (pc := 5) (lv2 := [(0, .ref (a 0)), (1, .int (nI s_)), (2, .int i), (3, .long v), (5, .int (nI 0))]) C dX4_write_5 (Nat.le_of_ble_eq_true rfl) rfl ?_
      refine g_iload (pc := 7) C dX4_write_7 rfl ?_
      refine g_if_eqN (pc := 9) (tgt := 20) C dX4_write_9 (by decide) (by decide) (fun _ => ?_) (fun h => absurd h (by decide))
      refine g_iload_n (pc := 20) C dX4_write_20 rfl ?_
      refine g_i2l (pc := 21) C dX4_write_21 ?_
      refine g_lconst (pc := 22) (v := 0) C dX4_write_22 (by decide) ?_
      refine g_aload_n (pc := 23) C dX4_write_23 rfl ?_
      refine g_get4 (pc := 24) C dX4_write_24 0 rfl 14 (by decide) fl_X4_34 rfl ?_
      refine g_iload_n (pc := 27) C dX4_write_27 rfl ?_
      refine g_ialdM (pc := 28) C dX4_write_28 9 rfl rfl (by omega) (by decide) ?_
      refine g_iconst (pc := 29) (v := nI 1) C dX4_write_29 (by decide) ?_
      refine g_isub (pc := 30) C dX4_write_30 ?_
      refine g_i2l (pc := 31) C dX4_write_31 ?_
      refine g_s0i (pc := 32) C dX4_write_32 ml_X4_47 mf_X4_in (m_in g ((i).toInt64) 0 ((((nI (sz s_)) - (nI 1))).toInt64)) ⟨rfl, rfl, (Nat.le_of_ble_eq_true rfl), (Nat.le_of_ble_eq_true rfl)⟩ rfl rfl (Nat.le_of_ble_eq_true rfl) ?_
      refine g_top (y := bI (inR i 0 ((sz s_ : Int) - 1) = true)) (bI_iff (in_sz (by omega))) ?_
      refine g_if_neB (pc := 35) (tgt := 46) C dX4_write_35 (by decide) (fun c5 => ?_) (fun c5 => ?_)
      · obtain ⟨i_, hu_i, rfl⟩ := inR_cook c5
        refine g_aload_n (pc := 46) C dX4_write_46 rfl ?_
        refine g_get4 (pc := 47) C dX4_write_47 0 rfl 15 (by decide) fl_X4_37 rfl ?_
        refine g_bipush (pc := 50) (v := nI 40) C dX4_write_50 (by decide) ?_
        refine g_iload_n (pc := 52) C dX4_write_52 rfl ?_
        refine g_imulN (pc := 53) C dX4_write_53 ?_
        refine g_iload_n (pc := 54) C dX4_write_54 rfl ?_
        refine g_iaddN (pc := 55) C dX4_write_55 ?_
        refine g_laldN (pc := 56) C dX4_write_56 10 rfl rfl (by omega) (by decide) ?_
        refine g_topL (y := (nm s_ i_)) (flat_at (by omega)) ?_
        refine g_lstore (pc := 57) (lv2 := [(0, .ref (a 0)), (1, .int (nI s_)), (2, .int (nI i_)), (3, .long v), (5, .int (nI 0)), (6, .long (nm s_ i_))]) C dX4_write_57 (Nat.le_of_ble_eq_true rfl) rfl ?_
        refine g_aload_n (pc := 59) C dX4_write_59 rfl ?_
        refine g_get4 (pc := 60) C dX4_write_60 0 rfl 15 (by decide) fl_X4_37 rfl ?_
        refine g_bipush (pc := 63) (v := nI 40) C dX4_write_63 (by decide) ?_
        refine g_iload_n (pc := 65) C dX4_write_65 rfl ?_
        refine g_imulN (pc := 66) C dX4_write_66 ?_
        refine g_iload_n (pc := 67) C dX4_write_67 rfl ?_
        refine g_iaddN (pc := 68) C dX4_write_68 ?_
        refine g_aload_n (pc := 69) C dX4_write_69 rfl ?_
        refine g_get4 (pc := 70) C dX4_write_70 0 rfl 13 (by decide) fl_X4_31 rfl ?_
        refine g_iload_n (pc := 73) C dX4_write_73 rfl ?_
        refine g_ialdM (pc := 74) C dX4_write_74 8 rfl rfl (by omega) (by decide) ?_
        refine g_lload_n (pc := 75) C dX4_write_75 rfl ?_
        refine g_s0l (pc := 76) C dX4_write_76 ml_X4_286 mf_X4_narrowed (m_narrowed g (wd s_) v (wlt hwd _)) ⟨rfl, rfl, (Nat.le_of_ble_eq_true rfl), (Nat.le_of_ble_eq_true rfl)⟩ rfl rfl (Nat.le_of_ble_eq_true rfl) ?_
        refine g_lastN (pc := 79) (ws2 := (mdV g a (sF mn yr gr kd pt wt mr) kc os sd tl kp tk tb tn fr to vl wr wd sz (vp_updL (flat nm) ((40 * s_) + i_) (narW (wd s_) v)) mv)) C dX4_write_79 10 rfl rfl (by omega) (by decide) rfl ?_
        refine g_ws (ws := (mdV g a (sF mn yr gr kd pt wt mr) kc os sd tl kp tk tb tn fr to vl wr wd sz (vp_updL (flat nm) ((40 * s_) + i_) (narW (wd s_) v)) mv)) (ws2 := (mdV g a (sF mn yr gr kd pt wt mr) kc os sd tl kp tk tb tn fr to vl wr wd sz (flat (updH nm s_ (vp_updL (nm s_) i_ (narW (wd s_) v)))) mv)) (by rw [flat_upd (by omega)]) ?_
        refine g_lload (pc := 80) C dX4_write_80 rfl ?_
        have hf : f_write ((mn, yr, gr, kd, pt, wt, mr), ((kmn, kyr, kgr, kkd, kpt, kwt, kmr), kp), (tb, tn), (wd, sz, nm), tl) (nI s_) (nI i_) v = ((nm s_ i_), ((mn, yr, gr, kd, pt, wt, mr), ((kmn, kyr, kgr, kkd, kpt, kwt, kmr), kp), (tb, tn), (wd, sz, updH nm s_ (vp_updL (nm s_) i_ (narW (wd s_) v))), tl)) := by simp [f_write, fndL, fnd, c1, c2, c5, ix_nI (show s_ < 2 ^ 31 by omega), ix_nI (show i_ < 2 ^ 31 by omega)]
        exact g_lret C Rr dX4_write_82 ⟨(kc, os, sd, tk, fr, to, vl, wr, mv), by rw [hf]; exact hJ, by rw [hf], by rw [hf]; rfl⟩ rfl
      · refine g_aload_n (pc := 38) C dX4_write_38 rfl ?_
        refine g_ldc (pc := 39) C dX4_write_39 ck_X4_44 rfl ?_
        refine g_vxi (pc := 41) (ws2 := (mdV g a (sF mn yr gr kd pt wt mr) kc os sd (updN tl 0 (tl 0 + 1)) kp tk tb tn fr to vl wr wd sz (flat nm) mv)) C dX4_write_41 ml_X4_64 mf_X4_finds (m_finds g a (sF mn yr gr kd pt wt mr) kc os sd tl kp tk tb tn fr to vl wr wd sz (flat nm) mv 0 (by decide)) ⟨rfl, rfl, (Nat.le_of_ble_eq_true rfl), (Nat.le_of_ble_eq_true rfl)⟩ rfl rfl (Nat.le_of_ble_eq_true rfl) 0 rfl rfl rfl [0, 1, 2, 3, 4, 5, 6, 7, 8, 9, 10, 11] [] [0, 1, 2, 3, 4, 5, 6, 7, 8, 9, 10, 11] rfl rfl rfl rfl (by decide) rfl rfl ?_
        refine g_i2l (pc := 44) C dX4_write_44 ?_
        have hf : f_write ((mn, yr, gr, kd, pt, wt, mr), ((kmn, kyr, kgr, kkd, kpt, kwt, kmr), kp), (tb, tn), (wd, sz, nm), tl) (nI s_) i v = ((((fd 0)).toInt64), ((mn, yr, gr, kd, pt, wt, mr), ((kmn, kyr, kgr, kkd, kpt, kwt, kmr), kp), (tb, tn), (wd, sz, nm), updN tl 0 (tl 0 + 1))) := by simp [f_write, fndL, fnd, c1, c2, c5, ix_nI (show s_ < 2 ^ 31 by omega)]
        exact g_lret C Rr dX4_write_45 ⟨(kc, os, sd, tk, fr, to, vl, wr, mv), by rw [hf]; exact hJ, by rw [hf], by rw [hf]; rfl⟩ rfl
  · refine g_top (y := (-1000000001)) (by rw [wrS, if_neg c1]; rfl) ?_
    refine g_istore (pc := 5) (lv2 := [(0, .ref (a 0)), (1, .int s), (2, .int i), (3, .long v), (5, .int (-1000000001))]) C dX4_write_5 (Nat.le_of_ble_eq_true rfl) rfl ?_
    refine g_iload (pc := 7) C dX4_write_7 rfl ?_
    refine g_if_eq (pc := 9) (tgt := 20) C dX4_write_9 (by decide) (fun h => absurd h (by decide)) (fun _ => ?_)
    refine g_aload_n (pc := 12) C dX4_write_12 rfl ?_
    refine g_iload (pc := 13) C dX4_write_13 rfl ?_
    refine g_vxi (pc := 15) (ws2 := (mdV g a (sF mn yr gr kd pt wt mr) kc os sd (updN tl 0 (tl 0 + 1)) kp tk tb tn fr to vl wr wd sz (flat nm) mv)) C dX4_write_15 ml_X4_64 mf_X4_finds (m_finds g a (sF mn yr gr kd pt wt mr) kc os sd tl kp tk tb tn fr to vl wr wd sz (flat nm) mv 0 (by decide)) ⟨rfl, rfl, (Nat.le_of_ble_eq_true rfl), (Nat.le_of_ble_eq_true rfl)⟩ rfl rfl (Nat.le_of_ble_eq_true rfl) 0 rfl rfl rfl [0, 1, 2, 3, 4, 5, 6, 7, 8, 9, 10, 11] [] [0, 1, 2, 3, 4, 5, 6, 7, 8, 9, 10, 11] rfl rfl rfl rfl (by decide) rfl rfl ?_
    refine g_i2l (pc := 18) C dX4_write_18 ?_
    have hf : f_write ((mn, yr, gr, kd, pt, wt, mr), ((kmn, kyr, kgr, kkd, kpt, kwt, kmr), kp), (tb, tn), (wd, sz, nm), tl) s i v = ((((fd 0)).toInt64), ((mn, yr, gr, kd, pt, wt, mr), ((kmn, kyr, kgr, kkd, kpt, kwt, kmr), kp), (tb, tn), (wd, sz, nm), updN tl 0 (tl 0 + 1))) := by simp [f_write, fndL, fnd, c1]
    exact g_lret C Rr dX4_write_19 ⟨(kc, os, sd, tk, fr, to, vl, wr, mv), by rw [hf]; exact hJ, by rw [hf], by rw [hf]; rfl⟩ rfl
