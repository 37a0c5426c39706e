def btA (tp : Nat → Nat) (tn k : Nat) : Int32 := if k < tn then nI (tp k) else -1
theorem bt_eq {tp : Nat → Nat} {tn k c : Nat} (h : tp k < 256) (hc : c < 256) : btA tp tn k = nI c ↔ k < tn ∧ tp k = c := by
  unfold btA
  by_cases e : k < tn
  · rw [if_pos e]
    constructor
    · intro z
      have := congrArg Int32.toInt z
      rw [nI_toInt (by omega), nI_toInt (by omega)] at this
      exact ⟨e, by omega⟩
    · intro z
      rw [z.2]
  · rw [if_neg e]
    constructor
    · intro z
      have := congrArg Int32.toInt z
      rw [nI_toInt (by omega)] at this
      have h9 : (-1 : Int32).toInt = -1 := rfl
      omega
    · intro z
      exact absurd z.1 e
theorem bt_in {tp : Nat → Nat} {tn k lo hi : Nat} (h : tp k < 256) : inR (btA tp tn k) lo hi = true ↔ k < tn ∧ lo ≤ tp k ∧ tp k ≤ hi := by
  unfold btA
  rw [inR_iff]
  by_cases e : k < tn
  · rw [if_pos e, nI_toInt (by omega)]
    omega
  · rw [if_neg e]
    have h9 : (-1 : Int32).toInt = -1 := rfl
    rw [h9]
    omega
set_option maxHeartbeats 400000 in
set_option maxRecDepth 100000 in
theorem m_byteAt (g : Gl) (a : Nat → Nat) (s : Nat → Nat) (ks : Nat → Nat) (os : Nat → Nat) (sd : Nat → Nat) (sts : Nat → Nat) (kp : Nat) (tk : Nat → Nat) (tp : Nat → Nat) (tn : Nat) (fr : Nat) (to : Nat) (vl : Nat) (wr : Nat) (bo : Nat → Nat) (so : Nat → Nat) (nm : Nat → Int64) (mv : Nat → Int64) (k : Nat) (htn : tn ≤ 120) (hk : k ≤ 120) : Ct g yX4_byteAt cX4_byteAt 2 (some .int) (rk 0 0) [.ref (a 0), .int (nI k)] (mdV g a s ks os sd sts kp tk tp tn fr to vl wr bo so nm mv) (fun r w2 => r = some (.int (btA tp tn k)) ∧ w2 = (mdV g a s ks os sd sts kp tk tp tn fr to vl wr bo so nm mv)) := by
  refine ct_of (by decide) (Nat.le_of_ble_eq_true rfl) ?_
  intro φ C0 Rr
  have C : Cx φ g cX4_byteAt 2 RX4 (rk 0 0) := C0
  show Go φ g 2 0 [(0, .ref (a 0)), (1, .int (nI k))] [] (mdV g a s ks os sd sts kp tk tp tn fr to vl wr bo so nm mv)
  refine g_iload_n (pc := 0) C dX4_byteAt_0 rfl ?_
  refine g_aload_n (pc := 1) C dX4_byteAt_1 rfl ?_
  refine g_get4 (pc := 2) C dX4_byteAt_2 0 rfl 8 (by decide) fl_X4_184 rfl ?_
  refine g_icmp_geN (pc := 5) (tgt := 17) C dX4_byteAt_5 (by decide) (by omega) (by omega) (fun c1 => ?_) (fun c1 => ?_)
  · refine g_iconst (pc := 17) (v := -1) C dX4_byteAt_17 (by decide) ?_
    exact g_iret C Rr dX4_byteAt_18 ⟨by rw [btA, if_neg (Nat.not_lt.mpr c1)], rfl⟩ rfl
  · refine g_aload_n (pc := 8) C dX4_byteAt_8 rfl ?_
    refine g_get4 (pc := 9) C dX4_byteAt_9 0 rfl 7 (by decide) fl_X4_28 rfl ?_
    refine g_iload_n (pc := 12) C dX4_byteAt_12 rfl ?_
    refine g_ialdM (pc := 13) C dX4_byteAt_13 7 rfl rfl (by omega) (by decide) ?_
    refine g_goto (pc := 14) (tgt := 18) C dX4_byteAt_14 (by decide) ?_
    exact g_iret C Rr dX4_byteAt_18 ⟨by rw [btA, if_pos c1], rfl⟩ rfl
set_option maxHeartbeats 400000 in
set_option maxRecDepth 100000 in
theorem m_isLetter (g : Gl) (p : Int32)  : Ct g yX4_isLetter cX4_isLetter 1 (some .boolean) (rk 1 25) [.int p] ([]) (fun r w2 => r = some (.int (bI (inR p 97 122 = true))) ∧ w2 = []) := by
  refine ct_of (by decide) (Nat.le_of_ble_eq_true rfl) ?_
  intro φ C0 Rr
  have C : Cx φ g cX4_isLetter 1 RX4 (rk 1 25) := C0
  show Go φ g 1 0 [(0, .int p)] [] ([])
  refine g_iload_n (pc := 0) C dX4_isLetter_0 rfl ?_
  refine g_i2l (pc := 1) C dX4_isLetter_1 ?_
  refine g_ldc2 (pc := 2) C dX4_isLetter_2 ckl_X4_188 rfl ?_
  refine g_ldc2 (pc := 5) C dX4_isLetter_5 ckl_X4_190 rfl ?_
  refine g_s0i (pc := 8) C dX4_isLetter_8 ml_X4_47 mf_X4_in (m_in g ((p).toInt64) (97) (122)) ⟨rfl, rfl, (Nat.le_of_ble_eq_true rfl), (Nat.le_of_ble_eq_true rfl)⟩ rfl rfl (Nat.le_of_ble_eq_true rfl) ?_
  refine g_top (y := bI (inR p 97 122 = true)) (bI_iff (w64.trans inR_iff.symm)) ?_
  exact g_zret C Rr dX4_isLetter_11 nar_bI ⟨rfl, rfl⟩ rfl
set_option maxHeartbeats 400000 in
set_option maxRecDepth 100000 in
theorem m_isDigit (g : Gl) (p : Int32)  : Ct g yX4_isDigit cX4_isDigit 1 (some .boolean) (rk 1 25) [.int p] ([]) (fun r w2 => r = some (.int (bI (inR p 48 57 = true))) ∧ w2 = []) := by
  refine ct_of (by decide) (Nat.le_of_ble_eq_true rfl) ?_
  intro φ C0 Rr
  have C : Cx φ g cX4_isDigit 1 RX4 (rk 1 25) := C0
  show Go φ g 1 0 [(0, .int p)] [] ([])
  refine g_iload_n (pc := 0) C dX4_isDigit_0 rfl ?_
  refine g_i2l (pc := 1) C dX4_isDigit_1 ?_
  refine g_ldc2 (pc := 2) C dX4_isDigit_2 ckl_X4_192 rfl ?_
  refine g_ldc2 (pc := 5) C dX4_isDigit_5 ckl_X4_194 rfl ?_
  refine g_s0i (pc := 8) C dX4_isDigit_8 ml_X4_47 mf_X4_in (m_in g ((p).toInt64) (48) (57)) ⟨rfl, rfl, (Nat.le_of_ble_eq_true rfl), (Nat.le_of_ble_eq_true rfl)⟩ rfl rfl (Nat.le_of_ble_eq_true rfl) ?_
  refine g_top (y := bI (inR p 48 57 = true)) (bI_iff (w64.trans inR_iff.symm)) ?_
  exact g_zret C Rr dX4_isDigit_11 nar_bI ⟨rfl, rfl⟩ rfl
set_option maxHeartbeats 400000 in
set_option maxRecDepth 100000 in
theorem m_token (g : Gl) (a : Nat → Nat) (s : Nat → Nat) (ks : Nat → Nat) (os : Nat → Nat) (sd : Nat → Nat) (sts : Nat → Nat) (kp : Nat) (tk : Nat → Nat) (tp : Nat → Nat) (tn : Nat) (fr : Nat) (to : Nat) (vl : Nat) (wr : Nat) (bo : Nat → Nat) (so : Nat → Nat) (nm : Nat → Int64) (mv : Nat → Int64) (htb : ∀ j, tp j < 256) (htn : tn ≤ 120) (hto : to ≤ tn) : Ct g yX4_token cX4_token 3 none (rk 2 45) [.ref (a 0)] (mdV g a s ks os sd sts kp tk tp tn fr to vl wr bo so nm mv) (fun r w2 => r = none ∧ w2 = (mdV g a s ks os sd sts kp tk tp tn (spE tp tn to) (tkE tp tn (spE tp tn to)) vl wr bo so nm mv)) := by
  refine ct_of (by decide) (Nat.le_of_ble_eq_true rfl) ?_
  intro φ C0 Rr
  have C : Cx φ g cX4_token 3 RX4 (rk 2 45) := C0
  show Go φ g 3 0 [(0, .ref (a 0))] [] (mdV g a s ks os sd sts kp tk tp tn fr to vl wr bo so nm mv)
  refine g_aload_n (pc := 0) C dX4_token_0 rfl ?_
  refine g_aload_n (pc := 1) C dX4_token_1 rfl ?_
  refine g_get4 (pc := 2) C dX4_token_2 0 rfl 10 (by decide) fl_X4_196 rfl ?_
  refine g_put4 (pc := 5) (ws2 := (mdV g a s ks os sd sts kp tk tp tn to to vl wr bo so nm mv)) C dX4_token_5 0 rfl 9 (by decide) fl_X4_199 rfl rfl rfl (Nat.le_of_ble_eq_true rfl) rfl ?_
  refine g_loop0 (n := tn) (fun (i : Nat) => to ≤ i ∧ ∀ j, to ≤ j → j < i → tp j = 32) (fun (i : Nat) => [(0, .ref (a 0))]) (fun (i : Nat) => (mdV g a s ks os sd sts kp tk tp tn i to vl wr bo so nm mv)) ?_ to (by omega) ⟨Nat.le_refl _, fun j h1 h2 => absurd h2 (Nat.not_lt.mpr h1)⟩
  intro i hi_i hv_i ih_i
  show Go φ g 3 8 [(0, .ref (a 0))] [] (mdV g a s ks os sd sts kp tk tp tn i to vl wr bo so nm mv)
  have hv_i : to ≤ i ∧ ∀ j, to ≤ j → j < i → tp j = 32 := hv_i
  refine g_aload_n (pc := 8) C dX4_token_8 rfl ?_
  refine g_aload_n (pc := 9) C dX4_token_9 rfl ?_
  refine g_get4 (pc := 10) C dX4_token_10 0 rfl 9 (by decide) fl_X4_199 rfl ?_
  refine g_vxi (pc := 13) (ws2 := (mdV g a s ks os sd sts kp tk tp tn i to vl wr bo so nm mv)) C dX4_token_13 ml_X4_202 mf_X4_byteAt (m_byteAt g a s ks os sd sts kp tk tp tn i to vl wr bo so nm mv i htn (by omega)) ⟨rfl, rfl, (Nat.le_of_ble_eq_true rfl), (Nat.le_of_ble_eq_true rfl)⟩ rfl rfl (Nat.le_of_ble_eq_true rfl) 0 rfl rfl rfl [0, 1, 2, 3, 4, 5, 6, 7, 8, 9, 10, 11] [] [0, 1, 2, 3, 4, 5, 6, 7, 8, 9, 10, 11] rfl rfl rfl rfl (by decide) rfl rfl ?_
  refine g_bipush (pc := 16) (v := nI 32) C dX4_token_16 (by decide) ?_
  refine g_icmp_ne (pc := 18) (tgt := 34) C dX4_token_18 (by decide) (fun c1 => ?_) (fun c1 => ?_)
  · refine g_aload_n (pc := 34) C dX4_token_34 rfl ?_
    refine g_aload_n (pc := 35) C dX4_token_35 rfl ?_
    refine g_get4 (pc := 36) C dX4_token_36 0 rfl 9 (by decide) fl_X4_199 rfl ?_
    refine g_vxi (pc := 39) (ws2 := (mdV g a s ks os sd sts kp tk tp tn i to vl wr bo so nm mv)) C dX4_token_39 ml_X4_202 mf_X4_byteAt (m_byteAt g a s ks os sd sts kp tk tp tn i to vl wr bo so nm mv i htn (by omega)) ⟨rfl, rfl, (Nat.le_of_ble_eq_true rfl), (Nat.le_of_ble_eq_true rfl)⟩ rfl rfl (Nat.le_of_ble_eq_true rfl) 0 rfl rfl rfl [0, 1, 2, 3, 4, 5, 6, 7, 8, 9, 10, 11] [] [0, 1, 2, 3, 4, 5, 6, 7, 8, 9, 10, 11] rfl rfl rfl rfl (by decide) rfl rfl ?_
    refine g_s0i (pc := 42) C dX4_token_42 ml_X4_205 mf_X4_isLetter (m_isLetter g (btA tp tn i)) ⟨rfl, rfl, (Nat.le_of_ble_eq_true rfl), (Nat.le_of_ble_eq_true rfl)⟩ rfl rfl (Nat.le_of_ble_eq_true rfl) ?_
    by_cases c2 : i < tn ∧ isL (tp i)
    · refine g_top (y := nI 1) (bI_t (P := inR (btA tp tn i) 97 122 = true) ((bt_in (lo := 97) (hi := 122) (htb i)).mpr c2)) ?_
      refine g_istore_n (pc := 45) (lv2 := [(0, .ref (a 0)), (1, .int (nI 1))]) C dX4_token_45 rfl (Nat.le_of_ble_eq_true rfl) rfl ?_
      refine g_aload_n (pc := 46) C dX4_token_46 rfl ?_
      refine g_aload_n (pc := 47) C dX4_token_47 rfl ?_
      refine g_get4 (pc := 48) C dX4_token_48 0 rfl 9 (by decide) fl_X4_199 rfl ?_
      refine g_vxi (pc := 51) (ws2 := (mdV g a s ks os sd sts kp tk tp tn i to vl wr bo so nm mv)) C dX4_token_51 ml_X4_202 mf_X4_byteAt (m_byteAt g a s ks os sd sts kp tk tp tn i to vl wr bo so nm mv i htn (by omega)) ⟨rfl, rfl, (Nat.le_of_ble_eq_true rfl), (Nat.le_of_ble_eq_true rfl)⟩ rfl rfl (Nat.le_of_ble_eq_true rfl) 0 rfl rfl rfl [0, 1, 2, 3, 4, 5, 6, 7, 8, 9, 10, 11] [] [0, 1, 2, 3, 4, 5, 6, 7, 8, 9, 10, 11] rfl rfl rfl rfl (by decide) rfl rfl ?_
      refine g_s0i (pc := 54) C dX4_token_54 ml_X4_208 mf_X4_isDigit (m_isDigit g (btA tp tn i)) ⟨rfl, rfl, (Nat.le_of_ble_eq_true rfl), (Nat.le_of_ble_eq_true rfl)⟩ rfl rfl (Nat.le_of_ble_eq_true rfl) ?_
      by_cases c3 : i < tn ∧ isD (tp i)
      · refine g_top (y := nI 1) (bI_t (P := inR (btA tp tn i) 48 57 = true) ((bt_in (lo := 48) (hi := 57) (htb i)).mpr c3)) ?_
        exact absurd (And.intro c2.2 c3.2) (by omega)
      · refine g_top (y := nI 0) (bI_f (P := inR (btA tp tn i) 48 57 = true) (fun q => c3 ((bt_in (lo := 48) (hi := 57) (htb i)).mp q))) ?_
        refine g_istore_n (pc := 57) (lv2 := [(0, .ref (a 0)), (1, .int (nI 1)), (2, .int (nI 0))]) C dX4_token_57 rfl (Nat.le_of_ble_eq_true rfl) rfl ?_
        refine g_aload_n (pc := 58) C dX4_token_58 rfl ?_
        refine g_aload_n (pc := 59) C dX4_token_59 rfl ?_
        refine g_get4 (pc := 60) C dX4_token_60 0 rfl 9 (by decide) fl_X4_199 rfl ?_
        refine g_aload_n (pc := 63) C dX4_token_63 rfl ?_
        refine g_get4 (pc := 64) C dX4_token_64 0 rfl 8 (by decide) fl_X4_184 rfl ?_
        refine g_icmp_geN (pc := 67) (tgt := 79) C dX4_token_67 (by decide) (by omega) (by omega) (fun c4 => ?_) (fun c4 => ?_)
        · exact absurd c2.1 (by omega)
        · refine g_aload_n (pc := 70) C dX4_token_70 rfl ?_
          refine g_get4 (pc := 71) C dX4_token_71 0 rfl 9 (by decide) fl_X4_199 rfl ?_
          refine g_iconst (pc := 74) (v := nI 1) C dX4_token_74 (by decide) ?_
          refine g_iaddN (pc := 75) C dX4_token_75 ?_
          refine g_goto (pc := 76) (tgt := 83) C dX4_token_76 (by decide) ?_
          refine g_put4 (pc := 83) (ws2 := (mdV g a s ks os sd sts kp tk tp tn i (i + 1) vl wr bo so nm mv)) C dX4_token_83 0 rfl 10 (by decide) fl_X4_196 rfl rfl rfl (Nat.le_of_ble_eq_true rfl) rfl ?_
          refine g_loop0 (n := tn) (fun (j : Nat) => i + 1 ≤ j ∧ ∀ k, i + 1 ≤ k → k < j → isL (tp k)) (fun (j : Nat) => [(0, .ref (a 0)), (1, .int (nI 1)), (2, .int (nI 0))]) (fun (j : Nat) => (mdV g a s ks os sd sts kp tk tp tn i j vl wr bo so nm mv)) ?_ (i + 1) (by omega) ⟨Nat.le_refl _, fun k h1 h2 => absurd h2 (Nat.not_lt.mpr h1)⟩
          intro j hi_j hv_j ih_j
          show Go φ g 3 86 [(0, .ref (a 0)), (1, .int (nI 1)), (2, .int (nI 0))] [] (mdV g a s ks os sd sts kp tk tp tn i j vl wr bo so nm mv)
          have hv_j : i + 1 ≤ j ∧ ∀ k, i + 1 ≤ k → k < j → isL (tp k) := hv_j
          refine g_iload_n (pc := 86) C dX4_token_86 rfl ?_
          refine g_if_eqN (pc := 87) (tgt := 104) C dX4_token_87 (by decide) (by decide) (fun h => absurd h (by decide)) (fun _ => ?_)
          refine g_aload_n (pc := 90) C dX4_token_90 rfl ?_
          refine g_aload_n (pc := 91) C dX4_token_91 rfl ?_
          refine g_get4 (pc := 92) C dX4_token_92 0 rfl 10 (by decide) fl_X4_196 rfl ?_
          refine g_vxi (pc := 95) (ws2 := (mdV g a s ks os sd sts kp tk tp tn i j vl wr bo so nm mv)) C dX4_token_95 ml_X4_202 mf_X4_byteAt (m_byteAt g a s ks os sd sts kp tk tp tn i j vl wr bo so nm mv j htn (by omega)) ⟨rfl, rfl, (Nat.le_of_ble_eq_true rfl), (Nat.le_of_ble_eq_true rfl)⟩ rfl rfl (Nat.le_of_ble_eq_true rfl) 0 rfl rfl rfl [0, 1, 2, 3, 4, 5, 6, 7, 8, 9, 10, 11] [] [0, 1, 2, 3, 4, 5, 6, 7, 8, 9, 10, 11] rfl rfl rfl rfl (by decide) rfl rfl ?_
          refine g_s0i (pc := 98) C dX4_token_98 ml_X4_205 mf_X4_isLetter (m_isLetter g (btA tp tn j)) ⟨rfl, rfl, (Nat.le_of_ble_eq_true rfl), (Nat.le_of_ble_eq_true rfl)⟩ rfl rfl (Nat.le_of_ble_eq_true rfl) ?_
          refine g_if_neB (pc := 101) (tgt := 122) C dX4_token_101 (by decide) (fun c6 => ?_) (fun c6 => ?_)
          · refine g_aload_n (pc := 122) C dX4_token_122 rfl ?_
            refine g_dup (pc := 123) C dX4_token_123 rfl ?_
            refine g_get4 (pc := 124) C dX4_token_124 0 rfl 10 (by decide) fl_X4_196 rfl ?_
            refine g_iconst (pc := 127) (v := nI 1) C dX4_token_127 (by decide) ?_
            refine g_iaddN (pc := 128) C dX4_token_128 ?_
            refine g_put4 (pc := 129) (ws2 := (mdV g a s ks os sd sts kp tk tp tn i (j + 1) vl wr bo so nm mv)) C dX4_token_129 0 rfl 10 (by decide) fl_X4_196 rfl rfl rfl (Nat.le_of_ble_eq_true rfl) rfl ?_
            refine g_goto (pc := 132) (tgt := 86) C dX4_token_132 (by decide) ?_
            exact ih_j ((bt_in (htb j)).mp c6).1 ⟨by omega, fun k h1 h2 => by
              rcases Nat.lt_or_ge k j with q9 | q9
              · exact hv_j.2 k h1 q9
              · rw [show k = j by omega]; exact ((bt_in (htb j)).mp c6).2⟩
          · refine g_iload_n (pc := 104) C dX4_token_104 rfl ?_
            refine g_if_eqN (pc := 105) (tgt := 135) C dX4_token_105 (by decide) (by decide) (fun _ => ?_) (fun h => absurd h (by decide))
            exact g_vret C Rr dX4_token_135 ⟨rfl, by rw [show spE tp tn to = i from endE_eq ⟨hv_i.1, hi_i, hv_i.2, fun h z => c1 ((bt_eq (htb i) (by decide)).mpr ⟨h, z⟩)⟩, tkE, if_neg (Nat.not_le.mpr c2.1), if_pos c2.2, endE_eq (P := fun k => isL (tp k)) (e := j) ⟨by omega, hi_j, fun k h1 h2 => (by rcases Nat.lt_or_ge k (i + 1) with z | z; exact (show k = i by omega) ▸ c2.2; exact hv_j.2 k z h2), fun h z => c6 ((bt_in (htb j)).mpr ⟨h, z⟩)⟩]⟩ rfl
    · refine g_top (y := nI 0) (bI_f (P := inR (btA tp tn i) 97 122 = true) (fun q => c2 ((bt_in (lo := 97) (hi := 122) (htb i)).mp q))) ?_
      refine g_istore_n (pc := 45) (lv2 := [(0, .ref (a 0)), (1, .int (nI 0))]) C dX4_token_45 rfl (Nat.le_of_ble_eq_true rfl) rfl ?_
      refine g_aload_n (pc := 46) C dX4_token_46 rfl ?_
      refine g_aload_n (pc := 47) C dX4_token_47 rfl ?_
      refine g_get4 (pc := 48) C dX4_token_48 0 rfl 9 (by decide) fl_X4_199 rfl ?_
      refine g_vxi (pc := 51) (ws2 := (mdV g a s ks os sd sts kp tk tp tn i to vl wr bo so nm mv)) C dX4_token_51 ml_X4_202 mf_X4_byteAt (m_byteAt g a s ks os sd sts kp tk tp tn i to vl wr bo so nm mv i htn (by omega)) ⟨rfl, rfl, (Nat.le_of_ble_eq_true rfl), (Nat.le_of_ble_eq_true rfl)⟩ rfl rfl (Nat.le_of_ble_eq_true rfl) 0 rfl rfl rfl [0, 1, 2, 3, 4, 5, 6, 7, 8, 9, 10, 11] [] [0, 1, 2, 3, 4, 5, 6, 7, 8, 9, 10, 11] rfl rfl rfl rfl (by decide) rfl rfl ?_
      refine g_s0i (pc := 54) C dX4_token_54 ml_X4_208 mf_X4_isDigit (m_isDigit g (btA tp tn i)) ⟨rfl, rfl, (Nat.le_of_ble_eq_true rfl), (Nat.le_of_ble_eq_true rfl)⟩ rfl rfl (Nat.le_of_ble_eq_true rfl) ?_
      by_cases c8 : i < tn ∧ isD (tp i)
      · refine g_top (y := nI 1) (bI_t (P := inR (btA tp tn i) 48 57 = true) ((bt_in (lo := 48) (hi := 57) (htb i)).mpr c8)) ?_
        refine g_istore_n (pc := 57) (lv2 := [(0, .ref (a 0)), (1, .int (nI 0)), (2, .int (nI 1))]) C dX4_token_57 rfl (Nat.le_of_ble_eq_true rfl) rfl ?_
        refine g_aload_n (pc := 58) C dX4_token_58 rfl ?_
        refine g_aload_n (pc := 59) C dX4_token_59 rfl ?_
        refine g_get4 (pc := 60) C dX4_token_60 0 rfl 9 (by decide) fl_X4_199 rfl ?_
        refine g_aload_n (pc := 63) C dX4_token_63 rfl ?_
        refine g_get4 (pc := 64) C dX4_token_64 0 rfl 8 (by decide) fl_X4_184 rfl ?_
        refine g_icmp_geN (pc := 67) (tgt := 79) C dX4_token_67 (by decide) (by omega) (by omega) (fun c9 => ?_) (fun c9 => ?_)
        · exact absurd c8.1 (by omega)
        · refine g_aload_n (pc := 70) C dX4_token_70 rfl ?_
          refine g_get4 (pc := 71) C dX4_token_71 0 rfl 9 (by decide) fl_X4_199 rfl ?_
          refine g_iconst (pc := 74) (v := nI 1) C dX4_token_74 (by decide) ?_
          refine g_iaddN (pc := 75) C dX4_token_75 ?_
          refine g_goto (pc := 76) (tgt := 83) C dX4_token_76 (by decide) ?_
          refine g_put4 (pc := 83) (ws2 := (mdV g a s ks os sd sts kp tk tp tn i (i + 1) vl wr bo so nm mv)) C dX4_token_83 0 rfl 10 (by decide) fl_X4_196 rfl rfl rfl (Nat.le_of_ble_eq_true rfl) rfl ?_
          refine g_loop0 (n := tn) (fun (j : Nat) => i + 1 ≤ j ∧ ∀ k, i + 1 ≤ k → k < j → isD (tp k)) (fun (j : Nat) => [(0, .ref (a 0)), (1, .int (nI 0)), (2, .int (nI 1))]) (fun (j : Nat) => (mdV g a s ks os sd sts kp tk tp tn i j vl wr bo so nm mv)) ?_ (i + 1) (by omega) ⟨Nat.le_refl _, fun k h1 h2 => absurd h2 (Nat.not_lt.mpr h1)⟩
          intro j hi_j hv_j ih_j
          show Go φ g 3 86 [(0, .ref (a 0)), (1, .int (nI 0)), (2, .int (nI 1))] [] (mdV g a s ks os sd sts kp tk tp tn i j vl wr bo so nm mv)
          have hv_j : i + 1 ≤ j ∧ ∀ k, i + 1 ≤ k → k < j → isD (tp k) := hv_j
          refine g_iload_n (pc := 86) C dX4_token_86 rfl ?_
          refine g_if_eqN (pc := 87) (tgt := 104) C dX4_token_87 (by decide) (by decide) (fun _ => ?_) (fun h => absurd h (by decide))
          refine g_iload_n (pc := 104) C dX4_token_104 rfl ?_
          refine g_if_eqN (pc := 105) (tgt := 135) C dX4_token_105 (by decide) (by decide) (fun h => absurd h (by decide)) (fun _ => ?_)
          refine g_aload_n (pc := 108) C dX4_token_108 rfl ?_
          refine g_aload_n (pc := 109) C dX4_token_109 rfl ?_
          refine g_get4 (pc := 110) C dX4_token_110 0 rfl 10 (by decide) fl_X4_196 rfl ?_
          refine g_vxi (pc := 113) (ws2 := (mdV g a s ks os sd sts kp tk tp tn i j vl wr bo so nm mv)) C dX4_token_113 ml_X4_202 mf_X4_byteAt (m_byteAt g a s ks os sd sts kp tk tp tn i j vl wr bo so nm mv j htn (by omega)) ⟨rfl, rfl, (Nat.le_of_ble_eq_true rfl), (Nat.le_of_ble_eq_true rfl)⟩ rfl rfl (Nat.le_of_ble_eq_true rfl) 0 rfl rfl rfl [0, 1, 2, 3, 4, 5, 6, 7, 8, 9, 10, 11] [] [0, 1, 2, 3, 4, 5, 6, 7, 8, 9, 10, 11] rfl rfl rfl rfl (by decide) rfl rfl ?_
          refine g_s0i (pc := 116) C dX4_token_116 ml_X4_208 mf_X4_isDigit (m_isDigit g (btA tp tn j)) ⟨rfl, rfl, (Nat.le_of_ble_eq_true rfl), (Nat.le_of_ble_eq_true rfl)⟩ rfl rfl (Nat.le_of_ble_eq_true rfl) ?_
          refine g_if_eqB (pc := 119) (tgt := 135) C dX4_token_119 (by decide) (fun c12 => ?_) (fun c12 => ?_)
          · exact g_vret C Rr dX4_token_135 ⟨rfl, by rw [show spE tp tn to = i from endE_eq ⟨hv_i.1, hi_i, hv_i.2, fun h z => c1 ((bt_eq (htb i) (by decide)).mpr ⟨h, z⟩)⟩, tkE, if_neg (Nat.not_le.mpr c8.1), if_neg (fun z => c2 ⟨c8.1, z⟩), if_pos c8.2, endE_eq (P := fun k => isD (tp k)) (e := j) ⟨by omega, hi_j, fun k h1 h2 => (by rcases Nat.lt_or_ge k (i + 1) with z | z; exact (show k = i by omega) ▸ c8.2; exact hv_j.2 k z h2), fun h z => c12 ((bt_in (htb j)).mpr ⟨h, z⟩)⟩]⟩ rfl
          · refine g_aload_n (pc := 122) C dX4_token_122 rfl ?_
            refine g_dup (pc := 123) C dX4_token_123 rfl ?_
            refine g_get4 (pc := 124) C dX4_token_124 0 rfl 10 (by decide) fl_X4_196 rfl ?_
            refine g_iconst (pc := 127) (v := nI 1) C dX4_token_127 (by decide) ?_
            refine g_iaddN (pc := 128) C dX4_token_128 ?_
            refine g_put4 (pc := 129) (ws2 := (mdV g a s ks os sd sts kp tk tp tn i (j + 1) vl wr bo so nm mv)) C dX4_token_129 0 rfl 10 (by decide) fl_X4_196 rfl rfl rfl (Nat.le_of_ble_eq_true rfl) rfl ?_
            refine g_goto (pc := 132) (tgt := 86) C dX4_token_132 (by decide) ?_
            exact ih_j ((bt_in (htb j)).mp c12).1 ⟨by omega, fun k h1 h2 => by
              rcases Nat.lt_or_ge k j with q9 | q9
              · exact hv_j.2 k h1 q9
              · rw [show k = j by omega]; exact ((bt_in (htb j)).mp c12).2⟩
      · refine g_top (y := nI 0) (bI_f (P := inR (btA tp tn i) 48 57 = true) (fun q => c8 ((bt_in (lo := 48) (hi := 57) (htb i)).mp q))) ?_
        refine g_istore_n (pc := 57) (lv2 := [(0, .ref (a 0)), (1, .int (nI 0)), (2, .int (nI 0))]) C dX4_token_57 rfl (Nat.le_of_ble_eq_true rfl) rfl ?_
        refine g_aload_n (pc := 58) C dX4_token_58 rfl ?_
        refine g_aload_n (pc := 59) C dX4_token_59 rfl ?_
        refine g_get4 (pc := 60) C dX4_token_60 0 rfl 9 (by decide) fl_X4_199 rfl ?_
        refine g_aload_n (pc := 63) C dX4_token_63 rfl ?_
        refine g_get4 (pc := 64) C dX4_token_64 0 rfl 8 (by decide) fl_X4_184 rfl ?_
        refine g_icmp_geN (pc := 67) (tgt := 79) C dX4_token_67 (by decide) (by omega) (by omega) (fun c13 => ?_) (fun c13 => ?_)
        · refine g_aload_n (pc := 79) C dX4_token_79 rfl ?_
          refine g_get4 (pc := 80) C dX4_token_80 0 rfl 9 (by decide) fl_X4_199 rfl ?_
          refine g_put4 (pc := 83) (ws2 := (mdV g a s ks os sd sts kp tk tp tn i i vl wr bo so nm mv)) C dX4_token_83 0 rfl 10 (by decide) fl_X4_196 rfl rfl rfl (Nat.le_of_ble_eq_true rfl) rfl ?_
          refine g_loop0 (n := tn) (fun (j : Nat) => j = i) (fun (j : Nat) => [(0, .ref (a 0)), (1, .int (nI 0)), (2, .int (nI 0))]) (fun (j : Nat) => (mdV g a s ks os sd sts kp tk tp tn i j vl wr bo so nm mv)) ?_ i (by omega) rfl
          intro j hi_j hv_j ih_j
          show Go φ g 3 86 [(0, .ref (a 0)), (1, .int (nI 0)), (2, .int (nI 0))] [] (mdV g a s ks os sd sts kp tk tp tn i j vl wr bo so nm mv)
          have hv_j : j = i := hv_j
          refine g_iload_n (pc := 86) C dX4_token_86 rfl ?_
          refine g_if_eqN (pc := 87) (tgt := 104) C dX4_token_87 (by decide) (by decide) (fun _ => ?_) (fun h => absurd h (by decide))
          refine g_iload_n (pc := 104) C dX4_token_104 rfl ?_
          refine g_if_eqN (pc := 105) (tgt := 135) C dX4_token_105 (by decide) (by decide) (fun _ => ?_) (fun h => absurd h (by decide))
          exact g_vret C Rr dX4_token_135 ⟨rfl, by rw [show spE tp tn to = i from endE_eq ⟨hv_i.1, hi_i, hv_i.2, fun h z => c1 ((bt_eq (htb i) (by decide)).mpr ⟨h, z⟩)⟩, tkE, if_pos c13, hv_j]⟩ rfl
        · refine g_aload_n (pc := 70) C dX4_token_70 rfl ?_
          refine g_get4 (pc := 71) C dX4_token_71 0 rfl 9 (by decide) fl_X4_199 rfl ?_
          refine g_iconst (pc := 74) (v := nI 1) C dX4_token_74 (by decide) ?_
          refine g_iaddN (pc := 75) C dX4_token_75 ?_
          refine g_goto (pc := 76) (tgt := 83) C dX4_token_76 (by decide) ?_
          refine g_put4 (pc := 83) (ws2 := (mdV g a s ks os sd sts kp tk tp tn i (i + 1) vl wr bo so nm mv)) C dX4_token_83 0 rfl 10 (by decide) fl_X4_196 rfl rfl rfl (Nat.le_of_ble_eq_true rfl) rfl ?_
          refine g_loop0 (n := tn) (fun (j : Nat) => j = i + 1) (fun (j : Nat) => [(0, .ref (a 0)), (1, .int (nI 0)), (2, .int (nI 0))]) (fun (j : Nat) => (mdV g a s ks os sd sts kp tk tp tn i j vl wr bo so nm mv)) ?_ (i + 1) (by omega) rfl
          intro j hi_j hv_j ih_j
          show Go φ g 3 86 [(0, .ref (a 0)), (1, .int (nI 0)), (2, .int (nI 0))] [] (mdV g a s ks os sd sts kp tk tp tn i j vl wr bo so nm mv)
          have hv_j : j = i + 1 := hv_j
          refine g_iload_n (pc := 86) C dX4_token_86 rfl ?_
          refine g_if_eqN (pc := 87) (tgt := 104) C dX4_token_87 (by decide) (by decide) (fun _ => ?_) (fun h => absurd h (by decide))
          refine g_iload_n (pc := 104) C dX4_token_104 rfl ?_
          refine g_if_eqN (pc := 105) (tgt := 135) C dX4_token_105 (by decide) (by decide) (fun _ => ?_) (fun h => absurd h (by decide))
          exact g_vret C Rr dX4_token_135 ⟨rfl, by rw [show spE tp tn to = i from endE_eq ⟨hv_i.1, hi_i, hv_i.2, fun h z => c1 ((bt_eq (htb i) (by decide)).mpr ⟨h, z⟩)⟩, tkE, if_neg (Nat.not_le.mpr c13), if_neg (fun z => c2 ⟨c13, z⟩), if_neg (fun z => c8 ⟨c13, z⟩), hv_j]⟩ rfl
  · refine g_aload_n (pc := 21) C dX4_token_21 rfl ?_
    refine g_dup (pc := 22) C dX4_token_22 rfl ?_
    refine g_get4 (pc := 23) C dX4_token_23 0 rfl 9 (by decide) fl_X4_199 rfl ?_
    refine g_iconst (pc := 26) (v := nI 1) C dX4_token_26 (by decide) ?_
    refine g_iaddN (pc := 27) C dX4_token_27 ?_
    refine g_put4 (pc := 28) (ws2 := (mdV g a s ks os sd sts kp tk tp tn (i + 1) to vl wr bo so nm mv)) C dX4_token_28 0 rfl 9 (by decide) fl_X4_199 rfl rfl rfl (Nat.le_of_ble_eq_true rfl) rfl ?_
    refine g_goto (pc := 31) (tgt := 8) C dX4_token_31 (by decide) ?_
    exact ih_i ((bt_eq (htb i) (by decide)).mp c1).1 ⟨by omega, fun j h1 h2 => by
      rcases Nat.lt_or_ge j i with q9 | q9
      · exact hv_i.2 j h1 q9
      · rw [show j = i by omega]; exact ((bt_eq (htb i) (by decide)).mp c1).2⟩
