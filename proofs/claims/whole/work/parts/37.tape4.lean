theorem endE_is {P : Nat → Prop} {n k : Nat} (h : k ≤ n) : IsE P n k (endE P n k) := by
  have ex : ∀ m k, k + m = n → ∃ e, IsE P n k e := by
    intro m
    induction m with
    | zero => exact fun k hk => ⟨k, Nat.le_refl _, by omega, fun j h1 h2 => absurd h2 (Nat.not_lt.mpr h1), fun h => absurd h (by omega)⟩
    | succ m ih =>
      intro k hk
      rcases Classical.em (P k) with p | p
      · obtain ⟨e, h1, h2, h3, h4⟩ := ih (k + 1) (by omega)
        refine ⟨e, by omega, h2, fun j a b => ?_, h4⟩
        rcases Nat.lt_or_ge k j with z | z
        · exact h3 j z b
        · exact (show j = k by omega) ▸ p
      · exact ⟨k, Nat.le_refl _, by omega, fun j h1 h2 => absurd h2 (Nat.not_lt.mpr h1), fun _ => p⟩
  exact Classical.epsilon_spec (p := fun e => IsE P n k e) (ex (n - k) k (by omega))
theorem tk_dig {tp : Nat → Nat} {tn fr to : Nat} (h : to = tkE tp tn fr) (hd : fr < tn ∧ isD (tp fr)) : ∀ k, fr ≤ k → k < to → isD (tp k) := by
  rw [tkE, if_neg (Nat.not_le.mpr hd.1), if_neg (by omega), if_pos hd.2] at h
  have q := (endE_is (P := fun j => isD (tp j)) (n := tn) (k := fr) (by omega)).2.2.1
  rw [← h] at q
  exact q
theorem tk_let {tp : Nat → Nat} {tn fr to : Nat} (h : to = tkE tp tn fr) (hd : fr < tn ∧ isL (tp fr)) : ∀ k, fr ≤ k → k < to → isL (tp k) := by
  rw [tkE, if_neg (Nat.not_le.mpr hd.1), if_pos hd.2] at h
  have q := (endE_is (P := fun j => isL (tp j)) (n := tn) (k := fr) (by omega)).2.2.1
  rw [← h] at q
  exact q
theorem tkE_ge (tp : Nat → Nat) {tn fr : Nat} (h : fr ≤ tn) : fr ≤ tkE tp tn fr ∧ tkE tp tn fr ≤ tn := by
  unfold tkE
  split
  · exact ⟨Nat.le_refl _, h⟩
  · split
    · have q := endE_is (P := fun j => isL (tp j)) h
      exact ⟨q.1, q.2.1⟩
    · split
      · have q := endE_is (P := fun j => isD (tp j)) h
        exact ⟨q.1, q.2.1⟩
      · omega
theorem tk_le {tp : Nat → Nat} {tn fr to : Nat} (h : to = tkE tp tn fr) (hf : fr ≤ tn) : fr ≤ to := h ▸ (tkE_ge tp hf).1
/-- the reference's number: held where it stands once it is above 9999 -/
def refV (tb : Nat → Nat) (k : Nat) : Nat → Nat
  | 0 => 0
  | m + 1 => if 9999 < refV tb k m then refV tb k m else 10 * refV tb k m + tb (k + m) - 48
abbrev nOk (tp : Nat → Nat) (tn fr to h : Nat) : Prop := (fr < tn ∧ isD (tp fr)) ∧ refV tp fr (to - fr) ≤ h
theorem in_nat {v h : Nat} (hv : v < 2 ^ 31) (hh : h < 2 ^ 31) : ((nI 0).toInt64 ≤ (nI v).toInt64 ∧ (nI v).toInt64 ≤ (nI h).toInt64) ↔ v ≤ h := by
  rw [Int64.le_iff_toInt_le, Int64.le_iff_toInt_le, Int32.toInt_toInt64, Int32.toInt_toInt64, Int32.toInt_toInt64, nI_toInt hv, nI_toInt hh, nI_toInt (by decide)]
  omega
set_option maxHeartbeats 400000 in
set_option maxRecDepth 100000 in
theorem m_must1 (g : Gl) (a : Nat → Nat) (s : Nat → Nat) (ks : Nat → Nat) (os : Nat → Nat) (sd : Nat → Nat) (sts : Nat → Nat) (kp : Nat) (tk : Nat → Nat) (tp : Nat → Nat) (tn : Nat) (fr : Nat) (to : Nat) (vl : Nat) (bo : Nat → Nat) (so : Nat → Nat) (nm : Nat → Int64) (mv : Nat → Int64) (htb : ∀ j, tp j < 256) (htn : tn ≤ 120) (hto : to ≤ tn) : Ct g yX4_must cX4_must 2 none (rk 3 67) [.ref (a 0), .int (nI 1)] (mdV g a s ks os sd sts kp tk tp tn fr to vl 0 bo so nm mv) (fun r w2 => r = none ∧ w2 = (mdV g a s ks os sd sts kp tk tp tn (spE tp tn to) (tkE tp tn (spE tp tn to)) vl 0 bo so nm mv)) := by
  refine ct_of (by decide) (Nat.le_of_ble_eq_true rfl) ?_
  intro φ C0 Rr
  have C : Cx φ g cX4_must 2 RX4 (rk 3 67) := C0
  show Go φ g 2 0 [(0, .ref (a 0)), (1, .int (nI 1))] [] (mdV g a s ks os sd sts kp tk tp tn fr to vl 0 bo so nm mv)
  refine g_aload_n (pc := 0) C dX4_must_0 rfl ?_
  refine g_aload_n (pc := 1) C dX4_must_1 rfl ?_
  refine g_get4 (pc := 2) C dX4_must_2 0 rfl 12 (by decide) fl_X4_211 rfl ?_
  refine g_if_neN (pc := 5) (tgt := 12) C dX4_must_5 (by decide) (by decide) (fun h => absurd h (by decide)) (fun _ => ?_)
  refine g_iload_n (pc := 8) C dX4_must_8 rfl ?_
  refine g_if_neN (pc := 9) (tgt := 16) C dX4_must_9 (by decide) (by decide) (fun _ => ?_) (fun h => absurd h (by decide))
  refine g_iconst (pc := 16) (v := nI 0) C dX4_must_16 (by decide) ?_
  refine g_put4 (pc := 17) (ws2 := (mdV g a s ks os sd sts kp tk tp tn fr to vl 0 bo so nm mv)) C dX4_must_17 0 rfl 12 (by decide) fl_X4_211 rfl (by first | rfl | decide) rfl (Nat.le_of_ble_eq_true rfl) rfl ?_
  refine g_aload_n (pc := 20) C dX4_must_20 rfl ?_
  refine g_get4 (pc := 21) C dX4_must_21 0 rfl 12 (by decide) fl_X4_211 rfl ?_
  refine g_if_neN (pc := 24) (tgt := 31) C dX4_must_24 (by decide) (by decide) (fun h => absurd h (by decide)) (fun _ => ?_)
  refine g_aload_n (pc := 27) C dX4_must_27 rfl ?_
  refine g_vxn (pc := 28) (ws2 := (mdV g a s ks os sd sts kp tk tp tn (spE tp tn to) (tkE tp tn (spE tp tn to)) vl 0 bo so nm mv)) C dX4_must_28 ml_X4_215 mf_X4_token (m_token g a s ks os sd sts kp tk tp tn fr to vl 0 bo so nm mv htb htn (by omega)) ⟨rfl, rfl, (Nat.le_of_ble_eq_true rfl), (Nat.le_of_ble_eq_true rfl)⟩ rfl rfl (Nat.le_of_ble_eq_true rfl) 0 rfl rfl rfl [0, 1, 2, 3, 4, 5, 6, 7, 8, 9, 10, 11] [] [0, 1, 2, 3, 4, 5, 6, 7, 8, 9, 10, 11] rfl rfl rfl rfl (by decide) rfl rfl ?_
  exact g_vret C Rr dX4_must_31 ⟨rfl, rfl⟩ rfl
set_option maxHeartbeats 400000 in
set_option maxRecDepth 100000 in
theorem m_must0 (g : Gl) (a : Nat → Nat) (s : Nat → Nat) (ks : Nat → Nat) (os : Nat → Nat) (sd : Nat → Nat) (sts : Nat → Nat) (kp : Nat) (tk : Nat → Nat) (tp : Nat → Nat) (tn : Nat) (fr : Nat) (to : Nat) (vl : Nat) (bo : Nat → Nat) (so : Nat → Nat) (nm : Nat → Int64) (mv : Nat → Int64)  : Ct g yX4_must cX4_must 2 none (rk 0 0) [.ref (a 0), .int (nI 0)] (mdV g a s ks os sd sts kp tk tp tn fr to vl 0 bo so nm mv) (fun r w2 => r = none ∧ w2 = (mdV g a s ks os sd sts kp tk tp tn fr to vl 1 bo so nm mv)) := by
  refine ct_of (by decide) (Nat.le_of_ble_eq_true rfl) ?_
  intro φ C0 Rr
  have C : Cx φ g cX4_must 2 RX4 (rk 0 0) := C0
  show Go φ g 2 0 [(0, .ref (a 0)), (1, .int (nI 0))] [] (mdV g a s ks os sd sts kp tk tp tn fr to vl 0 bo so nm mv)
  refine g_aload_n (pc := 0) C dX4_must_0 rfl ?_
  refine g_aload_n (pc := 1) C dX4_must_1 rfl ?_
  refine g_get4 (pc := 2) C dX4_must_2 0 rfl 12 (by decide) fl_X4_211 rfl ?_
  refine g_if_neN (pc := 5) (tgt := 12) C dX4_must_5 (by decide) (by decide) (fun h => absurd h (by decide)) (fun _ => ?_)
  refine g_iload_n (pc := 8) C dX4_must_8 rfl ?_
  refine g_if_neN (pc := 9) (tgt := 16) C dX4_must_9 (by decide) (by decide) (fun h => absurd h (by decide)) (fun _ => ?_)
  refine g_iconst (pc := 12) (v := nI 1) C dX4_must_12 (by decide) ?_
  refine g_goto (pc := 13) (tgt := 17) C dX4_must_13 (by decide) ?_
  refine g_put4 (pc := 17) (ws2 := (mdV g a s ks os sd sts kp tk tp tn fr to vl 1 bo so nm mv)) C dX4_must_17 0 rfl 12 (by decide) fl_X4_211 rfl (by first | rfl | decide) rfl (Nat.le_of_ble_eq_true rfl) rfl ?_
  refine g_aload_n (pc := 20) C dX4_must_20 rfl ?_
  refine g_get4 (pc := 21) C dX4_must_21 0 rfl 12 (by decide) fl_X4_211 rfl ?_
  refine g_if_neN (pc := 24) (tgt := 31) C dX4_must_24 (by decide) (by decide) (fun _ => ?_) (fun h => absurd h (by decide))
  exact g_vret C Rr dX4_must_31 ⟨rfl, rfl⟩ rfl
set_option maxHeartbeats 400000 in
set_option maxRecDepth 100000 in
theorem m_num (g : Gl) (a : Nat → Nat) (s : Nat → Nat) (ks : Nat → Nat) (os : Nat → Nat) (sd : Nat → Nat) (sts : Nat → Nat) (kp : Nat) (tk : Nat → Nat) (tp : Nat → Nat) (tn : Nat) (fr : Nat) (to : Nat) (vl : Nat) (bo : Nat → Nat) (so : Nat → Nat) (nm : Nat → Int64) (mv : Nat → Int64) (h : Nat) (htb : ∀ j, tp j < 256) (htn : tn ≤ 120) (hft : fr ≤ tn) (htok : to = tkE tp tn fr) (hto : to ≤ tn) (hh : h ≤ 9999) : Ct g yX4_number cX4_number 6 none (rk 4 88) [.ref (a 0), .int (nI 0), .int (nI h)] (mdV g a s ks os sd sts kp tk tp tn fr to vl 0 bo so nm mv) (fun r w2 => r = none ∧ w2 = (mdV g a s ks os sd sts kp tk tp tn (if nOk tp tn fr to h then spE tp tn to else fr) (if nOk tp tn fr to h then tkE tp tn (spE tp tn to) else to) (if fr < tn ∧ isD (tp fr) then refV tp fr (to - fr) else 0) (if nOk tp tn fr to h then 0 else 1) bo so nm mv)) := by
  refine ct_of (by decide) (Nat.le_of_ble_eq_true rfl) ?_
  intro φ C0 Rr
  have C : Cx φ g cX4_number 6 RX4 (rk 4 88) := C0
  show Go φ g 6 0 [(0, .ref (a 0)), (1, .int (nI 0)), (2, .int (nI h))] [] (mdV g a s ks os sd sts kp tk tp tn fr to vl 0 bo so nm mv)
  have hlf := tk_le htok hft
  refine g_aload_n (pc := 0) C dX4_number_0 rfl ?_
  refine g_get4 (pc := 1) C dX4_number_1 0 rfl 12 (by decide) fl_X4_211 rfl ?_
  refine g_if_eqN (pc := 4) (tgt := 8) C dX4_number_4 (by decide) (by decide) (fun _ => ?_) (fun h => absurd h (by decide))
  refine g_aload_n (pc := 8) C dX4_number_8 rfl ?_
  refine g_aload_n (pc := 9) C dX4_number_9 rfl ?_
  refine g_get4 (pc := 10) C dX4_number_10 0 rfl 9 (by decide) fl_X4_199 rfl ?_
  refine g_vxi (pc := 13) (ws2 := (mdV g a s ks os sd sts kp tk tp tn fr to vl 0 bo so nm mv)) C dX4_number_13 ml_X4_202 mf_X4_byteAt (m_byteAt g a s ks os sd sts kp tk tp tn fr to vl 0 bo so nm mv fr htn (by omega)) ⟨rfl, rfl, (Nat.le_of_ble_eq_true rfl), (Nat.le_of_ble_eq_true rfl)⟩ rfl rfl (Nat.le_of_ble_eq_true rfl) 0 rfl rfl rfl [0, 1, 2, 3, 4, 5, 6, 7, 8, 9, 10, 11] [] [0, 1, 2, 3, 4, 5, 6, 7, 8, 9, 10, 11] rfl rfl rfl rfl (by decide) rfl rfl ?_
  refine g_s0i (pc := 16) C dX4_number_16 ml_X4_208 mf_X4_isDigit (m_isDigit g (btA tp tn fr)) ⟨rfl, rfl, (Nat.le_of_ble_eq_true rfl), (Nat.le_of_ble_eq_true rfl)⟩ rfl rfl (Nat.le_of_ble_eq_true rfl) ?_
  by_cases c2 : fr < tn ∧ isD (tp fr)
  · refine g_top (y := nI 1) (bI_t (P := inR (btA tp tn fr) 48 57 = true) ((bt_in (lo := 48) (hi := 57) (htb fr)).mpr c2)) ?_
    have hall := tk_dig htok c2
    refine g_istore_n (pc := 19) (lv2 := [(0, .ref (a 0)), (1, .int (nI 0)), (2, .int (nI h)), (3, .int (nI 1))]) C dX4_number_19 rfl (Nat.le_of_ble_eq_true rfl) rfl ?_
    refine g_iconst (pc := 20) (v := nI 0) C dX4_number_20 (by decide) ?_
    refine g_istore (pc := 21) (lv2 := [(0, .ref (a 0)), (1, .int (nI 0)), (2, .int (nI h)), (3, .int (nI 1)), (4, .int (nI 0))]) C dX4_number_21 (Nat.le_of_ble_eq_true rfl) rfl ?_
    refine g_aload_n (pc := 23) C dX4_number_23 rfl ?_
    refine g_get4 (pc := 24) C dX4_number_24 0 rfl 9 (by decide) fl_X4_199 rfl ?_
    refine g_istore (pc := 27) (lv2 := [(0, .ref (a 0)), (1, .int (nI 0)), (2, .int (nI h)), (3, .int (nI 1)), (4, .int (nI 0)), (5, .int (nI fr))]) C dX4_number_27 (Nat.le_of_ble_eq_true rfl) rfl ?_
    refine g_loop1 (n := to) (fun (i : Nat) (v : Nat) => fr ≤ i ∧ v = refV tp fr (i - fr) ∧ v ≤ 99999) (fun (i : Nat) (v : Nat) => [(0, .ref (a 0)), (1, .int (nI 0)), (2, .int (nI h)), (3, .int (nI 1)), (4, .int (nI v)), (5, .int (nI i))]) (fun (i : Nat) (v : Nat) => (mdV g a s ks os sd sts kp tk tp tn fr to vl 0 bo so nm mv)) ?_ fr 0 (by omega) ⟨Nat.le_refl _, by rw [Nat.sub_self]; rfl, Nat.zero_le _⟩
    intro i v hi_i hv_i ih_i
    show Go φ g 6 29 [(0, .ref (a 0)), (1, .int (nI 0)), (2, .int (nI h)), (3, .int (nI 1)), (4, .int (nI v)), (5, .int (nI i))] [] (mdV g a s ks os sd sts kp tk tp tn fr to vl 0 bo so nm mv)
    have hv_i : fr ≤ i ∧ v = refV tp fr (i - fr) ∧ v ≤ 99999 := hv_i
    have hvb := hv_i.2.2
    refine g_iload (pc := 29) C dX4_number_29 rfl ?_
    refine g_aload_n (pc := 31) C dX4_number_31 rfl ?_
    refine g_get4 (pc := 32) C dX4_number_32 0 rfl 10 (by decide) fl_X4_196 rfl ?_
    refine g_icmp_geN (pc := 35) (tgt := 79) C dX4_number_35 (by decide) (by omega) (by omega) (fun c3 => ?_) (fun c3 => ?_)
    · refine g_aload_n (pc := 79) C dX4_number_79 rfl ?_
      refine g_iload (pc := 80) C dX4_number_80 rfl ?_
      refine g_put4 (pc := 82) (ws2 := (mdV g a s ks os sd sts kp tk tp tn fr to v 0 bo so nm mv)) C dX4_number_82 0 rfl 11 (by decide) fl_X4_222 rfl rfl rfl (Nat.le_of_ble_eq_true rfl) rfl ?_
      refine g_aload_n (pc := 85) C dX4_number_85 rfl ?_
      refine g_iload_n (pc := 86) C dX4_number_86 rfl ?_
      refine g_if_eqN (pc := 87) (tgt := 107) C dX4_number_87 (by decide) (by decide) (fun h => absurd h (by decide)) (fun _ => ?_)
      refine g_iload (pc := 90) C dX4_number_90 rfl ?_
      refine g_i2l (pc := 92) C dX4_number_92 ?_
      refine g_iload_n (pc := 93) C dX4_number_93 rfl ?_
      refine g_i2l (pc := 94) C dX4_number_94 ?_
      refine g_iload_n (pc := 95) C dX4_number_95 rfl ?_
      refine g_i2l (pc := 96) C dX4_number_96 ?_
      refine g_s0i (pc := 97) C dX4_number_97 ml_X4_47 mf_X4_in (m_in g (((nI v)).toInt64) (((nI 0)).toInt64) (((nI h)).toInt64)) ⟨rfl, rfl, (Nat.le_of_ble_eq_true rfl), (Nat.le_of_ble_eq_true rfl)⟩ rfl rfl (Nat.le_of_ble_eq_true rfl) ?_
      refine g_top (y := bI (v ≤ h)) (bI_iff (in_nat (by omega) (by omega))) ?_
      refine g_if_eqB (pc := 100) (tgt := 107) C dX4_number_100 (by decide) (fun c5 => ?_) (fun c5 => ?_)
      · refine g_iconst (pc := 107) (v := nI 0) C dX4_number_107 (by decide) ?_
        refine g_vxn (pc := 108) (ws2 := (mdV g a s ks os sd sts kp tk tp tn fr to v 1 bo so nm mv)) C dX4_number_108 ml_X4_225 mf_X4_must (m_must0 g a s ks os sd sts kp tk tp tn fr to v bo so nm mv) ⟨rfl, rfl, (Nat.le_of_ble_eq_true rfl), (Nat.le_of_ble_eq_true rfl)⟩ rfl rfl (Nat.le_of_ble_eq_true rfl) 0 rfl rfl rfl [0, 1, 2, 3, 4, 5, 6, 7, 8, 9, 10, 11] [] [0, 1, 2, 3, 4, 5, 6, 7, 8, 9, 10, 11] rfl rfl rfl rfl (by decide) rfl rfl ?_
        exact g_vret C Rr dX4_number_111 ⟨rfl, by
          have hve : refV tp fr (to - fr) = v := by rw [hv_i.2.1, show i = to by omega]
          simp only [if_pos c2, if_neg (show ¬ nOk tp tn fr to h from fun z => c5 (by rw [← hve]; exact z.2)), hve]⟩ rfl
      · refine g_iconst (pc := 103) (v := nI 1) C dX4_number_103 (by decide) ?_
        refine g_goto (pc := 104) (tgt := 108) C dX4_number_104 (by decide) ?_
        refine g_vxn (pc := 108) (ws2 := (mdV g a s ks os sd sts kp tk tp tn (spE tp tn to) (tkE tp tn (spE tp tn to)) v 0 bo so nm mv)) C dX4_number_108 ml_X4_225 mf_X4_must (m_must1 g a s ks os sd sts kp tk tp tn fr to v bo so nm mv htb htn (by omega)) ⟨rfl, rfl, (Nat.le_of_ble_eq_true rfl), (Nat.le_of_ble_eq_true rfl)⟩ rfl rfl (Nat.le_of_ble_eq_true rfl) 0 rfl rfl rfl [0, 1, 2, 3, 4, 5, 6, 7, 8, 9, 10, 11] [] [0, 1, 2, 3, 4, 5, 6, 7, 8, 9, 10, 11] rfl rfl rfl rfl (by decide) rfl rfl ?_
        exact g_vret C Rr dX4_number_111 ⟨rfl, by
          have hve : refV tp fr (to - fr) = v := by rw [hv_i.2.1, show i = to by omega]
          simp only [if_pos c2, if_pos (show nOk tp tn fr to h from ⟨c2, by rw [hve]; exact c5⟩), hve]⟩ rfl
    · refine g_iload_n (pc := 38) C dX4_number_38 rfl ?_
      refine g_if_eqN (pc := 39) (tgt := 79) C dX4_number_39 (by decide) (by decide) (fun h => absurd h (by decide)) (fun _ => ?_)
      refine g_iload (pc := 42) C dX4_number_42 rfl ?_
      refine g_sipush (pc := 44) (v := nI 9999) C dX4_number_44 (by decide) ?_
      refine g_icmp_leN (pc := 47) (tgt := 55) C dX4_number_47 (by decide) (by omega) (by omega) (fun c7 => ?_) (fun c7 => ?_)
      · have hdg : 48 ≤ tp i ∧ tp i ≤ 57 := hall i (by omega) (by omega)
        refine g_bipush (pc := 55) (v := nI 10) C dX4_number_55 (by decide) ?_
        refine g_iload (pc := 57) C dX4_number_57 rfl ?_
        refine g_imulN (pc := 59) C dX4_number_59 ?_
        refine g_aload_n (pc := 60) C dX4_number_60 rfl ?_
        refine g_get4 (pc := 61) C dX4_number_61 0 rfl 7 (by decide) fl_X4_28 rfl ?_
        refine g_iload (pc := 64) C dX4_number_64 rfl ?_
        refine g_ialdM (pc := 66) C dX4_number_66 7 rfl rfl (by omega) (by decide) ?_
        refine g_iaddN (pc := 67) C dX4_number_67 ?_
        refine g_bipush (pc := 68) (v := nI 48) C dX4_number_68 (by decide) ?_
        refine g_isubN (pc := 70) C dX4_number_70 (by omega) ?_
        refine g_istore (pc := 71) (lv2 := [(0, .ref (a 0)), (1, .int (nI 0)), (2, .int (nI h)), (3, .int (nI 1)), (4, .int (nI (((10 * v) + (tp i)) - 48))), (5, .int (nI i))]) C dX4_number_71 (Nat.le_of_ble_eq_true rfl) rfl ?_
        refine g_iinc (pc := 73) (v := (nI (i + 1))) (lv2 := [(0, .ref (a 0)), (1, .int (nI 0)), (2, .int (nI h)), (3, .int (nI 1)), (4, .int (nI (((10 * v) + (tp i)) - 48))), (5, .int (nI (i + 1)))]) C dX4_number_73 rfl (nI_1 _) (Nat.le_of_ble_eq_true rfl) rfl ?_
        refine g_goto (pc := 76) (tgt := 29) C dX4_number_76 (by decide) ?_
        exact ih_i _ (by omega) ⟨by omega, by rw [show i + 1 - fr = (i - fr) + 1 by omega, refV, ← hv_i.2.1, if_neg (by omega), show fr + (i - fr) = i by omega], by omega⟩
      · refine g_iload (pc := 50) C dX4_number_50 rfl ?_
        refine g_goto (pc := 52) (tgt := 71) C dX4_number_52 (by decide) ?_
        refine g_istore (pc := 71) (lv2 := [(0, .ref (a 0)), (1, .int (nI 0)), (2, .int (nI h)), (3, .int (nI 1)), (4, .int (nI v)), (5, .int (nI i))]) C dX4_number_71 (Nat.le_of_ble_eq_true rfl) rfl ?_
        refine g_iinc (pc := 73) (v := (nI (i + 1))) (lv2 := [(0, .ref (a 0)), (1, .int (nI 0)), (2, .int (nI h)), (3, .int (nI 1)), (4, .int (nI v)), (5, .int (nI (i + 1)))]) C dX4_number_73 rfl (nI_1 _) (Nat.le_of_ble_eq_true rfl) rfl ?_
        refine g_goto (pc := 76) (tgt := 29) C dX4_number_76 (by decide) ?_
        exact ih_i _ (by omega) ⟨by omega, by rw [show i + 1 - fr = (i - fr) + 1 by omega, refV, ← hv_i.2.1, if_pos (by omega)], by omega⟩
  · refine g_top (y := nI 0) (bI_f (P := inR (btA tp tn fr) 48 57 = true) (fun q => c2 ((bt_in (lo := 48) (hi := 57) (htb fr)).mp q))) ?_
    refine g_istore_n (pc := 19) (lv2 := [(0, .ref (a 0)), (1, .int (nI 0)), (2, .int (nI h)), (3, .int (nI 0))]) C dX4_number_19 rfl (Nat.le_of_ble_eq_true rfl) rfl ?_
    refine g_iconst (pc := 20) (v := nI 0) C dX4_number_20 (by decide) ?_
    refine g_istore (pc := 21) (lv2 := [(0, .ref (a 0)), (1, .int (nI 0)), (2, .int (nI h)), (3, .int (nI 0)), (4, .int (nI 0))]) C dX4_number_21 (Nat.le_of_ble_eq_true rfl) rfl ?_
    refine g_aload_n (pc := 23) C dX4_number_23 rfl ?_
    refine g_get4 (pc := 24) C dX4_number_24 0 rfl 9 (by decide) fl_X4_199 rfl ?_
    refine g_istore (pc := 27) (lv2 := [(0, .ref (a 0)), (1, .int (nI 0)), (2, .int (nI h)), (3, .int (nI 0)), (4, .int (nI 0)), (5, .int (nI fr))]) C dX4_number_27 (Nat.le_of_ble_eq_true rfl) rfl ?_
    refine g_loop0 (n := to) (fun (i : Nat) => True) (fun (i : Nat) => [(0, .ref (a 0)), (1, .int (nI 0)), (2, .int (nI h)), (3, .int (nI 0)), (4, .int (nI 0)), (5, .int (nI i))]) (fun (i : Nat) => (mdV g a s ks os sd sts kp tk tp tn fr to vl 0 bo so nm mv)) ?_ fr (by omega) trivial
    intro i hi_i hv_i ih_i
    show Go φ g 6 29 [(0, .ref (a 0)), (1, .int (nI 0)), (2, .int (nI h)), (3, .int (nI 0)), (4, .int (nI 0)), (5, .int (nI i))] [] (mdV g a s ks os sd sts kp tk tp tn fr to vl 0 bo so nm mv)
    refine g_iload (pc := 29) C dX4_number_29 rfl ?_
    refine g_aload_n (pc := 31) C dX4_number_31 rfl ?_
    refine g_get4 (pc := 32) C dX4_number_32 0 rfl 10 (by decide) fl_X4_196 rfl ?_
    refine g_icmp_geN (pc := 35) (tgt := 79) C dX4_number_35 (by decide) (by omega) (by omega) (fun c8 => ?_) (fun c8 => ?_)
    · refine g_aload_n (pc := 79) C dX4_number_79 rfl ?_
      refine g_iload (pc := 80) C dX4_number_80 rfl ?_
      refine g_put4 (pc := 82) (ws2 := (mdV g a s ks os sd sts kp tk tp tn fr to 0 0 bo so nm mv)) C dX4_number_82 0 rfl 11 (by decide) fl_X4_222 rfl rfl rfl (Nat.le_of_ble_eq_true rfl) rfl ?_
      refine g_aload_n (pc := 85) C dX4_number_85 rfl ?_
      refine g_iload_n (pc := 86) C dX4_number_86 rfl ?_
      refine g_if_eqN (pc := 87) (tgt := 107) C dX4_number_87 (by decide) (by decide) (fun _ => ?_) (fun h => absurd h (by decide))
      refine g_iconst (pc := 107) (v := nI 0) C dX4_number_107 (by decide) ?_
      refine g_vxn (pc := 108) (ws2 := (mdV g a s ks os sd sts kp tk tp tn fr to 0 1 bo so nm mv)) C dX4_number_108 ml_X4_225 mf_X4_must (m_must0 g a s ks os sd sts kp tk tp tn fr to 0 bo so nm mv) ⟨rfl, rfl, (Nat.le_of_ble_eq_true rfl), (Nat.le_of_ble_eq_true rfl)⟩ rfl rfl (Nat.le_of_ble_eq_true rfl) 0 rfl rfl rfl [0, 1, 2, 3, 4, 5, 6, 7, 8, 9, 10, 11] [] [0, 1, 2, 3, 4, 5, 6, 7, 8, 9, 10, 11] rfl rfl rfl rfl (by decide) rfl rfl ?_
      exact g_vret C Rr dX4_number_111 ⟨rfl, by simp only [if_neg c2, if_neg (show ¬ nOk tp tn fr to h from fun z => c2 z.1)]⟩ rfl
    · refine g_iload_n (pc := 38) C dX4_number_38 rfl ?_
      refine g_if_eqN (pc := 39) (tgt := 79) C dX4_number_39 (by decide) (by decide) (fun _ => ?_) (fun h => absurd h (by decide))
      refine g_aload_n (pc := 79) C dX4_number_79 rfl ?_
      refine g_iload (pc := 80) C dX4_number_80 rfl ?_
      refine g_put4 (pc := 82) (ws2 := (mdV g a s ks os sd sts kp tk tp tn fr to 0 0 bo so nm mv)) C dX4_number_82 0 rfl 11 (by decide) fl_X4_222 rfl rfl rfl (Nat.le_of_ble_eq_true rfl) rfl ?_
      refine g_aload_n (pc := 85) C dX4_number_85 rfl ?_
      refine g_iload_n (pc := 86) C dX4_number_86 rfl ?_
      refine g_if_eqN (pc := 87) (tgt := 107) C dX4_number_87 (by decide) (by decide) (fun _ => ?_) (fun h => absurd h (by decide))
      refine g_iconst (pc := 107) (v := nI 0) C dX4_number_107 (by decide) ?_
      refine g_vxn (pc := 108) (ws2 := (mdV g a s ks os sd sts kp tk tp tn fr to 0 1 bo so nm mv)) C dX4_number_108 ml_X4_225 mf_X4_must (m_must0 g a s ks os sd sts kp tk tp tn fr to 0 bo so nm mv) ⟨rfl, rfl, (Nat.le_of_ble_eq_true rfl), (Nat.le_of_ble_eq_true rfl)⟩ rfl rfl (Nat.le_of_ble_eq_true rfl) 0 rfl rfl rfl [0, 1, 2, 3, 4, 5, 6, 7, 8, 9, 10, 11] [] [0, 1, 2, 3, 4, 5, 6, 7, 8, 9, 10, 11] rfl rfl rfl rfl (by decide) rfl rfl ?_
      exact g_vret C Rr dX4_number_111 ⟨rfl, by simp only [if_neg c2, if_neg (show ¬ nOk tp tn fr to h from fun z => c2 z.1)]⟩ rfl
set_option maxHeartbeats 400000 in
set_option maxRecDepth 100000 in
theorem m_numD (g : Gl) (a : Nat → Nat) (s : Nat → Nat) (ks : Nat → Nat) (os : Nat → Nat) (sd : Nat → Nat) (sts : Nat → Nat) (kp : Nat) (tk : Nat → Nat) (tp : Nat → Nat) (tn : Nat) (fr : Nat) (to : Nat) (vl : Nat) (bo : Nat → Nat) (so : Nat → Nat) (nm : Nat → Int64) (mv : Nat → Int64) (h : Nat)  : Ct g yX4_number cX4_number 6 none (rk 0 0) [.ref (a 0), .int (nI 0), .int (nI h)] (mdV g a s ks os sd sts kp tk tp tn fr to vl 1 bo so nm mv) (fun r w2 => r = none ∧ w2 = (mdV g a s ks os sd sts kp tk tp tn fr to vl 1 bo so nm mv)) := by
  refine ct_of (by decide) (Nat.le_of_ble_eq_true rfl) ?_
  intro φ C0 Rr
  have C : Cx φ g cX4_number 6 RX4 (rk 0 0) := C0
  show Go φ g 6 0 [(0, .ref (a 0)), (1, .int (nI 0)), (2, .int (nI h))] [] (mdV g a s ks os sd sts kp tk tp tn fr to vl 1 bo so nm mv)
  refine g_aload_n (pc := 0) C dX4_number_0 rfl ?_
  refine g_get4 (pc := 1) C dX4_number_1 0 rfl 12 (by decide) fl_X4_211 rfl ?_
  refine g_if_eqN (pc := 4) (tgt := 8) C dX4_number_4 (by decide) (by decide) (fun h => absurd h (by decide)) (fun _ => ?_)
  exact g_vret C Rr dX4_number_7 ⟨rfl, rfl⟩ rfl
set_option maxHeartbeats 400000 in
set_option maxRecDepth 100000 in
theorem c_isNumber (g : Gl) (au : Nat → Nat) (tn : Nat) (pl : Nat) (tk : Nat) (sr : Nat) (vl : Nat) (tb : Nat → Nat) (h : Nat) (htk : tk ≤ 4) (hvl : vl < 2 ^ 31) (hh : h < 2 ^ 31) : Ct g yX2_isNumber cX2_isNumber 2 (some .boolean) (rk 0 0) [.ref (au 0), .int (nI h)] (tpV g au (tbB tb) tn pl tk sr vl) (fun r w2 => r = some (.int (bI (tk = 2 ∧ vl ≤ h))) ∧ w2 = (tpV g au (tbB tb) tn pl tk sr vl)) := by
  refine ct_of (by decide) (Nat.le_of_ble_eq_true rfl) ?_
  intro φ C0 Rr
  have C : Cx φ g cX2_isNumber 2 RX2 (rk 0 0) := C0
  show Go φ g 2 0 [(0, .ref (au 0)), (1, .int (nI h))] [] (tpV g au (tbB tb) tn pl tk sr vl)
  refine g_aload_n (pc := 0) C dX2_isNumber_0 rfl ?_
  refine g_get2 (pc := 1) C dX2_isNumber_1 0 rfl 3 (by decide) fl_X2_29 rfl ?_
  refine g_iconst (pc := 4) (v := nI 2) C dX2_isNumber_4 (by decide) ?_
  refine g_icmp_neN (pc := 5) (tgt := 20) C dX2_isNumber_5 (by decide) (by omega) (by omega) (fun c1 => ?_) (fun c1 => ?_)
  · refine g_iconst (pc := 20) (v := nI 0) C dX2_isNumber_20 (by decide) ?_
    exact g_zret C Rr dX2_isNumber_21 (by first | rfl | decide) ⟨by rw [bI_f (by omega)], rfl⟩ rfl
  · refine g_aload_n (pc := 8) C dX2_isNumber_8 rfl ?_
    refine g_get2 (pc := 9) C dX2_isNumber_9 0 rfl 5 (by decide) fl_X2_82 rfl ?_
    refine g_iload_n (pc := 12) C dX2_isNumber_12 rfl ?_
    refine g_icmp_gtN (pc := 13) (tgt := 20) C dX2_isNumber_13 (by decide) (by omega) (by omega) (fun c2 => ?_) (fun c2 => ?_)
    · refine g_iconst (pc := 20) (v := nI 0) C dX2_isNumber_20 (by decide) ?_
      exact g_zret C Rr dX2_isNumber_21 (by first | rfl | decide) ⟨by rw [bI_f (by omega)], rfl⟩ rfl
    · refine g_iconst (pc := 16) (v := nI 1) C dX2_isNumber_16 (by decide) ?_
      refine g_goto (pc := 17) (tgt := 21) C dX2_isNumber_17 (by decide) ?_
      exact g_zret C Rr dX2_isNumber_21 (by first | rfl | decide) ⟨by rw [bI_t (by omega)], rfl⟩ rfl
