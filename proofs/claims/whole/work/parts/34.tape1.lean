/-! the tape's tokens -/
theorem sb_int : ∀ x, x < 256 → (sb_b x).toInt = if x < 128 then (x : Int) else (x : Int) - 256 := by decide +kernel
theorem sb_sm {tb : Nat → Nat} {x : Nat} (h : tb x < 128) : tbB tb x = nI (tb x) := by
  apply Int32.toInt_inj.mp
  rw [tbB, sb_int _ (by omega), if_pos h, nI_toInt (by omega)]
abbrev isL (b : Nat) : Prop := 97 ≤ b ∧ b ≤ 122
abbrev isD (b : Nat) : Prop := 48 ≤ b ∧ b ≤ 57
section
variable {tb : Nat → Nat} {x lo hi : Nat}
theorem am_t (hx : tb x < 256) (hl : 1 ≤ lo ∧ lo ≤ 127) (hh : hi ≤ 127) (h1 : ¬ tbB tb x < nI lo) (h2 : ¬ nI hi < tbB tb x) : lo ≤ tb x ∧ tb x ≤ hi := by
  rw [Int32.lt_iff_toInt_lt, tbB, sb_int _ hx, nI_toInt (by omega)] at h1 h2
  split at h1 <;> split at h2 <;> omega
theorem am_f1 (hx : tb x < 256) (hl : 1 ≤ lo ∧ lo ≤ 127) (hh : hi ≤ 127) (h1 : tbB tb x < nI lo) : ¬ (lo ≤ tb x ∧ tb x ≤ hi) := by
  rw [Int32.lt_iff_toInt_lt, tbB, sb_int _ hx, nI_toInt (by omega)] at h1
  split at h1 <;> omega
theorem am_f2 (hx : tb x < 256) (hl : 1 ≤ lo ∧ lo ≤ 127) (hh : hi ≤ 127) (h1 : ¬ tbB tb x < nI lo) (h2 : nI hi < tbB tb x) : ¬ (lo ≤ tb x ∧ tb x ≤ hi) := by
  rw [Int32.lt_iff_toInt_lt, tbB, sb_int _ hx, nI_toInt (by omega)] at h1 h2
  split at h1 <;> split at h2 <;> omega
end
/-- e is the end of the run of P from k on, before n -/
def IsE (P : Nat → Prop) (n k e : Nat) : Prop := k ≤ e ∧ e ≤ n ∧ (∀ j, k ≤ j → j < e → P j) ∧ (e < n → ¬ P e)
noncomputable def endE (P : Nat → Prop) (n k : Nat) : Nat := Classical.epsilon (fun e => IsE P n k e)
theorem endE_eq {P : Nat → Prop} {n k e : Nat} (h : IsE P n k e) : endE P n k = e := by
  have q : IsE P n k (endE P n k) := Classical.epsilon_spec (p := fun e => IsE P n k e) ⟨e, h⟩
  generalize endE P n k = d at q
  show d = e
  rcases Nat.lt_trichotomy d e with z | z | z
  · exact absurd (h.2.2.1 d q.1 z) (q.2.2.2 (by have := h.2.1; omega))
  · exact z
  · exact absurd (q.2.2.1 e h.1 z) (h.2.2.2 (by have := q.2.1; omega))
/-- the number of m digits from k on, held at 10000 -/
def numV (tb : Nat → Nat) (k : Nat) : Nat → Nat
  | 0 => 0
  | m + 1 => min (10 * numV tb k m + tb (k + m) - 48) 10000
set_option maxHeartbeats 400000 in
set_option maxRecDepth 100000 in
theorem c_isAmong (g : Gl) (au : Nat → Nat) (tn : Nat) (pl : Nat) (tk : Nat) (sr : Nat) (vl : Nat) (tb : Nat → Nat) (lo : Nat) (hi : Nat) (htb : ∀ j, tb j < 256) (hpl : pl < 120) (hlo : 1 ≤ lo ∧ lo ≤ 127) (hhi : hi ≤ 127) : Ct g yX2_isAmong cX2_isAmong 3 (some .boolean) (rk 0 0) [.ref (au 0), .int (nI lo), .int (nI hi)] (tpV g au (tbB tb) tn pl tk sr vl) (fun r w2 => r = some (.int (bI (lo ≤ tb pl ∧ tb pl ≤ hi))) ∧ w2 = (tpV g au (tbB tb) tn pl tk sr vl)) := by
  refine ct_of (by decide) (Nat.le_of_ble_eq_true rfl) ?_
  intro φ C0 Rr
  have C : Cx φ g cX2_isAmong 3 RX2 (rk 0 0) := C0
  show Go φ g 3 0 [(0, .ref (au 0)), (1, .int (nI lo)), (2, .int (nI hi))] [] (tpV g au (tbB tb) tn pl tk sr vl)
  refine g_iload_n (pc := 0) C dX2_isAmong_0 rfl ?_
  refine g_aload_n (pc := 1) C dX2_isAmong_1 rfl ?_
  refine g_get2 (pc := 2) C dX2_isAmong_2 0 rfl 0 (by decide) fl_X2_9 rfl ?_
  refine g_aload_n (pc := 5) C dX2_isAmong_5 rfl ?_
  refine g_get2 (pc := 6) C dX2_isAmong_6 0 rfl 2 (by decide) fl_X2_19 rfl ?_
  refine g_baldN (pc := 9) C dX2_isAmong_9 1 rfl rfl (by omega) (by decide) ?_
  refine g_icmp_gt (pc := 10) (tgt := 30) C dX2_isAmong_10 (by decide) (fun c1 => ?_) (fun c1 => ?_)
  · refine g_iconst (pc := 30) (v := nI 0) C dX2_isAmong_30 (by decide) ?_
    exact g_zret C Rr dX2_isAmong_31 (by first | rfl | decide) ⟨by rw [bI_f (am_f1 (htb pl) hlo hhi c1)], rfl⟩ rfl
  · refine g_aload_n (pc := 13) C dX2_isAmong_13 rfl ?_
    refine g_get2 (pc := 14) C dX2_isAmong_14 0 rfl 0 (by decide) fl_X2_9 rfl ?_
    refine g_aload_n (pc := 17) C dX2_isAmong_17 rfl ?_
    refine g_get2 (pc := 18) C dX2_isAmong_18 0 rfl 2 (by decide) fl_X2_19 rfl ?_
    refine g_baldN (pc := 21) C dX2_isAmong_21 1 rfl rfl (by omega) (by decide) ?_
    refine g_iload_n (pc := 22) C dX2_isAmong_22 rfl ?_
    refine g_icmp_gt (pc := 23) (tgt := 30) C dX2_isAmong_23 (by decide) (fun c2 => ?_) (fun c2 => ?_)
    · refine g_iconst (pc := 30) (v := nI 0) C dX2_isAmong_30 (by decide) ?_
      exact g_zret C Rr dX2_isAmong_31 (by first | rfl | decide) ⟨by rw [bI_f (am_f2 (htb pl) hlo hhi c1 c2)], rfl⟩ rfl
    · refine g_iconst (pc := 26) (v := nI 1) C dX2_isAmong_26 (by decide) ?_
      refine g_goto (pc := 27) (tgt := 31) C dX2_isAmong_27 (by decide) ?_
      exact g_zret C Rr dX2_isAmong_31 (by first | rfl | decide) ⟨by rw [bI_t (am_t (htb pl) hlo hhi c1 c2)], rfl⟩ rfl
set_option maxHeartbeats 400000 in
set_option maxRecDepth 100000 in
theorem c_stepWord (g : Gl) (au : Nat → Nat) (tn : Nat) (pl : Nat) (tk : Nat) (sr : Nat) (vl : Nat) (tb : Nat → Nat) (htb : ∀ j, tb j < 256) (htn : tn ≤ 120) (hpn : pl ≤ tn) : Ct g yX2_stepWord cX2_stepWord 1 none (rk 1 22) [.ref (au 0)] (tpV g au (tbB tb) tn pl tk sr vl) (fun r w2 => r = none ∧ w2 = (tpV g au (tbB tb) tn (endE (fun j => isL (tb j)) tn pl) 1 sr vl)) := by
  refine ct_of (by decide) (Nat.le_of_ble_eq_true rfl) ?_
  intro φ C0 Rr
  have C : Cx φ g cX2_stepWord 1 RX2 (rk 1 22) := C0
  show Go φ g 1 0 [(0, .ref (au 0))] [] (tpV g au (tbB tb) tn pl tk sr vl)
  refine g_aload_n (pc := 0) C dX2_stepWord_0 rfl ?_
  refine g_iconst (pc := 1) (v := nI 1) C dX2_stepWord_1 (by decide) ?_
  refine g_put2 (pc := 2) (ws2 := (tpV g au (tbB tb) tn pl 1 sr vl)) C dX2_stepWord_2 0 rfl 3 (by decide) fl_X2_29 rfl rfl rfl (Nat.le_of_ble_eq_true rfl) rfl ?_
  refine g_loop0 (n := tn) (fun (i : Nat) => pl ≤ i ∧ ∀ j, pl ≤ j → j < i → isL (tb j)) (fun (i : Nat) => [(0, .ref (au 0))]) (fun (i : Nat) => (tpV g au (tbB tb) tn i 1 sr vl)) ?_ pl (by omega) ⟨Nat.le_refl _, fun j h1 h2 => absurd h2 (Nat.not_lt.mpr h1)⟩
  intro i hi_i hv_i ih_i
  show Go φ g 1 5 [(0, .ref (au 0))] [] (tpV g au (tbB tb) tn i 1 sr vl)
  have hv_i : pl ≤ i ∧ ∀ j, pl ≤ j → j < i → isL (tb j) := hv_i
  refine g_aload_n (pc := 5) C dX2_stepWord_5 rfl ?_
  refine g_get2 (pc := 6) C dX2_stepWord_6 0 rfl 2 (by decide) fl_X2_19 rfl ?_
  refine g_aload_n (pc := 9) C dX2_stepWord_9 rfl ?_
  refine g_get2 (pc := 10) C dX2_stepWord_10 0 rfl 1 (by decide) fl_X2_15 rfl ?_
  refine g_icmp_geN (pc := 13) (tgt := 40) C dX2_stepWord_13 (by decide) (by omega) (by omega) (fun c1 => ?_) (fun c1 => ?_)
  · exact g_vret C Rr dX2_stepWord_40 ⟨rfl, by rw [endE_eq (P := fun j => isL (tb j)) (e := i) ⟨hv_i.1, hi_i, hv_i.2, fun h => absurd h (by omega)⟩]⟩ rfl
  · refine g_aload_n (pc := 16) C dX2_stepWord_16 rfl ?_
    refine g_bipush (pc := 17) (v := nI 97) C dX2_stepWord_17 (by decide) ?_
    refine g_bipush (pc := 19) (v := nI 122) C dX2_stepWord_19 (by decide) ?_
    refine g_vxi (pc := 21) (ws2 := (tpV g au (tbB tb) tn i 1 sr vl)) C dX2_stepWord_21 ml_X2_113 mf_X2_isAmong (c_isAmong g au tn i 1 sr vl tb 97 122 htb (by omega) (by decide) (by decide)) ⟨rfl, rfl, (Nat.le_of_ble_eq_true rfl), (Nat.le_of_ble_eq_true rfl)⟩ rfl rfl (Nat.le_of_ble_eq_true rfl) 0 rfl rfl rfl [0, 1] [] [0, 1] rfl rfl rfl rfl (by decide) rfl rfl ?_
    refine g_if_eqB (pc := 24) (tgt := 40) C dX2_stepWord_24 (by decide) (fun c2 => ?_) (fun c2 => ?_)
    · exact g_vret C Rr dX2_stepWord_40 ⟨rfl, by rw [endE_eq (P := fun j => isL (tb j)) (e := i) ⟨hv_i.1, hi_i, hv_i.2, fun _ => c2⟩]⟩ rfl
    · refine g_aload_n (pc := 27) C dX2_stepWord_27 rfl ?_
      refine g_dup (pc := 28) C dX2_stepWord_28 rfl ?_
      refine g_get2 (pc := 29) C dX2_stepWord_29 0 rfl 2 (by decide) fl_X2_19 rfl ?_
      refine g_iconst (pc := 32) (v := nI 1) C dX2_stepWord_32 (by decide) ?_
      refine g_iaddN (pc := 33) C dX2_stepWord_33 ?_
      refine g_put2 (pc := 34) (ws2 := (tpV g au (tbB tb) tn (i + 1) 1 sr vl)) C dX2_stepWord_34 0 rfl 2 (by decide) fl_X2_19 rfl rfl rfl (Nat.le_of_ble_eq_true rfl) rfl ?_
      refine g_goto (pc := 37) (tgt := 5) C dX2_stepWord_37 (by decide) ?_
      exact ih_i (by omega) ⟨by omega, fun j h1 h2 => by
        rcases Nat.lt_or_ge j i with q9 | q9
        · exact hv_i.2 j h1 q9
        · rw [show j = i by omega]; exact c2⟩
set_option maxHeartbeats 400000 in
set_option maxRecDepth 100000 in
theorem c_stepNumber (g : Gl) (au : Nat → Nat) (tn : Nat) (pl : Nat) (tk : Nat) (sr : Nat) (vl : Nat) (tb : Nat → Nat) (htb : ∀ j, tb j < 256) (htn : tn ≤ 120) (hpn : pl ≤ tn) : Ct g yX2_stepNumber cX2_stepNumber 1 none (rk 1 22) [.ref (au 0)] (tpV g au (tbB tb) tn pl tk sr vl) (fun r w2 => r = none ∧ w2 = (tpV g au (tbB tb) tn (endE (fun j => isD (tb j)) tn pl) 2 sr (numV tb pl (endE (fun j => isD (tb j)) tn pl - pl)))) := by
  refine ct_of (by decide) (Nat.le_of_ble_eq_true rfl) ?_
  intro φ C0 Rr
  have C : Cx φ g cX2_stepNumber 1 RX2 (rk 1 22) := C0
  show Go φ g 1 0 [(0, .ref (au 0))] [] (tpV g au (tbB tb) tn pl tk sr vl)
  refine g_aload_n (pc := 0) C dX2_stepNumber_0 rfl ?_
  refine g_iconst (pc := 1) (v := nI 2) C dX2_stepNumber_1 (by decide) ?_
  refine g_put2 (pc := 2) (ws2 := (tpV g au (tbB tb) tn pl 2 sr vl)) C dX2_stepNumber_2 0 rfl 3 (by decide) fl_X2_29 rfl rfl rfl (Nat.le_of_ble_eq_true rfl) rfl ?_
  refine g_aload_n (pc := 5) C dX2_stepNumber_5 rfl ?_
  refine g_iconst (pc := 6) (v := nI 0) C dX2_stepNumber_6 (by decide) ?_
  refine g_put2 (pc := 7) (ws2 := (tpV g au (tbB tb) tn pl 2 sr 0)) C dX2_stepNumber_7 0 rfl 5 (by decide) fl_X2_82 rfl rfl rfl (Nat.le_of_ble_eq_true rfl) rfl ?_
  refine g_loop1 (n := tn) (fun (i : Nat) (v : Nat) => (pl ≤ i ∧ ∀ j, pl ≤ j → j < i → isD (tb j)) ∧ v = numV tb pl (i - pl) ∧ v ≤ 10000) (fun (i : Nat) (v : Nat) => [(0, .ref (au 0))]) (fun (i : Nat) (v : Nat) => (tpV g au (tbB tb) tn i 2 sr v)) ?_ pl 0 (by omega) ⟨⟨Nat.le_refl _, fun j h1 h2 => absurd h2 (Nat.not_lt.mpr h1)⟩, by rw [Nat.sub_self]; rfl, Nat.zero_le _⟩
  intro i v hi_i hv_i ih_i
  show Go φ g 1 10 [(0, .ref (au 0))] [] (tpV g au (tbB tb) tn i 2 sr v)
  have hv_i : (pl ≤ i ∧ ∀ j, pl ≤ j → j < i → isD (tb j)) ∧ v = numV tb pl (i - pl) ∧ v ≤ 10000 := hv_i
  have hvb := hv_i.2.2
  have hvp := hv_i.1.1
  refine g_aload_n (pc := 10) C dX2_stepNumber_10 rfl ?_
  refine g_get2 (pc := 11) C dX2_stepNumber_11 0 rfl 2 (by decide) fl_X2_19 rfl ?_
  refine g_aload_n (pc := 14) C dX2_stepNumber_14 rfl ?_
  refine g_get2 (pc := 15) C dX2_stepNumber_15 0 rfl 1 (by decide) fl_X2_15 rfl ?_
  refine g_icmp_geN (pc := 18) (tgt := 75) C dX2_stepNumber_18 (by decide) (by omega) (by omega) (fun c1 => ?_) (fun c1 => ?_)
  · exact g_vret C Rr dX2_stepNumber_75 ⟨rfl, by rw [endE_eq (P := fun j => isD (tb j)) (e := i) ⟨hv_i.1.1, hi_i, hv_i.1.2, fun h => absurd h (by omega)⟩, ← hv_i.2.1]⟩ rfl
  · refine g_aload_n (pc := 21) C dX2_stepNumber_21 rfl ?_
    refine g_bipush (pc := 22) (v := nI 48) C dX2_stepNumber_22 (by decide) ?_
    refine g_bipush (pc := 24) (v := nI 57) C dX2_stepNumber_24 (by decide) ?_
    refine g_vxi (pc := 26) (ws2 := (tpV g au (tbB tb) tn i 2 sr v)) C dX2_stepNumber_26 ml_X2_113 mf_X2_isAmong (c_isAmong g au tn i 2 sr v tb 48 57 htb (by omega) (by decide) (by decide)) ⟨rfl, rfl, (Nat.le_of_ble_eq_true rfl), (Nat.le_of_ble_eq_true rfl)⟩ rfl rfl (Nat.le_of_ble_eq_true rfl) 0 rfl rfl rfl [0, 1] [] [0, 1] rfl rfl rfl rfl (by decide) rfl rfl ?_
    refine g_if_eqB (pc := 29) (tgt := 75) C dX2_stepNumber_29 (by decide) (fun c2 => ?_) (fun c2 => ?_)
    · exact g_vret C Rr dX2_stepNumber_75 ⟨rfl, by rw [endE_eq (P := fun j => isD (tb j)) (e := i) ⟨hv_i.1.1, hi_i, hv_i.1.2, fun _ => c2⟩, ← hv_i.2.1]⟩ rfl
    · have hdb : 48 ≤ tb i ∧ tb i ≤ 57 := c2
      refine g_aload_n (pc := 32) C dX2_stepNumber_32 rfl ?_
      refine g_bipush (pc := 33) (v := nI 10) C dX2_stepNumber_33 (by decide) ?_
      refine g_aload_n (pc := 35) C dX2_stepNumber_35 rfl ?_
      refine g_get2 (pc := 36) C dX2_stepNumber_36 0 rfl 5 (by decide) fl_X2_82 rfl ?_
      refine g_imulN (pc := 39) C dX2_stepNumber_39 ?_
      refine g_aload_n (pc := 40) C dX2_stepNumber_40 rfl ?_
      refine g_get2 (pc := 41) C dX2_stepNumber_41 0 rfl 0 (by decide) fl_X2_9 rfl ?_
      refine g_aload_n (pc := 44) C dX2_stepNumber_44 rfl ?_
      refine g_get2 (pc := 45) C dX2_stepNumber_45 0 rfl 2 (by decide) fl_X2_19 rfl ?_
      refine g_baldN (pc := 48) C dX2_stepNumber_48 1 rfl rfl (by omega) (by decide) ?_
      refine g_top (y := nI (tb i)) (sb_sm (by omega)) ?_
      refine g_iaddN (pc := 49) C dX2_stepNumber_49 ?_
      refine g_bipush (pc := 50) (v := nI 48) C dX2_stepNumber_50 (by decide) ?_
      refine g_isubN (pc := 52) C dX2_stepNumber_52 (by omega) ?_
      refine g_sipush (pc := 53) (v := nI 10000) C dX2_stepNumber_53 (by decide) ?_
      refine g_mminN (pc := 56) C dX2_stepNumber_56 ml_X2_123 (Nat.le_of_ble_eq_true rfl) (Nat.le_of_ble_eq_true rfl) (by omega) (by omega) ?_
      refine g_put2 (pc := 59) (ws2 := (tpV g au (tbB tb) tn i 2 sr (min (((10 * v) + (tb i)) - 48) 10000))) C dX2_stepNumber_59 0 rfl 5 (by decide) fl_X2_82 rfl rfl rfl (Nat.le_of_ble_eq_true rfl) rfl ?_
      refine g_aload_n (pc := 62) C dX2_stepNumber_62 rfl ?_
      refine g_dup (pc := 63) C dX2_stepNumber_63 rfl ?_
      refine g_get2 (pc := 64) C dX2_stepNumber_64 0 rfl 2 (by decide) fl_X2_19 rfl ?_
      refine g_iconst (pc := 67) (v := nI 1) C dX2_stepNumber_67 (by decide) ?_
      refine g_iaddN (pc := 68) C dX2_stepNumber_68 ?_
      refine g_put2 (pc := 69) (ws2 := (tpV g au (tbB tb) tn (i + 1) 2 sr (min (((10 * v) + (tb i)) - 48) 10000))) C dX2_stepNumber_69 0 rfl 2 (by decide) fl_X2_19 rfl rfl rfl (Nat.le_of_ble_eq_true rfl) rfl ?_
      refine g_goto (pc := 72) (tgt := 10) C dX2_stepNumber_72 (by decide) ?_
      exact ih_i _ (by omega) ⟨⟨by omega, fun j h1 h2 => by
        rcases Nat.lt_or_ge j i with q9 | q9
        · exact hv_i.1.2 j h1 q9
        · rw [show j = i by omega]; exact c2⟩, by rw [show i + 1 - pl = (i - pl) + 1 by omega, numV, ← hv_i.2.1, show pl + (i - pl) = i by omega], Nat.min_le_right _ _⟩
