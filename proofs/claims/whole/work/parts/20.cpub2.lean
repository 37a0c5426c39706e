theorem isW_m1 {v : Int32} {b : Nat} (hb : b < 2 ^ 31) : ((-1) ≤ v ∧ v ≤ nI b) ↔ inR v (-1) b = true := by
  rw [inR_iff, Int32.le_iff_toInt_le, Int32.le_iff_toInt_le, nI_toInt hb]
  exact Iff.rfl
set_option maxHeartbeats 400000 in
set_option maxRecDepth 100000 in
theorem c_replace_kd (g : Gl) (ao : Nat → Nat) (ap : Nat → Nat) (ak : Nat → Nat) (at' : Nat → Nat) (au : Nat → Nat) (ae : Nat → Nat) (ay : Nat → Nat) (kp : Nat) (gr : Nat → Nat) (la : Nat → Nat) (kd : Nat → Nat) (pt : Nat → Nat) (wt : Nat → Nat) (mr : Nat → Nat) (yr : Nat) (mn : Nat) (tl : Nat → Nat) (c : Nat) (v : Int32) (hc : c < 8) : Ct g yX3_replace cX3_replace 6 (some .int) (rk 1 22) [.ref (ao 0), .ref (ap 3), .int (nI c), .int v, .int (nI 5)] (fl [spO g ao ap ak at' au ae ay kp, potV g ap gr la kd pt wt mr (sumN gr 12) yr mn, arr7 g ay tl]) (fun r w2 => r = some (.int (if inR v 0 5 = true then nI (kd c) else fd 0)) ∧ w2 = (fl [spO g ao ap ak at' au ae ay kp, potV g ap gr la (if inR v 0 5 = true then updN kd c (ix v) else kd) pt wt mr (sumN gr 12) yr mn, arr7 g ay (if inR v 0 5 = true then tl else updN tl 0 (tl 0 + 1))])) := by
  refine ct_of (by decide) (Nat.le_of_ble_eq_true rfl) ?_
  intro φ C0 Rr
  have C : Cx φ g cX3_replace 6 RX3 (rk 1 22) := C0
  show Go φ g 6 0 [(0, .ref (ao 0)), (1, .ref (ap 3)), (2, .int (nI c)), (3, .int v), (4, .int (nI 5))] [] (fl [spO g ao ap ak at' au ae ay kp, potV g ap gr la kd pt wt mr (sumN gr 12) yr mn, arr7 g ay tl])
  refine g_iload_n (pc := 0) C dX3_replace_0 rfl ?_
  refine g_iconst (pc := 1) (v := nI 0) C dX3_replace_1 (by decide) ?_
  refine g_iload (pc := 2) C dX3_replace_2 rfl ?_
  refine g_s0i (pc := 4) C dX3_replace_4 ml_X3_52 mf_X3_isWithin (c_isWithin g v (nI 0) (nI 5)) ⟨rfl, rfl, (Nat.le_of_ble_eq_true rfl), (Nat.le_of_ble_eq_true rfl)⟩ rfl rfl (Nat.le_of_ble_eq_true rfl) ?_
  refine g_top (y := bI (inR v 0 5 = true)) (bI_iff (isW_iff (by decide) (by decide))) ?_
  refine g_if_neB (pc := 7) (tgt := 16) C dX3_replace_7 (by decide) (fun c1 => ?_) (fun c1 => ?_)
  · obtain ⟨v_, hl_v, hu_v, rfl⟩ := inR_nat (lo := 0) (hi := 5) c1
    refine g_aload_n (pc := 16) C dX3_replace_16 rfl ?_
    refine g_iload_n (pc := 17) C dX3_replace_17 rfl ?_
    refine g_ialdM (pc := 18) C dX3_replace_18 4 rfl rfl (by omega) (by decide) ?_
    refine g_istore (pc := 19) (lv2 := [(0, .ref (ao 0)), (1, .ref (ap 3)), (2, .int (nI c)), (3, .int (nI v_)), (4, .int (nI 5)), (5, .int (nI (kd c)))]) C dX3_replace_19 (Nat.le_of_ble_eq_true rfl) rfl ?_
    refine g_aload_n (pc := 21) C dX3_replace_21 rfl ?_
    refine g_iload_n (pc := 22) C dX3_replace_22 rfl ?_
    refine g_iload_n (pc := 23) C dX3_replace_23 rfl ?_
    refine g_iastM (pc := 24) (ws2 := (fl [spO g ao ap ak at' au ae ay kp, potV g ap gr la (updN kd c v_) pt wt mr (sumN gr 12) yr mn, arr7 g ay tl])) C dX3_replace_24 4 rfl rfl (by omega) (by decide) rfl ?_
    refine g_iload (pc := 25) C dX3_replace_25 rfl ?_
    exact g_iret C Rr dX3_replace_27 ⟨by rw [if_pos c1], by rw [if_pos c1, if_pos c1, ix_nI (show v_ < 2 ^ 31 by omega)]⟩ rfl
  · refine g_aload_n (pc := 10) C dX3_replace_10 rfl ?_
    refine g_iconst (pc := 11) (v := nI 0) C dX3_replace_11 (by decide) ?_
    refine g_bxi (pc := 12) (cs := [spO g ao ap ak at' au ae ay kp, arr7 g ay tl]) (ds := [spO g ao ap ak at' au ae ay kp, arr7 g ay (updN tl 0 (tl 0 + 1))]) (bs2 := [spO g ao ap ak at' au ae ay kp, potV g ap gr la kd pt wt mr (sumN gr 12) yr mn, arr7 g ay (updN tl 0 (tl 0 + 1))]) C dX3_replace_12 ml_X3_47 mf_X3_finding (c_finding g ao ap ak at' au ae ay kp tl 0 (by decide)) ⟨rfl, rfl, (Nat.le_of_ble_eq_true rfl), (Nat.le_of_ble_eq_true rfl)⟩ rfl rfl (Nat.le_of_ble_eq_true rfl) rfl rfl 0 rfl rfl rfl [0, 2] rfl rfl rfl rfl ?_
    exact g_iret C Rr dX3_replace_15 ⟨by rw [if_neg c1], by rw [if_neg c1, if_neg c1]⟩ rfl
set_option maxHeartbeats 400000 in
set_option maxRecDepth 100000 in
theorem c_replace_pt (g : Gl) (ao : Nat → Nat) (ap : Nat → Nat) (ak : Nat → Nat) (at' : Nat → Nat) (au : Nat → Nat) (ae : Nat → Nat) (ay : Nat → Nat) (kp : Nat) (gr : Nat → Nat) (la : Nat → Nat) (kd : Nat → Nat) (pt : Nat → Nat) (wt : Nat → Nat) (mr : Nat → Nat) (yr : Nat) (mn : Nat) (tl : Nat → Nat) (c : Nat) (v : Int32) (hc : c < 8) : Ct g yX3_replace cX3_replace 6 (some .int) (rk 1 22) [.ref (ao 0), .ref (ap 4), .int (nI c), .int v, .int (nI 11)] (fl [spO g ao ap ak at' au ae ay kp, potV g ap gr la kd pt wt mr (sumN gr 12) yr mn, arr7 g ay tl]) (fun r w2 => r = some (.int (if inR v 0 11 = true then nI (pt c) else fd 0)) ∧ w2 = (fl [spO g ao ap ak at' au ae ay kp, potV g ap gr la kd (if inR v 0 11 = true then updN pt c (ix v) else pt) wt mr (sumN gr 12) yr mn, arr7 g ay (if inR v 0 11 = true then tl else updN tl 0 (tl 0 + 1))])) := by
  refine ct_of (by decide) (Nat.le_of_ble_eq_true rfl) ?_
  intro φ C0 Rr
  have C : Cx φ g cX3_replace 6 RX3 (rk 1 22) := C0
  show Go φ g 6 0 [(0, .ref (ao 0)), (1, .ref (ap 4)), (2, .int (nI c)), (3, .int v), (4, .int (nI 11))] [] (fl [spO g ao ap ak at' au ae ay kp, potV g ap gr la kd pt wt mr (sumN gr 12) yr mn, arr7 g ay tl])
  refine g_iload_n (pc := 0) C dX3_replace_0 rfl ?_
  refine g_iconst (pc := 1) (v := nI 0) C dX3_replace_1 (by decide) ?_
  refine g_iload (pc := 2) C dX3_replace_2 rfl ?_
  refine g_s0i (pc := 4) C dX3_replace_4 ml_X3_52 mf_X3_isWithin (c_isWithin g v (nI 0) (nI 11)) ⟨rfl, rfl, (Nat.le_of_ble_eq_true rfl), (Nat.le_of_ble_eq_true rfl)⟩ rfl rfl (Nat.le_of_ble_eq_true rfl) ?_
  refine g_top (y := bI (inR v 0 11 = true)) (bI_iff (isW_iff (by decide) (by decide))) ?_
  refine g_if_neB (pc := 7) (tgt := 16) C dX3_replace_7 (by decide) (fun c1 => ?_) (fun c1 => ?_)
  · obtain ⟨v_, hl_v, hu_v, rfl⟩ := inR_nat (lo := 0) (hi := 11) c1
    refine g_aload_n (pc := 16) C dX3_replace_16 rfl ?_
    refine g_iload_n (pc := 17) C dX3_replace_17 rfl ?_
    refine g_ialdM (pc := 18) C dX3_replace_18 5 rfl rfl (by omega) (by decide) ?_
    refine g_istore (pc := 19) (lv2 := [(0, .ref (ao 0)), (1, .ref (ap 4)), (2, .int (nI c)), (3, .int (nI v_)), (4, .int (nI 11)), (5, .int (nI (pt c)))]) C dX3_replace_19 (Nat.le_of_ble_eq_true rfl) rfl ?_
    refine g_aload_n (pc := 21) C dX3_replace_21 rfl ?_
    refine g_iload_n (pc := 22) C dX3_replace_22 rfl ?_
    refine g_iload_n (pc := 23) C dX3_replace_23 rfl ?_
    refine g_iastM (pc := 24) (ws2 := (fl [spO g ao ap ak at' au ae ay kp, potV g ap gr la kd (updN pt c v_) wt mr (sumN gr 12) yr mn, arr7 g ay tl])) C dX3_replace_24 5 rfl rfl (by omega) (by decide) rfl ?_
    refine g_iload (pc := 25) C dX3_replace_25 rfl ?_
    exact g_iret C Rr dX3_replace_27 ⟨by rw [if_pos c1], by rw [if_pos c1, if_pos c1, ix_nI (show v_ < 2 ^ 31 by omega)]⟩ rfl
  · refine g_aload_n (pc := 10) C dX3_replace_10 rfl ?_
    refine g_iconst (pc := 11) (v := nI 0) C dX3_replace_11 (by decide) ?_
    refine g_bxi (pc := 12) (cs := [spO g ao ap ak at' au ae ay kp, arr7 g ay tl]) (ds := [spO g ao ap ak at' au ae ay kp, arr7 g ay (updN tl 0 (tl 0 + 1))]) (bs2 := [spO g ao ap ak at' au ae ay kp, potV g ap gr la kd pt wt mr (sumN gr 12) yr mn, arr7 g ay (updN tl 0 (tl 0 + 1))]) C dX3_replace_12 ml_X3_47 mf_X3_finding (c_finding g ao ap ak at' au ae ay kp tl 0 (by decide)) ⟨rfl, rfl, (Nat.le_of_ble_eq_true rfl), (Nat.le_of_ble_eq_true rfl)⟩ rfl rfl (Nat.le_of_ble_eq_true rfl) rfl rfl 0 rfl rfl rfl [0, 2] rfl rfl rfl rfl ?_
    exact g_iret C Rr dX3_replace_15 ⟨by rw [if_neg c1], by rw [if_neg c1, if_neg c1]⟩ rfl
set_option maxHeartbeats 400000 in
set_option maxRecDepth 100000 in
theorem c_replace_wt (g : Gl) (ao : Nat → Nat) (ap : Nat → Nat) (ak : Nat → Nat) (at' : Nat → Nat) (au : Nat → Nat) (ae : Nat → Nat) (ay : Nat → Nat) (kp : Nat) (gr : Nat → Nat) (la : Nat → Nat) (kd : Nat → Nat) (pt : Nat → Nat) (wt : Nat → Nat) (mr : Nat → Nat) (yr : Nat) (mn : Nat) (tl : Nat → Nat) (c : Nat) (v : Int32) (hc : c < 8) : Ct g yX3_replace cX3_replace 6 (some .int) (rk 1 22) [.ref (ao 0), .ref (ap 5), .int (nI c), .int v, .int (nI 999)] (fl [spO g ao ap ak at' au ae ay kp, potV g ap gr la kd pt wt mr (sumN gr 12) yr mn, arr7 g ay tl]) (fun r w2 => r = some (.int (if inR v 0 999 = true then nI (wt c) else fd 0)) ∧ w2 = (fl [spO g ao ap ak at' au ae ay kp, potV g ap gr la kd pt (if inR v 0 999 = true then updN wt c (ix v) else wt) mr (sumN gr 12) yr mn, arr7 g ay (if inR v 0 999 = true then tl else updN tl 0 (tl 0 + 1))])) := by
  refine ct_of (by decide) (Nat.le_of_ble_eq_true rfl) ?_
  intro φ C0 Rr
  have C : Cx φ g cX3_replace 6 RX3 (rk 1 22) := C0
  show Go φ g 6 0 [(0, .ref (ao 0)), (1, .ref (ap 5)), (2, .int (nI c)), (3, .int v), (4, .int (nI 999))] [] (fl [spO g ao ap ak at' au ae ay kp, potV g ap gr la kd pt wt mr (sumN gr 12) yr mn, arr7 g ay tl])
  refine g_iload_n (pc := 0) C dX3_replace_0 rfl ?_
  refine g_iconst (pc := 1) (v := nI 0) C dX3_replace_1 (by decide) ?_
  refine g_iload (pc := 2) C dX3_replace_2 rfl ?_
  refine g_s0i (pc := 4) C dX3_replace_4 ml_X3_52 mf_X3_isWithin (c_isWithin g v (nI 0) (nI 999)) ⟨rfl, rfl, (Nat.le_of_ble_eq_true rfl), (Nat.le_of_ble_eq_true rfl)⟩ rfl rfl (Nat.le_of_ble_eq_true rfl) ?_
  refine g_top (y := bI (inR v 0 999 = true)) (bI_iff (isW_iff (by decide) (by decide))) ?_
  refine g_if_neB (pc := 7) (tgt := 16) C dX3_replace_7 (by decide) (fun c1 => ?_) (fun c1 => ?_)
  · obtain ⟨v_, hl_v, hu_v, rfl⟩ := inR_nat (lo := 0) (hi := 999) c1
    refine g_aload_n (pc := 16) C dX3_replace_16 rfl ?_
    refine g_iload_n (pc := 17) C dX3_replace_17 rfl ?_
    refine g_ialdM (pc := 18) C dX3_replace_18 6 rfl rfl (by omega) (by decide) ?_
    refine g_istore (pc := 19) (lv2 := [(0, .ref (ao 0)), (1, .ref (ap 5)), (2, .int (nI c)), (3, .int (nI v_)), (4, .int (nI 999)), (5, .int (nI (wt c)))]) C dX3_replace_19 (Nat.le_of_ble_eq_true rfl) rfl ?_
    refine g_aload_n (pc := 21) C dX3_replace_21 rfl ?_
    refine g_iload_n (pc := 22) C dX3_replace_22 rfl ?_
    refine g_iload_n (pc := 23) C dX3_replace_23 rfl ?_
    refine g_iastM (pc := 24) (ws2 := (fl [spO g ao ap ak at' au ae ay kp, potV g ap gr la kd pt (updN wt c v_) mr (sumN gr 12) yr mn, arr7 g ay tl])) C dX3_replace_24 6 rfl rfl (by omega) (by decide) rfl ?_
    refine g_iload (pc := 25) C dX3_replace_25 rfl ?_
    exact g_iret C Rr dX3_replace_27 ⟨by rw [if_pos c1], by rw [if_pos c1, if_pos c1, ix_nI (show v_ < 2 ^ 31 by omega)]⟩ rfl
  · refine g_aload_n (pc := 10) C dX3_replace_10 rfl ?_
    refine g_iconst (pc := 11) (v := nI 0) C dX3_replace_11 (by decide) ?_
    refine g_bxi (pc := 12) (cs := [spO g ao ap ak at' au ae ay kp, arr7 g ay tl]) (ds := [spO g ao ap ak at' au ae ay kp, arr7 g ay (updN tl 0 (tl 0 + 1))]) (bs2 := [spO g ao ap ak at' au ae ay kp, potV g ap gr la kd pt wt mr (sumN gr 12) yr mn, arr7 g ay (updN tl 0 (tl 0 + 1))]) C dX3_replace_12 ml_X3_47 mf_X3_finding (c_finding g ao ap ak at' au ae ay kp tl 0 (by decide)) ⟨rfl, rfl, (Nat.le_of_ble_eq_true rfl), (Nat.le_of_ble_eq_true rfl)⟩ rfl rfl (Nat.le_of_ble_eq_true rfl) rfl rfl 0 rfl rfl rfl [0, 2] rfl rfl rfl rfl ?_
    exact g_iret C Rr dX3_replace_15 ⟨by rw [if_neg c1], by rw [if_neg c1, if_neg c1]⟩ rfl
set_option maxHeartbeats 400000 in
set_option maxRecDepth 100000 in
theorem c_replace_mr (g : Gl) (ao : Nat → Nat) (ap : Nat → Nat) (ak : Nat → Nat) (at' : Nat → Nat) (au : Nat → Nat) (ae : Nat → Nat) (ay : Nat → Nat) (kp : Nat) (gr : Nat → Nat) (la : Nat → Nat) (kd : Nat → Nat) (pt : Nat → Nat) (wt : Nat → Nat) (mr : Nat → Nat) (yr : Nat) (mn : Nat) (tl : Nat → Nat) (c : Nat) (v : Int32) (hc : c < 8) : Ct g yX3_replace cX3_replace 6 (some .int) (rk 1 22) [.ref (ao 0), .ref (ap 6), .int (nI c), .int v, .int (nI 9)] (fl [spO g ao ap ak at' au ae ay kp, potV g ap gr la kd pt wt mr (sumN gr 12) yr mn, arr7 g ay tl]) (fun r w2 => r = some (.int (if inR v 0 9 = true then nI (mr c) else fd 0)) ∧ w2 = (fl [spO g ao ap ak at' au ae ay kp, potV g ap gr la kd pt wt (if inR v 0 9 = true then updN mr c (ix v) else mr) (sumN gr 12) yr mn, arr7 g ay (if inR v 0 9 = true then tl else updN tl 0 (tl 0 + 1))])) := by
  refine ct_of (by decide) (Nat.le_of_ble_eq_true rfl) ?_
  intro φ C0 Rr
  have C : Cx φ g cX3_replace 6 RX3 (rk 1 22) := C0
  show Go φ g 6 0 [(0, .ref (ao 0)), (1, .ref (ap 6)), (2, .int (nI c)), (3, .int v), (4, .int (nI 9))] [] (fl [spO g ao ap ak at' au ae ay kp, potV g ap gr la kd pt wt mr (sumN gr 12) yr mn, arr7 g ay tl])
  refine g_iload_n (pc := 0) C dX3_replace_0 rfl ?_
  refine g_iconst (pc := 1) (v := nI 0) C dX3_replace_1 (by decide) ?_
  refine g_iload (pc := 2) C dX3_replace_2 rfl ?_
  refine g_s0i (pc := 4) C dX3_replace_4 ml_X3_52 mf_X3_isWithin (c_isWithin g v (nI 0) (nI 9)) ⟨rfl, rfl, (Nat.le_of_ble_eq_true rfl), (Nat.le_of_ble_eq_true rfl)⟩ rfl rfl (Nat.le_of_ble_eq_true rfl) ?_
  refine g_top (y := bI (inR v 0 9 = true)) (bI_iff (isW_iff (by decide) (by decide))) ?_
  refine g_if_neB (pc := 7) (tgt := 16) C dX3_replace_7 (by decide) (fun c1 => ?_) (fun c1 => ?_)
  · obtain ⟨v_, hl_v, hu_v, rfl⟩ := inR_nat (lo := 0) (hi := 9) c1
    refine g_aload_n (pc := 16) C dX3_replace_16 rfl ?_
    refine g_iload_n (pc := 17) C dX3_replace_17 rfl ?_
    refine g_ialdM (pc := 18) C dX3_replace_18 7 rfl rfl (by omega) (by decide) ?_
    refine g_istore (pc := 19) (lv2 := [(0, .ref (ao 0)), (1, .ref (ap 6)), (2, .int (nI c)), (3, .int (nI v_)), (4, .int (nI 9)), (5, .int (nI (mr c)))]) C dX3_replace_19 (Nat.le_of_ble_eq_true rfl) rfl ?_
    refine g_aload_n (pc := 21) C dX3_replace_21 rfl ?_
    refine g_iload_n (pc := 22) C dX3_replace_22 rfl ?_
    refine g_iload_n (pc := 23) C dX3_replace_23 rfl ?_
    refine g_iastM (pc := 24) (ws2 := (fl [spO g ao ap ak at' au ae ay kp, potV g ap gr la kd pt wt (updN mr c v_) (sumN gr 12) yr mn, arr7 g ay tl])) C dX3_replace_24 7 rfl rfl (by omega) (by decide) rfl ?_
    refine g_iload (pc := 25) C dX3_replace_25 rfl ?_
    exact g_iret C Rr dX3_replace_27 ⟨by rw [if_pos c1], by rw [if_pos c1, if_pos c1, ix_nI (show v_ < 2 ^ 31 by omega)]⟩ rfl
  · refine g_aload_n (pc := 10) C dX3_replace_10 rfl ?_
    refine g_iconst (pc := 11) (v := nI 0) C dX3_replace_11 (by decide) ?_
    refine g_bxi (pc := 12) (cs := [spO g ao ap ak at' au ae ay kp, arr7 g ay tl]) (ds := [spO g ao ap ak at' au ae ay kp, arr7 g ay (updN tl 0 (tl 0 + 1))]) (bs2 := [spO g ao ap ak at' au ae ay kp, potV g ap gr la kd pt wt mr (sumN gr 12) yr mn, arr7 g ay (updN tl 0 (tl 0 + 1))]) C dX3_replace_12 ml_X3_47 mf_X3_finding (c_finding g ao ap ak at' au ae ay kp tl 0 (by decide)) ⟨rfl, rfl, (Nat.le_of_ble_eq_true rfl), (Nat.le_of_ble_eq_true rfl)⟩ rfl rfl (Nat.le_of_ble_eq_true rfl) rfl rfl 0 rfl rfl rfl [0, 2] rfl rfl rfl rfl ?_
    exact g_iret C Rr dX3_replace_15 ⟨by rw [if_neg c1], by rw [if_neg c1, if_neg c1]⟩ rfl
set_option maxHeartbeats 400000 in
set_option maxRecDepth 100000 in
theorem x_turn (g : Gl) (A : Ac) (X : Xs) (J : Jc) (c : Int32) (k : Int32) (hX : InvX X) (hJ : OkJ X J) : Ct g yX3_turn cX3_turn 3 (some .int) (rk 2 47) [.ref (A.1 0), .int c, .int k] (spX g A X J) (fun r w2 => ∃ J2, OkJ (f_turn X c k).2 J2 ∧ r = some (.int (f_turn X c k).1) ∧ w2 = spX g A (f_turn X c k).2 J2) := by
  obtain ⟨ao, ap, ak, at', au, ae, a0, a1, a2, a3, ay⟩ := A
  obtain ⟨⟨mn, yr, gr, kd, pt, wt, mr⟩, ⟨ks, kp⟩, ⟨tb, tn⟩, ⟨wd, sz, nm⟩, tl⟩ := X
  obtain ⟨la, ⟨⟨kmn, kyr, kgr, kkd, kpt, kwt, kmr⟩, kla⟩, ⟨⟨tmn, tyr, tgr, tkd, tpt, twt, tmr⟩, tla⟩, ⟨pl, tk, sr, vl⟩⟩ := J
  obtain ⟨hB, hy, hkp, htb, htn, hwd, hsz⟩ := id hX
  obtain ⟨-, hTle, hgr, hkd, hpt, hwt, hmr, hyr, hmn⟩ := id hB
  refine ct_of (by decide) (Nat.le_of_ble_eq_true rfl) ?_
  intro φ C0 Rr
  have C : Cx φ g cX3_turn 3 RX3 (rk 2 47) := C0
  show Go φ g 3 0 [(0, .ref (ao 0)), (1, .int c), (2, .int k)] [] (fl [spO g ao ap ak at' au ae ay kp, potV g ap gr la kd pt wt mr (sumN gr 12) yr mn, potV g ak kgr kla kkd kpt kwt kmr (sumN kgr 12) kyr kmn, potV g at' tgr tla tkd tpt twt tmr (sumN tgr 12) tyr tmn, tpV g au (tbB tb) tn pl tk sr vl, shA g ae a0 a1 a2 a3, shV g a0 (nm 0) (wd 0) (sz 0), shV g a1 (nm 1) (wd 1) (sz 1), shV g a2 (nm 2) (wd 2) (sz 2), shV g a3 (nm 3) (wd 3) (sz 3), arr7 g ay tl])
  refine g_aload_n (pc := 0) C dX3_turn_0 rfl ?_
  refine g_iload_n (pc := 1) C dX3_turn_1 rfl ?_
  refine g_bxi (pc := 2) (cs := [spO g ao ap ak at' au ae ay kp, potV g ap gr la kd pt wt mr (sumN gr 12) yr mn]) (ds := [spO g ao ap ak at' au ae ay kp, potV g ap gr la kd pt wt mr (sumN gr 12) yr mn]) (bs2 := [spO g ao ap ak at' au ae ay kp, potV g ap gr la kd pt wt mr (sumN gr 12) yr mn, potV g ak kgr kla kkd kpt kwt kmr (sumN kgr 12) kyr kmn, potV g at' tgr tla tkd tpt twt tmr (sumN tgr 12) tyr tmn, tpV g au (tbB tb) tn pl tk sr vl, shA g ae a0 a1 a2 a3, shV g a0 (nm 0) (wd 0) (sz 0), shV g a1 (nm 1) (wd 1) (sz 1), shV g a2 (nm 2) (wd 2) (sz 2), shV g a3 (nm 3) (wd 3) (sz 3), arr7 g ay tl]) C dX3_turn_2 ml_X3_86 mf_X3_isCook (c_isCook g ao ap ak at' au ae ay kp gr la kd pt wt mr yr mn c (by omega)) ⟨rfl, rfl, (Nat.le_of_ble_eq_true rfl), (Nat.le_of_ble_eq_true rfl)⟩ rfl rfl (Nat.le_of_ble_eq_true rfl) rfl rfl 0 rfl rfl rfl [0, 1] rfl rfl rfl rfl ?_
  refine g_if_eqB (pc := 5) (tgt := 25) C dX3_turn_5 (by decide) (fun c1 => ?_) (fun c1 => ?_)
  · refine g_aload_n (pc := 25) C dX3_turn_25 rfl ?_
    refine g_iconst (pc := 26) (v := nI 0) C dX3_turn_26 (by decide) ?_
    refine g_bxi (pc := 27) (cs := [spO g ao ap ak at' au ae ay kp, arr7 g ay tl]) (ds := [spO g ao ap ak at' au ae ay kp, arr7 g ay (updN tl 0 (tl 0 + 1))]) (bs2 := [spO g ao ap ak at' au ae ay kp, potV g ap gr la kd pt wt mr (sumN gr 12) yr mn, potV g ak kgr kla kkd kpt kwt kmr (sumN kgr 12) kyr kmn, potV g at' tgr tla tkd tpt twt tmr (sumN tgr 12) tyr tmn, tpV g au (tbB tb) tn pl tk sr vl, shA g ae a0 a1 a2 a3, shV g a0 (nm 0) (wd 0) (sz 0), shV g a1 (nm 1) (wd 1) (sz 1), shV g a2 (nm 2) (wd 2) (sz 2), shV g a3 (nm 3) (wd 3) (sz 3), arr7 g ay (updN tl 0 (tl 0 + 1))]) C dX3_turn_27 ml_X3_47 mf_X3_finding (c_finding g ao ap ak at' au ae ay kp tl 0 (by decide)) ⟨rfl, rfl, (Nat.le_of_ble_eq_true rfl), (Nat.le_of_ble_eq_true rfl)⟩ rfl rfl (Nat.le_of_ble_eq_true rfl) rfl rfl 0 rfl rfl rfl [0, 10] rfl rfl rfl rfl ?_
    have hf : f_turn ((mn, yr, gr, kd, pt, wt, mr), (ks, kp), (tb, tn), (wd, sz, nm), tl) c k = ((fd 0), ((mn, yr, gr, kd, pt, wt, mr), (ks, kp), (tb, tn), (wd, sz, nm), updN tl 0 (tl 0 + 1))) := by simp [f_turn, fnd, c1]
    exact g_iret C Rr dX3_turn_30 ⟨(la, ((kmn, kyr, kgr, kkd, kpt, kwt, kmr), kla), ((tmn, tyr, tgr, tkd, tpt, twt, tmr), tla), (pl, tk, sr, vl)), by rw [hf]; exact (fun h => hJ h), by rw [hf], by rw [hf]; rfl⟩ (spX_ad g (ao, ap, ak, at', au, ae, a0, a1, a2, a3, ay) ((mn, yr, gr, kd, pt, wt, mr), (ks, kp), (tb, tn), (wd, sz, nm), updN tl 0 (tl 0 + 1)) ((mn, yr, gr, kd, pt, wt, mr), (ks, kp), (tb, tn), (wd, sz, nm), tl) (la, ((kmn, kyr, kgr, kkd, kpt, kwt, kmr), kla), ((tmn, tyr, tgr, tkd, tpt, twt, tmr), tla), (pl, tk, sr, vl)) (la, ((kmn, kyr, kgr, kkd, kpt, kwt, kmr), kla), ((tmn, tyr, tgr, tkd, tpt, twt, tmr), tla), (pl, tk, sr, vl)))
  · obtain ⟨c_, hu_c, rfl⟩ := inR_cook c1
    have hc8 : c_ < 8 := by omega
    refine g_aload_n (pc := 8) C dX3_turn_8 rfl ?_
    refine g_aload_n (pc := 9) C dX3_turn_9 rfl ?_
    refine g_get3 (pc := 10) C dX3_turn_10 0 rfl 0 (by decide) fl_X3_10 rfl ?_
    refine g_get0 (pc := 13) C dX3_turn_13 1 rfl 2 (by decide) fl_X3_89 rfl ?_
    refine g_iload_n (pc := 16) C dX3_turn_16 rfl ?_
    refine g_iload_n (pc := 17) C dX3_turn_17 rfl ?_
    refine g_iconst (pc := 18) (v := nI 5) C dX3_turn_18 (by decide) ?_
    refine g_bxi (pc := 19) (cs := [spO g ao ap ak at' au ae ay kp, potV g ap gr la kd pt wt mr (sumN gr 12) yr mn, arr7 g ay tl]) (ds := [spO g ao ap ak at' au ae ay kp, potV g ap gr la (if inR k 0 5 = true then updN kd c_ (ix k) else kd) pt wt mr (sumN gr 12) yr mn, arr7 g ay (if inR k 0 5 = true then tl else updN tl 0 (tl 0 + 1))]) (bs2 := [spO g ao ap ak at' au ae ay kp, potV g ap gr la (if inR k 0 5 = true then updN kd c_ (ix k) else kd) pt wt mr (sumN gr 12) yr mn, potV g ak kgr kla kkd kpt kwt kmr (sumN kgr 12) kyr kmn, potV g at' tgr tla tkd tpt twt tmr (sumN tgr 12) tyr tmn, tpV g au (tbB tb) tn pl tk sr vl, shA g ae a0 a1 a2 a3, shV g a0 (nm 0) (wd 0) (sz 0), shV g a1 (nm 1) (wd 1) (sz 1), shV g a2 (nm 2) (wd 2) (sz 2), shV g a3 (nm 3) (wd 3) (sz 3), arr7 g ay (if inR k 0 5 = true then tl else updN tl 0 (tl 0 + 1))]) C dX3_turn_19 ml_X3_111 mf_X3_replace (c_replace_kd g ao ap ak at' au ae ay kp gr la kd pt wt mr yr mn tl c_ k (by omega)) ⟨rfl, rfl, (Nat.le_of_ble_eq_true rfl), (Nat.le_of_ble_eq_true rfl)⟩ rfl rfl (Nat.le_of_ble_eq_true rfl) rfl rfl 0 rfl rfl rfl [0, 1, 10] rfl rfl rfl rfl ?_
    refine g_goto (pc := 22) (tgt := 30) C dX3_turn_22 (by decide) ?_
    have hf : f_turn ((mn, yr, gr, kd, pt, wt, mr), (ks, kp), (tb, tn), (wd, sz, nm), tl) (nI c_) k = ((if inR k 0 5 = true then nI (kd c_) else fd 0), ((mn, yr, gr, (if inR k 0 5 = true then updN kd c_ (ix k) else kd), pt, wt, mr), (ks, kp), (tb, tn), (wd, sz, nm), if inR k 0 5 = true then tl else updN tl 0 (tl 0 + 1))) := by cases h9 : inR k 0 5 <;> simp [f_turn, fnd, h9, c1, ix_nI (show c_ < 2 ^ 31 by omega)]
    exact g_iret C Rr dX3_turn_30 ⟨(la, ((kmn, kyr, kgr, kkd, kpt, kwt, kmr), kla), ((tmn, tyr, tgr, tkd, tpt, twt, tmr), tla), (pl, tk, sr, vl)), by rw [hf]; exact (fun h => hJ h), by rw [hf], by rw [hf]; rfl⟩ (spX_ad g (ao, ap, ak, at', au, ae, a0, a1, a2, a3, ay) ((mn, yr, gr, (if inR k 0 5 = true then updN kd c_ (ix k) else kd), pt, wt, mr), (ks, kp), (tb, tn), (wd, sz, nm), if inR k 0 5 = true then tl else updN tl 0 (tl 0 + 1)) ((mn, yr, gr, kd, pt, wt, mr), (ks, kp), (tb, tn), (wd, sz, nm), tl) (la, ((kmn, kyr, kgr, kkd, kpt, kwt, kmr), kla), ((tmn, tyr, tgr, tkd, tpt, twt, tmr), tla), (pl, tk, sr, vl)) (la, ((kmn, kyr, kgr, kkd, kpt, kwt, kmr), kla), ((tmn, tyr, tgr, tkd, tpt, twt, tmr), tla), (pl, tk, sr, vl)))
set_option maxHeartbeats 400000 in
set_option maxRecDepth 100000 in
theorem x_set (g : Gl) (A : Ac) (X : Xs) (J : Jc) (c : Int32) (w : Int32) (v : Int32) (hX : InvX X) (hJ : OkJ X J) : Ct g yX3_set cX3_set 4 (some .int) (rk 2 47) [.ref (A.1 0), .int c, .int w, .int v] (spX g A X J) (fun r w2 => ∃ J2, OkJ (f_set X c w v).2 J2 ∧ r = some (.int (f_set X c w v).1) ∧ w2 = spX g A (f_set X c w v).2 J2) := by
  obtain ⟨ao, ap, ak, at', au, ae, a0, a1, a2, a3, ay⟩ := A
  obtain ⟨⟨mn, yr, gr, kd, pt, wt, mr⟩, ⟨ks, kp⟩, ⟨tb, tn⟩, ⟨wd, sz, nm⟩, tl⟩ := X
  obtain ⟨la, ⟨⟨kmn, kyr, kgr, kkd, kpt, kwt, kmr⟩, kla⟩, ⟨⟨tmn, tyr, tgr, tkd, tpt, twt, tmr⟩, tla⟩, ⟨pl, tk, sr, vl⟩⟩ := J
  obtain ⟨hB, hy, hkp, htb, htn, hwd, hsz⟩ := id hX
  obtain ⟨-, hTle, hgr, hkd, hpt, hwt, hmr, hyr, hmn⟩ := id hB
  refine ct_of (by decide) (Nat.le_of_ble_eq_true rfl) ?_
  intro φ C0 Rr
  have C : Cx φ g cX3_set 4 RX3 (rk 2 47) := C0
  show Go φ g 4 0 [(0, .ref (ao 0)), (1, .int c), (2, .int w), (3, .int v)] [] (fl [spO g ao ap ak at' au ae ay kp, potV g ap gr la kd pt wt mr (sumN gr 12) yr mn, potV g ak kgr kla kkd kpt kwt kmr (sumN kgr 12) kyr kmn, potV g at' tgr tla tkd tpt twt tmr (sumN tgr 12) tyr tmn, tpV g au (tbB tb) tn pl tk sr vl, shA g ae a0 a1 a2 a3, shV g a0 (nm 0) (wd 0) (sz 0), shV g a1 (nm 1) (wd 1) (sz 1), shV g a2 (nm 2) (wd 2) (sz 2), shV g a3 (nm 3) (wd 3) (sz 3), arr7 g ay tl])
  refine g_aload_n (pc := 0) C dX3_set_0 rfl ?_
  refine g_iload_n (pc := 1) C dX3_set_1 rfl ?_
  refine g_bxi (pc := 2) (cs := [spO g ao ap ak at' au ae ay kp, potV g ap gr la kd pt wt mr (sumN gr 12) yr mn]) (ds := [spO g ao ap ak at' au ae ay kp, potV g ap gr la kd pt wt mr (sumN gr 12) yr mn]) (bs2 := [spO g ao ap ak at' au ae ay kp, potV g ap gr la kd pt wt mr (sumN gr 12) yr mn, potV g ak kgr kla kkd kpt kwt kmr (sumN kgr 12) kyr kmn, potV g at' tgr tla tkd tpt twt tmr (sumN tgr 12) tyr tmn, tpV g au (tbB tb) tn pl tk sr vl, shA g ae a0 a1 a2 a3, shV g a0 (nm 0) (wd 0) (sz 0), shV g a1 (nm 1) (wd 1) (sz 1), shV g a2 (nm 2) (wd 2) (sz 2), shV g a3 (nm 3) (wd 3) (sz 3), arr7 g ay tl]) C dX3_set_2 ml_X3_86 mf_X3_isCook (c_isCook g ao ap ak at' au ae ay kp gr la kd pt wt mr yr mn c (by omega)) ⟨rfl, rfl, (Nat.le_of_ble_eq_true rfl), (Nat.le_of_ble_eq_true rfl)⟩ rfl rfl (Nat.le_of_ble_eq_true rfl) rfl rfl 0 rfl rfl rfl [0, 1] rfl rfl rfl rfl ?_
  refine g_if_neB (pc := 5) (tgt := 14) C dX3_set_5 (by decide) (fun c1 => ?_) (fun c1 => ?_)
  · obtain ⟨c_, hu_c, rfl⟩ := inR_cook c1
    have hc8 : c_ < 8 := by omega
    refine g_iload_n (pc := 14) C dX3_set_14 rfl ?_
    by_cases c2 : w = nI 1
    · subst c2
      refine g_tableIn (pc := 15) (off := 25) (tgt := 40) C dX3_set_15 (by decide) (by decide) (by decide) (by decide) ?_
      refine g_aload_n (pc := 40) C dX3_set_40 rfl ?_
      refine g_aload_n (pc := 41) C dX3_set_41 rfl ?_
      refine g_get3 (pc := 42) C dX3_set_42 0 rfl 0 (by decide) fl_X3_10 rfl ?_
      refine g_get0 (pc := 45) C dX3_set_45 1 rfl 3 (by decide) fl_X3_92 rfl ?_
      refine g_iload_n (pc := 48) C dX3_set_48 rfl ?_
      refine g_iload_n (pc := 49) C dX3_set_49 rfl ?_
      refine g_bipush (pc := 50) (v := nI 11) C dX3_set_50 (by decide) ?_
      refine g_bxi (pc := 52) (cs := [spO g ao ap ak at' au ae ay kp, potV g ap gr la kd pt wt mr (sumN gr 12) yr mn, arr7 g ay tl]) (ds := [spO g ao ap ak at' au ae ay kp, potV g ap gr la kd (if inR v 0 11 = true then updN pt c_ (ix v) else pt) wt mr (sumN gr 12) yr mn, arr7 g ay (if inR v 0 11 = true then tl else updN tl 0 (tl 0 + 1))]) (bs2 := [spO g ao ap ak at' au ae ay kp, potV g ap gr la kd (if inR v 0 11 = true then updN pt c_ (ix v) else pt) wt mr (sumN gr 12) yr mn, potV g ak kgr kla kkd kpt kwt kmr (sumN kgr 12) kyr kmn, potV g at' tgr tla tkd tpt twt tmr (sumN tgr 12) tyr tmn, tpV g au (tbB tb) tn pl tk sr vl, shA g ae a0 a1 a2 a3, shV g a0 (nm 0) (wd 0) (sz 0), shV g a1 (nm 1) (wd 1) (sz 1), shV g a2 (nm 2) (wd 2) (sz 2), shV g a3 (nm 3) (wd 3) (sz 3), arr7 g ay (if inR v 0 11 = true then tl else updN tl 0 (tl 0 + 1))]) C dX3_set_52 ml_X3_111 mf_X3_replace (c_replace_pt g ao ap ak at' au ae ay kp gr la kd pt wt mr yr mn tl c_ v (by omega)) ⟨rfl, rfl, (Nat.le_of_ble_eq_true rfl), (Nat.le_of_ble_eq_true rfl)⟩ rfl rfl (Nat.le_of_ble_eq_true rfl) rfl rfl 0 rfl rfl rfl [0, 1, 10] rfl rfl rfl rfl ?_
      have hf : f_set ((mn, yr, gr, kd, pt, wt, mr), (ks, kp), (tb, tn), (wd, sz, nm), tl) (nI c_) (nI 1) v = ((if inR v 0 11 = true then nI (pt c_) else fd 0), ((mn, yr, gr, kd, (if inR v 0 11 = true then updN pt c_ (ix v) else pt), wt, mr), (ks, kp), (tb, tn), (wd, sz, nm), if inR v 0 11 = true then tl else updN tl 0 (tl 0 + 1))) := by cases h9 : inR v 0 11 <;> simp [f_set, fnd, itF, h9, c1, ix_nI (show c_ < 2 ^ 31 by omega), ix_nI (show 1 < 2 ^ 31 by decide), show inR (nI 1) 1 3 = true by decide]
      exact g_iret C Rr dX3_set_55 ⟨(la, ((kmn, kyr, kgr, kkd, kpt, kwt, kmr), kla), ((tmn, tyr, tgr, tkd, tpt, twt, tmr), tla), (pl, tk, sr, vl)), by rw [hf]; exact (fun h => hJ h), by rw [hf], by rw [hf]; rfl⟩ (spX_ad g (ao, ap, ak, at', au, ae, a0, a1, a2, a3, ay) ((mn, yr, gr, kd, (if inR v 0 11 = true then updN pt c_ (ix v) else pt), wt, mr), (ks, kp), (tb, tn), (wd, sz, nm), if inR v 0 11 = true then tl else updN tl 0 (tl 0 + 1)) ((mn, yr, gr, kd, pt, wt, mr), (ks, kp), (tb, tn), (wd, sz, nm), tl) (la, ((kmn, kyr, kgr, kkd, kpt, kwt, kmr), kla), ((tmn, tyr, tgr, tkd, tpt, twt, tmr), tla), (pl, tk, sr, vl)) (la, ((kmn, kyr, kgr, kkd, kpt, kwt, kmr), kla), ((tmn, tyr, tgr, tkd, tpt, twt, tmr), tla), (pl, tk, sr, vl)))
    by_cases c3 : w = nI 2
    · subst c3
      refine g_tableIn (pc := 15) (off := 41) (tgt := 56) C dX3_set_15 (by decide) (by decide) (by decide) (by decide) ?_
      refine g_aload_n (pc := 56) C dX3_set_56 rfl ?_
      refine g_aload_n (pc := 57) C dX3_set_57 rfl ?_
      refine g_get3 (pc := 58) C dX3_set_58 0 rfl 0 (by decide) fl_X3_10 rfl ?_
      refine g_get0 (pc := 61) C dX3_set_61 1 rfl 4 (by decide) fl_X3_95 rfl ?_
      refine g_iload_n (pc := 64) C dX3_set_64 rfl ?_
      refine g_iload_n (pc := 65) C dX3_set_65 rfl ?_
      refine g_sipush (pc := 66) (v := nI 999) C dX3_set_66 (by decide) ?_
      refine g_bxi (pc := 69) (cs := [spO g ao ap ak at' au ae ay kp, potV g ap gr la kd pt wt mr (sumN gr 12) yr mn, arr7 g ay tl]) (ds := [spO g ao ap ak at' au ae ay kp, potV g ap gr la kd pt (if inR v 0 999 = true then updN wt c_ (ix v) else wt) mr (sumN gr 12) yr mn, arr7 g ay (if inR v 0 999 = true then tl else updN tl 0 (tl 0 + 1))]) (bs2 := [spO g ao ap ak at' au ae ay kp, potV g ap gr la kd pt (if inR v 0 999 = true then updN wt c_ (ix v) else wt) mr (sumN gr 12) yr mn, potV g ak kgr kla kkd kpt kwt kmr (sumN kgr 12) kyr kmn, potV g at' tgr tla tkd tpt twt tmr (sumN tgr 12) tyr tmn, tpV g au (tbB tb) tn pl tk sr vl, shA g ae a0 a1 a2 a3, shV g a0 (nm 0) (wd 0) (sz 0), shV g a1 (nm 1) (wd 1) (sz 1), shV g a2 (nm 2) (wd 2) (sz 2), shV g a3 (nm 3) (wd 3) (sz 3), arr7 g ay (if inR v 0 999 = true then tl else updN tl 0 (tl 0 + 1))]) C dX3_set_69 ml_X3_111 mf_X3_replace (c_replace_wt g ao ap ak at' au ae ay kp gr la kd pt wt mr yr mn tl c_ v (by omega)) ⟨rfl, rfl, (Nat.le_of_ble_eq_true rfl), (Nat.le_of_ble_eq_true rfl)⟩ rfl rfl (Nat.le_of_ble_eq_true rfl) rfl rfl 0 rfl rfl rfl [0, 1, 10] rfl rfl rfl rfl ?_
      have hf : f_set ((mn, yr, gr, kd, pt, wt, mr), (ks, kp), (tb, tn), (wd, sz, nm), tl) (nI c_) (nI 2) v = ((if inR v 0 999 = true then nI (wt c_) else fd 0), ((mn, yr, gr, kd, pt, (if inR v 0 999 = true then updN wt c_ (ix v) else wt), mr), (ks, kp), (tb, tn), (wd, sz, nm), if inR v 0 999 = true then tl else updN tl 0 (tl 0 + 1))) := by cases h9 : inR v 0 999 <;> simp [f_set, fnd, itF, h9, c1, c2, ix_nI (show c_ < 2 ^ 31 by omega), ix_nI (show 2 < 2 ^ 31 by decide), show inR (nI 2) 1 3 = true by decide]
      exact g_iret C Rr dX3_set_72 ⟨(la, ((kmn, kyr, kgr, kkd, kpt, kwt, kmr), kla), ((tmn, tyr, tgr, tkd, tpt, twt, tmr), tla), (pl, tk, sr, vl)), by rw [hf]; exact (fun h => hJ h), by rw [hf], by rw [hf]; rfl⟩ (spX_ad g (ao, ap, ak, at', au, ae, a0, a1, a2, a3, ay) ((mn, yr, gr, kd, pt, (if inR v 0 999 = true then updN wt c_ (ix v) else wt), mr), (ks, kp), (tb, tn), (wd, sz, nm), if inR v 0 999 = true then tl else updN tl 0 (tl 0 + 1)) ((mn, yr, gr, kd, pt, wt, mr), (ks, kp), (tb, tn), (wd, sz, nm), tl) (la, ((kmn, kyr, kgr, kkd, kpt, kwt, kmr), kla), ((tmn, tyr, tgr, tkd, tpt, twt, tmr), tla), (pl, tk, sr, vl)) (la, ((kmn, kyr, kgr, kkd, kpt, kwt, kmr), kla), ((tmn, tyr, tgr, tkd, tpt, twt, tmr), tla), (pl, tk, sr, vl)))
    by_cases c4 : w = nI 3
    · subst c4
      refine g_tableIn (pc := 15) (off := 58) (tgt := 73) C dX3_set_15 (by decide) (by decide) (by decide) (by decide) ?_
      refine g_aload_n (pc := 73) C dX3_set_73 rfl ?_
      refine g_aload_n (pc := 74) C dX3_set_74 rfl ?_
      refine g_get3 (pc := 75) C dX3_set_75 0 rfl 0 (by decide) fl_X3_10 rfl ?_
      refine g_get0 (pc := 78) C dX3_set_78 1 rfl 5 (by decide) fl_X3_98 rfl ?_
      refine g_iload_n (pc := 81) C dX3_set_81 rfl ?_
      refine g_iload_n (pc := 82) C dX3_set_82 rfl ?_
      refine g_bipush (pc := 83) (v := nI 9) C dX3_set_83 (by decide) ?_
      refine g_bxi (pc := 85) (cs := [spO g ao ap ak at' au ae ay kp, potV g ap gr la kd pt wt mr (sumN gr 12) yr mn, arr7 g ay tl]) (ds := [spO g ao ap ak at' au ae ay kp, potV g ap gr la kd pt wt (if inR v 0 9 = true then updN mr c_ (ix v) else mr) (sumN gr 12) yr mn, arr7 g ay (if inR v 0 9 = true then tl else updN tl 0 (tl 0 + 1))]) (bs2 := [spO g ao ap ak at' au ae ay kp, potV g ap gr la kd pt wt (if inR v 0 9 = true then updN mr c_ (ix v) else mr) (sumN gr 12) yr mn, potV g ak kgr kla kkd kpt kwt kmr (sumN kgr 12) kyr kmn, potV g at' tgr tla tkd tpt twt tmr (sumN tgr 12) tyr tmn, tpV g au (tbB tb) tn pl tk sr vl, shA g ae a0 a1 a2 a3, shV g a0 (nm 0) (wd 0) (sz 0), shV g a1 (nm 1) (wd 1) (sz 1), shV g a2 (nm 2) (wd 2) (sz 2), shV g a3 (nm 3) (wd 3) (sz 3), arr7 g ay (if inR v 0 9 = true then tl else updN tl 0 (tl 0 + 1))]) C dX3_set_85 ml_X3_111 mf_X3_replace (c_replace_mr g ao ap ak at' au ae ay kp gr la kd pt wt mr yr mn tl c_ v (by omega)) ⟨rfl, rfl, (Nat.le_of_ble_eq_true rfl), (Nat.le_of_ble_eq_true rfl)⟩ rfl rfl (Nat.le_of_ble_eq_true rfl) rfl rfl 0 rfl rfl rfl [0, 1, 10] rfl rfl rfl rfl ?_
      have hf : f_set ((mn, yr, gr, kd, pt, wt, mr), (ks, kp), (tb, tn), (wd, sz, nm), tl) (nI c_) (nI 3) v = ((if inR v 0 9 = true then nI (mr c_) else fd 0), ((mn, yr, gr, kd, pt, wt, (if inR v 0 9 = true then updN mr c_ (ix v) else mr)), (ks, kp), (tb, tn), (wd, sz, nm), if inR v 0 9 = true then tl else updN tl 0 (tl 0 + 1))) := by cases h9 : inR v 0 9 <;> simp [f_set, fnd, itF, h9, c1, c2, c3, ix_nI (show c_ < 2 ^ 31 by omega), ix_nI (show 3 < 2 ^ 31 by decide), show inR (nI 3) 1 3 = true by decide]
      exact g_iret C Rr dX3_set_88 ⟨(la, ((kmn, kyr, kgr, kkd, kpt, kwt, kmr), kla), ((tmn, tyr, tgr, tkd, tpt, twt, tmr), tla), (pl, tk, sr, vl)), by rw [hf]; exact (fun h => hJ h), by rw [hf], by rw [hf]; rfl⟩ (spX_ad g (ao, ap, ak, at', au, ae, a0, a1, a2, a3, ay) ((mn, yr, gr, kd, pt, wt, (if inR v 0 9 = true then updN mr c_ (ix v) else mr)), (ks, kp), (tb, tn), (wd, sz, nm), if inR v 0 9 = true then tl else updN tl 0 (tl 0 + 1)) ((mn, yr, gr, kd, pt, wt, mr), (ks, kp), (tb, tn), (wd, sz, nm), tl) (la, ((kmn, kyr, kgr, kkd, kpt, kwt, kmr), kla), ((tmn, tyr, tgr, tkd, tpt, twt, tmr), tla), (pl, tk, sr, vl)) (la, ((kmn, kyr, kgr, kkd, kpt, kwt, kmr), kla), ((tmn, tyr, tgr, tkd, tpt, twt, tmr), tla), (pl, tk, sr, vl)))
    refine g_tableOut (pc := 15) (tgt := 89) C dX3_set_15 (by have := sw_ne c2 (by decide); have := sw_ne c3 (by decide); have := sw_ne c4 (by decide); omega) (by decide) ?_
    have hni : inR w 1 3 = false := by
      cases e9 : inR w 1 3 with
      | false => rfl
      | true =>
        obtain ⟨j9, h1, h2, rfl⟩ := inR_nat (lo := 1) (hi := 3) e9
        rcases (show j9 = 1 ∨ j9 = 2 ∨ j9 = 3 by omega) with rfl | rfl | rfl
        · exact absurd rfl c2
        · exact absurd rfl c3
        · exact absurd rfl c4
    refine g_aload_n (pc := 89) C dX3_set_89 rfl ?_
    refine g_iconst (pc := 90) (v := nI 0) C dX3_set_90 (by decide) ?_
    refine g_bxi (pc := 91) (cs := [spO g ao ap ak at' au ae ay kp, arr7 g ay tl]) (ds := [spO g ao ap ak at' au ae ay kp, arr7 g ay (updN tl 0 (tl 0 + 1))]) (bs2 := [spO g ao ap ak at' au ae ay kp, potV g ap gr la kd pt wt mr (sumN gr 12) yr mn, potV g ak kgr kla kkd kpt kwt kmr (sumN kgr 12) kyr kmn, potV g at' tgr tla tkd tpt twt tmr (sumN tgr 12) tyr tmn, tpV g au (tbB tb) tn pl tk sr vl, shA g ae a0 a1 a2 a3, shV g a0 (nm 0) (wd 0) (sz 0), shV g a1 (nm 1) (wd 1) (sz 1), shV g a2 (nm 2) (wd 2) (sz 2), shV g a3 (nm 3) (wd 3) (sz 3), arr7 g ay (updN tl 0 (tl 0 + 1))]) C dX3_set_91 ml_X3_47 mf_X3_finding (c_finding g ao ap ak at' au ae ay kp tl 0 (by decide)) ⟨rfl, rfl, (Nat.le_of_ble_eq_true rfl), (Nat.le_of_ble_eq_true rfl)⟩ rfl rfl (Nat.le_of_ble_eq_true rfl) rfl rfl 0 rfl rfl rfl [0, 10] rfl rfl rfl rfl ?_
    have hf : f_set ((mn, yr, gr, kd, pt, wt, mr), (ks, kp), (tb, tn), (wd, sz, nm), tl) (nI c_) w v = ((fd 0), ((mn, yr, gr, kd, pt, wt, mr), (ks, kp), (tb, tn), (wd, sz, nm), updN tl 0 (tl 0 + 1))) := by simp [f_set, fnd, hni]
    exact g_iret C Rr dX3_set_94 ⟨(la, ((kmn, kyr, kgr, kkd, kpt, kwt, kmr), kla), ((tmn, tyr, tgr, tkd, tpt, twt, tmr), tla), (pl, tk, sr, vl)), by rw [hf]; exact (fun h => hJ h), by rw [hf], by rw [hf]; rfl⟩ (spX_ad g (ao, ap, ak, at', au, ae, a0, a1, a2, a3, ay) ((mn, yr, gr, kd, pt, wt, mr), (ks, kp), (tb, tn), (wd, sz, nm), updN tl 0 (tl 0 + 1)) ((mn, yr, gr, kd, pt, wt, mr), (ks, kp), (tb, tn), (wd, sz, nm), tl) (la, ((kmn, kyr, kgr, kkd, kpt, kwt, kmr), kla), ((tmn, tyr, tgr, tkd, tpt, twt, tmr), tla), (pl, tk, sr, vl)) (la, ((kmn, kyr, kgr, kkd, kpt, kwt, kmr), kla), ((tmn, tyr, tgr, tkd, tpt, twt, tmr), tla), (pl, tk, sr, vl)))
  · refine g_aload_n (pc := 8) C dX3_set_8 rfl ?_
    refine g_iconst (pc := 9) (v := nI 0) C dX3_set_9 (by decide) ?_
    refine g_bxi (pc := 10) (cs := [spO g ao ap ak at' au ae ay kp, arr7 g ay tl]) (ds := [spO g ao ap ak at' au ae ay kp, arr7 g ay (updN tl 0 (tl 0 + 1))]) (bs2 := [spO g ao ap ak at' au ae ay kp, potV g ap gr la kd pt wt mr (sumN gr 12) yr mn, potV g ak kgr kla kkd kpt kwt kmr (sumN kgr 12) kyr kmn, potV g at' tgr tla tkd tpt twt tmr (sumN tgr 12) tyr tmn, tpV g au (tbB tb) tn pl tk sr vl, shA g ae a0 a1 a2 a3, shV g a0 (nm 0) (wd 0) (sz 0), shV g a1 (nm 1) (wd 1) (sz 1), shV g a2 (nm 2) (wd 2) (sz 2), shV g a3 (nm 3) (wd 3) (sz 3), arr7 g ay (updN tl 0 (tl 0 + 1))]) C dX3_set_10 ml_X3_47 mf_X3_finding (c_finding g ao ap ak at' au ae ay kp tl 0 (by decide)) ⟨rfl, rfl, (Nat.le_of_ble_eq_true rfl), (Nat.le_of_ble_eq_true rfl)⟩ rfl rfl (Nat.le_of_ble_eq_true rfl) rfl rfl 0 rfl rfl rfl [0, 10] rfl rfl rfl rfl ?_
    have hf : f_set ((mn, yr, gr, kd, pt, wt, mr), (ks, kp), (tb, tn), (wd, sz, nm), tl) c w v = ((fd 0), ((mn, yr, gr, kd, pt, wt, mr), (ks, kp), (tb, tn), (wd, sz, nm), updN tl 0 (tl 0 + 1))) := by simp [f_set, fnd, c1]
    exact g_iret C Rr dX3_set_13 ⟨(la, ((kmn, kyr, kgr, kkd, kpt, kwt, kmr), kla), ((tmn, tyr, tgr, tkd, tpt, twt, tmr), tla), (pl, tk, sr, vl)), by rw [hf]; exact (fun h => hJ h), by rw [hf], by rw [hf]; rfl⟩ (spX_ad g (ao, ap, ak, at', au, ae, a0, a1, a2, a3, ay) ((mn, yr, gr, kd, pt, wt, mr), (ks, kp), (tb, tn), (wd, sz, nm), updN tl 0 (tl 0 + 1)) ((mn, yr, gr, kd, pt, wt, mr), (ks, kp), (tb, tn), (wd, sz, nm), tl) (la, ((kmn, kyr, kgr, kkd, kpt, kwt, kmr), kla), ((tmn, tyr, tgr, tkd, tpt, twt, tmr), tla), (pl, tk, sr, vl)) (la, ((kmn, kyr, kgr, kkd, kpt, kwt, kmr), kla), ((tmn, tyr, tgr, tkd, tpt, twt, tmr), tla), (pl, tk, sr, vl)))
set_option maxHeartbeats 400000 in
set_option maxRecDepth 100000 in
theorem x_now (g : Gl) (A : Ac) (X : Xs) (J : Jc) (w : Int32) (hX : InvX X) (hJ : OkJ X J) : Ct g yX3_now cX3_now 2 (some .int) (rk 2 41) [.ref (A.1 0), .int w] (spX g A X J) (fun r w2 => ∃ J2, OkJ (f_now X w).2 J2 ∧ r = some (.int (f_now X w).1) ∧ w2 = spX g A (f_now X w).2 J2) := by
  obtain ⟨ao, ap, ak, at', au, ae, a0, a1, a2, a3, ay⟩ := A
  obtain ⟨⟨mn, yr, gr, kd, pt, wt, mr⟩, ⟨ks, kp⟩, ⟨tb, tn⟩, ⟨wd, sz, nm⟩, tl⟩ := X
  obtain ⟨la, ⟨⟨kmn, kyr, kgr, kkd, kpt, kwt, kmr⟩, kla⟩, ⟨⟨tmn, tyr, tgr, tkd, tpt, twt, tmr⟩, tla⟩, ⟨pl, tk, sr, vl⟩⟩ := J
  obtain ⟨hB, hy, hkp, htb, htn, hwd, hsz⟩ := id hX
  obtain ⟨-, hTle, hgr, hkd, hpt, hwt, hmr, hyr, hmn⟩ := id hB
  refine ct_of (by decide) (Nat.le_of_ble_eq_true rfl) ?_
  intro φ C0 Rr
  have C : Cx φ g cX3_now 2 RX3 (rk 2 41) := C0
  show Go φ g 2 0 [(0, .ref (ao 0)), (1, .int w)] [] (fl [spO g ao ap ak at' au ae ay kp, potV g ap gr la kd pt wt mr (sumN gr 12) yr mn, potV g ak kgr kla kkd kpt kwt kmr (sumN kgr 12) kyr kmn, potV g at' tgr tla tkd tpt twt tmr (sumN tgr 12) tyr tmn, tpV g au (tbB tb) tn pl tk sr vl, shA g ae a0 a1 a2 a3, shV g a0 (nm 0) (wd 0) (sz 0), shV g a1 (nm 1) (wd 1) (sz 1), shV g a2 (nm 2) (wd 2) (sz 2), shV g a3 (nm 3) (wd 3) (sz 3), arr7 g ay tl])
  refine g_iload_n (pc := 0) C dX3_now_0 rfl ?_
  by_cases c1 : w = nI 0
  · subst c1
    refine g_tableIn (pc := 1) (off := 39) (tgt := 40) C dX3_now_1 (by decide) (by decide) (by decide) (by decide) ?_
    refine g_aload_n (pc := 40) C dX3_now_40 rfl ?_
    refine g_get3 (pc := 41) C dX3_now_41 0 rfl 0 (by decide) fl_X3_10 rfl ?_
    refine g_get0 (pc := 44) C dX3_now_44 1 rfl 7 (by decide) fl_X3_121 rfl ?_
    have hf : f_now ((mn, yr, gr, kd, pt, wt, mr), (ks, kp), (tb, tn), (wd, sz, nm), tl) (nI 0) = ((nI yr), ((mn, yr, gr, kd, pt, wt, mr), (ks, kp), (tb, tn), (wd, sz, nm), tl)) := by simp [f_now, fnd, ix_nI (show 0 < 2 ^ 31 by decide)]
    exact g_iret C Rr dX3_now_47 ⟨(la, ((kmn, kyr, kgr, kkd, kpt, kwt, kmr), kla), ((tmn, tyr, tgr, tkd, tpt, twt, tmr), tla), (pl, tk, sr, vl)), by rw [hf]; exact (fun h => hJ h), by rw [hf], by rw [hf]; rfl⟩ (spX_ad g (ao, ap, ak, at', au, ae, a0, a1, a2, a3, ay) ((mn, yr, gr, kd, pt, wt, mr), (ks, kp), (tb, tn), (wd, sz, nm), tl) ((mn, yr, gr, kd, pt, wt, mr), (ks, kp), (tb, tn), (wd, sz, nm), tl) (la, ((kmn, kyr, kgr, kkd, kpt, kwt, kmr), kla), ((tmn, tyr, tgr, tkd, tpt, twt, tmr), tla), (pl, tk, sr, vl)) (la, ((kmn, kyr, kgr, kkd, kpt, kwt, kmr), kla), ((tmn, tyr, tgr, tkd, tpt, twt, tmr), tla), (pl, tk, sr, vl)))
  by_cases c2 : w = nI 1
  · subst c2
    refine g_tableIn (pc := 1) (off := 47) (tgt := 48) C dX3_now_1 (by decide) (by decide) (by decide) (by decide) ?_
    refine g_aload_n (pc := 48) C dX3_now_48 rfl ?_
    refine g_get3 (pc := 49) C dX3_now_49 0 rfl 0 (by decide) fl_X3_10 rfl ?_
    refine g_get0 (pc := 52) C dX3_now_52 1 rfl 6 (by decide) fl_X3_129 rfl ?_
    have hf : f_now ((mn, yr, gr, kd, pt, wt, mr), (ks, kp), (tb, tn), (wd, sz, nm), tl) (nI 1) = ((nI (sumN gr 12)), ((mn, yr, gr, kd, pt, wt, mr), (ks, kp), (tb, tn), (wd, sz, nm), tl)) := by simp [f_now, fnd, c1, ix_nI (show 1 < 2 ^ 31 by decide)]
    exact g_iret C Rr dX3_now_55 ⟨(la, ((kmn, kyr, kgr, kkd, kpt, kwt, kmr), kla), ((tmn, tyr, tgr, tkd, tpt, twt, tmr), tla), (pl, tk, sr, vl)), by rw [hf]; exact (fun h => hJ h), by rw [hf], by rw [hf]; rfl⟩ (spX_ad g (ao, ap, ak, at', au, ae, a0, a1, a2, a3, ay) ((mn, yr, gr, kd, pt, wt, mr), (ks, kp), (tb, tn), (wd, sz, nm), tl) ((mn, yr, gr, kd, pt, wt, mr), (ks, kp), (tb, tn), (wd, sz, nm), tl) (la, ((kmn, kyr, kgr, kkd, kpt, kwt, kmr), kla), ((tmn, tyr, tgr, tkd, tpt, twt, tmr), tla), (pl, tk, sr, vl)) (la, ((kmn, kyr, kgr, kkd, kpt, kwt, kmr), kla), ((tmn, tyr, tgr, tkd, tpt, twt, tmr), tla), (pl, tk, sr, vl)))
  by_cases c3 : w = nI 2
  · subst c3
    refine g_tableIn (pc := 1) (off := 55) (tgt := 56) C dX3_now_1 (by decide) (by decide) (by decide) (by decide) ?_
    refine g_aload_n (pc := 56) C dX3_now_56 rfl ?_
    refine g_get3 (pc := 57) C dX3_now_57 0 rfl 0 (by decide) fl_X3_10 rfl ?_
    refine g_bxi (pc := 60) (cs := [potV g ap gr la kd pt wt mr (sumN gr 12) yr mn]) (ds := [potV g ap gr la kd pt wt mr (sumN gr 12) yr mn]) (bs2 := [spO g ao ap ak at' au ae ay kp, potV g ap gr la kd pt wt mr (sumN gr 12) yr mn, potV g ak kgr kla kkd kpt kwt kmr (sumN kgr 12) kyr kmn, potV g at' tgr tla tkd tpt twt tmr (sumN tgr 12) tyr tmn, tpV g au (tbB tb) tn pl tk sr vl, shA g ae a0 a1 a2 a3, shV g a0 (nm 0) (wd 0) (sz 0), shV g a1 (nm 1) (wd 1) (sz 1), shV g a2 (nm 2) (wd 2) (sz 2), shV g a3 (nm 3) (wd 3) (sz 3), arr7 g ay tl]) C dX3_now_60 ml_X3_132 mf_X0_whoseTurn (c_whoseTurn g ap gr la kd pt wt mr (sumN gr 12) yr mn hB) ⟨rfl, rfl, (Nat.le_of_ble_eq_true rfl), (Nat.le_of_ble_eq_true rfl)⟩ rfl rfl (Nat.le_of_ble_eq_true rfl) (fl1 _) (fl1 _) 0 rfl rfl rfl [1] rfl rfl rfl rfl ?_
    have hf : f_now ((mn, yr, gr, kd, pt, wt, mr), (ks, kp), (tb, tn), (wd, sz, nm), tl) (nI 2) = ((if mn = 0 then (-1) else nI (yr % mn)), ((mn, yr, gr, kd, pt, wt, mr), (ks, kp), (tb, tn), (wd, sz, nm), tl)) := by simp [f_now, fnd, c1, c2, ix_nI (show 2 < 2 ^ 31 by decide)]
    exact g_iret C Rr dX3_now_63 ⟨(la, ((kmn, kyr, kgr, kkd, kpt, kwt, kmr), kla), ((tmn, tyr, tgr, tkd, tpt, twt, tmr), tla), (pl, tk, sr, vl)), by rw [hf]; exact (fun h => hJ h), by rw [hf], by rw [hf]; rfl⟩ (spX_ad g (ao, ap, ak, at', au, ae, a0, a1, a2, a3, ay) ((mn, yr, gr, kd, pt, wt, mr), (ks, kp), (tb, tn), (wd, sz, nm), tl) ((mn, yr, gr, kd, pt, wt, mr), (ks, kp), (tb, tn), (wd, sz, nm), tl) (la, ((kmn, kyr, kgr, kkd, kpt, kwt, kmr), kla), ((tmn, tyr, tgr, tkd, tpt, twt, tmr), tla), (pl, tk, sr, vl)) (la, ((kmn, kyr, kgr, kkd, kpt, kwt, kmr), kla), ((tmn, tyr, tgr, tkd, tpt, twt, tmr), tla), (pl, tk, sr, vl)))
  by_cases c4 : w = nI 3
  · subst c4
    refine g_tableIn (pc := 1) (off := 63) (tgt := 64) C dX3_now_1 (by decide) (by decide) (by decide) (by decide) ?_
    refine g_aload_n (pc := 64) C dX3_now_64 rfl ?_
    refine g_get3 (pc := 65) C dX3_now_65 0 rfl 0 (by decide) fl_X3_10 rfl ?_
    refine g_bxi (pc := 68) (cs := [potV g ap gr la kd pt wt mr (sumN gr 12) yr mn]) (ds := [potV g ap gr la kd pt wt mr (sumN gr 12) yr mn]) (bs2 := [spO g ao ap ak at' au ae ay kp, potV g ap gr la kd pt wt mr (sumN gr 12) yr mn, potV g ak kgr kla kkd kpt kwt kmr (sumN kgr 12) kyr kmn, potV g at' tgr tla tkd tpt twt tmr (sumN tgr 12) tyr tmn, tpV g au (tbB tb) tn pl tk sr vl, shA g ae a0 a1 a2 a3, shV g a0 (nm 0) (wd 0) (sz 0), shV g a1 (nm 1) (wd 1) (sz 1), shV g a2 (nm 2) (wd 2) (sz 2), shV g a3 (nm 3) (wd 3) (sz 3), arr7 g ay tl]) C dX3_now_68 ml_X3_136 mf_X0_partsThere (c_partsThere g ap gr la kd pt wt mr (sumN gr 12) yr mn hB) ⟨rfl, rfl, (Nat.le_of_ble_eq_true rfl), (Nat.le_of_ble_eq_true rfl)⟩ rfl rfl (Nat.le_of_ble_eq_true rfl) (fl1 _) (fl1 _) 0 rfl rfl rfl [1] rfl rfl rfl rfl ?_
    have hf : f_now ((mn, yr, gr, kd, pt, wt, mr), (ks, kp), (tb, tn), (wd, sz, nm), tl) (nI 3) = ((nI (maskN gr 12)), ((mn, yr, gr, kd, pt, wt, mr), (ks, kp), (tb, tn), (wd, sz, nm), tl)) := by simp [f_now, fnd, c1, c2, c3, ix_nI (show 3 < 2 ^ 31 by decide)]
    exact g_iret C Rr dX3_now_71 ⟨(la, ((kmn, kyr, kgr, kkd, kpt, kwt, kmr), kla), ((tmn, tyr, tgr, tkd, tpt, twt, tmr), tla), (pl, tk, sr, vl)), by rw [hf]; exact (fun h => hJ h), by rw [hf], by rw [hf]; rfl⟩ (spX_ad g (ao, ap, ak, at', au, ae, a0, a1, a2, a3, ay) ((mn, yr, gr, kd, pt, wt, mr), (ks, kp), (tb, tn), (wd, sz, nm), tl) ((mn, yr, gr, kd, pt, wt, mr), (ks, kp), (tb, tn), (wd, sz, nm), tl) (la, ((kmn, kyr, kgr, kkd, kpt, kwt, kmr), kla), ((tmn, tyr, tgr, tkd, tpt, twt, tmr), tla), (pl, tk, sr, vl)) (la, ((kmn, kyr, kgr, kkd, kpt, kwt, kmr), kla), ((tmn, tyr, tgr, tkd, tpt, twt, tmr), tla), (pl, tk, sr, vl)))
  by_cases c5 : w = nI 4
  · subst c5
    refine g_tableIn (pc := 1) (off := 71) (tgt := 72) C dX3_now_1 (by decide) (by decide) (by decide) (by decide) ?_
    refine g_aload_n (pc := 72) C dX3_now_72 rfl ?_
    refine g_get3 (pc := 73) C dX3_now_73 0 rfl 0 (by decide) fl_X3_10 rfl ?_
    refine g_bxi (pc := 76) (cs := [potV g ap gr la kd pt wt mr (sumN gr 12) yr mn]) (ds := [potV g ap gr la kd pt wt mr (sumN gr 12) yr mn]) (bs2 := [spO g ao ap ak at' au ae ay kp, potV g ap gr la kd pt wt mr (sumN gr 12) yr mn, potV g ak kgr kla kkd kpt kwt kmr (sumN kgr 12) kyr kmn, potV g at' tgr tla tkd tpt twt tmr (sumN tgr 12) tyr tmn, tpV g au (tbB tb) tn pl tk sr vl, shA g ae a0 a1 a2 a3, shV g a0 (nm 0) (wd 0) (sz 0), shV g a1 (nm 1) (wd 1) (sz 1), shV g a2 (nm 2) (wd 2) (sz 2), shV g a3 (nm 3) (wd 3) (sz 3), arr7 g ay tl]) C dX3_now_76 ml_X3_139 mf_X0_isVague (c_isVague g ap gr la kd pt wt mr (sumN gr 12) yr mn hB) ⟨rfl, rfl, (Nat.le_of_ble_eq_true rfl), (Nat.le_of_ble_eq_true rfl)⟩ rfl rfl (Nat.le_of_ble_eq_true rfl) (fl1 _) (fl1 _) 0 rfl rfl rfl [1] rfl rfl rfl rfl ?_
    refine g_if_eqB (pc := 79) (tgt := 86) C dX3_now_79 (by decide) (fun c6 => ?_) (fun c6 => ?_)
    · refine g_iconst (pc := 86) (v := nI 0) C dX3_now_86 (by decide) ?_
      have hf : f_now ((mn, yr, gr, kd, pt, wt, mr), (ks, kp), (tb, tn), (wd, sz, nm), tl) (nI 4) = ((nI 0), ((mn, yr, gr, kd, pt, wt, mr), (ks, kp), (tb, tn), (wd, sz, nm), tl)) := by simp [f_now, fnd, c1, c2, c3, c4, c6, ix_nI (show 4 < 2 ^ 31 by decide)]
      exact g_iret C Rr dX3_now_87 ⟨(la, ((kmn, kyr, kgr, kkd, kpt, kwt, kmr), kla), ((tmn, tyr, tgr, tkd, tpt, twt, tmr), tla), (pl, tk, sr, vl)), by rw [hf]; exact (fun h => hJ h), by rw [hf], by rw [hf]; rfl⟩ (spX_ad g (ao, ap, ak, at', au, ae, a0, a1, a2, a3, ay) ((mn, yr, gr, kd, pt, wt, mr), (ks, kp), (tb, tn), (wd, sz, nm), tl) ((mn, yr, gr, kd, pt, wt, mr), (ks, kp), (tb, tn), (wd, sz, nm), tl) (la, ((kmn, kyr, kgr, kkd, kpt, kwt, kmr), kla), ((tmn, tyr, tgr, tkd, tpt, twt, tmr), tla), (pl, tk, sr, vl)) (la, ((kmn, kyr, kgr, kkd, kpt, kwt, kmr), kla), ((tmn, tyr, tgr, tkd, tpt, twt, tmr), tla), (pl, tk, sr, vl)))
    · refine g_iconst (pc := 82) (v := nI 1) C dX3_now_82 (by decide) ?_
      refine g_goto (pc := 83) (tgt := 87) C dX3_now_83 (by decide) ?_
      have hf : f_now ((mn, yr, gr, kd, pt, wt, mr), (ks, kp), (tb, tn), (wd, sz, nm), tl) (nI 4) = ((nI 1), ((mn, yr, gr, kd, pt, wt, mr), (ks, kp), (tb, tn), (wd, sz, nm), tl)) := by simp [f_now, fnd, c1, c2, c3, c4, c6, ix_nI (show 4 < 2 ^ 31 by decide)]
      exact g_iret C Rr dX3_now_87 ⟨(la, ((kmn, kyr, kgr, kkd, kpt, kwt, kmr), kla), ((tmn, tyr, tgr, tkd, tpt, twt, tmr), tla), (pl, tk, sr, vl)), by rw [hf]; exact (fun h => hJ h), by rw [hf], by rw [hf]; rfl⟩ (spX_ad g (ao, ap, ak, at', au, ae, a0, a1, a2, a3, ay) ((mn, yr, gr, kd, pt, wt, mr), (ks, kp), (tb, tn), (wd, sz, nm), tl) ((mn, yr, gr, kd, pt, wt, mr), (ks, kp), (tb, tn), (wd, sz, nm), tl) (la, ((kmn, kyr, kgr, kkd, kpt, kwt, kmr), kla), ((tmn, tyr, tgr, tkd, tpt, twt, tmr), tla), (pl, tk, sr, vl)) (la, ((kmn, kyr, kgr, kkd, kpt, kwt, kmr), kla), ((tmn, tyr, tgr, tkd, tpt, twt, tmr), tla), (pl, tk, sr, vl)))
  by_cases c7 : w = nI 5
  · subst c7
    refine g_tableIn (pc := 1) (off := 87) (tgt := 88) C dX3_now_1 (by decide) (by decide) (by decide) (by decide) ?_
    refine g_aload_n (pc := 88) C dX3_now_88 rfl ?_
    refine g_get3 (pc := 89) C dX3_now_89 0 rfl 0 (by decide) fl_X3_10 rfl ?_
    refine g_bxi (pc := 92) (cs := [potV g ap gr la kd pt wt mr (sumN gr 12) yr mn]) (ds := [potV g ap gr la kd pt wt mr (sumN gr 12) yr mn]) (bs2 := [spO g ao ap ak at' au ae ay kp, potV g ap gr la kd pt wt mr (sumN gr 12) yr mn, potV g ak kgr kla kkd kpt kwt kmr (sumN kgr 12) kyr kmn, potV g at' tgr tla tkd tpt twt tmr (sumN tgr 12) tyr tmn, tpV g au (tbB tb) tn pl tk sr vl, shA g ae a0 a1 a2 a3, shV g a0 (nm 0) (wd 0) (sz 0), shV g a1 (nm 1) (wd 1) (sz 1), shV g a2 (nm 2) (wd 2) (sz 2), shV g a3 (nm 3) (wd 3) (sz 3), arr7 g ay tl]) C dX3_now_92 ml_X3_142 mf_X0_fullestPart (c_fullestPart g ap gr la kd pt wt mr (sumN gr 12) yr mn hB) ⟨rfl, rfl, (Nat.le_of_ble_eq_true rfl), (Nat.le_of_ble_eq_true rfl)⟩ rfl rfl (Nat.le_of_ble_eq_true rfl) (fl1 _) (fl1 _) 0 rfl rfl rfl [1] rfl rfl rfl rfl ?_
    have hf : f_now ((mn, yr, gr, kd, pt, wt, mr), (ks, kp), (tb, tn), (wd, sz, nm), tl) (nI 5) = ((nI (mostN gr 12)), ((mn, yr, gr, kd, pt, wt, mr), (ks, kp), (tb, tn), (wd, sz, nm), tl)) := by simp [f_now, fnd, c1, c2, c3, c4, c5, ix_nI (show 5 < 2 ^ 31 by decide)]
    exact g_iret C Rr dX3_now_95 ⟨(la, ((kmn, kyr, kgr, kkd, kpt, kwt, kmr), kla), ((tmn, tyr, tgr, tkd, tpt, twt, tmr), tla), (pl, tk, sr, vl)), by rw [hf]; exact (fun h => hJ h), by rw [hf], by rw [hf]; rfl⟩ (spX_ad g (ao, ap, ak, at', au, ae, a0, a1, a2, a3, ay) ((mn, yr, gr, kd, pt, wt, mr), (ks, kp), (tb, tn), (wd, sz, nm), tl) ((mn, yr, gr, kd, pt, wt, mr), (ks, kp), (tb, tn), (wd, sz, nm), tl) (la, ((kmn, kyr, kgr, kkd, kpt, kwt, kmr), kla), ((tmn, tyr, tgr, tkd, tpt, twt, tmr), tla), (pl, tk, sr, vl)) (la, ((kmn, kyr, kgr, kkd, kpt, kwt, kmr), kla), ((tmn, tyr, tgr, tkd, tpt, twt, tmr), tla), (pl, tk, sr, vl)))
  refine g_tableOut (pc := 1) (tgt := 96) C dX3_now_1 (by have := sw_ne c1 (by decide); have := sw_ne c2 (by decide); have := sw_ne c3 (by decide); have := sw_ne c4 (by decide); have := sw_ne c5 (by decide); have := sw_ne c7 (by decide); omega) (by decide) ?_
  refine g_aload_n (pc := 96) C dX3_now_96 rfl ?_
  refine g_iconst (pc := 97) (v := nI 0) C dX3_now_97 (by decide) ?_
  refine g_bxi (pc := 98) (cs := [spO g ao ap ak at' au ae ay kp, arr7 g ay tl]) (ds := [spO g ao ap ak at' au ae ay kp, arr7 g ay (updN tl 0 (tl 0 + 1))]) (bs2 := [spO g ao ap ak at' au ae ay kp, potV g ap gr la kd pt wt mr (sumN gr 12) yr mn, potV g ak kgr kla kkd kpt kwt kmr (sumN kgr 12) kyr kmn, potV g at' tgr tla tkd tpt twt tmr (sumN tgr 12) tyr tmn, tpV g au (tbB tb) tn pl tk sr vl, shA g ae a0 a1 a2 a3, shV g a0 (nm 0) (wd 0) (sz 0), shV g a1 (nm 1) (wd 1) (sz 1), shV g a2 (nm 2) (wd 2) (sz 2), shV g a3 (nm 3) (wd 3) (sz 3), arr7 g ay (updN tl 0 (tl 0 + 1))]) C dX3_now_98 ml_X3_47 mf_X3_finding (c_finding g ao ap ak at' au ae ay kp tl 0 (by decide)) ⟨rfl, rfl, (Nat.le_of_ble_eq_true rfl), (Nat.le_of_ble_eq_true rfl)⟩ rfl rfl (Nat.le_of_ble_eq_true rfl) rfl rfl 0 rfl rfl rfl [0, 10] rfl rfl rfl rfl ?_
  have hf : f_now ((mn, yr, gr, kd, pt, wt, mr), (ks, kp), (tb, tn), (wd, sz, nm), tl) w = ((fd 0), ((mn, yr, gr, kd, pt, wt, mr), (ks, kp), (tb, tn), (wd, sz, nm), updN tl 0 (tl 0 + 1))) := by simp [f_now, fnd, c1, c2, c3, c4, c5, c7]
  exact g_iret C Rr dX3_now_101 ⟨(la, ((kmn, kyr, kgr, kkd, kpt, kwt, kmr), kla), ((tmn, tyr, tgr, tkd, tpt, twt, tmr), tla), (pl, tk, sr, vl)), by rw [hf]; exact (fun h => hJ h), by rw [hf], by rw [hf]; rfl⟩ (spX_ad g (ao, ap, ak, at', au, ae, a0, a1, a2, a3, ay) ((mn, yr, gr, kd, pt, wt, mr), (ks, kp), (tb, tn), (wd, sz, nm), updN tl 0 (tl 0 + 1)) ((mn, yr, gr, kd, pt, wt, mr), (ks, kp), (tb, tn), (wd, sz, nm), tl) (la, ((kmn, kyr, kgr, kkd, kpt, kwt, kmr), kla), ((tmn, tyr, tgr, tkd, tpt, twt, tmr), tla), (pl, tk, sr, vl)) (la, ((kmn, kyr, kgr, kkd, kpt, kwt, kmr), kla), ((tmn, tyr, tgr, tkd, tpt, twt, tmr), tla), (pl, tk, sr, vl)))
set_option maxHeartbeats 400000 in
set_option maxRecDepth 100000 in
theorem x_vague (g : Gl) (A : Ac) (X : Xs) (J : Jc) (hX : InvX X) (hJ : OkJ X J) : Ct g yX3_vague cX3_vague 2 (some .int) (rk 5 108) [.ref (A.1 0)] (spX g A X J) (fun r w2 => ∃ J2, OkJ (f_vague X).2 J2 ∧ r = some (.int (f_vague X).1) ∧ w2 = spX g A (f_vague X).2 J2) := by
  obtain ⟨ao, ap, ak, at', au, ae, a0, a1, a2, a3, ay⟩ := A
  obtain ⟨⟨mn, yr, gr, kd, pt, wt, mr⟩, ⟨ks, kp⟩, ⟨tb, tn⟩, ⟨wd, sz, nm⟩, tl⟩ := X
  obtain ⟨la, ⟨⟨kmn, kyr, kgr, kkd, kpt, kwt, kmr⟩, kla⟩, ⟨⟨tmn, tyr, tgr, tkd, tpt, twt, tmr⟩, tla⟩, ⟨pl, tk, sr, vl⟩⟩ := J
  obtain ⟨hB, hy, hkp, htb, htn, hwd, hsz⟩ := id hX
  obtain ⟨-, hTle, hgr, hkd, hpt, hwt, hmr, hyr, hmn⟩ := id hB
  refine ct_of (by decide) (Nat.le_of_ble_eq_true rfl) ?_
  intro φ C0 Rr
  have C : Cx φ g cX3_vague 2 RX3 (rk 5 108) := C0
  show Go φ g 2 0 [(0, .ref (ao 0))] [] (fl [spO g ao ap ak at' au ae ay kp, potV g ap gr la kd pt wt mr (sumN gr 12) yr mn, potV g ak kgr kla kkd kpt kwt kmr (sumN kgr 12) kyr kmn, potV g at' tgr tla tkd tpt twt tmr (sumN tgr 12) tyr tmn, tpV g au (tbB tb) tn pl tk sr vl, shA g ae a0 a1 a2 a3, shV g a0 (nm 0) (wd 0) (sz 0), shV g a1 (nm 1) (wd 1) (sz 1), shV g a2 (nm 2) (wd 2) (sz 2), shV g a3 (nm 3) (wd 3) (sz 3), arr7 g ay tl])
  refine g_aload_n (pc := 0) C dX3_vague_0 rfl ?_
  refine g_bxn (pc := 1) (cs := [spO g ao ap ak at' au ae ay kp, potV g ap gr la kd pt wt mr (sumN gr 12) yr mn, potV g at' tgr tla tkd tpt twt tmr (sumN tgr 12) tyr tmn]) (ds := [spO g ao ap ak at' au ae ay kp, potV g ap gr la kd pt wt mr (sumN gr 12) yr mn, potV g at' gr tla kd pt wt mr (sumN gr 12) yr mn]) (bs2 := [spO g ao ap ak at' au ae ay kp, potV g ap gr la kd pt wt mr (sumN gr 12) yr mn, potV g ak kgr kla kkd kpt kwt kmr (sumN kgr 12) kyr kmn, potV g at' gr tla kd pt wt mr (sumN gr 12) yr mn, tpV g au (tbB tb) tn pl tk sr vl, shA g ae a0 a1 a2 a3, shV g a0 (nm 0) (wd 0) (sz 0), shV g a1 (nm 1) (wd 1) (sz 1), shV g a2 (nm 2) (wd 2) (sz 2), shV g a3 (nm 3) (wd 3) (sz 3), arr7 g ay tl]) C dX3_vague_1 ml_X3_145 mf_X3_startTrial (c_startTrial g ao ap ak at' au ae ay kp gr la kd pt wt mr yr mn tgr tla tkd tpt twt tmr tyr tmn) ⟨rfl, rfl, (Nat.le_of_ble_eq_true rfl), (Nat.le_of_ble_eq_true rfl)⟩ rfl rfl (Nat.le_of_ble_eq_true rfl) rfl rfl 0 rfl rfl rfl [0, 1, 3] rfl rfl rfl rfl ?_
  refine g_iconst (pc := 4) (v := nI 0) C dX3_vague_4 (by decide) ?_
  refine g_istore_n (pc := 5) (lv2 := [(0, .ref (ao 0)), (1, .int (nI 0))]) C dX3_vague_5 rfl (Nat.le_of_ble_eq_true rfl) rfl ?_
  refine g_loop2 (n := 201) (fun i G f => G = yearsG kd pt wt mr mn gr yr i ∧ ∀ j, j < i → ¬ soN (yearsG kd pt wt mr mn gr yr j) 0 0 0) (fun i G f => [(0, .ref (ao 0)), (1, .int (nI i))]) (fun i G f => (fl [spO g ao ap ak at' au ae ay kp, potV g ap gr la kd pt wt mr (sumN gr 12) yr mn, potV g ak kgr kla kkd kpt kwt kmr (sumN kgr 12) kyr kmn, potV g at' G f kd pt wt mr (sumN G 12) (yr + i) mn, tpV g au (tbB tb) tn pl tk sr vl, shA g ae a0 a1 a2 a3, shV g a0 (nm 0) (wd 0) (sz 0), shV g a1 (nm 1) (wd 1) (sz 1), shV g a2 (nm 2) (wd 2) (sz 2), shV g a3 (nm 3) (wd 3) (sz 3), arr7 g ay tl])) ?_ 0 gr tla (by omega) ⟨rfl, fun j hj => absurd hj (Nat.not_lt_zero j)⟩
  intro i G f hi_i hv_i ih_i
  show Go φ g 2 6 [(0, .ref (ao 0)), (1, .int (nI i))] [] (fl [spO g ao ap ak at' au ae ay kp, potV g ap gr la kd pt wt mr (sumN gr 12) yr mn, potV g ak kgr kla kkd kpt kwt kmr (sumN kgr 12) kyr kmn, potV g at' G f kd pt wt mr (sumN G 12) (yr + i) mn, tpV g au (tbB tb) tn pl tk sr vl, shA g ae a0 a1 a2 a3, shV g a0 (nm 0) (wd 0) (sz 0), shV g a1 (nm 1) (wd 1) (sz 1), shV g a2 (nm 2) (wd 2) (sz 2), shV g a3 (nm 3) (wd 3) (sz 3), arr7 g ay tl])
  have hv_i : G = yearsG kd pt wt mr mn gr yr i ∧ ∀ j, j < i → ¬ soN (yearsG kd pt wt mr mn gr yr j) 0 0 0 := hv_i
  have hBi : PB G kd pt wt mr (sumN G 12) (yr + i) mn := by rw [hv_i.1]; exact PB_yrs hB i (by omega)
  have htp : ∀ q, tasteN G (sumN G 12) q < 2 ^ 31 := fun q => Nat.lt_of_le_of_lt (Nat.div_le_self _ _) (by have := hBi.2.2.1 q; omega)
  refine g_iload_n (pc := 6) C dX3_vague_6 rfl ?_
  refine g_sipush (pc := 7) (v := nI 200) C dX3_vague_7 (by decide) ?_
  refine g_icmp_gtN (pc := 10) (tgt := 39) C dX3_vague_10 (by decide) (by omega) (by omega) (fun c1 => ?_) (fun c1 => ?_)
  · refine g_aload_n (pc := 39) C dX3_vague_39 rfl ?_
    refine g_iconst (pc := 40) (v := nI 3) C dX3_vague_40 (by decide) ?_
    refine g_bxi (pc := 41) (cs := [spO g ao ap ak at' au ae ay kp, arr7 g ay tl]) (ds := [spO g ao ap ak at' au ae ay kp, arr7 g ay (updN tl 3 (tl 3 + 1))]) (bs2 := [spO g ao ap ak at' au ae ay kp, potV g ap gr la kd pt wt mr (sumN gr 12) yr mn, potV g ak kgr kla kkd kpt kwt kmr (sumN kgr 12) kyr kmn, potV g at' G f kd pt wt mr (sumN G 12) (yr + i) mn, tpV g au (tbB tb) tn pl tk sr vl, shA g ae a0 a1 a2 a3, shV g a0 (nm 0) (wd 0) (sz 0), shV g a1 (nm 1) (wd 1) (sz 1), shV g a2 (nm 2) (wd 2) (sz 2), shV g a3 (nm 3) (wd 3) (sz 3), arr7 g ay (updN tl 3 (tl 3 + 1))]) C dX3_vague_41 ml_X3_47 mf_X3_finding (c_finding g ao ap ak at' au ae ay kp tl 3 (by decide)) ⟨rfl, rfl, (Nat.le_of_ble_eq_true rfl), (Nat.le_of_ble_eq_true rfl)⟩ rfl rfl (Nat.le_of_ble_eq_true rfl) rfl rfl 0 rfl rfl rfl [0, 10] rfl rfl rfl rfl ?_
    have hf : f_vague ((mn, yr, gr, kd, pt, wt, mr), (ks, kp), (tb, tn), (wd, sz, nm), tl) = ((fd 3), ((mn, yr, gr, kd, pt, wt, mr), (ks, kp), (tb, tn), (wd, sz, nm), updN tl 3 (tl 3 + 1))) := by simp only [f_vague, f_first]; rw [fsN_none (fun j hj => hv_i.2 j (by omega)), if_neg (by decide)]; rfl
    exact g_iret C Rr dX3_vague_44 ⟨(la, ((kmn, kyr, kgr, kkd, kpt, kwt, kmr), kla), ((mn, (yr + i), G, kd, pt, wt, mr), f), (pl, tk, sr, vl)), by rw [hf]; exact (fun h => hJ h), by rw [hf], by rw [hf]; rfl⟩ (spX_ad g (ao, ap, ak, at', au, ae, a0, a1, a2, a3, ay) ((mn, yr, gr, kd, pt, wt, mr), (ks, kp), (tb, tn), (wd, sz, nm), updN tl 3 (tl 3 + 1)) ((mn, yr, gr, kd, pt, wt, mr), (ks, kp), (tb, tn), (wd, sz, nm), tl) (la, ((kmn, kyr, kgr, kkd, kpt, kwt, kmr), kla), ((mn, (yr + i), G, kd, pt, wt, mr), f), (pl, tk, sr, vl)) (la, ((kmn, kyr, kgr, kkd, kpt, kwt, kmr), kla), ((tmn, tyr, tgr, tkd, tpt, twt, tmr), tla), (pl, tk, sr, vl)))
  · refine g_aload_n (pc := 13) C dX3_vague_13 rfl ?_
    refine g_get3 (pc := 14) C dX3_vague_14 0 rfl 2 (by decide) fl_X3_19 rfl ?_
    refine g_bxi (pc := 17) (cs := [potV g at' G f kd pt wt mr (sumN G 12) (yr + i) mn]) (ds := [potV g at' G f kd pt wt mr (sumN G 12) (yr + i) mn]) (bs2 := [spO g ao ap ak at' au ae ay kp, potV g ap gr la kd pt wt mr (sumN gr 12) yr mn, potV g ak kgr kla kkd kpt kwt kmr (sumN kgr 12) kyr kmn, potV g at' G f kd pt wt mr (sumN G 12) (yr + i) mn, tpV g au (tbB tb) tn pl tk sr vl, shA g ae a0 a1 a2 a3, shV g a0 (nm 0) (wd 0) (sz 0), shV g a1 (nm 1) (wd 1) (sz 1), shV g a2 (nm 2) (wd 2) (sz 2), shV g a3 (nm 3) (wd 3) (sz 3), arr7 g ay tl]) C dX3_vague_17 ml_X3_139 mf_X0_isVague (c_isVague g at' G f kd pt wt mr (sumN G 12) (yr + i) mn hBi) ⟨rfl, rfl, (Nat.le_of_ble_eq_true rfl), (Nat.le_of_ble_eq_true rfl)⟩ rfl rfl (Nat.le_of_ble_eq_true rfl) (fl1 _) (fl1 _) 0 rfl rfl rfl [3] rfl rfl rfl rfl ?_
    refine g_if_eqB (pc := 20) (tgt := 25) C dX3_vague_20 (by decide) (fun c2 => ?_) (fun c2 => ?_)
    · refine g_aload_n (pc := 25) C dX3_vague_25 rfl ?_
      refine g_get3 (pc := 26) C dX3_vague_26 0 rfl 2 (by decide) fl_X3_19 rfl ?_
      refine g_iconst (pc := 29) (v := nI 1) C dX3_vague_29 (by decide) ?_
      refine g_bV (pc := 30) (cs := [potV g at' G f kd pt wt mr (sumN G 12) (yr + i) mn]) (rest := []) C dX3_vague_30 ml_X3_125 mf_X0_goOn (c_goOn g at' G f kd pt wt mr (yr + i) mn 1 hBi (by omega)) ⟨rfl, rfl, (Nat.le_of_ble_eq_true rfl), (Nat.le_of_ble_eq_true rfl)⟩ rfl rfl (Nat.le_of_ble_eq_true rfl) (fl1 _) 0 rfl rfl rfl [3] rfl rfl ?_
      intro r9 w9 h9
      obtain ⟨f_3, rfl, rfl⟩ := h9
      refine ⟨[potV g at' (yearsG kd pt wt mr mn G (yr + i) 1) f_3 kd pt wt mr (sumN (yearsG kd pt wt mr mn G (yr + i) 1) 12) ((yr + i) + 1) mn], (fl1 _), rfl, ?_⟩
      show Go φ g 2 33 [(0, .ref (ao 0)), (1, .int (nI i))] [] (fl [spO g ao ap ak at' au ae ay kp, potV g ap gr la kd pt wt mr (sumN gr 12) yr mn, potV g ak kgr kla kkd kpt kwt kmr (sumN kgr 12) kyr kmn, potV g at' (yearsG kd pt wt mr mn G (yr + i) 1) f_3 kd pt wt mr (sumN (yearsG kd pt wt mr mn G (yr + i) 1) 12) ((yr + i) + 1) mn, tpV g au (tbB tb) tn pl tk sr vl, shA g ae a0 a1 a2 a3, shV g a0 (nm 0) (wd 0) (sz 0), shV g a1 (nm 1) (wd 1) (sz 1), shV g a2 (nm 2) (wd 2) (sz 2), shV g a3 (nm 3) (wd 3) (sz 3), arr7 g ay tl])
      refine g_iinc (pc := 33) (v := (nI (i + 1))) (lv2 := [(0, .ref (ao 0)), (1, .int (nI (i + 1)))]) C dX3_vague_33 rfl (nI_1 _) (Nat.le_of_ble_eq_true rfl) rfl ?_
      refine g_goto (pc := 36) (tgt := 6) C dX3_vague_36 (by decide) ?_
      exact ih_i _ _ (by omega) ⟨by rw [hv_i.1]; rfl, fun j hj => by
        rcases Nat.lt_or_ge j i with q9 | q9
        · exact hv_i.2 j q9
        · rw [show j = i by omega, ← hv_i.1]
          unfold soN
          omega⟩
    · refine g_iload_n (pc := 23) C dX3_vague_23 rfl ?_
      have hf : f_vague ((mn, yr, gr, kd, pt, wt, mr), (ks, kp), (tb, tn), (wd, sz, nm), tl) = ((nI i), ((mn, yr, gr, kd, pt, wt, mr), (ks, kp), (tb, tn), (wd, sz, nm), tl)) := by simp only [f_vague, f_first]; rw [fsN_at hv_i.2 (by rw [← hv_i.1]; exact Or.inl ⟨rfl, c2⟩) (show i < 201 by omega), if_pos (by omega)]
      exact g_iret C Rr dX3_vague_24 ⟨(la, ((kmn, kyr, kgr, kkd, kpt, kwt, kmr), kla), ((mn, (yr + i), G, kd, pt, wt, mr), f), (pl, tk, sr, vl)), by rw [hf]; exact (fun h => hJ h), by rw [hf], by rw [hf]; rfl⟩ (spX_ad g (ao, ap, ak, at', au, ae, a0, a1, a2, a3, ay) ((mn, yr, gr, kd, pt, wt, mr), (ks, kp), (tb, tn), (wd, sz, nm), tl) ((mn, yr, gr, kd, pt, wt, mr), (ks, kp), (tb, tn), (wd, sz, nm), tl) (la, ((kmn, kyr, kgr, kkd, kpt, kwt, kmr), kla), ((mn, (yr + i), G, kd, pt, wt, mr), f), (pl, tk, sr, vl)) (la, ((kmn, kyr, kgr, kkd, kpt, kwt, kmr), kla), ((tmn, tyr, tgr, tkd, tpt, twt, tmr), tla), (pl, tk, sr, vl)))
set_option maxHeartbeats 400000 in
set_option maxRecDepth 100000 in
theorem x_gone (g : Gl) (A : Ac) (X : Xs) (J : Jc) (p : Int32) (v : Int32) (hX : InvX X) (hJ : OkJ X J) : Ct g yX3_gone cX3_gone 4 (some .int) (rk 5 108) [.ref (A.1 0), .int p, .int v] (spX g A X J) (fun r w2 => ∃ J2, OkJ (f_gone X p v).2 J2 ∧ r = some (.int (f_gone X p v).1) ∧ w2 = spX g A (f_gone X p v).2 J2) := by
  obtain ⟨ao, ap, ak, at', au, ae, a0, a1, a2, a3, ay⟩ := A
  obtain ⟨⟨mn, yr, gr, kd, pt, wt, mr⟩, ⟨ks, kp⟩, ⟨tb, tn⟩, ⟨wd, sz, nm⟩, tl⟩ := X
  obtain ⟨la, ⟨⟨kmn, kyr, kgr, kkd, kpt, kwt, kmr⟩, kla⟩, ⟨⟨tmn, tyr, tgr, tkd, tpt, twt, tmr⟩, tla⟩, ⟨pl, tk, sr, vl⟩⟩ := J
  obtain ⟨hB, hy, hkp, htb, htn, hwd, hsz⟩ := id hX
  obtain ⟨-, hTle, hgr, hkd, hpt, hwt, hmr, hyr, hmn⟩ := id hB
  refine ct_of (by decide) (Nat.le_of_ble_eq_true rfl) ?_
  intro φ C0 Rr
  have C : Cx φ g cX3_gone 4 RX3 (rk 5 108) := C0
  show Go φ g 4 0 [(0, .ref (ao 0)), (1, .int p), (2, .int v)] [] (fl [spO g ao ap ak at' au ae ay kp, potV g ap gr la kd pt wt mr (sumN gr 12) yr mn, potV g ak kgr kla kkd kpt kwt kmr (sumN kgr 12) kyr kmn, potV g at' tgr tla tkd tpt twt tmr (sumN tgr 12) tyr tmn, tpV g au (tbB tb) tn pl tk sr vl, shA g ae a0 a1 a2 a3, shV g a0 (nm 0) (wd 0) (sz 0), shV g a1 (nm 1) (wd 1) (sz 1), shV g a2 (nm 2) (wd 2) (sz 2), shV g a3 (nm 3) (wd 3) (sz 3), arr7 g ay tl])
  refine g_iload_n (pc := 0) C dX3_gone_0 rfl ?_
  refine g_s0i (pc := 1) C dX3_gone_1 ml_X3_40 mf_X3_isPart (c_isPart g p) ⟨rfl, rfl, (Nat.le_of_ble_eq_true rfl), (Nat.le_of_ble_eq_true rfl)⟩ rfl rfl (Nat.le_of_ble_eq_true rfl) ?_
  refine g_if_eqB (pc := 4) (tgt := 17) C dX3_gone_4 (by decide) (fun c1 => ?_) (fun c1 => ?_)
  · refine g_aload_n (pc := 17) C dX3_gone_17 rfl ?_
    refine g_iconst (pc := 18) (v := nI 0) C dX3_gone_18 (by decide) ?_
    refine g_bxi (pc := 19) (cs := [spO g ao ap ak at' au ae ay kp, arr7 g ay tl]) (ds := [spO g ao ap ak at' au ae ay kp, arr7 g ay (updN tl 0 (tl 0 + 1))]) (bs2 := [spO g ao ap ak at' au ae ay kp, potV g ap gr la kd pt wt mr (sumN gr 12) yr mn, potV g ak kgr kla kkd kpt kwt kmr (sumN kgr 12) kyr kmn, potV g at' tgr tla tkd tpt twt tmr (sumN tgr 12) tyr tmn, tpV g au (tbB tb) tn pl tk sr vl, shA g ae a0 a1 a2 a3, shV g a0 (nm 0) (wd 0) (sz 0), shV g a1 (nm 1) (wd 1) (sz 1), shV g a2 (nm 2) (wd 2) (sz 2), shV g a3 (nm 3) (wd 3) (sz 3), arr7 g ay (updN tl 0 (tl 0 + 1))]) C dX3_gone_19 ml_X3_47 mf_X3_finding (c_finding g ao ap ak at' au ae ay kp tl 0 (by decide)) ⟨rfl, rfl, (Nat.le_of_ble_eq_true rfl), (Nat.le_of_ble_eq_true rfl)⟩ rfl rfl (Nat.le_of_ble_eq_true rfl) rfl rfl 0 rfl rfl rfl [0, 10] rfl rfl rfl rfl ?_
    have hf : f_gone ((mn, yr, gr, kd, pt, wt, mr), (ks, kp), (tb, tn), (wd, sz, nm), tl) p v = ((fd 0), ((mn, yr, gr, kd, pt, wt, mr), (ks, kp), (tb, tn), (wd, sz, nm), updN tl 0 (tl 0 + 1))) := by simp [f_gone, fnd, c1]
    exact g_iret C Rr dX3_gone_22 ⟨(la, ((kmn, kyr, kgr, kkd, kpt, kwt, kmr), kla), ((tmn, tyr, tgr, tkd, tpt, twt, tmr), tla), (pl, tk, sr, vl)), by rw [hf]; exact (fun h => hJ h), by rw [hf], by rw [hf]; rfl⟩ (spX_ad g (ao, ap, ak, at', au, ae, a0, a1, a2, a3, ay) ((mn, yr, gr, kd, pt, wt, mr), (ks, kp), (tb, tn), (wd, sz, nm), updN tl 0 (tl 0 + 1)) ((mn, yr, gr, kd, pt, wt, mr), (ks, kp), (tb, tn), (wd, sz, nm), tl) (la, ((kmn, kyr, kgr, kkd, kpt, kwt, kmr), kla), ((tmn, tyr, tgr, tkd, tpt, twt, tmr), tla), (pl, tk, sr, vl)) (la, ((kmn, kyr, kgr, kkd, kpt, kwt, kmr), kla), ((tmn, tyr, tgr, tkd, tpt, twt, tmr), tla), (pl, tk, sr, vl)))
  · obtain ⟨p_, hl_p, hu_p, rfl⟩ := inR_nat (lo := 0) (hi := 11) c1
    refine g_iload_n (pc := 7) C dX3_gone_7 rfl ?_
    refine g_iconst (pc := 8) (v := nI 0) C dX3_gone_8 (by decide) ?_
    refine g_ldc (pc := 9) (v2 := nI 99999) C dX3_gone_9 ck_X3_51 (by decide) ?_
    refine g_s0i (pc := 11) C dX3_gone_11 ml_X3_52 mf_X3_isWithin (c_isWithin g v (nI 0) (nI 99999)) ⟨rfl, rfl, (Nat.le_of_ble_eq_true rfl), (Nat.le_of_ble_eq_true rfl)⟩ rfl rfl (Nat.le_of_ble_eq_true rfl) ?_
    refine g_top (y := bI (inR v 0 99999 = true)) (bI_iff (isW_iff (by decide) (by decide))) ?_
    refine g_if_neB (pc := 14) (tgt := 23) C dX3_gone_14 (by decide) (fun c2 => ?_) (fun c2 => ?_)
    · obtain ⟨v_, hl_v, hu_v, rfl⟩ := inR_nat (lo := 0) (hi := 99999) c2
      refine g_aload_n (pc := 23) C dX3_gone_23 rfl ?_
      refine g_bxn (pc := 24) (cs := [spO g ao ap ak at' au ae ay kp, potV g ap gr la kd pt wt mr (sumN gr 12) yr mn, potV g at' tgr tla tkd tpt twt tmr (sumN tgr 12) tyr tmn]) (ds := [spO g ao ap ak at' au ae ay kp, potV g ap gr la kd pt wt mr (sumN gr 12) yr mn, potV g at' gr tla kd pt wt mr (sumN gr 12) yr mn]) (bs2 := [spO g ao ap ak at' au ae ay kp, potV g ap gr la kd pt wt mr (sumN gr 12) yr mn, potV g ak kgr kla kkd kpt kwt kmr (sumN kgr 12) kyr kmn, potV g at' gr tla kd pt wt mr (sumN gr 12) yr mn, tpV g au (tbB tb) tn pl tk sr vl, shA g ae a0 a1 a2 a3, shV g a0 (nm 0) (wd 0) (sz 0), shV g a1 (nm 1) (wd 1) (sz 1), shV g a2 (nm 2) (wd 2) (sz 2), shV g a3 (nm 3) (wd 3) (sz 3), arr7 g ay tl]) C dX3_gone_24 ml_X3_145 mf_X3_startTrial (c_startTrial g ao ap ak at' au ae ay kp gr la kd pt wt mr yr mn tgr tla tkd tpt twt tmr tyr tmn) ⟨rfl, rfl, (Nat.le_of_ble_eq_true rfl), (Nat.le_of_ble_eq_true rfl)⟩ rfl rfl (Nat.le_of_ble_eq_true rfl) rfl rfl 0 rfl rfl rfl [0, 1, 3] rfl rfl rfl rfl ?_
      refine g_iconst (pc := 27) (v := nI 0) C dX3_gone_27 (by decide) ?_
      refine g_istore_n (pc := 28) (lv2 := [(0, .ref (ao 0)), (1, .int (nI p_)), (2, .int (nI v_)), (3, .int (nI 0))]) C dX3_gone_28 rfl (Nat.le_of_ble_eq_true rfl) rfl ?_
      refine g_loop2 (n := 201) (fun i G f => G = yearsG kd pt wt mr mn gr yr i ∧ ∀ j, j < i → ¬ soN (yearsG kd pt wt mr mn gr yr j) 1 p_ v_) (fun i G f => [(0, .ref (ao 0)), (1, .int (nI p_)), (2, .int (nI v_)), (3, .int (nI i))]) (fun i G f => (fl [spO g ao ap ak at' au ae ay kp, potV g ap gr la kd pt wt mr (sumN gr 12) yr mn, potV g ak kgr kla kkd kpt kwt kmr (sumN kgr 12) kyr kmn, potV g at' G f kd pt wt mr (sumN G 12) (yr + i) mn, tpV g au (tbB tb) tn pl tk sr vl, shA g ae a0 a1 a2 a3, shV g a0 (nm 0) (wd 0) (sz 0), shV g a1 (nm 1) (wd 1) (sz 1), shV g a2 (nm 2) (wd 2) (sz 2), shV g a3 (nm 3) (wd 3) (sz 3), arr7 g ay tl])) ?_ 0 gr tla (by omega) ⟨rfl, fun j hj => absurd hj (Nat.not_lt_zero j)⟩
      intro i G f hi_i hv_i ih_i
      show Go φ g 4 29 [(0, .ref (ao 0)), (1, .int (nI p_)), (2, .int (nI v_)), (3, .int (nI i))] [] (fl [spO g ao ap ak at' au ae ay kp, potV g ap gr la kd pt wt mr (sumN gr 12) yr mn, potV g ak kgr kla kkd kpt kwt kmr (sumN kgr 12) kyr kmn, potV g at' G f kd pt wt mr (sumN G 12) (yr + i) mn, tpV g au (tbB tb) tn pl tk sr vl, shA g ae a0 a1 a2 a3, shV g a0 (nm 0) (wd 0) (sz 0), shV g a1 (nm 1) (wd 1) (sz 1), shV g a2 (nm 2) (wd 2) (sz 2), shV g a3 (nm 3) (wd 3) (sz 3), arr7 g ay tl])
      have hv_i : G = yearsG kd pt wt mr mn gr yr i ∧ ∀ j, j < i → ¬ soN (yearsG kd pt wt mr mn gr yr j) 1 p_ v_ := hv_i
      have hBi : PB G kd pt wt mr (sumN G 12) (yr + i) mn := by rw [hv_i.1]; exact PB_yrs hB i (by omega)
      have htp : ∀ q, tasteN G (sumN G 12) q < 2 ^ 31 := fun q => Nat.lt_of_le_of_lt (Nat.div_le_self _ _) (by have := hBi.2.2.1 q; omega)
      have htp1 := htp p_
      refine g_iload_n (pc := 29) C dX3_gone_29 rfl ?_
      refine g_sipush (pc := 30) (v := nI 200) C dX3_gone_30 (by decide) ?_
      refine g_icmp_gtN (pc := 33) (tgt := 65) C dX3_gone_33 (by decide) (by omega) (by omega) (fun c3 => ?_) (fun c3 => ?_)
      · refine g_aload_n (pc := 65) C dX3_gone_65 rfl ?_
        refine g_iconst (pc := 66) (v := nI 3) C dX3_gone_66 (by decide) ?_
        refine g_bxi (pc := 67) (cs := [spO g ao ap ak at' au ae ay kp, arr7 g ay tl]) (ds := [spO g ao ap ak at' au ae ay kp, arr7 g ay (updN tl 3 (tl 3 + 1))]) (bs2 := [spO g ao ap ak at' au ae ay kp, potV g ap gr la kd pt wt mr (sumN gr 12) yr mn, potV g ak kgr kla kkd kpt kwt kmr (sumN kgr 12) kyr kmn, potV g at' G f kd pt wt mr (sumN G 12) (yr + i) mn, tpV g au (tbB tb) tn pl tk sr vl, shA g ae a0 a1 a2 a3, shV g a0 (nm 0) (wd 0) (sz 0), shV g a1 (nm 1) (wd 1) (sz 1), shV g a2 (nm 2) (wd 2) (sz 2), shV g a3 (nm 3) (wd 3) (sz 3), arr7 g ay (updN tl 3 (tl 3 + 1))]) C dX3_gone_67 ml_X3_47 mf_X3_finding (c_finding g ao ap ak at' au ae ay kp tl 3 (by decide)) ⟨rfl, rfl, (Nat.le_of_ble_eq_true rfl), (Nat.le_of_ble_eq_true rfl)⟩ rfl rfl (Nat.le_of_ble_eq_true rfl) rfl rfl 0 rfl rfl rfl [0, 10] rfl rfl rfl rfl ?_
        have hf : f_gone ((mn, yr, gr, kd, pt, wt, mr), (ks, kp), (tb, tn), (wd, sz, nm), tl) (nI p_) (nI v_) = ((fd 3), ((mn, yr, gr, kd, pt, wt, mr), (ks, kp), (tb, tn), (wd, sz, nm), updN tl 3 (tl 3 + 1))) := by rw [f_gone, c1, c2, ix_nI (show p_ < 2 ^ 31 by omega), ix_nI (show v_ < 2 ^ 31 by omega)]; simp only [f_first, Bool.and_self, if_true]; rw [fsN_none (fun j hj => hv_i.2 j (by omega)), if_neg (by decide)]; rfl
        exact g_iret C Rr dX3_gone_70 ⟨(la, ((kmn, kyr, kgr, kkd, kpt, kwt, kmr), kla), ((mn, (yr + i), G, kd, pt, wt, mr), f), (pl, tk, sr, vl)), by rw [hf]; exact (fun h => hJ h), by rw [hf], by rw [hf]; rfl⟩ (spX_ad g (ao, ap, ak, at', au, ae, a0, a1, a2, a3, ay) ((mn, yr, gr, kd, pt, wt, mr), (ks, kp), (tb, tn), (wd, sz, nm), updN tl 3 (tl 3 + 1)) ((mn, yr, gr, kd, pt, wt, mr), (ks, kp), (tb, tn), (wd, sz, nm), tl) (la, ((kmn, kyr, kgr, kkd, kpt, kwt, kmr), kla), ((mn, (yr + i), G, kd, pt, wt, mr), f), (pl, tk, sr, vl)) (la, ((kmn, kyr, kgr, kkd, kpt, kwt, kmr), kla), ((tmn, tyr, tgr, tkd, tpt, twt, tmr), tla), (pl, tk, sr, vl)))
      · refine g_aload_n (pc := 36) C dX3_gone_36 rfl ?_
        refine g_get3 (pc := 37) C dX3_gone_37 0 rfl 2 (by decide) fl_X3_19 rfl ?_
        refine g_get0 (pc := 40) C dX3_gone_40 15 rfl 0 (by decide) fl_X3_44 rfl ?_
        refine g_iload_n (pc := 43) C dX3_gone_43 rfl ?_
        refine g_ialdM (pc := 44) C dX3_gone_44 16 rfl rfl (by omega) (by decide) ?_
        have b4 := hBi.2.2.1 p_
        refine g_iload_n (pc := 45) C dX3_gone_45 rfl ?_
        refine g_icmp_gtN (pc := 46) (tgt := 51) C dX3_gone_46 (by decide) (by omega) (by omega) (fun c5 => ?_) (fun c5 => ?_)
        · refine g_aload_n (pc := 51) C dX3_gone_51 rfl ?_
          refine g_get3 (pc := 52) C dX3_gone_52 0 rfl 2 (by decide) fl_X3_19 rfl ?_
          refine g_iconst (pc := 55) (v := nI 1) C dX3_gone_55 (by decide) ?_
          refine g_bV (pc := 56) (cs := [potV g at' G f kd pt wt mr (sumN G 12) (yr + i) mn]) (rest := []) C dX3_gone_56 ml_X3_125 mf_X0_goOn (c_goOn g at' G f kd pt wt mr (yr + i) mn 1 hBi (by omega)) ⟨rfl, rfl, (Nat.le_of_ble_eq_true rfl), (Nat.le_of_ble_eq_true rfl)⟩ rfl rfl (Nat.le_of_ble_eq_true rfl) (fl1 _) 0 rfl rfl rfl [3] rfl rfl ?_
          intro r9 w9 h9
          obtain ⟨f_6, rfl, rfl⟩ := h9
          refine ⟨[potV g at' (yearsG kd pt wt mr mn G (yr + i) 1) f_6 kd pt wt mr (sumN (yearsG kd pt wt mr mn G (yr + i) 1) 12) ((yr + i) + 1) mn], (fl1 _), rfl, ?_⟩
          show Go φ g 4 59 [(0, .ref (ao 0)), (1, .int (nI p_)), (2, .int (nI v_)), (3, .int (nI i))] [] (fl [spO g ao ap ak at' au ae ay kp, potV g ap gr la kd pt wt mr (sumN gr 12) yr mn, potV g ak kgr kla kkd kpt kwt kmr (sumN kgr 12) kyr kmn, potV g at' (yearsG kd pt wt mr mn G (yr + i) 1) f_6 kd pt wt mr (sumN (yearsG kd pt wt mr mn G (yr + i) 1) 12) ((yr + i) + 1) mn, tpV g au (tbB tb) tn pl tk sr vl, shA g ae a0 a1 a2 a3, shV g a0 (nm 0) (wd 0) (sz 0), shV g a1 (nm 1) (wd 1) (sz 1), shV g a2 (nm 2) (wd 2) (sz 2), shV g a3 (nm 3) (wd 3) (sz 3), arr7 g ay tl])
          refine g_iinc (pc := 59) (v := (nI (i + 1))) (lv2 := [(0, .ref (ao 0)), (1, .int (nI p_)), (2, .int (nI v_)), (3, .int (nI (i + 1)))]) C dX3_gone_59 rfl (nI_1 _) (Nat.le_of_ble_eq_true rfl) rfl ?_
          refine g_goto (pc := 62) (tgt := 29) C dX3_gone_62 (by decide) ?_
          exact ih_i _ _ (by omega) ⟨by rw [hv_i.1]; rfl, fun j hj => by
            rcases Nat.lt_or_ge j i with q9 | q9
            · exact hv_i.2 j q9
            · rw [show j = i by omega, ← hv_i.1]
              unfold soN
              omega⟩
        · refine g_iload_n (pc := 49) C dX3_gone_49 rfl ?_
          have hf : f_gone ((mn, yr, gr, kd, pt, wt, mr), (ks, kp), (tb, tn), (wd, sz, nm), tl) (nI p_) (nI v_) = ((nI i), ((mn, yr, gr, kd, pt, wt, mr), (ks, kp), (tb, tn), (wd, sz, nm), tl)) := by rw [f_gone, c1, c2, ix_nI (show p_ < 2 ^ 31 by omega), ix_nI (show v_ < 2 ^ 31 by omega)]; simp only [f_first, Bool.and_self, if_true]; rw [fsN_at hv_i.2 (by rw [← hv_i.1]; exact Or.inr (Or.inl ⟨rfl, c5⟩)) (show i < 201 by omega), if_pos (by omega)]
          exact g_iret C Rr dX3_gone_50 ⟨(la, ((kmn, kyr, kgr, kkd, kpt, kwt, kmr), kla), ((mn, (yr + i), G, kd, pt, wt, mr), f), (pl, tk, sr, vl)), by rw [hf]; exact (fun h => hJ h), by rw [hf], by rw [hf]; rfl⟩ (spX_ad g (ao, ap, ak, at', au, ae, a0, a1, a2, a3, ay) ((mn, yr, gr, kd, pt, wt, mr), (ks, kp), (tb, tn), (wd, sz, nm), tl) ((mn, yr, gr, kd, pt, wt, mr), (ks, kp), (tb, tn), (wd, sz, nm), tl) (la, ((kmn, kyr, kgr, kkd, kpt, kwt, kmr), kla), ((mn, (yr + i), G, kd, pt, wt, mr), f), (pl, tk, sr, vl)) (la, ((kmn, kyr, kgr, kkd, kpt, kwt, kmr), kla), ((tmn, tyr, tgr, tkd, tpt, twt, tmr), tla), (pl, tk, sr, vl)))
    · refine g_aload_n (pc := 17) C dX3_gone_17 rfl ?_
      refine g_iconst (pc := 18) (v := nI 0) C dX3_gone_18 (by decide) ?_
      refine g_bxi (pc := 19) (cs := [spO g ao ap ak at' au ae ay kp, arr7 g ay tl]) (ds := [spO g ao ap ak at' au ae ay kp, arr7 g ay (updN tl 0 (tl 0 + 1))]) (bs2 := [spO g ao ap ak at' au ae ay kp, potV g ap gr la kd pt wt mr (sumN gr 12) yr mn, potV g ak kgr kla kkd kpt kwt kmr (sumN kgr 12) kyr kmn, potV g at' tgr tla tkd tpt twt tmr (sumN tgr 12) tyr tmn, tpV g au (tbB tb) tn pl tk sr vl, shA g ae a0 a1 a2 a3, shV g a0 (nm 0) (wd 0) (sz 0), shV g a1 (nm 1) (wd 1) (sz 1), shV g a2 (nm 2) (wd 2) (sz 2), shV g a3 (nm 3) (wd 3) (sz 3), arr7 g ay (updN tl 0 (tl 0 + 1))]) C dX3_gone_19 ml_X3_47 mf_X3_finding (c_finding g ao ap ak at' au ae ay kp tl 0 (by decide)) ⟨rfl, rfl, (Nat.le_of_ble_eq_true rfl), (Nat.le_of_ble_eq_true rfl)⟩ rfl rfl (Nat.le_of_ble_eq_true rfl) rfl rfl 0 rfl rfl rfl [0, 10] rfl rfl rfl rfl ?_
      have hf : f_gone ((mn, yr, gr, kd, pt, wt, mr), (ks, kp), (tb, tn), (wd, sz, nm), tl) (nI p_) v = ((fd 0), ((mn, yr, gr, kd, pt, wt, mr), (ks, kp), (tb, tn), (wd, sz, nm), updN tl 0 (tl 0 + 1))) := by simp [f_gone, fnd, c1, c2, ix_nI (show p_ < 2 ^ 31 by omega)]
      exact g_iret C Rr dX3_gone_22 ⟨(la, ((kmn, kyr, kgr, kkd, kpt, kwt, kmr), kla), ((tmn, tyr, tgr, tkd, tpt, twt, tmr), tla), (pl, tk, sr, vl)), by rw [hf]; exact (fun h => hJ h), by rw [hf], by rw [hf]; rfl⟩ (spX_ad g (ao, ap, ak, at', au, ae, a0, a1, a2, a3, ay) ((mn, yr, gr, kd, pt, wt, mr), (ks, kp), (tb, tn), (wd, sz, nm), updN tl 0 (tl 0 + 1)) ((mn, yr, gr, kd, pt, wt, mr), (ks, kp), (tb, tn), (wd, sz, nm), tl) (la, ((kmn, kyr, kgr, kkd, kpt, kwt, kmr), kla), ((tmn, tyr, tgr, tkd, tpt, twt, tmr), tla), (pl, tk, sr, vl)) (la, ((kmn, kyr, kgr, kkd, kpt, kwt, kmr), kla), ((tmn, tyr, tgr, tkd, tpt, twt, tmr), tla), (pl, tk, sr, vl)))
set_option maxHeartbeats 400000 in
set_option maxRecDepth 100000 in
theorem x_strong (g : Gl) (A : Ac) (X : Xs) (J : Jc) (p : Int32) (v : Int32) (hX : InvX X) (hJ : OkJ X J) : Ct g yX3_strong cX3_strong 4 (some .int) (rk 5 108) [.ref (A.1 0), .int p, .int v] (spX g A X J) (fun r w2 => ∃ J2, OkJ (f_strong X p v).2 J2 ∧ r = some (.int (f_strong X p v).1) ∧ w2 = spX g A (f_strong X p v).2 J2) := by
  obtain ⟨ao, ap, ak, at', au, ae, a0, a1, a2, a3, ay⟩ := A
  obtain ⟨⟨mn, yr, gr, kd, pt, wt, mr⟩, ⟨ks, kp⟩, ⟨tb, tn⟩, ⟨wd, sz, nm⟩, tl⟩ := X
  obtain ⟨la, ⟨⟨kmn, kyr, kgr, kkd, kpt, kwt, kmr⟩, kla⟩, ⟨⟨tmn, tyr, tgr, tkd, tpt, twt, tmr⟩, tla⟩, ⟨pl, tk, sr, vl⟩⟩ := J
  obtain ⟨hB, hy, hkp, htb, htn, hwd, hsz⟩ := id hX
  obtain ⟨-, hTle, hgr, hkd, hpt, hwt, hmr, hyr, hmn⟩ := id hB
  refine ct_of (by decide) (Nat.le_of_ble_eq_true rfl) ?_
  intro φ C0 Rr
  have C : Cx φ g cX3_strong 4 RX3 (rk 5 108) := C0
  show Go φ g 4 0 [(0, .ref (ao 0)), (1, .int p), (2, .int v)] [] (fl [spO g ao ap ak at' au ae ay kp, potV g ap gr la kd pt wt mr (sumN gr 12) yr mn, potV g ak kgr kla kkd kpt kwt kmr (sumN kgr 12) kyr kmn, potV g at' tgr tla tkd tpt twt tmr (sumN tgr 12) tyr tmn, tpV g au (tbB tb) tn pl tk sr vl, shA g ae a0 a1 a2 a3, shV g a0 (nm 0) (wd 0) (sz 0), shV g a1 (nm 1) (wd 1) (sz 1), shV g a2 (nm 2) (wd 2) (sz 2), shV g a3 (nm 3) (wd 3) (sz 3), arr7 g ay tl])
  refine g_iload_n (pc := 0) C dX3_strong_0 rfl ?_
  refine g_s0i (pc := 1) C dX3_strong_1 ml_X3_40 mf_X3_isPart (c_isPart g p) ⟨rfl, rfl, (Nat.le_of_ble_eq_true rfl), (Nat.le_of_ble_eq_true rfl)⟩ rfl rfl (Nat.le_of_ble_eq_true rfl) ?_
  refine g_if_eqB (pc := 4) (tgt := 18) C dX3_strong_4 (by decide) (fun c1 => ?_) (fun c1 => ?_)
  · refine g_aload_n (pc := 18) C dX3_strong_18 rfl ?_
    refine g_iconst (pc := 19) (v := nI 0) C dX3_strong_19 (by decide) ?_
    refine g_bxi (pc := 20) (cs := [spO g ao ap ak at' au ae ay kp, arr7 g ay tl]) (ds := [spO g ao ap ak at' au ae ay kp, arr7 g ay (updN tl 0 (tl 0 + 1))]) (bs2 := [spO g ao ap ak at' au ae ay kp, potV g ap gr la kd pt wt mr (sumN gr 12) yr mn, potV g ak kgr kla kkd kpt kwt kmr (sumN kgr 12) kyr kmn, potV g at' tgr tla tkd tpt twt tmr (sumN tgr 12) tyr tmn, tpV g au (tbB tb) tn pl tk sr vl, shA g ae a0 a1 a2 a3, shV g a0 (nm 0) (wd 0) (sz 0), shV g a1 (nm 1) (wd 1) (sz 1), shV g a2 (nm 2) (wd 2) (sz 2), shV g a3 (nm 3) (wd 3) (sz 3), arr7 g ay (updN tl 0 (tl 0 + 1))]) C dX3_strong_20 ml_X3_47 mf_X3_finding (c_finding g ao ap ak at' au ae ay kp tl 0 (by decide)) ⟨rfl, rfl, (Nat.le_of_ble_eq_true rfl), (Nat.le_of_ble_eq_true rfl)⟩ rfl rfl (Nat.le_of_ble_eq_true rfl) rfl rfl 0 rfl rfl rfl [0, 10] rfl rfl rfl rfl ?_
    have hf : f_strong ((mn, yr, gr, kd, pt, wt, mr), (ks, kp), (tb, tn), (wd, sz, nm), tl) p v = ((fd 0), ((mn, yr, gr, kd, pt, wt, mr), (ks, kp), (tb, tn), (wd, sz, nm), updN tl 0 (tl 0 + 1))) := by simp [f_strong, fnd, c1]
    exact g_iret C Rr dX3_strong_23 ⟨(la, ((kmn, kyr, kgr, kkd, kpt, kwt, kmr), kla), ((tmn, tyr, tgr, tkd, tpt, twt, tmr), tla), (pl, tk, sr, vl)), by rw [hf]; exact (fun h => hJ h), by rw [hf], by rw [hf]; rfl⟩ (spX_ad g (ao, ap, ak, at', au, ae, a0, a1, a2, a3, ay) ((mn, yr, gr, kd, pt, wt, mr), (ks, kp), (tb, tn), (wd, sz, nm), updN tl 0 (tl 0 + 1)) ((mn, yr, gr, kd, pt, wt, mr), (ks, kp), (tb, tn), (wd, sz, nm), tl) (la, ((kmn, kyr, kgr, kkd, kpt, kwt, kmr), kla), ((tmn, tyr, tgr, tkd, tpt, twt, tmr), tla), (pl, tk, sr, vl)) (la, ((kmn, kyr, kgr, kkd, kpt, kwt, kmr), kla), ((tmn, tyr, tgr, tkd, tpt, twt, tmr), tla), (pl, tk, sr, vl)))
  · obtain ⟨p_, hl_p, hu_p, rfl⟩ := inR_nat (lo := 0) (hi := 11) c1
    refine g_iload_n (pc := 7) C dX3_strong_7 rfl ?_
    refine g_iconst (pc := 8) (v := nI 0) C dX3_strong_8 (by decide) ?_
    refine g_sipush (pc := 9) (v := nI 1000) C dX3_strong_9 (by decide) ?_
    refine g_s0i (pc := 12) C dX3_strong_12 ml_X3_52 mf_X3_isWithin (c_isWithin g v (nI 0) (nI 1000)) ⟨rfl, rfl, (Nat.le_of_ble_eq_true rfl), (Nat.le_of_ble_eq_true rfl)⟩ rfl rfl (Nat.le_of_ble_eq_true rfl) ?_
    refine g_top (y := bI (inR v 0 1000 = true)) (bI_iff (isW_iff (by decide) (by decide))) ?_
    refine g_if_neB (pc := 15) (tgt := 24) C dX3_strong_15 (by decide) (fun c2 => ?_) (fun c2 => ?_)
    · obtain ⟨v_, hl_v, hu_v, rfl⟩ := inR_nat (lo := 0) (hi := 1000) c2
      refine g_aload_n (pc := 24) C dX3_strong_24 rfl ?_
      refine g_bxn (pc := 25) (cs := [spO g ao ap ak at' au ae ay kp, potV g ap gr la kd pt wt mr (sumN gr 12) yr mn, potV g at' tgr tla tkd tpt twt tmr (sumN tgr 12) tyr tmn]) (ds := [spO g ao ap ak at' au ae ay kp, potV g ap gr la kd pt wt mr (sumN gr 12) yr mn, potV g at' gr tla kd pt wt mr (sumN gr 12) yr mn]) (bs2 := [spO g ao ap ak at' au ae ay kp, potV g ap gr la kd pt wt mr (sumN gr 12) yr mn, potV g ak kgr kla kkd kpt kwt kmr (sumN kgr 12) kyr kmn, potV g at' gr tla kd pt wt mr (sumN gr 12) yr mn, tpV g au (tbB tb) tn pl tk sr vl, shA g ae a0 a1 a2 a3, shV g a0 (nm 0) (wd 0) (sz 0), shV g a1 (nm 1) (wd 1) (sz 1), shV g a2 (nm 2) (wd 2) (sz 2), shV g a3 (nm 3) (wd 3) (sz 3), arr7 g ay tl]) C dX3_strong_25 ml_X3_145 mf_X3_startTrial (c_startTrial g ao ap ak at' au ae ay kp gr la kd pt wt mr yr mn tgr tla tkd tpt twt tmr tyr tmn) ⟨rfl, rfl, (Nat.le_of_ble_eq_true rfl), (Nat.le_of_ble_eq_true rfl)⟩ rfl rfl (Nat.le_of_ble_eq_true rfl) rfl rfl 0 rfl rfl rfl [0, 1, 3] rfl rfl rfl rfl ?_
      refine g_iconst (pc := 28) (v := nI 0) C dX3_strong_28 (by decide) ?_
      refine g_istore_n (pc := 29) (lv2 := [(0, .ref (ao 0)), (1, .int (nI p_)), (2, .int (nI v_)), (3, .int (nI 0))]) C dX3_strong_29 rfl (Nat.le_of_ble_eq_true rfl) rfl ?_
      refine g_loop2 (n := 201) (fun i G f => G = yearsG kd pt wt mr mn gr yr i ∧ ∀ j, j < i → ¬ soN (yearsG kd pt wt mr mn gr yr j) 2 p_ v_) (fun i G f => [(0, .ref (ao 0)), (1, .int (nI p_)), (2, .int (nI v_)), (3, .int (nI i))]) (fun i G f => (fl [spO g ao ap ak at' au ae ay kp, potV g ap gr la kd pt wt mr (sumN gr 12) yr mn, potV g ak kgr kla kkd kpt kwt kmr (sumN kgr 12) kyr kmn, potV g at' G f kd pt wt mr (sumN G 12) (yr + i) mn, tpV g au (tbB tb) tn pl tk sr vl, shA g ae a0 a1 a2 a3, shV g a0 (nm 0) (wd 0) (sz 0), shV g a1 (nm 1) (wd 1) (sz 1), shV g a2 (nm 2) (wd 2) (sz 2), shV g a3 (nm 3) (wd 3) (sz 3), arr7 g ay tl])) ?_ 0 gr tla (by omega) ⟨rfl, fun j hj => absurd hj (Nat.not_lt_zero j)⟩
      intro i G f hi_i hv_i ih_i
      show Go φ g 4 30 [(0, .ref (ao 0)), (1, .int (nI p_)), (2, .int (nI v_)), (3, .int (nI i))] [] (fl [spO g ao ap ak at' au ae ay kp, potV g ap gr la kd pt wt mr (sumN gr 12) yr mn, potV g ak kgr kla kkd kpt kwt kmr (sumN kgr 12) kyr kmn, potV g at' G f kd pt wt mr (sumN G 12) (yr + i) mn, tpV g au (tbB tb) tn pl tk sr vl, shA g ae a0 a1 a2 a3, shV g a0 (nm 0) (wd 0) (sz 0), shV g a1 (nm 1) (wd 1) (sz 1), shV g a2 (nm 2) (wd 2) (sz 2), shV g a3 (nm 3) (wd 3) (sz 3), arr7 g ay tl])
      have hv_i : G = yearsG kd pt wt mr mn gr yr i ∧ ∀ j, j < i → ¬ soN (yearsG kd pt wt mr mn gr yr j) 2 p_ v_ := hv_i
      have hBi : PB G kd pt wt mr (sumN G 12) (yr + i) mn := by rw [hv_i.1]; exact PB_yrs hB i (by omega)
      have htp : ∀ q, tasteN G (sumN G 12) q < 2 ^ 31 := fun q => Nat.lt_of_le_of_lt (Nat.div_le_self _ _) (by have := hBi.2.2.1 q; omega)
      have htp1 := htp p_
      refine g_iload_n (pc := 30) C dX3_strong_30 rfl ?_
      refine g_sipush (pc := 31) (v := nI 200) C dX3_strong_31 (by decide) ?_
      refine g_icmp_gtN (pc := 34) (tgt := 65) C dX3_strong_34 (by decide) (by omega) (by omega) (fun c3 => ?_) (fun c3 => ?_)
      · refine g_aload_n (pc := 65) C dX3_strong_65 rfl ?_
        refine g_iconst (pc := 66) (v := nI 3) C dX3_strong_66 (by decide) ?_
        refine g_bxi (pc := 67) (cs := [spO g ao ap ak at' au ae ay kp, arr7 g ay tl]) (ds := [spO g ao ap ak at' au ae ay kp, arr7 g ay (updN tl 3 (tl 3 + 1))]) (bs2 := [spO g ao ap ak at' au ae ay kp, potV g ap gr la kd pt wt mr (sumN gr 12) yr mn, potV g ak kgr kla kkd kpt kwt kmr (sumN kgr 12) kyr kmn, potV g at' G f kd pt wt mr (sumN G 12) (yr + i) mn, tpV g au (tbB tb) tn pl tk sr vl, shA g ae a0 a1 a2 a3, shV g a0 (nm 0) (wd 0) (sz 0), shV g a1 (nm 1) (wd 1) (sz 1), shV g a2 (nm 2) (wd 2) (sz 2), shV g a3 (nm 3) (wd 3) (sz 3), arr7 g ay (updN tl 3 (tl 3 + 1))]) C dX3_strong_67 ml_X3_47 mf_X3_finding (c_finding g ao ap ak at' au ae ay kp tl 3 (by decide)) ⟨rfl, rfl, (Nat.le_of_ble_eq_true rfl), (Nat.le_of_ble_eq_true rfl)⟩ rfl rfl (Nat.le_of_ble_eq_true rfl) rfl rfl 0 rfl rfl rfl [0, 10] rfl rfl rfl rfl ?_
        have hf : f_strong ((mn, yr, gr, kd, pt, wt, mr), (ks, kp), (tb, tn), (wd, sz, nm), tl) (nI p_) (nI v_) = ((fd 3), ((mn, yr, gr, kd, pt, wt, mr), (ks, kp), (tb, tn), (wd, sz, nm), updN tl 3 (tl 3 + 1))) := by rw [f_strong, c1, c2, ix_nI (show p_ < 2 ^ 31 by omega), ix_nI (show v_ < 2 ^ 31 by omega)]; simp only [f_first, Bool.and_self, if_true]; rw [fsN_none (fun j hj => hv_i.2 j (by omega)), if_neg (by decide)]; rfl
        exact g_iret C Rr dX3_strong_70 ⟨(la, ((kmn, kyr, kgr, kkd, kpt, kwt, kmr), kla), ((mn, (yr + i), G, kd, pt, wt, mr), f), (pl, tk, sr, vl)), by rw [hf]; exact (fun h => hJ h), by rw [hf], by rw [hf]; rfl⟩ (spX_ad g (ao, ap, ak, at', au, ae, a0, a1, a2, a3, ay) ((mn, yr, gr, kd, pt, wt, mr), (ks, kp), (tb, tn), (wd, sz, nm), updN tl 3 (tl 3 + 1)) ((mn, yr, gr, kd, pt, wt, mr), (ks, kp), (tb, tn), (wd, sz, nm), tl) (la, ((kmn, kyr, kgr, kkd, kpt, kwt, kmr), kla), ((mn, (yr + i), G, kd, pt, wt, mr), f), (pl, tk, sr, vl)) (la, ((kmn, kyr, kgr, kkd, kpt, kwt, kmr), kla), ((tmn, tyr, tgr, tkd, tpt, twt, tmr), tla), (pl, tk, sr, vl)))
      · refine g_aload_n (pc := 37) C dX3_strong_37 rfl ?_
        refine g_get3 (pc := 38) C dX3_strong_38 0 rfl 2 (by decide) fl_X3_19 rfl ?_
        refine g_iload_n (pc := 41) C dX3_strong_41 rfl ?_
        refine g_bxi (pc := 42) (cs := [potV g at' G f kd pt wt mr (sumN G 12) (yr + i) mn]) (ds := [potV g at' G f kd pt wt mr (sumN G 12) (yr + i) mn]) (bs2 := [spO g ao ap ak at' au ae ay kp, potV g ap gr la kd pt wt mr (sumN gr 12) yr mn, potV g ak kgr kla kkd kpt kwt kmr (sumN kgr 12) kyr kmn, potV g at' G f kd pt wt mr (sumN G 12) (yr + i) mn, tpV g au (tbB tb) tn pl tk sr vl, shA g ae a0 a1 a2 a3, shV g a0 (nm 0) (wd 0) (sz 0), shV g a1 (nm 1) (wd 1) (sz 1), shV g a2 (nm 2) (wd 2) (sz 2), shV g a3 (nm 3) (wd 3) (sz 3), arr7 g ay tl]) C dX3_strong_42 ml_X3_64 mf_X0_tasteOf (c_tasteOf g at' G f kd pt wt mr (sumN G 12) (yr + i) mn p_ hBi (by omega)) ⟨rfl, rfl, (Nat.le_of_ble_eq_true rfl), (Nat.le_of_ble_eq_true rfl)⟩ rfl rfl (Nat.le_of_ble_eq_true rfl) (fl1 _) (fl1 _) 0 rfl rfl rfl [3] rfl rfl rfl rfl ?_
        refine g_iload_n (pc := 45) C dX3_strong_45 rfl ?_
        refine g_icmp_ltN (pc := 46) (tgt := 51) C dX3_strong_46 (by decide) (by omega) (by omega) (fun c4 => ?_) (fun c4 => ?_)
        · refine g_aload_n (pc := 51) C dX3_strong_51 rfl ?_
          refine g_get3 (pc := 52) C dX3_strong_52 0 rfl 2 (by decide) fl_X3_19 rfl ?_
          refine g_iconst (pc := 55) (v := nI 1) C dX3_strong_55 (by decide) ?_
          refine g_bV (pc := 56) (cs := [potV g at' G f kd pt wt mr (sumN G 12) (yr + i) mn]) (rest := []) C dX3_strong_56 ml_X3_125 mf_X0_goOn (c_goOn g at' G f kd pt wt mr (yr + i) mn 1 hBi (by omega)) ⟨rfl, rfl, (Nat.le_of_ble_eq_true rfl), (Nat.le_of_ble_eq_true rfl)⟩ rfl rfl (Nat.le_of_ble_eq_true rfl) (fl1 _) 0 rfl rfl rfl [3] rfl rfl ?_
          intro r9 w9 h9
          obtain ⟨f_5, rfl, rfl⟩ := h9
          refine ⟨[potV g at' (yearsG kd pt wt mr mn G (yr + i) 1) f_5 kd pt wt mr (sumN (yearsG kd pt wt mr mn G (yr + i) 1) 12) ((yr + i) + 1) mn], (fl1 _), rfl, ?_⟩
          show Go φ g 4 59 [(0, .ref (ao 0)), (1, .int (nI p_)), (2, .int (nI v_)), (3, .int (nI i))] [] (fl [spO g ao ap ak at' au ae ay kp, potV g ap gr la kd pt wt mr (sumN gr 12) yr mn, potV g ak kgr kla kkd kpt kwt kmr (sumN kgr 12) kyr kmn, potV g at' (yearsG kd pt wt mr mn G (yr + i) 1) f_5 kd pt wt mr (sumN (yearsG kd pt wt mr mn G (yr + i) 1) 12) ((yr + i) + 1) mn, tpV g au (tbB tb) tn pl tk sr vl, shA g ae a0 a1 a2 a3, shV g a0 (nm 0) (wd 0) (sz 0), shV g a1 (nm 1) (wd 1) (sz 1), shV g a2 (nm 2) (wd 2) (sz 2), shV g a3 (nm 3) (wd 3) (sz 3), arr7 g ay tl])
          refine g_iinc (pc := 59) (v := (nI (i + 1))) (lv2 := [(0, .ref (ao 0)), (1, .int (nI p_)), (2, .int (nI v_)), (3, .int (nI (i + 1)))]) C dX3_strong_59 rfl (nI_1 _) (Nat.le_of_ble_eq_true rfl) rfl ?_
          refine g_goto (pc := 62) (tgt := 30) C dX3_strong_62 (by decide) ?_
          exact ih_i _ _ (by omega) ⟨by rw [hv_i.1]; rfl, fun j hj => by
            rcases Nat.lt_or_ge j i with q9 | q9
            · exact hv_i.2 j q9
            · rw [show j = i by omega, ← hv_i.1]
              unfold soN
              omega⟩
        · refine g_iload_n (pc := 49) C dX3_strong_49 rfl ?_
          have hf : f_strong ((mn, yr, gr, kd, pt, wt, mr), (ks, kp), (tb, tn), (wd, sz, nm), tl) (nI p_) (nI v_) = ((nI i), ((mn, yr, gr, kd, pt, wt, mr), (ks, kp), (tb, tn), (wd, sz, nm), tl)) := by rw [f_strong, c1, c2, ix_nI (show p_ < 2 ^ 31 by omega), ix_nI (show v_ < 2 ^ 31 by omega)]; simp only [f_first, Bool.and_self, if_true]; rw [fsN_at hv_i.2 (by rw [← hv_i.1]; exact Or.inr (Or.inr ⟨rfl, c4⟩)) (show i < 201 by omega), if_pos (by omega)]
          exact g_iret C Rr dX3_strong_50 ⟨(la, ((kmn, kyr, kgr, kkd, kpt, kwt, kmr), kla), ((mn, (yr + i), G, kd, pt, wt, mr), f), (pl, tk, sr, vl)), by rw [hf]; exact (fun h => hJ h), by rw [hf], by rw [hf]; rfl⟩ (spX_ad g (ao, ap, ak, at', au, ae, a0, a1, a2, a3, ay) ((mn, yr, gr, kd, pt, wt, mr), (ks, kp), (tb, tn), (wd, sz, nm), tl) ((mn, yr, gr, kd, pt, wt, mr), (ks, kp), (tb, tn), (wd, sz, nm), tl) (la, ((kmn, kyr, kgr, kkd, kpt, kwt, kmr), kla), ((mn, (yr + i), G, kd, pt, wt, mr), f), (pl, tk, sr, vl)) (la, ((kmn, kyr, kgr, kkd, kpt, kwt, kmr), kla), ((tmn, tyr, tgr, tkd, tpt, twt, tmr), tla), (pl, tk, sr, vl)))
    · refine g_aload_n (pc := 18) C dX3_strong_18 rfl ?_
      refine g_iconst (pc := 19) (v := nI 0) C dX3_strong_19 (by decide) ?_
      refine g_bxi (pc := 20) (cs := [spO g ao ap ak at' au ae ay kp, arr7 g ay tl]) (ds := [spO g ao ap ak at' au ae ay kp, arr7 g ay (updN tl 0 (tl 0 + 1))]) (bs2 := [spO g ao ap ak at' au ae ay kp, potV g ap gr la kd pt wt mr (sumN gr 12) yr mn, potV g ak kgr kla kkd kpt kwt kmr (sumN kgr 12) kyr kmn, potV g at' tgr tla tkd tpt twt tmr (sumN tgr 12) tyr tmn, tpV g au (tbB tb) tn pl tk sr vl, shA g ae a0 a1 a2 a3, shV g a0 (nm 0) (wd 0) (sz 0), shV g a1 (nm 1) (wd 1) (sz 1), shV g a2 (nm 2) (wd 2) (sz 2), shV g a3 (nm 3) (wd 3) (sz 3), arr7 g ay (updN tl 0 (tl 0 + 1))]) C dX3_strong_20 ml_X3_47 mf_X3_finding (c_finding g ao ap ak at' au ae ay kp tl 0 (by decide)) ⟨rfl, rfl, (Nat.le_of_ble_eq_true rfl), (Nat.le_of_ble_eq_true rfl)⟩ rfl rfl (Nat.le_of_ble_eq_true rfl) rfl rfl 0 rfl rfl rfl [0, 10] rfl rfl rfl rfl ?_
      have hf : f_strong ((mn, yr, gr, kd, pt, wt, mr), (ks, kp), (tb, tn), (wd, sz, nm), tl) (nI p_) v = ((fd 0), ((mn, yr, gr, kd, pt, wt, mr), (ks, kp), (tb, tn), (wd, sz, nm), updN tl 0 (tl 0 + 1))) := by simp [f_strong, fnd, c1, c2, ix_nI (show p_ < 2 ^ 31 by omega)]
      exact g_iret C Rr dX3_strong_23 ⟨(la, ((kmn, kyr, kgr, kkd, kpt, kwt, kmr), kla), ((tmn, tyr, tgr, tkd, tpt, twt, tmr), tla), (pl, tk, sr, vl)), by rw [hf]; exact (fun h => hJ h), by rw [hf], by rw [hf]; rfl⟩ (spX_ad g (ao, ap, ak, at', au, ae, a0, a1, a2, a3, ay) ((mn, yr, gr, kd, pt, wt, mr), (ks, kp), (tb, tn), (wd, sz, nm), updN tl 0 (tl 0 + 1)) ((mn, yr, gr, kd, pt, wt, mr), (ks, kp), (tb, tn), (wd, sz, nm), tl) (la, ((kmn, kyr, kgr, kkd, kpt, kwt, kmr), kla), ((tmn, tyr, tgr, tkd, tpt, twt, tmr), tla), (pl, tk, sr, vl)) (la, ((kmn, kyr, kgr, kkd, kpt, kwt, kmr), kla), ((tmn, tyr, tgr, tkd, tpt, twt, tmr), tla), (pl, tk, sr, vl)))
set_option maxHeartbeats 400000 in
set_option maxRecDepth 100000 in
theorem x_image (g : Gl) (A : Ac) (X : Xs) (J : Jc) (hX : InvX X) (hJ : OkJ X J) : Ct g yX3_image cX3_image 1 (some .int) (rk 2 81) [.ref (A.1 0)] (spX g A X J) (fun r w2 => ∃ J2, OkJ (f_image X).2 J2 ∧ r = some (.int (f_image X).1) ∧ w2 = spX g A (f_image X).2 J2) := by
  obtain ⟨ao, ap, ak, at', au, ae, a0, a1, a2, a3, ay⟩ := A
  obtain ⟨⟨mn, yr, gr, kd, pt, wt, mr⟩, ⟨ks, kp⟩, ⟨tb, tn⟩, ⟨wd, sz, nm⟩, tl⟩ := X
  obtain ⟨la, ⟨⟨kmn, kyr, kgr, kkd, kpt, kwt, kmr⟩, kla⟩, ⟨⟨tmn, tyr, tgr, tkd, tpt, twt, tmr⟩, tla⟩, ⟨pl, tk, sr, vl⟩⟩ := J
  obtain ⟨hB, hy, hkp, htb, htn, hwd, hsz⟩ := id hX
  obtain ⟨-, hTle, hgr, hkd, hpt, hwt, hmr, hyr, hmn⟩ := id hB
  refine ct_of (by decide) (Nat.le_of_ble_eq_true rfl) ?_
  intro φ C0 Rr
  have C : Cx φ g cX3_image 1 RX3 (rk 2 81) := C0
  show Go φ g 1 0 [(0, .ref (ao 0))] [] (fl [spO g ao ap ak at' au ae ay kp, potV g ap gr la kd pt wt mr (sumN gr 12) yr mn, potV g ak kgr kla kkd kpt kwt kmr (sumN kgr 12) kyr kmn, potV g at' tgr tla tkd tpt twt tmr (sumN tgr 12) tyr tmn, tpV g au (tbB tb) tn pl tk sr vl, shA g ae a0 a1 a2 a3, shV g a0 (nm 0) (wd 0) (sz 0), shV g a1 (nm 1) (wd 1) (sz 1), shV g a2 (nm 2) (wd 2) (sz 2), shV g a3 (nm 3) (wd 3) (sz 3), arr7 g ay tl])
  refine g_aload_n (pc := 0) C dX3_image_0 rfl ?_
  refine g_get3 (pc := 1) C dX3_image_1 0 rfl 1 (by decide) fl_X3_16 rfl ?_
  refine g_aload_n (pc := 4) C dX3_image_4 rfl ?_
  refine g_get3 (pc := 5) C dX3_image_5 0 rfl 0 (by decide) fl_X3_10 rfl ?_
  refine g_bxn (pc := 8) (cs := [potV g ak kgr kla kkd kpt kwt kmr (sumN kgr 12) kyr kmn, potV g ap gr la kd pt wt mr (sumN gr 12) yr mn]) (ds := [potV g ak gr kla kd pt wt mr (sumN gr 12) yr mn, potV g ap gr la kd pt wt mr (sumN gr 12) yr mn]) (bs2 := [spO g ao ap ak at' au ae ay kp, potV g ap gr la kd pt wt mr (sumN gr 12) yr mn, potV g ak gr kla kd pt wt mr (sumN gr 12) yr mn, potV g at' tgr tla tkd tpt twt tmr (sumN tgr 12) tyr tmn, tpV g au (tbB tb) tn pl tk sr vl, shA g ae a0 a1 a2 a3, shV g a0 (nm 0) (wd 0) (sz 0), shV g a1 (nm 1) (wd 1) (sz 1), shV g a2 (nm 2) (wd 2) (sz 2), shV g a3 (nm 3) (wd 3) (sz 3), arr7 g ay tl]) C dX3_image_8 ml_X3_168 mf_X0_become (c_become g ak kgr kla kkd kpt kwt kmr (sumN kgr 12) kyr kmn ap gr la kd pt wt mr (sumN gr 12) yr mn) ⟨rfl, rfl, (Nat.le_of_ble_eq_true rfl), (Nat.le_of_ble_eq_true rfl)⟩ rfl rfl (Nat.le_of_ble_eq_true rfl) rfl rfl 0 rfl rfl rfl [2, 1] rfl rfl rfl rfl ?_
  refine g_aload_n (pc := 11) C dX3_image_11 rfl ?_
  refine g_iconst (pc := 12) (v := nI 1) C dX3_image_12 (by decide) ?_
  refine g_put3 (pc := 13) (ws2 := (fl [spO g ao ap ak at' au ae ay 1, potV g ap gr la kd pt wt mr (sumN gr 12) yr mn, potV g ak gr kla kd pt wt mr (sumN gr 12) yr mn, potV g at' tgr tla tkd tpt twt tmr (sumN tgr 12) tyr tmn, tpV g au (tbB tb) tn pl tk sr vl, shA g ae a0 a1 a2 a3, shV g a0 (nm 0) (wd 0) (sz 0), shV g a1 (nm 1) (wd 1) (sz 1), shV g a2 (nm 2) (wd 2) (sz 2), shV g a3 (nm 3) (wd 3) (sz 3), arr7 g ay tl])) C dX3_image_13 0 rfl 6 (by decide) fl_X3_213 rfl (by first | rfl | decide) rfl (Nat.le_of_ble_eq_true rfl) rfl ?_
  refine g_iconst (pc := 16) (v := nI 1) C dX3_image_16 (by decide) ?_
  have hf : f_image ((mn, yr, gr, kd, pt, wt, mr), (ks, kp), (tb, tn), (wd, sz, nm), tl) = ((nI 1), ((mn, yr, gr, kd, pt, wt, mr), ((mn, yr, gr, kd, pt, wt, mr), 1), (tb, tn), (wd, sz, nm), tl)) := by rfl
  exact g_iret C Rr dX3_image_17 ⟨(la, ((mn, yr, gr, kd, pt, wt, mr), kla), ((tmn, tyr, tgr, tkd, tpt, twt, tmr), tla), (pl, tk, sr, vl)), by rw [hf]; exact (fun _ => rfl), by rw [hf], by rw [hf]; rfl⟩ (spX_ad g (ao, ap, ak, at', au, ae, a0, a1, a2, a3, ay) ((mn, yr, gr, kd, pt, wt, mr), ((mn, yr, gr, kd, pt, wt, mr), 1), (tb, tn), (wd, sz, nm), tl) ((mn, yr, gr, kd, pt, wt, mr), (ks, kp), (tb, tn), (wd, sz, nm), tl) (la, ((mn, yr, gr, kd, pt, wt, mr), kla), ((tmn, tyr, tgr, tkd, tpt, twt, tmr), tla), (pl, tk, sr, vl)) (la, ((kmn, kyr, kgr, kkd, kpt, kwt, kmr), kla), ((tmn, tyr, tgr, tkd, tpt, twt, tmr), tla), (pl, tk, sr, vl)))
set_option maxHeartbeats 400000 in
set_option maxRecDepth 100000 in
theorem x_undo (g : Gl) (A : Ac) (X : Xs) (J : Jc) (hX : InvX X) (hJ : OkJ X J) : Ct g yX3_undo cX3_undo 1 (some .int) (rk 2 81) [.ref (A.1 0)] (spX g A X J) (fun r w2 => ∃ J2, OkJ (f_undo X).2 J2 ∧ r = some (.int (f_undo X).1) ∧ w2 = spX g A (f_undo X).2 J2) := by
  obtain ⟨ao, ap, ak, at', au, ae, a0, a1, a2, a3, ay⟩ := A
  obtain ⟨⟨mn, yr, gr, kd, pt, wt, mr⟩, ⟨ks, kp⟩, ⟨tb, tn⟩, ⟨wd, sz, nm⟩, tl⟩ := X
  obtain ⟨la, ⟨⟨kmn, kyr, kgr, kkd, kpt, kwt, kmr⟩, kla⟩, ⟨⟨tmn, tyr, tgr, tkd, tpt, twt, tmr⟩, tla⟩, ⟨pl, tk, sr, vl⟩⟩ := J
  obtain ⟨hB, hy, hkp, htb, htn, hwd, hsz⟩ := id hX
  obtain ⟨-, hTle, hgr, hkd, hpt, hwt, hmr, hyr, hmn⟩ := id hB
  refine ct_of (by decide) (Nat.le_of_ble_eq_true rfl) ?_
  intro φ C0 Rr
  have C : Cx φ g cX3_undo 1 RX3 (rk 2 81) := C0
  show Go φ g 1 0 [(0, .ref (ao 0))] [] (fl [spO g ao ap ak at' au ae ay kp, potV g ap gr la kd pt wt mr (sumN gr 12) yr mn, potV g ak kgr kla kkd kpt kwt kmr (sumN kgr 12) kyr kmn, potV g at' tgr tla tkd tpt twt tmr (sumN tgr 12) tyr tmn, tpV g au (tbB tb) tn pl tk sr vl, shA g ae a0 a1 a2 a3, shV g a0 (nm 0) (wd 0) (sz 0), shV g a1 (nm 1) (wd 1) (sz 1), shV g a2 (nm 2) (wd 2) (sz 2), shV g a3 (nm 3) (wd 3) (sz 3), arr7 g ay tl])
  refine g_aload_n (pc := 0) C dX3_undo_0 rfl ?_
  refine g_get3 (pc := 1) C dX3_undo_1 0 rfl 6 (by decide) fl_X3_213 rfl ?_
  refine g_if_neN (pc := 4) (tgt := 13) C dX3_undo_4 (by decide) (by omega) (fun c1 => ?_) (fun c1 => ?_)
  · obtain rfl := hJ (show kp = 1 by omega)
    refine g_aload_n (pc := 13) C dX3_undo_13 rfl ?_
    refine g_get3 (pc := 14) C dX3_undo_14 0 rfl 0 (by decide) fl_X3_10 rfl ?_
    refine g_aload_n (pc := 17) C dX3_undo_17 rfl ?_
    refine g_get3 (pc := 18) C dX3_undo_18 0 rfl 1 (by decide) fl_X3_16 rfl ?_
    refine g_bxn (pc := 21) (cs := [potV g ap gr la kd pt wt mr (sumN gr 12) yr mn, potV g ak kgr kla kkd kpt kwt kmr (sumN kgr 12) kyr kmn]) (ds := [potV g ap kgr la kkd kpt kwt kmr (sumN kgr 12) kyr kmn, potV g ak kgr kla kkd kpt kwt kmr (sumN kgr 12) kyr kmn]) (bs2 := [spO g ao ap ak at' au ae ay kp, potV g ap kgr la kkd kpt kwt kmr (sumN kgr 12) kyr kmn, potV g ak kgr kla kkd kpt kwt kmr (sumN kgr 12) kyr kmn, potV g at' tgr tla tkd tpt twt tmr (sumN tgr 12) tyr tmn, tpV g au (tbB tb) tn pl tk sr vl, shA g ae a0 a1 a2 a3, shV g a0 (nm 0) (wd 0) (sz 0), shV g a1 (nm 1) (wd 1) (sz 1), shV g a2 (nm 2) (wd 2) (sz 2), shV g a3 (nm 3) (wd 3) (sz 3), arr7 g ay tl]) C dX3_undo_21 ml_X3_168 mf_X0_become (c_become g ap gr la kd pt wt mr (sumN gr 12) yr mn ak kgr kla kkd kpt kwt kmr (sumN kgr 12) kyr kmn) ⟨rfl, rfl, (Nat.le_of_ble_eq_true rfl), (Nat.le_of_ble_eq_true rfl)⟩ rfl rfl (Nat.le_of_ble_eq_true rfl) rfl rfl 0 rfl rfl rfl [1, 2] rfl rfl rfl rfl ?_
    refine g_aload_n (pc := 24) C dX3_undo_24 rfl ?_
    refine g_get3 (pc := 25) C dX3_undo_25 0 rfl 0 (by decide) fl_X3_10 rfl ?_
    refine g_get0 (pc := 28) C dX3_undo_28 1 rfl 8 (by decide) fl_X3_148 rfl ?_
    have hf : f_undo ((mn, yr, gr, kd, pt, wt, mr), ((kmn, kyr, kgr, kkd, kpt, kwt, kmr), kp), (tb, tn), (wd, sz, nm), tl) = ((nI kmn), ((kmn, kyr, kgr, kkd, kpt, kwt, kmr), ((kmn, kyr, kgr, kkd, kpt, kwt, kmr), kp), (tb, tn), (wd, sz, nm), tl)) := by simp only [f_undo]; rw [if_neg (by omega)]
    exact g_iret C Rr dX3_undo_31 ⟨(la, ((kmn, kyr, kgr, kkd, kpt, kwt, kmr), kla), ((tmn, tyr, tgr, tkd, tpt, twt, tmr), tla), (pl, tk, sr, vl)), by rw [hf]; exact (fun h => hJ h), by rw [hf], by rw [hf]; rfl⟩ (spX_ad g (ao, ap, ak, at', au, ae, a0, a1, a2, a3, ay) ((kmn, kyr, kgr, kkd, kpt, kwt, kmr), ((kmn, kyr, kgr, kkd, kpt, kwt, kmr), kp), (tb, tn), (wd, sz, nm), tl) ((mn, yr, gr, kd, pt, wt, mr), ((kmn, kyr, kgr, kkd, kpt, kwt, kmr), kp), (tb, tn), (wd, sz, nm), tl) (la, ((kmn, kyr, kgr, kkd, kpt, kwt, kmr), kla), ((tmn, tyr, tgr, tkd, tpt, twt, tmr), tla), (pl, tk, sr, vl)) (la, ((kmn, kyr, kgr, kkd, kpt, kwt, kmr), kla), ((tmn, tyr, tgr, tkd, tpt, twt, tmr), tla), (pl, tk, sr, vl)))
  · refine g_aload_n (pc := 7) C dX3_undo_7 rfl ?_
    refine g_iconst (pc := 8) (v := nI 3) C dX3_undo_8 (by decide) ?_
    refine g_bxi (pc := 9) (cs := [spO g ao ap ak at' au ae ay kp, arr7 g ay tl]) (ds := [spO g ao ap ak at' au ae ay kp, arr7 g ay (updN tl 3 (tl 3 + 1))]) (bs2 := [spO g ao ap ak at' au ae ay kp, potV g ap gr la kd pt wt mr (sumN gr 12) yr mn, potV g ak kgr kla kkd kpt kwt kmr (sumN kgr 12) kyr kmn, potV g at' tgr tla tkd tpt twt tmr (sumN tgr 12) tyr tmn, tpV g au (tbB tb) tn pl tk sr vl, shA g ae a0 a1 a2 a3, shV g a0 (nm 0) (wd 0) (sz 0), shV g a1 (nm 1) (wd 1) (sz 1), shV g a2 (nm 2) (wd 2) (sz 2), shV g a3 (nm 3) (wd 3) (sz 3), arr7 g ay (updN tl 3 (tl 3 + 1))]) C dX3_undo_9 ml_X3_47 mf_X3_finding (c_finding g ao ap ak at' au ae ay kp tl 3 (by decide)) ⟨rfl, rfl, (Nat.le_of_ble_eq_true rfl), (Nat.le_of_ble_eq_true rfl)⟩ rfl rfl (Nat.le_of_ble_eq_true rfl) rfl rfl 0 rfl rfl rfl [0, 10] rfl rfl rfl rfl ?_
    have hf : f_undo ((mn, yr, gr, kd, pt, wt, mr), (ks, kp), (tb, tn), (wd, sz, nm), tl) = ((fd 3), ((mn, yr, gr, kd, pt, wt, mr), (ks, kp), (tb, tn), (wd, sz, nm), updN tl 3 (tl 3 + 1))) := by simp [f_undo, fnd, c1]
    exact g_iret C Rr dX3_undo_12 ⟨(la, ((kmn, kyr, kgr, kkd, kpt, kwt, kmr), kla), ((tmn, tyr, tgr, tkd, tpt, twt, tmr), tla), (pl, tk, sr, vl)), by rw [hf]; exact (fun h => hJ h), by rw [hf], by rw [hf]; rfl⟩ (spX_ad g (ao, ap, ak, at', au, ae, a0, a1, a2, a3, ay) ((mn, yr, gr, kd, pt, wt, mr), (ks, kp), (tb, tn), (wd, sz, nm), updN tl 3 (tl 3 + 1)) ((mn, yr, gr, kd, pt, wt, mr), (ks, kp), (tb, tn), (wd, sz, nm), tl) (la, ((kmn, kyr, kgr, kkd, kpt, kwt, kmr), kla), ((tmn, tyr, tgr, tkd, tpt, twt, tmr), tla), (pl, tk, sr, vl)) (la, ((kmn, kyr, kgr, kkd, kpt, kwt, kmr), kla), ((tmn, tyr, tgr, tkd, tpt, twt, tmr), tla), (pl, tk, sr, vl)))
set_option maxHeartbeats 400000 in
set_option maxRecDepth 100000 in
theorem x_tear (g : Gl) (A : Ac) (X : Xs) (J : Jc) (hX : InvX X) (hJ : OkJ X J) : Ct g yX3_tear cX3_tear 2 (some .int) (rk 0 0) [.ref (A.1 0)] (spX g A X J) (fun r w2 => ∃ J2, OkJ (f_tear X).2 J2 ∧ r = some (.int (f_tear X).1) ∧ w2 = spX g A (f_tear X).2 J2) := by
  obtain ⟨ao, ap, ak, at', au, ae, a0, a1, a2, a3, ay⟩ := A
  obtain ⟨⟨mn, yr, gr, kd, pt, wt, mr⟩, ⟨ks, kp⟩, ⟨tb, tn⟩, ⟨wd, sz, nm⟩, tl⟩ := X
  obtain ⟨la, ⟨⟨kmn, kyr, kgr, kkd, kpt, kwt, kmr⟩, kla⟩, ⟨⟨tmn, tyr, tgr, tkd, tpt, twt, tmr⟩, tla⟩, ⟨pl, tk, sr, vl⟩⟩ := J
  obtain ⟨hB, hy, hkp, htb, htn, hwd, hsz⟩ := id hX
  obtain ⟨-, hTle, hgr, hkd, hpt, hwt, hmr, hyr, hmn⟩ := id hB
  refine ct_of (by decide) (Nat.le_of_ble_eq_true rfl) ?_
  intro φ C0 Rr
  have C : Cx φ g cX3_tear 2 RX3 (rk 0 0) := C0
  show Go φ g 2 0 [(0, .ref (ao 0))] [] (fl [spO g ao ap ak at' au ae ay kp, potV g ap gr la kd pt wt mr (sumN gr 12) yr mn, potV g ak kgr kla kkd kpt kwt kmr (sumN kgr 12) kyr kmn, potV g at' tgr tla tkd tpt twt tmr (sumN tgr 12) tyr tmn, tpV g au (tbB tb) tn pl tk sr vl, shA g ae a0 a1 a2 a3, shV g a0 (nm 0) (wd 0) (sz 0), shV g a1 (nm 1) (wd 1) (sz 1), shV g a2 (nm 2) (wd 2) (sz 2), shV g a3 (nm 3) (wd 3) (sz 3), arr7 g ay tl])
  refine g_aload_n (pc := 0) C dX3_tear_0 rfl ?_
  refine g_get3 (pc := 1) C dX3_tear_1 0 rfl 6 (by decide) fl_X3_213 rfl ?_
  refine g_if_eqN (pc := 4) (tgt := 11) C dX3_tear_4 (by decide) (by omega) (fun c1 => ?_) (fun c1 => ?_)
  · refine g_iconst (pc := 11) (v := nI 0) C dX3_tear_11 (by decide) ?_
    refine g_istore_n (pc := 12) (lv2 := [(0, .ref (ao 0)), (1, .int (nI 0))]) C dX3_tear_12 rfl (Nat.le_of_ble_eq_true rfl) rfl ?_
    refine g_aload_n (pc := 13) C dX3_tear_13 rfl ?_
    refine g_iconst (pc := 14) (v := nI 0) C dX3_tear_14 (by decide) ?_
    refine g_put3 (pc := 15) (ws2 := (fl [spO g ao ap ak at' au ae ay 0, potV g ap gr la kd pt wt mr (sumN gr 12) yr mn, potV g ak kgr kla kkd kpt kwt kmr (sumN kgr 12) kyr kmn, potV g at' tgr tla tkd tpt twt tmr (sumN tgr 12) tyr tmn, tpV g au (tbB tb) tn pl tk sr vl, shA g ae a0 a1 a2 a3, shV g a0 (nm 0) (wd 0) (sz 0), shV g a1 (nm 1) (wd 1) (sz 1), shV g a2 (nm 2) (wd 2) (sz 2), shV g a3 (nm 3) (wd 3) (sz 3), arr7 g ay tl])) C dX3_tear_15 0 rfl 6 (by decide) fl_X3_213 rfl (by first | rfl | decide) rfl (Nat.le_of_ble_eq_true rfl) rfl ?_
    refine g_iload_n (pc := 18) C dX3_tear_18 rfl ?_
    have hf : f_tear ((mn, yr, gr, kd, pt, wt, mr), (ks, kp), (tb, tn), (wd, sz, nm), tl) = ((nI 0), ((mn, yr, gr, kd, pt, wt, mr), (ks, 0), (tb, tn), (wd, sz, nm), tl)) := by simp [f_tear, c1]
    exact g_iret C Rr dX3_tear_19 ⟨(la, ((kmn, kyr, kgr, kkd, kpt, kwt, kmr), kla), ((tmn, tyr, tgr, tkd, tpt, twt, tmr), tla), (pl, tk, sr, vl)), by rw [hf]; exact (fun h => absurd h (by decide)), by rw [hf], by rw [hf]; rfl⟩ (spX_ad g (ao, ap, ak, at', au, ae, a0, a1, a2, a3, ay) ((mn, yr, gr, kd, pt, wt, mr), (ks, 0), (tb, tn), (wd, sz, nm), tl) ((mn, yr, gr, kd, pt, wt, mr), (ks, kp), (tb, tn), (wd, sz, nm), tl) (la, ((kmn, kyr, kgr, kkd, kpt, kwt, kmr), kla), ((tmn, tyr, tgr, tkd, tpt, twt, tmr), tla), (pl, tk, sr, vl)) (la, ((kmn, kyr, kgr, kkd, kpt, kwt, kmr), kla), ((tmn, tyr, tgr, tkd, tpt, twt, tmr), tla), (pl, tk, sr, vl)))
  · refine g_iconst (pc := 7) (v := nI 1) C dX3_tear_7 (by decide) ?_
    refine g_goto (pc := 8) (tgt := 12) C dX3_tear_8 (by decide) ?_
    refine g_istore_n (pc := 12) (lv2 := [(0, .ref (ao 0)), (1, .int (nI 1))]) C dX3_tear_12 rfl (Nat.le_of_ble_eq_true rfl) rfl ?_
    refine g_aload_n (pc := 13) C dX3_tear_13 rfl ?_
    refine g_iconst (pc := 14) (v := nI 0) C dX3_tear_14 (by decide) ?_
    refine g_put3 (pc := 15) (ws2 := (fl [spO g ao ap ak at' au ae ay 0, potV g ap gr la kd pt wt mr (sumN gr 12) yr mn, potV g ak kgr kla kkd kpt kwt kmr (sumN kgr 12) kyr kmn, potV g at' tgr tla tkd tpt twt tmr (sumN tgr 12) tyr tmn, tpV g au (tbB tb) tn pl tk sr vl, shA g ae a0 a1 a2 a3, shV g a0 (nm 0) (wd 0) (sz 0), shV g a1 (nm 1) (wd 1) (sz 1), shV g a2 (nm 2) (wd 2) (sz 2), shV g a3 (nm 3) (wd 3) (sz 3), arr7 g ay tl])) C dX3_tear_15 0 rfl 6 (by decide) fl_X3_213 rfl (by first | rfl | decide) rfl (Nat.le_of_ble_eq_true rfl) rfl ?_
    refine g_iload_n (pc := 18) C dX3_tear_18 rfl ?_
    have hf : f_tear ((mn, yr, gr, kd, pt, wt, mr), (ks, kp), (tb, tn), (wd, sz, nm), tl) = ((nI 1), ((mn, yr, gr, kd, pt, wt, mr), (ks, 0), (tb, tn), (wd, sz, nm), tl)) := by simp [f_tear, show kp = 1 by omega]
    exact g_iret C Rr dX3_tear_19 ⟨(la, ((kmn, kyr, kgr, kkd, kpt, kwt, kmr), kla), ((tmn, tyr, tgr, tkd, tpt, twt, tmr), tla), (pl, tk, sr, vl)), by rw [hf]; exact (fun h => absurd h (by decide)), by rw [hf], by rw [hf]; rfl⟩ (spX_ad g (ao, ap, ak, at', au, ae, a0, a1, a2, a3, ay) ((mn, yr, gr, kd, pt, wt, mr), (ks, 0), (tb, tn), (wd, sz, nm), tl) ((mn, yr, gr, kd, pt, wt, mr), (ks, kp), (tb, tn), (wd, sz, nm), tl) (la, ((kmn, kyr, kgr, kkd, kpt, kwt, kmr), kla), ((tmn, tyr, tgr, tkd, tpt, twt, tmr), tla), (pl, tk, sr, vl)) (la, ((kmn, kyr, kgr, kkd, kpt, kwt, kmr), kla), ((tmn, tyr, tgr, tkd, tpt, twt, tmr), tla), (pl, tk, sr, vl)))
set_option maxHeartbeats 400000 in
set_option maxRecDepth 100000 in
theorem x_status (g : Gl) (A : Ac) (X : Xs) (J : Jc) (w : Int32) (hX : InvX X) (hJ : OkJ X J) : Ct g yX3_status cX3_status 4 (some .int) (rk 1 22) [.ref (A.1 0), .int w] (spX g A X J) (fun r w2 => ∃ J2, OkJ (f_status X w).2 J2 ∧ r = some (.int (f_status X w).1) ∧ w2 = spX g A (f_status X w).2 J2) := by
  obtain ⟨ao, ap, ak, at', au, ae, a0, a1, a2, a3, ay⟩ := A
  obtain ⟨⟨mn, yr, gr, kd, pt, wt, mr⟩, ⟨ks, kp⟩, ⟨tb, tn⟩, ⟨wd, sz, nm⟩, tl⟩ := X
  obtain ⟨la, ⟨⟨kmn, kyr, kgr, kkd, kpt, kwt, kmr⟩, kla⟩, ⟨⟨tmn, tyr, tgr, tkd, tpt, twt, tmr⟩, tla⟩, ⟨pl, tk, sr, vl⟩⟩ := J
  obtain ⟨hB, hy, hkp, htb, htn, hwd, hsz⟩ := id hX
  obtain ⟨-, hTle, hgr, hkd, hpt, hwt, hmr, hyr, hmn⟩ := id hB
  refine ct_of (by decide) (Nat.le_of_ble_eq_true rfl) ?_
  intro φ C0 Rr
  have C : Cx φ g cX3_status 4 RX3 (rk 1 22) := C0
  show Go φ g 4 0 [(0, .ref (ao 0)), (1, .int w)] [] (fl [spO g ao ap ak at' au ae ay kp, potV g ap gr la kd pt wt mr (sumN gr 12) yr mn, potV g ak kgr kla kkd kpt kwt kmr (sumN kgr 12) kyr kmn, potV g at' tgr tla tkd tpt twt tmr (sumN tgr 12) tyr tmn, tpV g au (tbB tb) tn pl tk sr vl, shA g ae a0 a1 a2 a3, shV g a0 (nm 0) (wd 0) (sz 0), shV g a1 (nm 1) (wd 1) (sz 1), shV g a2 (nm 2) (wd 2) (sz 2), shV g a3 (nm 3) (wd 3) (sz 3), arr7 g ay tl])
  refine g_iload_n (pc := 0) C dX3_status_0 rfl ?_
  refine g_iconst (pc := 1) (v := -1) C dX3_status_1 (by decide) ?_
  refine g_bipush (pc := 2) (v := nI 6) C dX3_status_2 (by decide) ?_
  refine g_s0i (pc := 4) C dX3_status_4 ml_X3_52 mf_X3_isWithin (c_isWithin g w (-1) (nI 6)) ⟨rfl, rfl, (Nat.le_of_ble_eq_true rfl), (Nat.le_of_ble_eq_true rfl)⟩ rfl rfl (Nat.le_of_ble_eq_true rfl) ?_
  refine g_top (y := bI (inR w (-1) 6 = true)) (bI_iff (isW_m1 (by decide))) ?_
  refine g_if_neB (pc := 7) (tgt := 16) C dX3_status_7 (by decide) (fun c1 => ?_) (fun c1 => ?_)
  · rcases inR_m1 c1 with rfl | ⟨w_, hu_w, rfl⟩
    · refine g_iload_n (pc := 16) C dX3_status_16 rfl ?_
      refine g_if_lt (pc := 17) (tgt := 27) C dX3_status_17 (by decide) (fun _ => ?_) (fun h => absurd (by decide) h)
      refine g_iconst (pc := 27) (v := nI 0) C dX3_status_27 (by decide) ?_
      refine g_istore_n (pc := 28) (lv2 := [(0, .ref (ao 0)), (1, .int (-1)), (2, .int (nI 0))]) C dX3_status_28 rfl (Nat.le_of_ble_eq_true rfl) rfl ?_
      refine g_iconst (pc := 29) (v := nI 0) C dX3_status_29 (by decide) ?_
      refine g_istore_n (pc := 30) (lv2 := [(0, .ref (ao 0)), (1, .int (-1)), (2, .int (nI 0)), (3, .int (nI 0))]) C dX3_status_30 rfl (Nat.le_of_ble_eq_true rfl) rfl ?_
      refine g_loop0 (n := 7) (fun i => True) (fun i => [(0, .ref (ao 0)), (1, .int (-1)), (2, .int (nI (sumN tl i))), (3, .int (nI i))]) (fun i => (fl [spO g ao ap ak at' au ae ay kp, potV g ap gr la kd pt wt mr (sumN gr 12) yr mn, potV g ak kgr kla kkd kpt kwt kmr (sumN kgr 12) kyr kmn, potV g at' tgr tla tkd tpt twt tmr (sumN tgr 12) tyr tmn, tpV g au (tbB tb) tn pl tk sr vl, shA g ae a0 a1 a2 a3, shV g a0 (nm 0) (wd 0) (sz 0), shV g a1 (nm 1) (wd 1) (sz 1), shV g a2 (nm 2) (wd 2) (sz 2), shV g a3 (nm 3) (wd 3) (sz 3), arr7 g ay tl])) ?_ 0 (by omega) trivial
      intro i hi_i hv_i ih_i
      show Go φ g 4 31 [(0, .ref (ao 0)), (1, .int (-1)), (2, .int (nI (sumN tl i))), (3, .int (nI i))] [] (fl [spO g ao ap ak at' au ae ay kp, potV g ap gr la kd pt wt mr (sumN gr 12) yr mn, potV g ak kgr kla kkd kpt kwt kmr (sumN kgr 12) kyr kmn, potV g at' tgr tla tkd tpt twt tmr (sumN tgr 12) tyr tmn, tpV g au (tbB tb) tn pl tk sr vl, shA g ae a0 a1 a2 a3, shV g a0 (nm 0) (wd 0) (sz 0), shV g a1 (nm 1) (wd 1) (sz 1), shV g a2 (nm 2) (wd 2) (sz 2), shV g a3 (nm 3) (wd 3) (sz 3), arr7 g ay tl])
      refine g_iload_n (pc := 31) C dX3_status_31 rfl ?_
      refine g_bipush (pc := 32) (v := nI 7) C dX3_status_32 (by decide) ?_
      refine g_icmp_geN (pc := 34) (tgt := 52) C dX3_status_34 (by decide) (by omega) (by omega) (fun c3 => ?_) (fun c3 => ?_)
      · refine g_iload_n (pc := 52) C dX3_status_52 rfl ?_
        have hf : f_status ((mn, yr, gr, kd, pt, wt, mr), (ks, kp), (tb, tn), (wd, sz, nm), tl) (-1) = ((nI (sumN tl i)), ((mn, yr, gr, kd, pt, wt, mr), (ks, kp), (tb, tn), (wd, sz, nm), tl)) := by simp [f_status, c1, show i = 7 by omega]
        exact g_iret C Rr dX3_status_53 ⟨(la, ((kmn, kyr, kgr, kkd, kpt, kwt, kmr), kla), ((tmn, tyr, tgr, tkd, tpt, twt, tmr), tla), (pl, tk, sr, vl)), by rw [hf]; exact (fun h => hJ h), by rw [hf], by rw [hf]; rfl⟩ (spX_ad g (ao, ap, ak, at', au, ae, a0, a1, a2, a3, ay) ((mn, yr, gr, kd, pt, wt, mr), (ks, kp), (tb, tn), (wd, sz, nm), tl) ((mn, yr, gr, kd, pt, wt, mr), (ks, kp), (tb, tn), (wd, sz, nm), tl) (la, ((kmn, kyr, kgr, kkd, kpt, kwt, kmr), kla), ((tmn, tyr, tgr, tkd, tpt, twt, tmr), tla), (pl, tk, sr, vl)) (la, ((kmn, kyr, kgr, kkd, kpt, kwt, kmr), kla), ((tmn, tyr, tgr, tkd, tpt, twt, tmr), tla), (pl, tk, sr, vl)))
      · refine g_iload_n (pc := 37) C dX3_status_37 rfl ?_
        refine g_aload_n (pc := 38) C dX3_status_38 rfl ?_
        refine g_get3 (pc := 39) C dX3_status_39 0 rfl 5 (by decide) fl_X3_35 rfl ?_
        refine g_iload_n (pc := 42) C dX3_status_42 rfl ?_
        refine g_ialdM (pc := 43) C dX3_status_43 33 rfl rfl (by omega) (by decide) ?_
        refine g_iaddN (pc := 44) C dX3_status_44 ?_
        refine g_istore_n (pc := 45) (lv2 := [(0, .ref (ao 0)), (1, .int (-1)), (2, .int (nI ((sumN tl i) + (tl i)))), (3, .int (nI i))]) C dX3_status_45 rfl (Nat.le_of_ble_eq_true rfl) rfl ?_
        refine g_iinc (pc := 46) (v := (nI (i + 1))) (lv2 := [(0, .ref (ao 0)), (1, .int (-1)), (2, .int (nI ((sumN tl i) + (tl i)))), (3, .int (nI (i + 1)))]) C dX3_status_46 rfl (nI_1 _) (Nat.le_of_ble_eq_true rfl) rfl ?_
        refine g_goto (pc := 49) (tgt := 31) C dX3_status_49 (by decide) ?_
        exact ih_i (by omega) trivial
    · refine g_iload_n (pc := 16) C dX3_status_16 rfl ?_
      refine g_if_ltN (pc := 17) (tgt := 27) C dX3_status_17 (by decide) (by omega) (fun h => absurd h (by simp)) (fun _ => ?_)
      refine g_aload_n (pc := 20) C dX3_status_20 rfl ?_
      refine g_get3 (pc := 21) C dX3_status_21 0 rfl 5 (by decide) fl_X3_35 rfl ?_
      refine g_iload_n (pc := 24) C dX3_status_24 rfl ?_
      refine g_ialdM (pc := 25) C dX3_status_25 33 rfl rfl (by omega) (by decide) ?_
      have hf : f_status ((mn, yr, gr, kd, pt, wt, mr), (ks, kp), (tb, tn), (wd, sz, nm), tl) (nI w_) = ((nI (tl w_)), ((mn, yr, gr, kd, pt, wt, mr), (ks, kp), (tb, tn), (wd, sz, nm), tl)) := by simp [f_status, c1, ix_nI (show w_ < 2 ^ 31 by omega), m1_ne (show w_ < 2 ^ 31 by omega)]
      exact g_iret C Rr dX3_status_26 ⟨(la, ((kmn, kyr, kgr, kkd, kpt, kwt, kmr), kla), ((tmn, tyr, tgr, tkd, tpt, twt, tmr), tla), (pl, tk, sr, vl)), by rw [hf]; exact (fun h => hJ h), by rw [hf], by rw [hf]; rfl⟩ (spX_ad g (ao, ap, ak, at', au, ae, a0, a1, a2, a3, ay) ((mn, yr, gr, kd, pt, wt, mr), (ks, kp), (tb, tn), (wd, sz, nm), tl) ((mn, yr, gr, kd, pt, wt, mr), (ks, kp), (tb, tn), (wd, sz, nm), tl) (la, ((kmn, kyr, kgr, kkd, kpt, kwt, kmr), kla), ((tmn, tyr, tgr, tkd, tpt, twt, tmr), tla), (pl, tk, sr, vl)) (la, ((kmn, kyr, kgr, kkd, kpt, kwt, kmr), kla), ((tmn, tyr, tgr, tkd, tpt, twt, tmr), tla), (pl, tk, sr, vl)))
  · refine g_aload_n (pc := 10) C dX3_status_10 rfl ?_
    refine g_iconst (pc := 11) (v := nI 0) C dX3_status_11 (by decide) ?_
    refine g_bxi (pc := 12) (cs := [spO g ao ap ak at' au ae ay kp, arr7 g ay tl]) (ds := [spO g ao ap ak at' au ae ay kp, arr7 g ay (updN tl 0 (tl 0 + 1))]) (bs2 := [spO g ao ap ak at' au ae ay kp, potV g ap gr la kd pt wt mr (sumN gr 12) yr mn, potV g ak kgr kla kkd kpt kwt kmr (sumN kgr 12) kyr kmn, potV g at' tgr tla tkd tpt twt tmr (sumN tgr 12) tyr tmn, tpV g au (tbB tb) tn pl tk sr vl, shA g ae a0 a1 a2 a3, shV g a0 (nm 0) (wd 0) (sz 0), shV g a1 (nm 1) (wd 1) (sz 1), shV g a2 (nm 2) (wd 2) (sz 2), shV g a3 (nm 3) (wd 3) (sz 3), arr7 g ay (updN tl 0 (tl 0 + 1))]) C dX3_status_12 ml_X3_47 mf_X3_finding (c_finding g ao ap ak at' au ae ay kp tl 0 (by decide)) ⟨rfl, rfl, (Nat.le_of_ble_eq_true rfl), (Nat.le_of_ble_eq_true rfl)⟩ rfl rfl (Nat.le_of_ble_eq_true rfl) rfl rfl 0 rfl rfl rfl [0, 10] rfl rfl rfl rfl ?_
    have hf : f_status ((mn, yr, gr, kd, pt, wt, mr), (ks, kp), (tb, tn), (wd, sz, nm), tl) w = ((fd 0), ((mn, yr, gr, kd, pt, wt, mr), (ks, kp), (tb, tn), (wd, sz, nm), updN tl 0 (tl 0 + 1))) := by simp [f_status, fnd, c1]
    exact g_iret C Rr dX3_status_15 ⟨(la, ((kmn, kyr, kgr, kkd, kpt, kwt, kmr), kla), ((tmn, tyr, tgr, tkd, tpt, twt, tmr), tla), (pl, tk, sr, vl)), by rw [hf]; exact (fun h => hJ h), by rw [hf], by rw [hf]; rfl⟩ (spX_ad g (ao, ap, ak, at', au, ae, a0, a1, a2, a3, ay) ((mn, yr, gr, kd, pt, wt, mr), (ks, kp), (tb, tn), (wd, sz, nm), updN tl 0 (tl 0 + 1)) ((mn, yr, gr, kd, pt, wt, mr), (ks, kp), (tb, tn), (wd, sz, nm), tl) (la, ((kmn, kyr, kgr, kkd, kpt, kwt, kmr), kla), ((tmn, tyr, tgr, tkd, tpt, twt, tmr), tla), (pl, tk, sr, vl)) (la, ((kmn, kyr, kgr, kkd, kpt, kwt, kmr), kla), ((tmn, tyr, tgr, tkd, tpt, twt, tmr), tla), (pl, tk, sr, vl)))
