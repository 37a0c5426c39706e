set_option maxHeartbeats 400000 in
set_option maxRecDepth 100000 in
theorem c_isWithin (g : Gl) (v : Int32) (x : Int32) (y : Int32)  : Ct g yX3_isWithin cX3_isWithin 3 (some .boolean) (rk 0 0) [.int v, .int x, .int y] ([]) (fun r w2 => r = some (.int (bI (x ≤ v ∧ v ≤ y))) ∧ w2 = []) := by
  refine ct_of (by decide) (Nat.le_of_ble_eq_true rfl) ?_
  intro φ C0 Rr
  have C : Cx φ g cX3_isWithin 3 RX3 (rk 0 0) := C0
  show Go φ g 3 0 [(0, .int v), (1, .int x), (2, .int y)] [] ([])
  refine g_iload_n (pc := 0) C dX3_isWithin_0 rfl ?_
  refine g_iload_n (pc := 1) C dX3_isWithin_1 rfl ?_
  refine g_icmp_gt (pc := 2) (tgt := 14) C dX3_isWithin_2 (by decide) (fun c1 => ?_) (fun c1 => ?_)
  · refine g_iconst (pc := 14) (v := nI 0) C dX3_isWithin_14 (by decide) ?_
    exact g_zret C Rr dX3_isWithin_15 (by first | rfl | decide) ⟨by rw [bI_f (fun q => absurd q.1 (Int32.not_le.mpr c1))], rfl⟩ rfl
  · refine g_iload_n (pc := 5) C dX3_isWithin_5 rfl ?_
    refine g_iload_n (pc := 6) C dX3_isWithin_6 rfl ?_
    refine g_icmp_gt (pc := 7) (tgt := 14) C dX3_isWithin_7 (by decide) (fun c2 => ?_) (fun c2 => ?_)
    · refine g_iconst (pc := 14) (v := nI 0) C dX3_isWithin_14 (by decide) ?_
      exact g_zret C Rr dX3_isWithin_15 (by first | rfl | decide) ⟨by rw [bI_f (fun q => absurd q.2 (Int32.not_le.mpr c2))], rfl⟩ rfl
    · refine g_iconst (pc := 10) (v := nI 1) C dX3_isWithin_10 (by decide) ?_
      refine g_goto (pc := 11) (tgt := 15) C dX3_isWithin_11 (by decide) ?_
      exact g_zret C Rr dX3_isWithin_15 (by first | rfl | decide) ⟨by rw [bI_t ⟨Int32.not_lt.mp c1, Int32.not_lt.mp c2⟩], rfl⟩ rfl
set_option maxHeartbeats 400000 in
set_option maxRecDepth 100000 in
theorem c_isPart (g : Gl) (p : Int32)  : Ct g yX3_isPart cX3_isPart 1 (some .boolean) (rk 1 22) [.int p] ([]) (fun r w2 => r = some (.int (bI (inR p 0 11 = true))) ∧ w2 = []) := by
  refine ct_of (by decide) (Nat.le_of_ble_eq_true rfl) ?_
  intro φ C0 Rr
  have C : Cx φ g cX3_isPart 1 RX3 (rk 1 22) := C0
  show Go φ g 1 0 [(0, .int p)] [] ([])
  refine g_iload_n (pc := 0) C dX3_isPart_0 rfl ?_
  refine g_iconst (pc := 1) (v := nI 0) C dX3_isPart_1 (by decide) ?_
  refine g_bipush (pc := 2) (v := nI 11) C dX3_isPart_2 (by decide) ?_
  refine g_s0i (pc := 4) C dX3_isPart_4 ml_X3_52 mf_X3_isWithin (c_isWithin g p (nI 0) (nI 11)) ⟨rfl, rfl, (Nat.le_of_ble_eq_true rfl), (Nat.le_of_ble_eq_true rfl)⟩ rfl rfl (Nat.le_of_ble_eq_true rfl) ?_
  refine g_top (y := bI (inR p 0 11 = true)) (bI_iff (isW_iff (by decide) (by decide))) ?_
  exact g_zret C Rr dX3_isPart_7 nar_bI ⟨rfl, rfl⟩ rfl
set_option maxHeartbeats 400000 in
set_option maxRecDepth 100000 in
theorem c_isKind (g : Gl) (p : Int32)  : Ct g yX3_isKind cX3_isKind 1 (some .boolean) (rk 1 22) [.int p] ([]) (fun r w2 => r = some (.int (bI (inR p 0 5 = true))) ∧ w2 = []) := by
  refine ct_of (by decide) (Nat.le_of_ble_eq_true rfl) ?_
  intro φ C0 Rr
  have C : Cx φ g cX3_isKind 1 RX3 (rk 1 22) := C0
  show Go φ g 1 0 [(0, .int p)] [] ([])
  refine g_iload_n (pc := 0) C dX3_isKind_0 rfl ?_
  refine g_iconst (pc := 1) (v := nI 0) C dX3_isKind_1 (by decide) ?_
  refine g_iconst (pc := 2) (v := nI 5) C dX3_isKind_2 (by decide) ?_
  refine g_s0i (pc := 3) C dX3_isKind_3 ml_X3_52 mf_X3_isWithin (c_isWithin g p (nI 0) (nI 5)) ⟨rfl, rfl, (Nat.le_of_ble_eq_true rfl), (Nat.le_of_ble_eq_true rfl)⟩ rfl rfl (Nat.le_of_ble_eq_true rfl) ?_
  refine g_top (y := bI (inR p 0 5 = true)) (bI_iff (isW_iff (by decide) (by decide))) ?_
  exact g_zret C Rr dX3_isKind_6 nar_bI ⟨rfl, rfl⟩ rfl
set_option maxHeartbeats 400000 in
set_option maxRecDepth 100000 in
theorem c_isSheet (g : Gl) (p : Int32)  : Ct g yX3_isSheet cX3_isSheet 1 (some .boolean) (rk 1 22) [.int p] ([]) (fun r w2 => r = some (.int (bI (inR p 0 3 = true))) ∧ w2 = []) := by
  refine ct_of (by decide) (Nat.le_of_ble_eq_true rfl) ?_
  intro φ C0 Rr
  have C : Cx φ g cX3_isSheet 1 RX3 (rk 1 22) := C0
  show Go φ g 1 0 [(0, .int p)] [] ([])
  refine g_iload_n (pc := 0) C dX3_isSheet_0 rfl ?_
  refine g_iconst (pc := 1) (v := nI 0) C dX3_isSheet_1 (by decide) ?_
  refine g_iconst (pc := 2) (v := nI 3) C dX3_isSheet_2 (by decide) ?_
  refine g_s0i (pc := 3) C dX3_isSheet_3 ml_X3_52 mf_X3_isWithin (c_isWithin g p (nI 0) (nI 3)) ⟨rfl, rfl, (Nat.le_of_ble_eq_true rfl), (Nat.le_of_ble_eq_true rfl)⟩ rfl rfl (Nat.le_of_ble_eq_true rfl) ?_
  refine g_top (y := bI (inR p 0 3 = true)) (bI_iff (isW_iff (by decide) (by decide))) ?_
  exact g_zret C Rr dX3_isSheet_6 nar_bI ⟨rfl, rfl⟩ rfl
set_option maxHeartbeats 400000 in
set_option maxRecDepth 100000 in
theorem c_isUnder (g : Gl) (k : Nat) (o : Nat) (hk : k ≤ 5) (ho : o ≤ 5) : Ct g yX3_isUnder cX3_isUnder 2 (some .boolean) (rk 0 0) [.int (nI k), .int (nI o)] ([]) (fun r w2 => r = some (.int (bI (underN k o))) ∧ w2 = []) := by
  refine ct_of (by decide) (Nat.le_of_ble_eq_true rfl) ?_
  intro φ C0 Rr
  have C : Cx φ g cX3_isUnder 2 RX3 (rk 0 0) := C0
  show Go φ g 2 0 [(0, .int (nI k)), (1, .int (nI o))] [] ([])
  refine g_iload_n (pc := 0) C dX3_isUnder_0 rfl ?_
  refine g_iload_n (pc := 1) C dX3_isUnder_1 rfl ?_
  refine g_icmp_eqN (pc := 2) (tgt := 29) C dX3_isUnder_2 (by decide) (by omega) (by omega) (fun c1 => ?_) (fun c1 => ?_)
  · refine g_iconst (pc := 29) (v := nI 1) C dX3_isUnder_29 (by decide) ?_
    refine g_goto (pc := 30) (tgt := 34) C dX3_isUnder_30 (by decide) ?_
    exact g_zret C Rr dX3_isUnder_34 (by first | rfl | decide) ⟨by rw [bI_t (by unfold underN; omega)], rfl⟩ rfl
  · refine g_iload_n (pc := 5) C dX3_isUnder_5 rfl ?_
    refine g_if_eqN (pc := 6) (tgt := 29) C dX3_isUnder_6 (by decide) (by omega) (fun c2 => ?_) (fun c2 => ?_)
    · refine g_iconst (pc := 29) (v := nI 1) C dX3_isUnder_29 (by decide) ?_
      refine g_goto (pc := 30) (tgt := 34) C dX3_isUnder_30 (by decide) ?_
      exact g_zret C Rr dX3_isUnder_34 (by first | rfl | decide) ⟨by rw [bI_t (by unfold underN; omega)], rfl⟩ rfl
    · refine g_iload_n (pc := 9) C dX3_isUnder_9 rfl ?_
      refine g_iconst (pc := 10) (v := nI 4) C dX3_isUnder_10 (by decide) ?_
      refine g_icmp_neN (pc := 11) (tgt := 19) C dX3_isUnder_11 (by decide) (by omega) (by omega) (fun c3 => ?_) (fun c3 => ?_)
      · refine g_iload_n (pc := 19) C dX3_isUnder_19 rfl ?_
        refine g_iconst (pc := 20) (v := nI 5) C dX3_isUnder_20 (by decide) ?_
        refine g_icmp_neN (pc := 21) (tgt := 33) C dX3_isUnder_21 (by decide) (by omega) (by omega) (fun c4 => ?_) (fun c4 => ?_)
        · refine g_iconst (pc := 33) (v := nI 0) C dX3_isUnder_33 (by decide) ?_
          exact g_zret C Rr dX3_isUnder_34 (by first | rfl | decide) ⟨by rw [bI_f (by unfold underN; omega)], rfl⟩ rfl
        · refine g_iload_n (pc := 24) C dX3_isUnder_24 rfl ?_
          refine g_iconst (pc := 25) (v := nI 2) C dX3_isUnder_25 (by decide) ?_
          refine g_icmp_neN (pc := 26) (tgt := 33) C dX3_isUnder_26 (by decide) (by omega) (by omega) (fun c5 => ?_) (fun c5 => ?_)
          · refine g_iconst (pc := 33) (v := nI 0) C dX3_isUnder_33 (by decide) ?_
            exact g_zret C Rr dX3_isUnder_34 (by first | rfl | decide) ⟨by rw [bI_f (by unfold underN; omega)], rfl⟩ rfl
          · refine g_iconst (pc := 29) (v := nI 1) C dX3_isUnder_29 (by decide) ?_
            refine g_goto (pc := 30) (tgt := 34) C dX3_isUnder_30 (by decide) ?_
            exact g_zret C Rr dX3_isUnder_34 (by first | rfl | decide) ⟨by rw [bI_t (by unfold underN; omega)], rfl⟩ rfl
      · refine g_iload_n (pc := 14) C dX3_isUnder_14 rfl ?_
        refine g_iconst (pc := 15) (v := nI 1) C dX3_isUnder_15 (by decide) ?_
        refine g_icmp_eqN (pc := 16) (tgt := 29) C dX3_isUnder_16 (by decide) (by omega) (by omega) (fun c6 => ?_) (fun c6 => ?_)
        · refine g_iconst (pc := 29) (v := nI 1) C dX3_isUnder_29 (by decide) ?_
          refine g_goto (pc := 30) (tgt := 34) C dX3_isUnder_30 (by decide) ?_
          exact g_zret C Rr dX3_isUnder_34 (by first | rfl | decide) ⟨by rw [bI_t (by unfold underN; omega)], rfl⟩ rfl
        · refine g_iload_n (pc := 19) C dX3_isUnder_19 rfl ?_
          refine g_iconst (pc := 20) (v := nI 5) C dX3_isUnder_20 (by decide) ?_
          refine g_icmp_neN (pc := 21) (tgt := 33) C dX3_isUnder_21 (by decide) (by omega) (by omega) (fun c7 => ?_) (fun c7 => ?_)
          · refine g_iconst (pc := 33) (v := nI 0) C dX3_isUnder_33 (by decide) ?_
            exact g_zret C Rr dX3_isUnder_34 (by first | rfl | decide) ⟨by rw [bI_f (by unfold underN; omega)], rfl⟩ rfl
          · refine g_iload_n (pc := 24) C dX3_isUnder_24 rfl ?_
            refine g_iconst (pc := 25) (v := nI 2) C dX3_isUnder_25 (by decide) ?_
            refine g_icmp_neN (pc := 26) (tgt := 33) C dX3_isUnder_26 (by decide) (by omega) (by omega) (fun c8 => ?_) (fun c8 => ?_)
            · refine g_iconst (pc := 33) (v := nI 0) C dX3_isUnder_33 (by decide) ?_
              exact g_zret C Rr dX3_isUnder_34 (by first | rfl | decide) ⟨by rw [bI_f (by unfold underN; omega)], rfl⟩ rfl
            · refine g_iconst (pc := 29) (v := nI 1) C dX3_isUnder_29 (by decide) ?_
              refine g_goto (pc := 30) (tgt := 34) C dX3_isUnder_30 (by decide) ?_
              exact g_zret C Rr dX3_isUnder_34 (by first | rfl | decide) ⟨by rw [bI_t (by unfold underN; omega)], rfl⟩ rfl
set_option maxHeartbeats 400000 in
set_option maxRecDepth 100000 in
theorem c_finding (g : Gl) (ao : Nat → Nat) (ap : Nat → Nat) (ak : Nat → Nat) (at' : Nat → Nat) (au : Nat → Nat) (ae : Nat → Nat) (ay : Nat → Nat) (kp : Nat) (tl : Nat → Nat) (k : Nat) (hk : k < 7) : Ct g yX3_finding cX3_finding 2 (some .int) (rk 0 0) [.ref (ao 0), .int (nI k)] (fl [spO g ao ap ak at' au ae ay kp, arr7 g ay tl]) (fun r w2 => r = some (.int (fd k)) ∧ w2 = (fl [spO g ao ap ak at' au ae ay kp, arr7 g ay (updN tl k (tl k + 1))])) := by
  refine ct_of (by decide) (Nat.le_of_ble_eq_true rfl) ?_
  intro φ C0 Rr
  have C : Cx φ g cX3_finding 2 RX3 (rk 0 0) := C0
  show Go φ g 2 0 [(0, .ref (ao 0)), (1, .int (nI k))] [] (fl [spO g ao ap ak at' au ae ay kp, arr7 g ay tl])
  refine g_aload_n (pc := 0) C dX3_finding_0 rfl ?_
  refine g_get3 (pc := 1) C dX3_finding_1 0 rfl 5 (by decide) fl_X3_35 rfl ?_
  refine g_iload_n (pc := 4) C dX3_finding_4 rfl ?_
  refine g_dup2 (pc := 5) C dX3_finding_5 rfl rfl ?_
  refine g_ialdM (pc := 6) C dX3_finding_6 1 rfl rfl (by omega) (by decide) ?_
  refine g_iconst (pc := 7) (v := nI 1) C dX3_finding_7 (by decide) ?_
  refine g_iaddN (pc := 8) C dX3_finding_8 ?_
  refine g_iastM (pc := 9) (ws2 := (fl [spO g ao ap ak at' au ae ay kp, arr7 g ay (updN tl k ((tl k) + 1))])) C dX3_finding_9 1 rfl rfl (by omega) (by decide) rfl ?_
  refine g_ldc (pc := 10) C dX3_finding_10 ck_X3_225 rfl ?_
  refine g_iload_n (pc := 12) C dX3_finding_12 rfl ?_
  refine g_isub (pc := 13) C dX3_finding_13 ?_
  exact g_iret C Rr dX3_finding_14 ⟨by rw [← fd_eq k hk], rfl⟩ rfl
set_option maxHeartbeats 400000 in
set_option maxRecDepth 100000 in
theorem c_startTrial (g : Gl) (ao : Nat → Nat) (ap : Nat → Nat) (ak : Nat → Nat) (at' : Nat → Nat) (au : Nat → Nat) (ae : Nat → Nat) (ay : Nat → Nat) (kp : Nat) (gr : Nat → Nat) (la : Nat → Nat) (kd : Nat → Nat) (pt : Nat → Nat) (wt : Nat → Nat) (mr : Nat → Nat) (yr : Nat) (mn : Nat) (tgr : Nat → Nat) (tla : Nat → Nat) (tkd : Nat → Nat) (tpt : Nat → Nat) (twt : Nat → Nat) (tmr : Nat → Nat) (tyr : Nat) (tmn : Nat)  : Ct g yX3_startTrial cX3_startTrial 1 none (rk 2 81) [.ref (ao 0)] (fl [spO g ao ap ak at' au ae ay kp, potV g ap gr la kd pt wt mr (sumN gr 12) yr mn, potV g at' tgr tla tkd tpt twt tmr (sumN tgr 12) tyr tmn]) (fun r w2 => r = none ∧ w2 = (fl [spO g ao ap ak at' au ae ay kp, potV g ap gr la kd pt wt mr (sumN gr 12) yr mn, potV g at' gr tla kd pt wt mr (sumN gr 12) yr mn])) := by
  refine ct_of (by decide) (Nat.le_of_ble_eq_true rfl) ?_
  intro φ C0 Rr
  have C : Cx φ g cX3_startTrial 1 RX3 (rk 2 81) := C0
  show Go φ g 1 0 [(0, .ref (ao 0))] [] (fl [spO g ao ap ak at' au ae ay kp, potV g ap gr la kd pt wt mr (sumN gr 12) yr mn, potV g at' tgr tla tkd tpt twt tmr (sumN tgr 12) tyr tmn])
  refine g_aload_n (pc := 0) C dX3_startTrial_0 rfl ?_
  refine g_get3 (pc := 1) C dX3_startTrial_1 0 rfl 2 (by decide) fl_X3_19 rfl ?_
  refine g_aload_n (pc := 4) C dX3_startTrial_4 rfl ?_
  refine g_get3 (pc := 5) C dX3_startTrial_5 0 rfl 0 (by decide) fl_X3_10 rfl ?_
  refine g_bxn (pc := 8) (cs := [potV g at' tgr tla tkd tpt twt tmr (sumN tgr 12) tyr tmn, potV g ap gr la kd pt wt mr (sumN gr 12) yr mn]) (ds := [potV g at' gr tla kd pt wt mr (sumN gr 12) yr mn, potV g ap gr la kd pt wt mr (sumN gr 12) yr mn]) (bs2 := [spO g ao ap ak at' au ae ay kp, potV g ap gr la kd pt wt mr (sumN gr 12) yr mn, potV g at' gr tla kd pt wt mr (sumN gr 12) yr mn]) C dX3_startTrial_8 ml_X3_168 mf_X0_become (c_become g at' tgr tla tkd tpt twt tmr (sumN tgr 12) tyr tmn ap gr la kd pt wt mr (sumN gr 12) yr mn) ⟨rfl, rfl, (Nat.le_of_ble_eq_true rfl), (Nat.le_of_ble_eq_true rfl)⟩ rfl rfl (Nat.le_of_ble_eq_true rfl) rfl rfl 0 rfl rfl rfl [2, 1] rfl rfl rfl rfl ?_
  exact g_vret C Rr dX3_startTrial_11 ⟨rfl, rfl⟩ rfl
set_option maxHeartbeats 400000 in
set_option maxRecDepth 100000 in
theorem c_isCook (g : Gl) (ao : Nat → Nat) (ap : Nat → Nat) (ak : Nat → Nat) (at' : Nat → Nat) (au : Nat → Nat) (ae : Nat → Nat) (ay : Nat → Nat) (kp : Nat) (gr : Nat → Nat) (la : Nat → Nat) (kd : Nat → Nat) (pt : Nat → Nat) (wt : Nat → Nat) (mr : Nat → Nat) (yr : Nat) (mn : Nat) (p : Int32) (hm : mn ≤ 8) : Ct g yX3_isCook cX3_isCook 2 (some .boolean) (rk 1 22) [.ref (ao 0), .int p] (fl [spO g ao ap ak at' au ae ay kp, potV g ap gr la kd pt wt mr (sumN gr 12) yr mn]) (fun r w2 => r = some (.int (bI (inR p 0 ((mn : Int) - 1) = true))) ∧ w2 = (fl [spO g ao ap ak at' au ae ay kp, potV g ap gr la kd pt wt mr (sumN gr 12) yr mn])) := by
  refine ct_of (by decide) (Nat.le_of_ble_eq_true rfl) ?_
  intro φ C0 Rr
  have C : Cx φ g cX3_isCook 2 RX3 (rk 1 22) := C0
  show Go φ g 2 0 [(0, .ref (ao 0)), (1, .int p)] [] (fl [spO g ao ap ak at' au ae ay kp, potV g ap gr la kd pt wt mr (sumN gr 12) yr mn])
  refine g_iload_n (pc := 0) C dX3_isCook_0 rfl ?_
  refine g_iconst (pc := 1) (v := nI 0) C dX3_isCook_1 (by decide) ?_
  refine g_aload_n (pc := 2) C dX3_isCook_2 rfl ?_
  refine g_get3 (pc := 3) C dX3_isCook_3 0 rfl 0 (by decide) fl_X3_10 rfl ?_
  refine g_get0 (pc := 6) C dX3_isCook_6 1 rfl 8 (by decide) fl_X3_148 rfl ?_
  refine g_iconst (pc := 9) (v := nI 1) C dX3_isCook_9 (by decide) ?_
  refine g_isub (pc := 10) C dX3_isCook_10 ?_
  refine g_s0i (pc := 11) C dX3_isCook_11 ml_X3_52 mf_X3_isWithin (c_isWithin g p (nI 0) ((nI mn) - (nI 1))) ⟨rfl, rfl, (Nat.le_of_ble_eq_true rfl), (Nat.le_of_ble_eq_true rfl)⟩ rfl rfl (Nat.le_of_ble_eq_true rfl) ?_
  exact g_zret C Rr dX3_isCook_14 nar_bI ⟨congrArg _ (congrArg _ (bI_iff (by rw [inR_iff, Int32.le_iff_toInt_le, Int32.le_iff_toInt_le, pk_sub_toInt (by omega) (by decide), nI_toInt (by decide)]; exact Iff.rfl))), rfl⟩ rfl
