/-- one array of numbers -/
def arrM (g : Gl) (a : Nat → Nat) (ln : Nat) (f : Nat → Nat) : va_W := [(a 0, .inl (g.2.1.1, ln, .inl (fun j => nI (f j))))]
set_option maxHeartbeats 400000 in
set_option maxRecDepth 100000 in
theorem c_hasRoom (g : Gl) (a : Nat → Nat) (gr : Nat → Nat) (la : Nat → Nat) (kd : Nat → Nat) (pt : Nat → Nat) (wt : Nat → Nat) (mr : Nat → Nat) (tt : Nat) (yr : Nat) (mn : Nat) (p : Nat) (v : Nat) (hB : PB gr kd pt wt mr tt yr mn) (hp : p < 12) (hv : v ≤ 100000) : Ct g yX0_hasRoom cX0_hasRoom 3 (some .boolean) (rk 0 0) [.ref (a 0), .int (nI p), .int (nI v)] (potV g a gr la kd pt wt mr tt yr mn) (fun r w2 => r = some (.int (bI (tt - gr p + v ≤ 99999))) ∧ w2 = (potV g a gr la kd pt wt mr tt yr mn)) := by
  refine ct_of (by decide) (Nat.le_of_ble_eq_true rfl) ?_
  intro φ C0 Rr
  have C : Cx φ g cX0_hasRoom 3 RX0 (rk 0 0) := C0
  show Go φ g 3 0 [(0, .ref (a 0)), (1, .int (nI p)), (2, .int (nI v))] [] (potV g a gr la kd pt wt mr tt yr mn)
  obtain ⟨hT, hTle, hgr, hkd, hpt, hwt, hmr, hyr, hmn⟩ := id hB
  have hg : gr p ≤ tt := by rw [hT]; exact sumN_ge gr hp
  refine g_aload_n (pc := 0) C dX0_hasRoom_0 rfl ?_
  refine g_get0 (pc := 1) C dX0_hasRoom_1 0 rfl 6 (by decide) fl_X0_30 rfl ?_
  refine g_aload_n (pc := 4) C dX0_hasRoom_4 rfl ?_
  refine g_get0 (pc := 5) C dX0_hasRoom_5 0 rfl 0 (by decide) fl_X0_9 rfl ?_
  refine g_iload_n (pc := 8) C dX0_hasRoom_8 rfl ?_
  refine g_ialdM (pc := 9) C dX0_hasRoom_9 1 rfl rfl (by omega) (by decide) ?_
  have b1 := hgr p
  refine g_isubN (pc := 10) C dX0_hasRoom_10 (by omega) ?_
  refine g_iload_n (pc := 11) C dX0_hasRoom_11 rfl ?_
  refine g_iaddN (pc := 12) C dX0_hasRoom_12 ?_
  refine g_ldc (pc := 13) (v2 := nI 99999) C dX0_hasRoom_13 ck_X0_46 (by decide) ?_
  refine g_icmp_gtN (pc := 15) (tgt := 22) C dX0_hasRoom_15 (by decide) (by omega) (by omega) (fun c2 => ?_) (fun c2 => ?_)
  · refine g_iconst (pc := 22) (v := nI 0) C dX0_hasRoom_22 (by decide) ?_
    exact g_zret C Rr dX0_hasRoom_23 (by first | rfl | decide) ⟨by rw [bI_f (by omega)], rfl⟩ rfl
  · refine g_iconst (pc := 18) (v := nI 1) C dX0_hasRoom_18 (by decide) ?_
    refine g_goto (pc := 19) (tgt := 23) C dX0_hasRoom_19 (by decide) ?_
    exact g_zret C Rr dX0_hasRoom_23 (by first | rfl | decide) ⟨by rw [bI_t (by omega)], rfl⟩ rfl
set_option maxHeartbeats 400000 in
set_option maxRecDepth 100000 in
theorem c_fill (g : Gl) (a : Nat → Nat) (gr : Nat → Nat) (la : Nat → Nat) (kd : Nat → Nat) (pt : Nat → Nat) (wt : Nat → Nat) (mr : Nat → Nat) (tt : Nat) (yr : Nat) (mn : Nat) (p : Nat) (v : Nat) (hB : PB gr kd pt wt mr tt yr mn) (hp : p < 12) : Ct g yX0_fill cX0_fill 3 none (rk 0 0) [.ref (a 0), .int (nI p), .int (nI v)] (potV g a gr la kd pt wt mr tt yr mn) (fun r w2 => r = none ∧ w2 = (potV g a (updN gr p v) la kd pt wt mr (tt - gr p + v) yr mn)) := by
  refine ct_of (by decide) (Nat.le_of_ble_eq_true rfl) ?_
  intro φ C0 Rr
  have C : Cx φ g cX0_fill 3 RX0 (rk 0 0) := C0
  show Go φ g 3 0 [(0, .ref (a 0)), (1, .int (nI p)), (2, .int (nI v))] [] (potV g a gr la kd pt wt mr tt yr mn)
  obtain ⟨hT, hTle, hgr, hkd, hpt, hwt, hmr, hyr, hmn⟩ := id hB
  have hg : gr p ≤ tt := by rw [hT]; exact sumN_ge gr hp
  refine g_aload_n (pc := 0) C dX0_fill_0 rfl ?_
  refine g_dup (pc := 1) C dX0_fill_1 rfl ?_
  refine g_get0 (pc := 2) C dX0_fill_2 0 rfl 6 (by decide) fl_X0_30 rfl ?_
  refine g_iload_n (pc := 5) C dX0_fill_5 rfl ?_
  refine g_aload_n (pc := 6) C dX0_fill_6 rfl ?_
  refine g_get0 (pc := 7) C dX0_fill_7 0 rfl 0 (by decide) fl_X0_9 rfl ?_
  refine g_iload_n (pc := 10) C dX0_fill_10 rfl ?_
  refine g_ialdM (pc := 11) C dX0_fill_11 1 rfl rfl (by omega) (by decide) ?_
  have b1 := hgr p
  refine g_isub (pc := 12) C dX0_fill_12 ?_
  refine g_iadd (pc := 13) C dX0_fill_13 ?_
  refine g_top (y := nI (tt - gr p + v)) (fill_eq hg) ?_
  refine g_put0 (pc := 14) (ws2 := (potV g a gr la kd pt wt mr (tt - gr p + v) yr mn)) C dX0_fill_14 0 rfl 6 (by decide) fl_X0_30 rfl rfl rfl (Nat.le_of_ble_eq_true rfl) rfl ?_
  refine g_aload_n (pc := 17) C dX0_fill_17 rfl ?_
  refine g_get0 (pc := 18) C dX0_fill_18 0 rfl 0 (by decide) fl_X0_9 rfl ?_
  refine g_iload_n (pc := 21) C dX0_fill_21 rfl ?_
  refine g_iload_n (pc := 22) C dX0_fill_22 rfl ?_
  refine g_iastM (pc := 23) (ws2 := (potV g a (updN gr p v) la kd pt wt mr (tt - gr p + v) yr mn)) C dX0_fill_23 1 rfl rfl (by omega) (by decide) rfl ?_
  exact g_vret C Rr dX0_fill_24 ⟨rfl, rfl⟩ rfl
set_option maxHeartbeats 400000 in
set_option maxRecDepth 100000 in
theorem c_tasteOf (g : Gl) (a : Nat → Nat) (gr : Nat → Nat) (la : Nat → Nat) (kd : Nat → Nat) (pt : Nat → Nat) (wt : Nat → Nat) (mr : Nat → Nat) (tt : Nat) (yr : Nat) (mn : Nat) (p : Nat) (hB : PB gr kd pt wt mr tt yr mn) (hp : p < 12) : Ct g yX0_tasteOf cX0_tasteOf 2 (some .int) (rk 0 0) [.ref (a 0), .int (nI p)] (potV g a gr la kd pt wt mr tt yr mn) (fun r w2 => r = some (.int (nI (tasteN gr tt p))) ∧ w2 = (potV g a gr la kd pt wt mr tt yr mn)) := by
  refine ct_of (by decide) (Nat.le_of_ble_eq_true rfl) ?_
  intro φ C0 Rr
  have C : Cx φ g cX0_tasteOf 2 RX0 (rk 0 0) := C0
  show Go φ g 2 0 [(0, .ref (a 0)), (1, .int (nI p))] [] (potV g a gr la kd pt wt mr tt yr mn)
  obtain ⟨hT, hTle, hgr, hkd, hpt, hwt, hmr, hyr, hmn⟩ := id hB
  refine g_aload_n (pc := 0) C dX0_tasteOf_0 rfl ?_
  refine g_get0 (pc := 1) C dX0_tasteOf_1 0 rfl 6 (by decide) fl_X0_30 rfl ?_
  refine g_if_neN (pc := 4) (tgt := 11) C dX0_tasteOf_4 (by decide) (by omega) (fun c1 => ?_) (fun c1 => ?_)
  · refine g_sipush (pc := 11) (v := nI 1000) C dX0_tasteOf_11 (by decide) ?_
    refine g_aload_n (pc := 14) C dX0_tasteOf_14 rfl ?_
    refine g_get0 (pc := 15) C dX0_tasteOf_15 0 rfl 0 (by decide) fl_X0_9 rfl ?_
    refine g_iload_n (pc := 18) C dX0_tasteOf_18 rfl ?_
    refine g_ialdM (pc := 19) C dX0_tasteOf_19 1 rfl rfl (by omega) (by decide) ?_
    have b2 := hgr p
    refine g_imulN (pc := 20) C dX0_tasteOf_20 ?_
    refine g_aload_n (pc := 21) C dX0_tasteOf_21 rfl ?_
    refine g_get0 (pc := 22) C dX0_tasteOf_22 0 rfl 6 (by decide) fl_X0_30 rfl ?_
    refine g_idivN (pc := 25) C dX0_tasteOf_25 (by omega) (by omega) (by omega) ?_
    exact g_iret C Rr dX0_tasteOf_26 ⟨rfl, rfl⟩ rfl
  · refine g_iconst (pc := 7) (v := nI 0) C dX0_tasteOf_7 (by decide) ?_
    refine g_goto (pc := 8) (tgt := 26) C dX0_tasteOf_8 (by decide) ?_
    exact g_iret C Rr dX0_tasteOf_26 ⟨by rw [tasteN, c1, Nat.div_zero], rfl⟩ rfl
set_option maxHeartbeats 400000 in
set_option maxRecDepth 100000 in
theorem c_isVague (g : Gl) (a : Nat → Nat) (gr : Nat → Nat) (la : Nat → Nat) (kd : Nat → Nat) (pt : Nat → Nat) (wt : Nat → Nat) (mr : Nat → Nat) (tt : Nat) (yr : Nat) (mn : Nat) (hB : PB gr kd pt wt mr tt yr mn) : Ct g yX0_isVague cX0_isVague 1 (some .boolean) (rk 1 21) [.ref (a 0)] (potV g a gr la kd pt wt mr tt yr mn) (fun r w2 => r = some (.int (bI (500 < tasteN gr tt 0))) ∧ w2 = (potV g a gr la kd pt wt mr tt yr mn)) := by
  refine ct_of (by decide) (Nat.le_of_ble_eq_true rfl) ?_
  intro φ C0 Rr
  have C : Cx φ g cX0_isVague 1 RX0 (rk 1 21) := C0
  show Go φ g 1 0 [(0, .ref (a 0))] [] (potV g a gr la kd pt wt mr tt yr mn)
  obtain ⟨hT, hTle, hgr, hkd, hpt, hwt, hmr, hyr, hmn⟩ := id hB
  have ht0 : tasteN gr tt 0 < 2 ^ 31 := Nat.lt_of_le_of_lt (Nat.div_le_self _ _) (by have := hgr 0; omega)
  refine g_aload_n (pc := 0) C dX0_isVague_0 rfl ?_
  refine g_iconst (pc := 1) (v := nI 0) C dX0_isVague_1 (by decide) ?_
  refine g_vxi (pc := 2) (ws2 := (potV g a gr la kd pt wt mr tt yr mn)) C dX0_isVague_2 ml_X0_47 mf_X0_tasteOf (c_tasteOf g a gr la kd pt wt mr tt yr mn 0 hB (by omega)) ⟨rfl, rfl, (Nat.le_of_ble_eq_true rfl), (Nat.le_of_ble_eq_true rfl)⟩ rfl rfl (Nat.le_of_ble_eq_true rfl) 0 rfl rfl rfl [0, 1, 2, 3, 4, 5, 6] [] [0, 1, 2, 3, 4, 5, 6] rfl rfl rfl rfl (by decide) rfl rfl ?_
  refine g_sipush (pc := 5) (v := nI 500) C dX0_isVague_5 (by decide) ?_
  refine g_icmp_leN (pc := 8) (tgt := 15) C dX0_isVague_8 (by decide) (by omega) (by omega) (fun c1 => ?_) (fun c1 => ?_)
  · refine g_iconst (pc := 15) (v := nI 0) C dX0_isVague_15 (by decide) ?_
    exact g_zret C Rr dX0_isVague_16 (by first | rfl | decide) ⟨by rw [bI_f (by omega)], rfl⟩ rfl
  · refine g_iconst (pc := 11) (v := nI 1) C dX0_isVague_11 (by decide) ?_
    refine g_goto (pc := 12) (tgt := 16) C dX0_isVague_12 (by decide) ?_
    exact g_zret C Rr dX0_isVague_16 (by first | rfl | decide) ⟨by rw [bI_t (by omega)], rfl⟩ rfl
set_option maxHeartbeats 400000 in
set_option maxRecDepth 100000 in
theorem c_partsThere (g : Gl) (a : Nat → Nat) (gr : Nat → Nat) (la : Nat → Nat) (kd : Nat → Nat) (pt : Nat → Nat) (wt : Nat → Nat) (mr : Nat → Nat) (tt : Nat) (yr : Nat) (mn : Nat) (hB : PB gr kd pt wt mr tt yr mn) : Ct g yX0_partsThere cX0_partsThere 3 (some .int) (rk 0 0) [.ref (a 0)] (potV g a gr la kd pt wt mr tt yr mn) (fun r w2 => r = some (.int (nI (maskN gr 12))) ∧ w2 = (potV g a gr la kd pt wt mr tt yr mn)) := by
  refine ct_of (by decide) (Nat.le_of_ble_eq_true rfl) ?_
  intro φ C0 Rr
  have C : Cx φ g cX0_partsThere 3 RX0 (rk 0 0) := C0
  show Go φ g 3 0 [(0, .ref (a 0))] [] (potV g a gr la kd pt wt mr tt yr mn)
  obtain ⟨hT, hTle, hgr, hkd, hpt, hwt, hmr, hyr, hmn⟩ := id hB
  refine g_iconst (pc := 0) (v := nI 0) C dX0_partsThere_0 (by decide) ?_
  refine g_istore_n (pc := 1) (lv2 := [(0, .ref (a 0)), (1, .int (nI 0))]) C dX0_partsThere_1 rfl (Nat.le_of_ble_eq_true rfl) rfl ?_
  refine g_iconst (pc := 2) (v := nI 0) C dX0_partsThere_2 (by decide) ?_
  refine g_istore_n (pc := 3) (lv2 := [(0, .ref (a 0)), (1, .int (nI 0)), (2, .int (nI 0))]) C dX0_partsThere_3 rfl (Nat.le_of_ble_eq_true rfl) rfl ?_
  refine g_loop1 (n := 12) (fun i x => x = maskN gr i) (fun i x => [(0, .ref (a 0)), (1, .int (nI x)), (2, .int (nI i))]) (fun i x => (potV g a gr la kd pt wt mr tt yr mn)) ?_ 0 0 (by omega) rfl
  intro i x hi_i hv_i ih_i
  show Go φ g 3 4 [(0, .ref (a 0)), (1, .int (nI x)), (2, .int (nI i))] [] (potV g a gr la kd pt wt mr tt yr mn)
  have hv_i : x = maskN gr i := hv_i
  refine g_iload_n (pc := 4) C dX0_partsThere_4 rfl ?_
  refine g_bipush (pc := 5) (v := nI 12) C dX0_partsThere_5 (by decide) ?_
  refine g_icmp_geN (pc := 7) (tgt := 31) C dX0_partsThere_7 (by decide) (by omega) (by omega) (fun c1 => ?_) (fun c1 => ?_)
  · refine g_iload_n (pc := 31) C dX0_partsThere_31 rfl ?_
    exact g_iret C Rr dX0_partsThere_32 ⟨by rw [hv_i, show i = 12 by omega], rfl⟩ rfl
  · refine g_aload_n (pc := 10) C dX0_partsThere_10 rfl ?_
    refine g_get0 (pc := 11) C dX0_partsThere_11 0 rfl 0 (by decide) fl_X0_9 rfl ?_
    refine g_iload_n (pc := 14) C dX0_partsThere_14 rfl ?_
    refine g_ialdM (pc := 15) C dX0_partsThere_15 1 rfl rfl (by omega) (by decide) ?_
    have b2 := hgr i
    refine g_if_leN (pc := 16) (tgt := 25) C dX0_partsThere_16 (by decide) (by omega) (fun c3 => ?_) (fun c3 => ?_)
    · refine g_iinc (pc := 25) (v := (nI (i + 1))) (lv2 := [(0, .ref (a 0)), (1, .int (nI x)), (2, .int (nI (i + 1)))]) C dX0_partsThere_25 rfl (nI_1 _) (Nat.le_of_ble_eq_true rfl) rfl ?_
      refine g_goto (pc := 28) (tgt := 4) C dX0_partsThere_28 (by decide) ?_
      exact ih_i _ (by omega) (by rw [maskN, ← hv_i, if_neg (by omega), Nat.add_zero])
    · refine g_iload_n (pc := 19) C dX0_partsThere_19 rfl ?_
      refine g_iconst (pc := 20) (v := nI 1) C dX0_partsThere_20 (by decide) ?_
      refine g_iload_n (pc := 21) C dX0_partsThere_21 rfl ?_
      refine g_ishl (pc := 22) C dX0_partsThere_22 ?_
      refine g_ior (pc := 23) C dX0_partsThere_23 ?_
      refine g_top (y := nI (x + 2 ^ i)) (nI_setbit (by rw [hv_i]; exact maskN_lt gr i) (by omega)) ?_
      refine g_istore_n (pc := 24) (lv2 := [(0, .ref (a 0)), (1, .int (nI (x + 2 ^ i))), (2, .int (nI i))]) C dX0_partsThere_24 rfl (Nat.le_of_ble_eq_true rfl) rfl ?_
      refine g_iinc (pc := 25) (v := (nI (i + 1))) (lv2 := [(0, .ref (a 0)), (1, .int (nI (x + 2 ^ i))), (2, .int (nI (i + 1)))]) C dX0_partsThere_25 rfl (nI_1 _) (Nat.le_of_ble_eq_true rfl) rfl ?_
      refine g_goto (pc := 28) (tgt := 4) C dX0_partsThere_28 (by decide) ?_
      exact ih_i _ (by omega) (by rw [maskN, ← hv_i, if_pos c3])
set_option maxHeartbeats 400000 in
set_option maxRecDepth 100000 in
theorem c_fullestPart (g : Gl) (a : Nat → Nat) (gr : Nat → Nat) (la : Nat → Nat) (kd : Nat → Nat) (pt : Nat → Nat) (wt : Nat → Nat) (mr : Nat → Nat) (tt : Nat) (yr : Nat) (mn : Nat) (hB : PB gr kd pt wt mr tt yr mn) : Ct g yX0_fullestPart cX0_fullestPart 3 (some .int) (rk 0 0) [.ref (a 0)] (potV g a gr la kd pt wt mr tt yr mn) (fun r w2 => r = some (.int (nI (mostN gr 12))) ∧ w2 = (potV g a gr la kd pt wt mr tt yr mn)) := by
  refine ct_of (by decide) (Nat.le_of_ble_eq_true rfl) ?_
  intro φ C0 Rr
  have C : Cx φ g cX0_fullestPart 3 RX0 (rk 0 0) := C0
  show Go φ g 3 0 [(0, .ref (a 0))] [] (potV g a gr la kd pt wt mr tt yr mn)
  obtain ⟨hT, hTle, hgr, hkd, hpt, hwt, hmr, hyr, hmn⟩ := id hB
  refine g_iconst (pc := 0) (v := nI 0) C dX0_fullestPart_0 (by decide) ?_
  refine g_istore_n (pc := 1) (lv2 := [(0, .ref (a 0)), (1, .int (nI 0))]) C dX0_fullestPart_1 rfl (Nat.le_of_ble_eq_true rfl) rfl ?_
  refine g_iconst (pc := 2) (v := nI 1) C dX0_fullestPart_2 (by decide) ?_
  refine g_istore_n (pc := 3) (lv2 := [(0, .ref (a 0)), (1, .int (nI 0)), (2, .int (nI 1))]) C dX0_fullestPart_3 rfl (Nat.le_of_ble_eq_true rfl) rfl ?_
  refine g_loop1 (n := 12) (fun i x => 1 ≤ i ∧ x = mostN gr i) (fun i x => [(0, .ref (a 0)), (1, .int (nI x)), (2, .int (nI i))]) (fun i x => (potV g a gr la kd pt wt mr tt yr mn)) ?_ 1 0 (by omega) ⟨by decide, by rw [mostN]; split <;> rfl⟩
  intro i x hi_i hv_i ih_i
  show Go φ g 3 4 [(0, .ref (a 0)), (1, .int (nI x)), (2, .int (nI i))] [] (potV g a gr la kd pt wt mr tt yr mn)
  have hv_i : 1 ≤ i ∧ x = mostN gr i := hv_i
  have hx : x < i := by rw [hv_i.2]; exact mostN_lt gr i (by omega)
  refine g_iload_n (pc := 4) C dX0_fullestPart_4 rfl ?_
  refine g_bipush (pc := 5) (v := nI 12) C dX0_fullestPart_5 (by decide) ?_
  refine g_icmp_geN (pc := 7) (tgt := 33) C dX0_fullestPart_7 (by decide) (by omega) (by omega) (fun c1 => ?_) (fun c1 => ?_)
  · refine g_iload_n (pc := 33) C dX0_fullestPart_33 rfl ?_
    exact g_iret C Rr dX0_fullestPart_34 ⟨by rw [hv_i.2, show i = 12 by omega], rfl⟩ rfl
  · refine g_aload_n (pc := 10) C dX0_fullestPart_10 rfl ?_
    refine g_get0 (pc := 11) C dX0_fullestPart_11 0 rfl 0 (by decide) fl_X0_9 rfl ?_
    refine g_iload_n (pc := 14) C dX0_fullestPart_14 rfl ?_
    refine g_ialdM (pc := 15) C dX0_fullestPart_15 1 rfl rfl (by omega) (by decide) ?_
    have b2 := hgr i
    refine g_aload_n (pc := 16) C dX0_fullestPart_16 rfl ?_
    refine g_get0 (pc := 17) C dX0_fullestPart_17 0 rfl 0 (by decide) fl_X0_9 rfl ?_
    refine g_iload_n (pc := 20) C dX0_fullestPart_20 rfl ?_
    refine g_ialdM (pc := 21) C dX0_fullestPart_21 1 rfl rfl (by omega) (by decide) ?_
    have b3 := hgr x
    refine g_icmp_leN (pc := 22) (tgt := 27) C dX0_fullestPart_22 (by decide) (by omega) (by omega) (fun c4 => ?_) (fun c4 => ?_)
    · refine g_iinc (pc := 27) (v := (nI (i + 1))) (lv2 := [(0, .ref (a 0)), (1, .int (nI x)), (2, .int (nI (i + 1)))]) C dX0_fullestPart_27 rfl (nI_1 _) (Nat.le_of_ble_eq_true rfl) rfl ?_
      refine g_goto (pc := 30) (tgt := 4) C dX0_fullestPart_30 (by decide) ?_
      exact ih_i _ (by omega) ⟨by omega, by rw [mostN, ← hv_i.2, if_neg (by omega)]⟩
    · refine g_iload_n (pc := 25) C dX0_fullestPart_25 rfl ?_
      refine g_istore_n (pc := 26) (lv2 := [(0, .ref (a 0)), (1, .int (nI i)), (2, .int (nI i))]) C dX0_fullestPart_26 rfl (Nat.le_of_ble_eq_true rfl) rfl ?_
      refine g_iinc (pc := 27) (v := (nI (i + 1))) (lv2 := [(0, .ref (a 0)), (1, .int (nI i)), (2, .int (nI (i + 1)))]) C dX0_fullestPart_27 rfl (nI_1 _) (Nat.le_of_ble_eq_true rfl) rfl ?_
      refine g_goto (pc := 30) (tgt := 4) C dX0_fullestPart_30 (by decide) ?_
      exact ih_i _ (by omega) ⟨by omega, by rw [mostN, ← hv_i.2, if_pos c4]⟩
set_option maxHeartbeats 400000 in
set_option maxRecDepth 100000 in
theorem c_leastTaste (g : Gl) (a : Nat → Nat) (gr : Nat → Nat) (la : Nat → Nat) (kd : Nat → Nat) (pt : Nat → Nat) (wt : Nat → Nat) (mr : Nat → Nat) (tt : Nat) (yr : Nat) (mn : Nat) (s : Nat) (hB : PB gr kd pt wt mr tt yr mn) (hs : s < 4096) : Ct g yX0_leastTaste cX0_leastTaste 4 (some .int) (rk 1 22) [.ref (a 0), .int (nI s)] (potV g a gr la kd pt wt mr tt yr mn) (fun r w2 => r = some (.int (nI (leastN gr tt s 12))) ∧ w2 = (potV g a gr la kd pt wt mr tt yr mn)) := by
  refine ct_of (by decide) (Nat.le_of_ble_eq_true rfl) ?_
  intro φ C0 Rr
  have C : Cx φ g cX0_leastTaste 4 RX0 (rk 1 22) := C0
  show Go φ g 4 0 [(0, .ref (a 0)), (1, .int (nI s))] [] (potV g a gr la kd pt wt mr tt yr mn)
  obtain ⟨hT, hTle, hgr, hkd, hpt, hwt, hmr, hyr, hmn⟩ := id hB
  have htp : ∀ q, tasteN gr tt q < 2 ^ 31 := fun q => Nat.lt_of_le_of_lt (Nat.div_le_self _ _) (by have := hgr q; omega)
  refine g_iload_n (pc := 0) C dX0_leastTaste_0 rfl ?_
  refine g_if_neN (pc := 1) (tgt := 8) C dX0_leastTaste_1 (by decide) (by omega) (fun c1 => ?_) (fun c1 => ?_)
  · refine g_sipush (pc := 8) (v := nI 1000) C dX0_leastTaste_8 (by decide) ?_
    refine g_istore_n (pc := 11) (lv2 := [(0, .ref (a 0)), (1, .int (nI s)), (2, .int (nI 1000))]) C dX0_leastTaste_11 rfl (Nat.le_of_ble_eq_true rfl) rfl ?_
    refine g_iconst (pc := 12) (v := nI 0) C dX0_leastTaste_12 (by decide) ?_
    refine g_istore_n (pc := 13) (lv2 := [(0, .ref (a 0)), (1, .int (nI s)), (2, .int (nI 1000)), (3, .int (nI 0))]) C dX0_leastTaste_13 rfl (Nat.le_of_ble_eq_true rfl) rfl ?_
    refine g_loop1 (n := 12) (fun i x => x = leastN gr tt s i) (fun i x => [(0, .ref (a 0)), (1, .int (nI s)), (2, .int (nI x)), (3, .int (nI i))]) (fun i x => (potV g a gr la kd pt wt mr tt yr mn)) ?_ 0 1000 (by omega) (by rw [leastN, if_neg c1])
    intro i x hi_i hv_i ih_i
    show Go φ g 4 14 [(0, .ref (a 0)), (1, .int (nI s)), (2, .int (nI x)), (3, .int (nI i))] [] (potV g a gr la kd pt wt mr tt yr mn)
    have hv_i : x = leastN gr tt s i := hv_i
    have hx : x ≤ 1000 := by rw [hv_i]; exact leastN_le gr tt s i
    have hb := htp i
    refine g_iload_n (pc := 14) C dX0_leastTaste_14 rfl ?_
    refine g_bipush (pc := 15) (v := nI 12) C dX0_leastTaste_15 (by decide) ?_
    refine g_icmp_geN (pc := 17) (tgt := 45) C dX0_leastTaste_17 (by decide) (by omega) (by omega) (fun c2 => ?_) (fun c2 => ?_)
    · refine g_iload_n (pc := 45) C dX0_leastTaste_45 rfl ?_
      exact g_iret C Rr dX0_leastTaste_46 ⟨by rw [hv_i, show i = 12 by omega], rfl⟩ rfl
    · refine g_iload_n (pc := 20) C dX0_leastTaste_20 rfl ?_
      refine g_iload_n (pc := 21) C dX0_leastTaste_21 rfl ?_
      refine g_ishr (pc := 22) C dX0_leastTaste_22 ?_
      refine g_iconst (pc := 23) (v := nI 1) C dX0_leastTaste_23 (by decide) ?_
      refine g_iand (pc := 24) C dX0_leastTaste_24 ?_
      refine g_top (y := nI (s / 2 ^ i % 2)) (nI_bit (by omega) (by omega)) ?_
      refine g_iconst (pc := 25) (v := nI 1) C dX0_leastTaste_25 (by decide) ?_
      refine g_icmp_neN (pc := 26) (tgt := 39) C dX0_leastTaste_26 (by decide) (by omega) (by omega) (fun c3 => ?_) (fun c3 => ?_)
      · refine g_iinc (pc := 39) (v := (nI (i + 1))) (lv2 := [(0, .ref (a 0)), (1, .int (nI s)), (2, .int (nI x)), (3, .int (nI (i + 1)))]) C dX0_leastTaste_39 rfl (nI_1 _) (Nat.le_of_ble_eq_true rfl) rfl ?_
        refine g_goto (pc := 42) (tgt := 14) C dX0_leastTaste_42 (by decide) ?_
        exact ih_i _ (by omega) (by rw [leastN, ← hv_i, if_neg c3])
      · refine g_iload_n (pc := 29) C dX0_leastTaste_29 rfl ?_
        refine g_aload_n (pc := 30) C dX0_leastTaste_30 rfl ?_
        refine g_iload_n (pc := 31) C dX0_leastTaste_31 rfl ?_
        refine g_vxi (pc := 32) (ws2 := (potV g a gr la kd pt wt mr tt yr mn)) C dX0_leastTaste_32 ml_X0_47 mf_X0_tasteOf (c_tasteOf g a gr la kd pt wt mr tt yr mn i hB (by omega)) ⟨rfl, rfl, (Nat.le_of_ble_eq_true rfl), (Nat.le_of_ble_eq_true rfl)⟩ rfl rfl (Nat.le_of_ble_eq_true rfl) 0 rfl rfl rfl [0, 1, 2, 3, 4, 5, 6] [] [0, 1, 2, 3, 4, 5, 6] rfl rfl rfl rfl (by decide) rfl rfl ?_
        refine g_mminN (pc := 35) C dX0_leastTaste_35 ml_X0_51 (Nat.le_of_ble_eq_true rfl) (Nat.le_of_ble_eq_true rfl) (by omega) (by omega) ?_
        refine g_istore_n (pc := 38) (lv2 := [(0, .ref (a 0)), (1, .int (nI s)), (2, .int (nI (min x (tasteN gr tt i)))), (3, .int (nI i))]) C dX0_leastTaste_38 rfl (Nat.le_of_ble_eq_true rfl) rfl ?_
        refine g_iinc (pc := 39) (v := (nI (i + 1))) (lv2 := [(0, .ref (a 0)), (1, .int (nI s)), (2, .int (nI (min x (tasteN gr tt i)))), (3, .int (nI (i + 1)))]) C dX0_leastTaste_39 rfl (nI_1 _) (Nat.le_of_ble_eq_true rfl) rfl ?_
        refine g_goto (pc := 42) (tgt := 14) C dX0_leastTaste_42 (by decide) ?_
        exact ih_i _ (by omega) (by rw [leastN, ← hv_i, if_pos c3])
  · refine g_iconst (pc := 4) (v := nI 0) C dX0_leastTaste_4 (by decide) ?_
    refine g_goto (pc := 5) (tgt := 11) C dX0_leastTaste_5 (by decide) ?_
    refine g_istore_n (pc := 11) (lv2 := [(0, .ref (a 0)), (1, .int (nI s)), (2, .int (nI 0))]) C dX0_leastTaste_11 rfl (Nat.le_of_ble_eq_true rfl) rfl ?_
    refine g_iconst (pc := 12) (v := nI 0) C dX0_leastTaste_12 (by decide) ?_
    refine g_istore_n (pc := 13) (lv2 := [(0, .ref (a 0)), (1, .int (nI s)), (2, .int (nI 0)), (3, .int (nI 0))]) C dX0_leastTaste_13 rfl (Nat.le_of_ble_eq_true rfl) rfl ?_
    refine g_loop1 (n := 12) (fun i x => x = leastN gr tt s i) (fun i x => [(0, .ref (a 0)), (1, .int (nI s)), (2, .int (nI x)), (3, .int (nI i))]) (fun i x => (potV g a gr la kd pt wt mr tt yr mn)) ?_ 0 0 (by omega) (by rw [leastN, if_pos c1])
    intro i x hi_i hv_i ih_i
    show Go φ g 4 14 [(0, .ref (a 0)), (1, .int (nI s)), (2, .int (nI x)), (3, .int (nI i))] [] (potV g a gr la kd pt wt mr tt yr mn)
    have hv_i : x = leastN gr tt s i := hv_i
    have hx : x ≤ 1000 := by rw [hv_i]; exact leastN_le gr tt s i
    have hb := htp i
    refine g_iload_n (pc := 14) C dX0_leastTaste_14 rfl ?_
    refine g_bipush (pc := 15) (v := nI 12) C dX0_leastTaste_15 (by decide) ?_
    refine g_icmp_geN (pc := 17) (tgt := 45) C dX0_leastTaste_17 (by decide) (by omega) (by omega) (fun c4 => ?_) (fun c4 => ?_)
    · refine g_iload_n (pc := 45) C dX0_leastTaste_45 rfl ?_
      exact g_iret C Rr dX0_leastTaste_46 ⟨by rw [hv_i, show i = 12 by omega], rfl⟩ rfl
    · refine g_iload_n (pc := 20) C dX0_leastTaste_20 rfl ?_
      refine g_iload_n (pc := 21) C dX0_leastTaste_21 rfl ?_
      refine g_ishr (pc := 22) C dX0_leastTaste_22 ?_
      refine g_iconst (pc := 23) (v := nI 1) C dX0_leastTaste_23 (by decide) ?_
      refine g_iand (pc := 24) C dX0_leastTaste_24 ?_
      refine g_top (y := nI (s / 2 ^ i % 2)) (nI_bit (by omega) (by omega)) ?_
      refine g_iconst (pc := 25) (v := nI 1) C dX0_leastTaste_25 (by decide) ?_
      refine g_icmp_neN (pc := 26) (tgt := 39) C dX0_leastTaste_26 (by decide) (by omega) (by omega) (fun c5 => ?_) (fun c5 => ?_)
      · refine g_iinc (pc := 39) (v := (nI (i + 1))) (lv2 := [(0, .ref (a 0)), (1, .int (nI s)), (2, .int (nI x)), (3, .int (nI (i + 1)))]) C dX0_leastTaste_39 rfl (nI_1 _) (Nat.le_of_ble_eq_true rfl) rfl ?_
        refine g_goto (pc := 42) (tgt := 14) C dX0_leastTaste_42 (by decide) ?_
        exact ih_i _ (by omega) (by rw [leastN, ← hv_i, if_neg c5])
      · refine g_iload_n (pc := 29) C dX0_leastTaste_29 rfl ?_
        refine g_aload_n (pc := 30) C dX0_leastTaste_30 rfl ?_
        refine g_iload_n (pc := 31) C dX0_leastTaste_31 rfl ?_
        refine g_vxi (pc := 32) (ws2 := (potV g a gr la kd pt wt mr tt yr mn)) C dX0_leastTaste_32 ml_X0_47 mf_X0_tasteOf (c_tasteOf g a gr la kd pt wt mr tt yr mn i hB (by omega)) ⟨rfl, rfl, (Nat.le_of_ble_eq_true rfl), (Nat.le_of_ble_eq_true rfl)⟩ rfl rfl (Nat.le_of_ble_eq_true rfl) 0 rfl rfl rfl [0, 1, 2, 3, 4, 5, 6] [] [0, 1, 2, 3, 4, 5, 6] rfl rfl rfl rfl (by decide) rfl rfl ?_
        refine g_mminN (pc := 35) C dX0_leastTaste_35 ml_X0_51 (Nat.le_of_ble_eq_true rfl) (Nat.le_of_ble_eq_true rfl) (by omega) (by omega) ?_
        refine g_istore_n (pc := 38) (lv2 := [(0, .ref (a 0)), (1, .int (nI s)), (2, .int (nI (min x (tasteN gr tt i)))), (3, .int (nI i))]) C dX0_leastTaste_38 rfl (Nat.le_of_ble_eq_true rfl) rfl ?_
        refine g_iinc (pc := 39) (v := (nI (i + 1))) (lv2 := [(0, .ref (a 0)), (1, .int (nI s)), (2, .int (nI (min x (tasteN gr tt i)))), (3, .int (nI (i + 1)))]) C dX0_leastTaste_39 rfl (nI_1 _) (Nat.le_of_ble_eq_true rfl) rfl ?_
        refine g_goto (pc := 42) (tgt := 14) C dX0_leastTaste_42 (by decide) ?_
        exact ih_i _ (by omega) (by rw [leastN, ← hv_i, if_pos c5])
set_option maxHeartbeats 400000 in
set_option maxRecDepth 100000 in
theorem c_isStaffed (g : Gl) (a : Nat → Nat) (gr : Nat → Nat) (la : Nat → Nat) (kd : Nat → Nat) (pt : Nat → Nat) (wt : Nat → Nat) (mr : Nat → Nat) (tt : Nat) (yr : Nat) (mn : Nat) (hB : PB gr kd pt wt mr tt yr mn) : Ct g yX0_isStaffed cX0_isStaffed 1 (some .boolean) (rk 0 0) [.ref (a 0)] (potV g a gr la kd pt wt mr tt yr mn) (fun r w2 => r = some (.int (bI (8 ≤ mn))) ∧ w2 = (potV g a gr la kd pt wt mr tt yr mn)) := by
  refine ct_of (by decide) (Nat.le_of_ble_eq_true rfl) ?_
  intro φ C0 Rr
  have C : Cx φ g cX0_isStaffed 1 RX0 (rk 0 0) := C0
  show Go φ g 1 0 [(0, .ref (a 0))] [] (potV g a gr la kd pt wt mr tt yr mn)
  obtain ⟨hT, hTle, hgr, hkd, hpt, hwt, hmr, hyr, hmn⟩ := id hB
  refine g_aload_n (pc := 0) C dX0_isStaffed_0 rfl ?_
  refine g_get0 (pc := 1) C dX0_isStaffed_1 0 rfl 8 (by decide) fl_X0_43 rfl ?_
  refine g_bipush (pc := 4) (v := nI 8) C dX0_isStaffed_4 (by decide) ?_
  refine g_icmp_ltN (pc := 6) (tgt := 13) C dX0_isStaffed_6 (by decide) (by omega) (by omega) (fun c1 => ?_) (fun c1 => ?_)
  · refine g_iconst (pc := 13) (v := nI 0) C dX0_isStaffed_13 (by decide) ?_
    exact g_zret C Rr dX0_isStaffed_14 (by first | rfl | decide) ⟨by rw [bI_f (by omega)], rfl⟩ rfl
  · refine g_iconst (pc := 9) (v := nI 1) C dX0_isStaffed_9 (by decide) ?_
    refine g_goto (pc := 10) (tgt := 14) C dX0_isStaffed_10 (by decide) ?_
    exact g_zret C Rr dX0_isStaffed_14 (by first | rfl | decide) ⟨by rw [bI_t (by omega)], rfl⟩ rfl
set_option maxHeartbeats 400000 in
set_option maxRecDepth 100000 in
theorem c_hire (g : Gl) (a : Nat → Nat) (gr : Nat → Nat) (la : Nat → Nat) (kd : Nat → Nat) (pt : Nat → Nat) (wt : Nat → Nat) (mr : Nat → Nat) (tt : Nat) (yr : Nat) (mn : Nat) (k : Nat) (hB : PB gr kd pt wt mr tt yr mn) (hm : mn < 8) : Ct g yX0_hire cX0_hire 2 (some .int) (rk 0 0) [.ref (a 0), .int (nI k)] (potV g a gr la kd pt wt mr tt yr mn) (fun r w2 => r = some (.int (nI mn)) ∧ w2 = (potV g a gr la (updN kd mn k) (updN pt mn 1) (updN wt mn 100) (updN mr mn 5) tt yr (mn + 1))) := by
  refine ct_of (by decide) (Nat.le_of_ble_eq_true rfl) ?_
  intro φ C0 Rr
  have C : Cx φ g cX0_hire 2 RX0 (rk 0 0) := C0
  show Go φ g 2 0 [(0, .ref (a 0)), (1, .int (nI k))] [] (potV g a gr la kd pt wt mr tt yr mn)
  obtain ⟨hT, hTle, hgr, hkd, hpt, hwt, hmr, hyr, hmn⟩ := id hB
  refine g_aload_n (pc := 0) C dX0_hire_0 rfl ?_
  refine g_get0 (pc := 1) C dX0_hire_1 0 rfl 2 (by decide) fl_X0_18 rfl ?_
  refine g_aload_n (pc := 4) C dX0_hire_4 rfl ?_
  refine g_get0 (pc := 5) C dX0_hire_5 0 rfl 8 (by decide) fl_X0_43 rfl ?_
  refine g_iload_n (pc := 8) C dX0_hire_8 rfl ?_
  refine g_iastM (pc := 9) (ws2 := (potV g a gr la (updN kd mn k) pt wt mr tt yr mn)) C dX0_hire_9 3 rfl rfl (by omega) (by decide) rfl ?_
  refine g_aload_n (pc := 10) C dX0_hire_10 rfl ?_
  refine g_get0 (pc := 11) C dX0_hire_11 0 rfl 3 (by decide) fl_X0_21 rfl ?_
  refine g_aload_n (pc := 14) C dX0_hire_14 rfl ?_
  refine g_get0 (pc := 15) C dX0_hire_15 0 rfl 8 (by decide) fl_X0_43 rfl ?_
  refine g_iconst (pc := 18) (v := nI 1) C dX0_hire_18 (by decide) ?_
  refine g_iastM (pc := 19) (ws2 := (potV g a gr la (updN kd mn k) (updN pt mn 1) wt mr tt yr mn)) C dX0_hire_19 4 rfl rfl (by omega) (by decide) rfl ?_
  refine g_aload_n (pc := 20) C dX0_hire_20 rfl ?_
  refine g_get0 (pc := 21) C dX0_hire_21 0 rfl 4 (by decide) fl_X0_24 rfl ?_
  refine g_aload_n (pc := 24) C dX0_hire_24 rfl ?_
  refine g_get0 (pc := 25) C dX0_hire_25 0 rfl 8 (by decide) fl_X0_43 rfl ?_
  refine g_bipush (pc := 28) (v := nI 100) C dX0_hire_28 (by decide) ?_
  refine g_iastM (pc := 30) (ws2 := (potV g a gr la (updN kd mn k) (updN pt mn 1) (updN wt mn 100) mr tt yr mn)) C dX0_hire_30 5 rfl rfl (by omega) (by decide) rfl ?_
  refine g_aload_n (pc := 31) C dX0_hire_31 rfl ?_
  refine g_get0 (pc := 32) C dX0_hire_32 0 rfl 5 (by decide) fl_X0_27 rfl ?_
  refine g_aload_n (pc := 35) C dX0_hire_35 rfl ?_
  refine g_get0 (pc := 36) C dX0_hire_36 0 rfl 8 (by decide) fl_X0_43 rfl ?_
  refine g_iconst (pc := 39) (v := nI 5) C dX0_hire_39 (by decide) ?_
  refine g_iastM (pc := 40) (ws2 := (potV g a gr la (updN kd mn k) (updN pt mn 1) (updN wt mn 100) (updN mr mn 5) tt yr mn)) C dX0_hire_40 6 rfl rfl (by omega) (by decide) rfl ?_
  refine g_aload_n (pc := 41) C dX0_hire_41 rfl ?_
  refine g_dup (pc := 42) C dX0_hire_42 rfl ?_
  refine g_get0 (pc := 43) C dX0_hire_43 0 rfl 8 (by decide) fl_X0_43 rfl ?_
  refine g_iconst (pc := 46) (v := nI 1) C dX0_hire_46 (by decide) ?_
  refine g_iaddN (pc := 47) C dX0_hire_47 ?_
  refine g_put0 (pc := 48) (ws2 := (potV g a gr la (updN kd mn k) (updN pt mn 1) (updN wt mn 100) (updN mr mn 5) tt yr (mn + 1))) C dX0_hire_48 0 rfl 8 (by decide) fl_X0_43 rfl rfl rfl (Nat.le_of_ble_eq_true rfl) rfl ?_
  refine g_aload_n (pc := 51) C dX0_hire_51 rfl ?_
  refine g_get0 (pc := 52) C dX0_hire_52 0 rfl 8 (by decide) fl_X0_43 rfl ?_
  refine g_iconst (pc := 55) (v := nI 1) C dX0_hire_55 (by decide) ?_
  refine g_isubN (pc := 56) C dX0_hire_56 (by omega) ?_
  refine g_top (y := nI mn) (by rw [Nat.add_sub_cancel]) ?_
  exact g_iret C Rr dX0_hire_57 ⟨rfl, rfl⟩ rfl
set_option maxHeartbeats 400000 in
set_option maxRecDepth 100000 in
theorem c_exchangeIn (g : Gl) (a : Nat → Nat) (ln : Nat) (f : Nat → Nat) (i : Nat) (j : Nat) (hi : i < ln) (hj : j < ln) (hl : ln < 2 ^ 31) : Ct g yX0_exchangeIn cX0_exchangeIn 4 none (rk 0 0) [.ref (a 0), .int (nI i), .int (nI j)] (arrM g a ln f) (fun r w2 => r = none ∧ w2 = (arrM g a ln (exchN f i j))) := by
  refine ct_of (by decide) (Nat.le_of_ble_eq_true rfl) ?_
  intro φ C0 Rr
  have C : Cx φ g cX0_exchangeIn 4 RX0 (rk 0 0) := C0
  show Go φ g 4 0 [(0, .ref (a 0)), (1, .int (nI i)), (2, .int (nI j))] [] (arrM g a ln f)
  refine g_aload_n (pc := 0) C dX0_exchangeIn_0 rfl ?_
  refine g_iload_n (pc := 1) C dX0_exchangeIn_1 rfl ?_
  refine g_ialdM (pc := 2) C dX0_exchangeIn_2 0 rfl rfl (by omega) hl ?_
  refine g_istore_n (pc := 3) (lv2 := [(0, .ref (a 0)), (1, .int (nI i)), (2, .int (nI j)), (3, .int (nI (f i)))]) C dX0_exchangeIn_3 rfl (Nat.le_of_ble_eq_true rfl) rfl ?_
  refine g_aload_n (pc := 4) C dX0_exchangeIn_4 rfl ?_
  refine g_iload_n (pc := 5) C dX0_exchangeIn_5 rfl ?_
  refine g_aload_n (pc := 6) C dX0_exchangeIn_6 rfl ?_
  refine g_iload_n (pc := 7) C dX0_exchangeIn_7 rfl ?_
  refine g_ialdM (pc := 8) C dX0_exchangeIn_8 0 rfl rfl (by omega) hl ?_
  refine g_iastM (pc := 9) (ws2 := (arrM g a ln (updN f i (f j)))) C dX0_exchangeIn_9 0 rfl rfl (by omega) hl rfl ?_
  refine g_aload_n (pc := 10) C dX0_exchangeIn_10 rfl ?_
  refine g_iload_n (pc := 11) C dX0_exchangeIn_11 rfl ?_
  refine g_iload_n (pc := 12) C dX0_exchangeIn_12 rfl ?_
  refine g_iastM (pc := 13) (ws2 := (arrM g a ln (updN (updN f i (f j)) j (f i)))) C dX0_exchangeIn_13 0 rfl rfl (by omega) hl rfl ?_
  exact g_vret C Rr dX0_exchangeIn_14 ⟨rfl, rfl⟩ rfl
set_option maxHeartbeats 400000 in
set_option maxRecDepth 100000 in
theorem c_exchange (g : Gl) (a : Nat → Nat) (gr : Nat → Nat) (la : Nat → Nat) (kd : Nat → Nat) (pt : Nat → Nat) (wt : Nat → Nat) (mr : Nat → Nat) (tt : Nat) (yr : Nat) (mn : Nat) (c : Nat) (o : Nat) (hc : c < 8) (ho : o < 8) : Ct g yX0_exchange cX0_exchange 3 none (rk 1 23) [.ref (a 0), .int (nI c), .int (nI o)] (potV g a gr la kd pt wt mr tt yr mn) (fun r w2 => r = none ∧ w2 = (potV g a gr la (exchN kd c o) (exchN pt c o) (exchN wt c o) (exchN mr c o) tt yr mn)) := by
  refine ct_of (by decide) (Nat.le_of_ble_eq_true rfl) ?_
  intro φ C0 Rr
  have C : Cx φ g cX0_exchange 3 RX0 (rk 1 23) := C0
  show Go φ g 3 0 [(0, .ref (a 0)), (1, .int (nI c)), (2, .int (nI o))] [] (potV g a gr la kd pt wt mr tt yr mn)
  refine g_aload_n (pc := 0) C dX0_exchange_0 rfl ?_
  refine g_get0 (pc := 1) C dX0_exchange_1 0 rfl 2 (by decide) fl_X0_18 rfl ?_
  refine g_iload_n (pc := 4) C dX0_exchange_4 rfl ?_
  refine g_iload_n (pc := 5) C dX0_exchange_5 rfl ?_
  refine g_sxn (pc := 6) (ws2 := (potV g a gr la (exchN kd c o) pt wt mr tt yr mn)) C dX0_exchange_6 ml_X0_60 mf_X0_exchangeIn (c_exchangeIn g (fun _ => (a 3)) 8 kd c o (by omega) (by omega) (by decide)) ⟨rfl, rfl, (Nat.le_of_ble_eq_true rfl), (Nat.le_of_ble_eq_true rfl)⟩ rfl rfl (Nat.le_of_ble_eq_true rfl) [3] [0, 1, 2, 4, 5, 6] [0, 1, 2, 6, 3, 4, 5] rfl rfl rfl rfl (by decide) rfl rfl ?_
  refine g_aload_n (pc := 9) C dX0_exchange_9 rfl ?_
  refine g_get0 (pc := 10) C dX0_exchange_10 0 rfl 3 (by decide) fl_X0_21 rfl ?_
  refine g_iload_n (pc := 13) C dX0_exchange_13 rfl ?_
  refine g_iload_n (pc := 14) C dX0_exchange_14 rfl ?_
  refine g_sxn (pc := 15) (ws2 := (potV g a gr la (exchN kd c o) (exchN pt c o) wt mr tt yr mn)) C dX0_exchange_15 ml_X0_60 mf_X0_exchangeIn (c_exchangeIn g (fun _ => (a 4)) 8 pt c o (by omega) (by omega) (by decide)) ⟨rfl, rfl, (Nat.le_of_ble_eq_true rfl), (Nat.le_of_ble_eq_true rfl)⟩ rfl rfl (Nat.le_of_ble_eq_true rfl) [4] [0, 1, 2, 3, 5, 6] [0, 1, 2, 3, 6, 4, 5] rfl rfl rfl rfl (by decide) rfl rfl ?_
  refine g_aload_n (pc := 18) C dX0_exchange_18 rfl ?_
  refine g_get0 (pc := 19) C dX0_exchange_19 0 rfl 4 (by decide) fl_X0_24 rfl ?_
  refine g_iload_n (pc := 22) C dX0_exchange_22 rfl ?_
  refine g_iload_n (pc := 23) C dX0_exchange_23 rfl ?_
  refine g_sxn (pc := 24) (ws2 := (potV g a gr la (exchN kd c o) (exchN pt c o) (exchN wt c o) mr tt yr mn)) C dX0_exchange_24 ml_X0_60 mf_X0_exchangeIn (c_exchangeIn g (fun _ => (a 5)) 8 wt c o (by omega) (by omega) (by decide)) ⟨rfl, rfl, (Nat.le_of_ble_eq_true rfl), (Nat.le_of_ble_eq_true rfl)⟩ rfl rfl (Nat.le_of_ble_eq_true rfl) [5] [0, 1, 2, 3, 4, 6] [0, 1, 2, 3, 4, 6, 5] rfl rfl rfl rfl (by decide) rfl rfl ?_
  refine g_aload_n (pc := 27) C dX0_exchange_27 rfl ?_
  refine g_get0 (pc := 28) C dX0_exchange_28 0 rfl 5 (by decide) fl_X0_27 rfl ?_
  refine g_iload_n (pc := 31) C dX0_exchange_31 rfl ?_
  refine g_iload_n (pc := 32) C dX0_exchange_32 rfl ?_
  refine g_sxn (pc := 33) (ws2 := (potV g a gr la (exchN kd c o) (exchN pt c o) (exchN wt c o) (exchN mr c o) tt yr mn)) C dX0_exchange_33 ml_X0_60 mf_X0_exchangeIn (c_exchangeIn g (fun _ => (a 6)) 8 mr c o (by omega) (by omega) (by decide)) ⟨rfl, rfl, (Nat.le_of_ble_eq_true rfl), (Nat.le_of_ble_eq_true rfl)⟩ rfl rfl (Nat.le_of_ble_eq_true rfl) [6] [0, 1, 2, 3, 4, 5] [0, 1, 2, 3, 4, 5, 6] rfl rfl rfl rfl (by decide) rfl rfl ?_
  exact g_vret C Rr dX0_exchange_36 ⟨rfl, rfl⟩ rfl
set_option maxHeartbeats 400000 in
set_option maxRecDepth 100000 in
theorem c_waterAllBut (g : Gl) (a : Nat → Nat) (gr : Nat → Nat) (la : Nat → Nat) (kd : Nat → Nat) (pt : Nat → Nat) (wt : Nat → Nat) (mr : Nat → Nat) (tt : Nat) (yr : Nat) (mn : Nat) (c : Nat) (hB : PB gr kd pt wt mr tt yr mn) (hc : c < 8) : Ct g yX0_waterAllBut cX0_waterAllBut 3 none (rk 0 0) [.ref (a 0), .int (nI c)] (potV g a gr la kd pt wt mr tt yr mn) (fun r w2 => r = none ∧ w2 = (potV g a gr la kd (waterN pt mn c) wt mr tt yr mn)) := by
  refine ct_of (by decide) (Nat.le_of_ble_eq_true rfl) ?_
  intro φ C0 Rr
  have C : Cx φ g cX0_waterAllBut 3 RX0 (rk 0 0) := C0
  show Go φ g 3 0 [(0, .ref (a 0)), (1, .int (nI c))] [] (potV g a gr la kd pt wt mr tt yr mn)
  obtain ⟨hT, hTle, hgr, hkd, hpt, hwt, hmr, hyr, hmn⟩ := id hB
  refine g_iconst (pc := 0) (v := nI 0) C dX0_waterAllBut_0 (by decide) ?_
  refine g_istore_n (pc := 1) (lv2 := [(0, .ref (a 0)), (1, .int (nI c)), (2, .int (nI 0))]) C dX0_waterAllBut_1 rfl (Nat.le_of_ble_eq_true rfl) rfl ?_
  refine g_loop1 (n := mn) (fun i f => ∀ j, f j = if j < i ∧ j ≠ c then 0 else pt j) (fun i f => [(0, .ref (a 0)), (1, .int (nI c)), (2, .int (nI i))]) (fun i f => (potV g a gr la kd f wt mr tt yr mn)) ?_ 0 pt (by omega) (fun j => by rw [if_neg (by omega)])
  intro i f hi_i hv_i ih_i
  show Go φ g 3 2 [(0, .ref (a 0)), (1, .int (nI c)), (2, .int (nI i))] [] (potV g a gr la kd f wt mr tt yr mn)
  have hv_i : ∀ j, f j = if j < i ∧ j ≠ c then 0 else pt j := hv_i
  refine g_iload_n (pc := 2) C dX0_waterAllBut_2 rfl ?_
  refine g_aload_n (pc := 3) C dX0_waterAllBut_3 rfl ?_
  refine g_get0 (pc := 4) C dX0_waterAllBut_4 0 rfl 8 (by decide) fl_X0_43 rfl ?_
  refine g_icmp_geN (pc := 7) (tgt := 28) C dX0_waterAllBut_7 (by decide) (by omega) (by omega) (fun c1 => ?_) (fun c1 => ?_)
  · exact g_vret C Rr dX0_waterAllBut_28 ⟨rfl, by rw [show f = waterN pt mn c from funext (fun j => by rw [hv_i j, show i = mn by omega]; rfl)]⟩ rfl
  · refine g_iload_n (pc := 10) C dX0_waterAllBut_10 rfl ?_
    refine g_iload_n (pc := 11) C dX0_waterAllBut_11 rfl ?_
    refine g_icmp_eqN (pc := 12) (tgt := 22) C dX0_waterAllBut_12 (by decide) (by omega) (by omega) (fun c2 => ?_) (fun c2 => ?_)
    · refine g_iinc (pc := 22) (v := (nI (i + 1))) (lv2 := [(0, .ref (a 0)), (1, .int (nI c)), (2, .int (nI (i + 1)))]) C dX0_waterAllBut_22 rfl (nI_1 _) (Nat.le_of_ble_eq_true rfl) rfl ?_
      refine g_goto (pc := 25) (tgt := 2) C dX0_waterAllBut_25 (by decide) ?_
      exact ih_i _ (by omega) (fun j => by
        rw [hv_i j]
        by_cases e : j = i
        · rw [if_neg (by omega), if_neg (by omega)]
        · simp only [show (j < i ∧ j ≠ c) ↔ (j < i + 1 ∧ j ≠ c) by omega])
    · refine g_aload_n (pc := 15) C dX0_waterAllBut_15 rfl ?_
      refine g_get0 (pc := 16) C dX0_waterAllBut_16 0 rfl 3 (by decide) fl_X0_21 rfl ?_
      refine g_iload_n (pc := 19) C dX0_waterAllBut_19 rfl ?_
      refine g_iconst (pc := 20) (v := nI 0) C dX0_waterAllBut_20 (by decide) ?_
      refine g_iastM (pc := 21) (ws2 := (potV g a gr la kd (updN f i 0) wt mr tt yr mn)) C dX0_waterAllBut_21 4 rfl rfl (by omega) (by decide) rfl ?_
      refine g_iinc (pc := 22) (v := (nI (i + 1))) (lv2 := [(0, .ref (a 0)), (1, .int (nI c)), (2, .int (nI (i + 1)))]) C dX0_waterAllBut_22 rfl (nI_1 _) (Nat.le_of_ble_eq_true rfl) rfl ?_
      refine g_goto (pc := 25) (tgt := 2) C dX0_waterAllBut_25 (by decide) ?_
      exact ih_i _ (by omega) (fun j => by
        by_cases e : j = i
        · rw [e, updN_s, if_pos (by omega)]
        · rw [updN_n e, hv_i j]
          simp only [show (j < i ∧ j ≠ c) ↔ (j < i + 1 ∧ j ≠ c) by omega])
set_option maxHeartbeats 400000 in
set_option maxRecDepth 100000 in
theorem c_weightOfAll (g : Gl) (a : Nat → Nat) (gr : Nat → Nat) (la : Nat → Nat) (kd : Nat → Nat) (pt : Nat → Nat) (wt : Nat → Nat) (mr : Nat → Nat) (tt : Nat) (yr : Nat) (mn : Nat) (hB : PB gr kd pt wt mr tt yr mn) : Ct g yX0_weightOfAll cX0_weightOfAll 3 (some .int) (rk 0 0) [.ref (a 0)] (potV g a gr la kd pt wt mr tt yr mn) (fun r w2 => r = some (.int (nI (sumN wt mn))) ∧ w2 = (potV g a gr la kd pt wt mr tt yr mn)) := by
  refine ct_of (by decide) (Nat.le_of_ble_eq_true rfl) ?_
  intro φ C0 Rr
  have C : Cx φ g cX0_weightOfAll 3 RX0 (rk 0 0) := C0
  show Go φ g 3 0 [(0, .ref (a 0))] [] (potV g a gr la kd pt wt mr tt yr mn)
  obtain ⟨hT, hTle, hgr, hkd, hpt, hwt, hmr, hyr, hmn⟩ := id hB
  refine g_iconst (pc := 0) (v := nI 0) C dX0_weightOfAll_0 (by decide) ?_
  refine g_istore_n (pc := 1) (lv2 := [(0, .ref (a 0)), (1, .int (nI 0))]) C dX0_weightOfAll_1 rfl (Nat.le_of_ble_eq_true rfl) rfl ?_
  refine g_iconst (pc := 2) (v := nI 0) C dX0_weightOfAll_2 (by decide) ?_
  refine g_istore_n (pc := 3) (lv2 := [(0, .ref (a 0)), (1, .int (nI 0)), (2, .int (nI 0))]) C dX0_weightOfAll_3 rfl (Nat.le_of_ble_eq_true rfl) rfl ?_
  refine g_loop0 (n := mn) (fun i => True) (fun i => [(0, .ref (a 0)), (1, .int (nI (sumN wt i))), (2, .int (nI i))]) (fun i => (potV g a gr la kd pt wt mr tt yr mn)) ?_ 0 (by omega) trivial
  intro i hi_i hv_i ih_i
  show Go φ g 3 4 [(0, .ref (a 0)), (1, .int (nI (sumN wt i))), (2, .int (nI i))] [] (potV g a gr la kd pt wt mr tt yr mn)
  refine g_iload_n (pc := 4) C dX0_weightOfAll_4 rfl ?_
  refine g_aload_n (pc := 5) C dX0_weightOfAll_5 rfl ?_
  refine g_get0 (pc := 6) C dX0_weightOfAll_6 0 rfl 8 (by decide) fl_X0_43 rfl ?_
  refine g_icmp_geN (pc := 9) (tgt := 27) C dX0_weightOfAll_9 (by decide) (by omega) (by omega) (fun c1 => ?_) (fun c1 => ?_)
  · refine g_iload_n (pc := 27) C dX0_weightOfAll_27 rfl ?_
    exact g_iret C Rr dX0_weightOfAll_28 ⟨by rw [show i = mn by omega], rfl⟩ rfl
  · refine g_iload_n (pc := 12) C dX0_weightOfAll_12 rfl ?_
    refine g_aload_n (pc := 13) C dX0_weightOfAll_13 rfl ?_
    refine g_get0 (pc := 14) C dX0_weightOfAll_14 0 rfl 4 (by decide) fl_X0_24 rfl ?_
    refine g_iload_n (pc := 17) C dX0_weightOfAll_17 rfl ?_
    refine g_ialdM (pc := 18) C dX0_weightOfAll_18 5 rfl rfl (by omega) (by decide) ?_
    have b2 := hwt i
    refine g_iaddN (pc := 19) C dX0_weightOfAll_19 ?_
    refine g_istore_n (pc := 20) (lv2 := [(0, .ref (a 0)), (1, .int (nI ((sumN wt i) + (wt i)))), (2, .int (nI i))]) C dX0_weightOfAll_20 rfl (Nat.le_of_ble_eq_true rfl) rfl ?_
    refine g_iinc (pc := 21) (v := (nI (i + 1))) (lv2 := [(0, .ref (a 0)), (1, .int (nI ((sumN wt i) + (wt i)))), (2, .int (nI (i + 1)))]) C dX0_weightOfAll_21 rfl (nI_1 _) (Nat.le_of_ble_eq_true rfl) rfl ?_
    refine g_goto (pc := 24) (tgt := 4) C dX0_weightOfAll_24 (by decide) ?_
    exact ih_i (by omega) trivial
set_option maxHeartbeats 400000 in
set_option maxRecDepth 100000 in
theorem c_whoseTurn (g : Gl) (a : Nat → Nat) (gr : Nat → Nat) (la : Nat → Nat) (kd : Nat → Nat) (pt : Nat → Nat) (wt : Nat → Nat) (mr : Nat → Nat) (tt : Nat) (yr : Nat) (mn : Nat) (hB : PB gr kd pt wt mr tt yr mn) : Ct g yX0_whoseTurn cX0_whoseTurn 1 (some .int) (rk 0 0) [.ref (a 0)] (potV g a gr la kd pt wt mr tt yr mn) (fun r w2 => r = some (.int (if mn = 0 then (-1) else nI (yr % mn))) ∧ w2 = (potV g a gr la kd pt wt mr tt yr mn)) := by
  refine ct_of (by decide) (Nat.le_of_ble_eq_true rfl) ?_
  intro φ C0 Rr
  have C : Cx φ g cX0_whoseTurn 1 RX0 (rk 0 0) := C0
  show Go φ g 1 0 [(0, .ref (a 0))] [] (potV g a gr la kd pt wt mr tt yr mn)
  obtain ⟨hT, hTle, hgr, hkd, hpt, hwt, hmr, hyr, hmn⟩ := id hB
  refine g_aload_n (pc := 0) C dX0_whoseTurn_0 rfl ?_
  refine g_get0 (pc := 1) C dX0_whoseTurn_1 0 rfl 8 (by decide) fl_X0_43 rfl ?_
  refine g_if_neN (pc := 4) (tgt := 11) C dX0_whoseTurn_4 (by decide) (by omega) (fun c1 => ?_) (fun c1 => ?_)
  · refine g_aload_n (pc := 11) C dX0_whoseTurn_11 rfl ?_
    refine g_get0 (pc := 12) C dX0_whoseTurn_12 0 rfl 7 (by decide) fl_X0_40 rfl ?_
    refine g_aload_n (pc := 15) C dX0_whoseTurn_15 rfl ?_
    refine g_get0 (pc := 16) C dX0_whoseTurn_16 0 rfl 8 (by decide) fl_X0_43 rfl ?_
    refine g_iremN (pc := 19) C dX0_whoseTurn_19 (by omega) (by omega) (by omega) ?_
    exact g_iret C Rr dX0_whoseTurn_20 ⟨by rw [if_neg c1], rfl⟩ rfl
  · refine g_iconst (pc := 7) (v := -1) C dX0_whoseTurn_7 (by decide) ?_
    refine g_goto (pc := 8) (tgt := 20) C dX0_whoseTurn_8 (by decide) ?_
    exact g_iret C Rr dX0_whoseTurn_20 ⟨by rw [if_pos c1], rfl⟩ rfl
set_option maxHeartbeats 400000 in
set_option maxRecDepth 100000 in
theorem c_wantsBy (g : Gl) (a : Nat → Nat) (gr : Nat → Nat) (la : Nat → Nat) (kd : Nat → Nat) (pt : Nat → Nat) (wt : Nat → Nat) (mr : Nat → Nat) (tt : Nat) (yr : Nat) (mn : Nat) (c : Nat) (hB : PB gr kd pt wt mr tt yr mn) (hc : c < 8) : Ct g yX0_wantsBy cX0_wantsBy 3 (some .int) (rk 0 0) [.ref (a 0), .int (nI c)] (potV g a gr la kd pt wt mr tt yr mn) (fun r w2 => r = some (.int (nI (wantsN kd wt yr c))) ∧ w2 = (potV g a gr la kd pt wt mr tt yr mn)) := by
  refine ct_of (by decide) (Nat.le_of_ble_eq_true rfl) ?_
  intro φ C0 Rr
  have C : Cx φ g cX0_wantsBy 3 RX0 (rk 0 0) := C0
  show Go φ g 3 0 [(0, .ref (a 0)), (1, .int (nI c))] [] (potV g a gr la kd pt wt mr tt yr mn)
  obtain ⟨hT, hTle, hgr, hkd, hpt, hwt, hmr, hyr, hmn⟩ := id hB
  refine g_aload_n (pc := 0) C dX0_wantsBy_0 rfl ?_
  refine g_get0 (pc := 1) C dX0_wantsBy_1 0 rfl 4 (by decide) fl_X0_24 rfl ?_
  refine g_iload_n (pc := 4) C dX0_wantsBy_4 rfl ?_
  refine g_ialdM (pc := 5) C dX0_wantsBy_5 5 rfl rfl (by omega) (by decide) ?_
  have b1 := hwt c
  refine g_istore_n (pc := 6) (lv2 := [(0, .ref (a 0)), (1, .int (nI c)), (2, .int (nI (wt c)))]) C dX0_wantsBy_6 rfl (Nat.le_of_ble_eq_true rfl) rfl ?_
  refine g_aload_n (pc := 7) C dX0_wantsBy_7 rfl ?_
  refine g_get0 (pc := 8) C dX0_wantsBy_8 0 rfl 2 (by decide) fl_X0_18 rfl ?_
  refine g_iload_n (pc := 11) C dX0_wantsBy_11 rfl ?_
  refine g_ialdM (pc := 12) C dX0_wantsBy_12 3 rfl rfl (by omega) (by decide) ?_
  have b2 := hkd c
  by_cases c3 : kd c = 1
  · refine g_top (congrArg nI c3) (g_tableIn (pc := 13) (off := 35) (tgt := 48) C dX0_wantsBy_13 (by decide) (by decide) (by decide) (by decide) ?_)
    refine g_iload_n (pc := 48) C dX0_wantsBy_48 rfl ?_
    refine g_iconst (pc := 49) (v := nI 2) C dX0_wantsBy_49 (by decide) ?_
    refine g_idivN (pc := 50) C dX0_wantsBy_50 (by omega) (by omega) (by omega) ?_
    exact g_iret C Rr dX0_wantsBy_51 ⟨by simp [wantsN, c3], rfl⟩ rfl
  by_cases c4 : kd c = 2
  · refine g_top (congrArg nI c4) (g_tableIn (pc := 13) (off := 39) (tgt := 52) C dX0_wantsBy_13 (by decide) (by decide) (by decide) (by decide) ?_)
    refine g_iload_n (pc := 52) C dX0_wantsBy_52 rfl ?_
    refine g_bipush (pc := 53) (v := nI 50) C dX0_wantsBy_53 (by decide) ?_
    refine g_iaddN (pc := 55) C dX0_wantsBy_55 ?_
    exact g_iret C Rr dX0_wantsBy_56 ⟨by simp [wantsN, c3, c4], rfl⟩ rfl
  by_cases c5 : kd c = 3
  · refine g_top (congrArg nI c5) (g_tableIn (pc := 13) (off := 69) (tgt := 82) C dX0_wantsBy_13 (by decide) (by decide) (by decide) (by decide) ?_)
    refine g_iload_n (pc := 82) C dX0_wantsBy_82 rfl ?_
    exact g_iret C Rr dX0_wantsBy_83 ⟨by simp [wantsN, c3, c4, c5], rfl⟩ rfl
  by_cases c6 : kd c = 4
  · refine g_top (congrArg nI c6) (g_tableIn (pc := 13) (off := 44) (tgt := 57) C dX0_wantsBy_13 (by decide) (by decide) (by decide) (by decide) ?_)
    refine g_aload_n (pc := 57) C dX0_wantsBy_57 rfl ?_
    refine g_get0 (pc := 58) C dX0_wantsBy_58 0 rfl 7 (by decide) fl_X0_40 rfl ?_
    refine g_bipush (pc := 61) (v := nI 7) C dX0_wantsBy_61 (by decide) ?_
    refine g_iremN (pc := 63) C dX0_wantsBy_63 (by omega) (by omega) (by omega) ?_
    refine g_if_neN (pc := 64) (tgt := 71) C dX0_wantsBy_64 (by decide) (by omega) (fun c7 => ?_) (fun c7 => ?_)
    · refine g_iload_n (pc := 71) C dX0_wantsBy_71 rfl ?_
      refine g_iconst (pc := 72) (v := nI 2) C dX0_wantsBy_72 (by decide) ?_
      refine g_idivN (pc := 73) C dX0_wantsBy_73 (by omega) (by omega) (by omega) ?_
      exact g_iret C Rr dX0_wantsBy_74 ⟨by simp [wantsN, c3, c4, c5, c6, c7], rfl⟩ rfl
    · refine g_iconst (pc := 67) (v := nI 0) C dX0_wantsBy_67 (by decide) ?_
      refine g_goto (pc := 68) (tgt := 74) C dX0_wantsBy_68 (by decide) ?_
      exact g_iret C Rr dX0_wantsBy_74 ⟨by simp [wantsN, c3, c4, c5, c6, c7], rfl⟩ rfl
  by_cases c8 : kd c = 5
  · refine g_top (congrArg nI c8) (g_tableIn (pc := 13) (off := 62) (tgt := 75) C dX0_wantsBy_13 (by decide) (by decide) (by decide) (by decide) ?_)
    refine g_iconst (pc := 75) (v := nI 2) C dX0_wantsBy_75 (by decide) ?_
    refine g_iload_n (pc := 76) C dX0_wantsBy_76 rfl ?_
    refine g_bipush (pc := 77) (v := nI 50) C dX0_wantsBy_77 (by decide) ?_
    refine g_iaddN (pc := 79) C dX0_wantsBy_79 ?_
    refine g_imulN (pc := 80) C dX0_wantsBy_80 ?_
    exact g_iret C Rr dX0_wantsBy_81 ⟨by simp [wantsN, c3, c4, c5, c6, c8], rfl⟩ rfl
  refine g_tableOut (pc := 13) (tgt := 82) C dX0_wantsBy_13 (by rw [nI_toInt (by omega)]; omega) (by decide) ?_
  refine g_iload_n (pc := 82) C dX0_wantsBy_82 rfl ?_
  exact g_iret C Rr dX0_wantsBy_83 ⟨by simp [wantsN, c3, c4, c5, c6, c8], rfl⟩ rfl
set_option maxHeartbeats 400000 in
set_option maxRecDepth 100000 in
theorem c_takesBy (g : Gl) (a : Nat → Nat) (gr : Nat → Nat) (la : Nat → Nat) (kd : Nat → Nat) (pt : Nat → Nat) (wt : Nat → Nat) (mr : Nat → Nat) (tt : Nat) (yr : Nat) (mn : Nat) (c : Nat) (hB : PB gr kd pt wt mr tt yr mn) (hc : c < 8) : Ct g yX0_takesBy cX0_takesBy 2 (some .int) (rk 1 22) [.ref (a 0), .int (nI c)] (potV g a gr la kd pt wt mr tt yr mn) (fun r w2 => r = some (.int (nI (min (wantsN kd wt yr c) tt))) ∧ w2 = (potV g a gr la kd pt wt mr tt yr mn)) := by
  refine ct_of (by decide) (Nat.le_of_ble_eq_true rfl) ?_
  intro φ C0 Rr
  have C : Cx φ g cX0_takesBy 2 RX0 (rk 1 22) := C0
  show Go φ g 2 0 [(0, .ref (a 0)), (1, .int (nI c))] [] (potV g a gr la kd pt wt mr tt yr mn)
  obtain ⟨hT, hTle, hgr, hkd, hpt, hwt, hmr, hyr, hmn⟩ := id hB
  have hw := wantsN_le (kd := kd) (yr := yr) (hwt c)
  refine g_aload_n (pc := 0) C dX0_takesBy_0 rfl ?_
  refine g_iload_n (pc := 1) C dX0_takesBy_1 rfl ?_
  refine g_vxi (pc := 2) (ws2 := (potV g a gr la kd pt wt mr tt yr mn)) C dX0_takesBy_2 ml_X0_64 mf_X0_wantsBy (c_wantsBy g a gr la kd pt wt mr tt yr mn c hB (by omega)) ⟨rfl, rfl, (Nat.le_of_ble_eq_true rfl), (Nat.le_of_ble_eq_true rfl)⟩ rfl rfl (Nat.le_of_ble_eq_true rfl) 0 rfl rfl rfl [0, 1, 2, 3, 4, 5, 6] [] [0, 1, 2, 3, 4, 5, 6] rfl rfl rfl rfl (by decide) rfl rfl ?_
  refine g_aload_n (pc := 5) C dX0_takesBy_5 rfl ?_
  refine g_get0 (pc := 6) C dX0_takesBy_6 0 rfl 6 (by decide) fl_X0_30 rfl ?_
  refine g_mminN (pc := 9) C dX0_takesBy_9 ml_X0_51 (Nat.le_of_ble_eq_true rfl) (Nat.le_of_ble_eq_true rfl) (by omega) (by omega) ?_
  exact g_iret C Rr dX0_takesBy_12 ⟨rfl, rfl⟩ rfl
set_option maxHeartbeats 400000 in
set_option maxRecDepth 100000 in
theorem c_putsBy (g : Gl) (a : Nat → Nat) (gr : Nat → Nat) (la : Nat → Nat) (kd : Nat → Nat) (pt : Nat → Nat) (wt : Nat → Nat) (mr : Nat → Nat) (tt : Nat) (yr : Nat) (mn : Nat) (c : Nat) (t : Nat) (hB : PB gr kd pt wt mr tt yr mn) (hc : c < 8) (ht : t ≤ 100000) : Ct g yX0_putsBy cX0_putsBy 4 (some .int) (rk 1 13) [.ref (a 0), .int (nI c), .int (nI t)] (potV g a gr la kd pt wt mr tt yr mn) (fun r w2 => r = some (.int (nI (putsN kd mr c t))) ∧ w2 = (potV g a gr la kd pt wt mr tt yr mn)) := by
  refine ct_of (by decide) (Nat.le_of_ble_eq_true rfl) ?_
  intro φ C0 Rr
  have C : Cx φ g cX0_putsBy 4 RX0 (rk 1 13) := C0
  show Go φ g 4 0 [(0, .ref (a 0)), (1, .int (nI c)), (2, .int (nI t))] [] (potV g a gr la kd pt wt mr tt yr mn)
  obtain ⟨hT, hTle, hgr, hkd, hpt, hwt, hmr, hyr, hmn⟩ := id hB
  refine g_iload_n (pc := 0) C dX0_putsBy_0 rfl ?_
  refine g_aload_n (pc := 1) C dX0_putsBy_1 rfl ?_
  refine g_get0 (pc := 2) C dX0_putsBy_2 0 rfl 5 (by decide) fl_X0_27 rfl ?_
  refine g_iload_n (pc := 5) C dX0_putsBy_5 rfl ?_
  refine g_ialdM (pc := 6) C dX0_putsBy_6 6 rfl rfl (by omega) (by decide) ?_
  have b1 := hmr c
  refine g_iaddN (pc := 7) C dX0_putsBy_7 ?_
  refine g_istore_n (pc := 8) (lv2 := [(0, .ref (a 0)), (1, .int (nI c)), (2, .int (nI t)), (3, .int (nI (t + (mr c))))]) C dX0_putsBy_8 rfl (Nat.le_of_ble_eq_true rfl) rfl ?_
  refine g_aload_n (pc := 9) C dX0_putsBy_9 rfl ?_
  refine g_get0 (pc := 10) C dX0_putsBy_10 0 rfl 2 (by decide) fl_X0_18 rfl ?_
  refine g_iload_n (pc := 13) C dX0_putsBy_13 rfl ?_
  refine g_ialdM (pc := 14) C dX0_putsBy_14 3 rfl rfl (by omega) (by decide) ?_
  have b2 := hkd c
  by_cases c3 : kd c = 2
  · refine g_top (congrArg nI c3) (g_tableIn (pc := 15) (off := 29) (tgt := 44) C dX0_putsBy_15 (by decide) (by decide) (by decide) (by decide) ?_)
    refine g_iload_n (pc := 44) C dX0_putsBy_44 rfl ?_
    refine g_iload_n (pc := 45) C dX0_putsBy_45 rfl ?_
    refine g_bipush (pc := 46) (v := nI 10) C dX0_putsBy_46 (by decide) ?_
    refine g_idivN (pc := 48) C dX0_putsBy_48 (by omega) (by omega) (by omega) ?_
    refine g_iaddN (pc := 49) C dX0_putsBy_49 ?_
    exact g_iret C Rr dX0_putsBy_50 ⟨by simp [putsN, c3], rfl⟩ rfl
  by_cases c4 : kd c = 3
  · refine g_top (congrArg nI c4) (g_tableIn (pc := 15) (off := 36) (tgt := 51) C dX0_putsBy_15 (by decide) (by decide) (by decide) (by decide) ?_)
    refine g_iload_n (pc := 51) C dX0_putsBy_51 rfl ?_
    exact g_iret C Rr dX0_putsBy_52 ⟨by simp [putsN, c3, c4], rfl⟩ rfl
  by_cases c5 : kd c = 4
  · refine g_top (congrArg nI c5) (g_tableIn (pc := 15) (off := 38) (tgt := 53) C dX0_putsBy_15 (by decide) (by decide) (by decide) (by decide) ?_)
    refine g_iload_n (pc := 53) C dX0_putsBy_53 rfl ?_
    refine g_iconst (pc := 54) (v := nI 5) C dX0_putsBy_54 (by decide) ?_
    refine g_isub (pc := 55) C dX0_putsBy_55 ?_
    refine g_iconst (pc := 56) (v := nI 0) C dX0_putsBy_56 (by decide) ?_
    refine g_mmax (pc := 57) C dX0_putsBy_57 ml_X0_67 (Nat.le_of_ble_eq_true rfl) (Nat.le_of_ble_eq_true rfl) ?_
    refine g_top (y := nI (t + mr c - 5)) (nI_max0 (by omega) (by omega)) ?_
    exact g_iret C Rr dX0_putsBy_60 ⟨by simp [putsN, c3, c4, c5], rfl⟩ rfl
  by_cases c6 : kd c = 5
  · refine g_top (congrArg nI c6) (g_tableIn (pc := 15) (off := 46) (tgt := 61) C dX0_putsBy_15 (by decide) (by decide) (by decide) (by decide) ?_)
    refine g_iload_n (pc := 61) C dX0_putsBy_61 rfl ?_
    refine g_iload_n (pc := 62) C dX0_putsBy_62 rfl ?_
    refine g_bipush (pc := 63) (v := nI 10) C dX0_putsBy_63 (by decide) ?_
    refine g_idivN (pc := 65) C dX0_putsBy_65 (by omega) (by omega) (by omega) ?_
    refine g_iaddN (pc := 66) C dX0_putsBy_66 ?_
    refine g_iload_n (pc := 67) C dX0_putsBy_67 rfl ?_
    refine g_iconst (pc := 68) (v := nI 2) C dX0_putsBy_68 (by decide) ?_
    refine g_idivN (pc := 69) C dX0_putsBy_69 (by omega) (by omega) (by omega) ?_
    refine g_isub (pc := 70) C dX0_putsBy_70 ?_
    refine g_iconst (pc := 71) (v := nI 0) C dX0_putsBy_71 (by decide) ?_
    refine g_mmax (pc := 72) C dX0_putsBy_72 ml_X0_67 (Nat.le_of_ble_eq_true rfl) (Nat.le_of_ble_eq_true rfl) ?_
    refine g_top (y := nI (t + mr c + t / 10 - t / 2)) (nI_max0 (by omega) (by omega)) ?_
    exact g_iret C Rr dX0_putsBy_75 ⟨by simp [putsN, c3, c4, c5, c6], rfl⟩ rfl
  refine g_tableOut (pc := 15) (tgt := 76) C dX0_putsBy_15 (by rw [nI_toInt (by omega)]; omega) (by decide) ?_
  refine g_iload_n (pc := 76) C dX0_putsBy_76 rfl ?_
  exact g_iret C Rr dX0_putsBy_77 ⟨by simp [putsN, c3, c4, c5, c6], rfl⟩ rfl
set_option maxHeartbeats 400000 in
set_option maxRecDepth 100000 in
theorem c_partPutBy (g : Gl) (a : Nat → Nat) (gr : Nat → Nat) (la : Nat → Nat) (kd : Nat → Nat) (pt : Nat → Nat) (wt : Nat → Nat) (mr : Nat → Nat) (tt : Nat) (yr : Nat) (mn : Nat) (c : Nat) (hB : PB gr kd pt wt mr tt yr mn) (hc : c < 8) : Ct g yX0_partPutBy cX0_partPutBy 2 (some .int) (rk 0 0) [.ref (a 0), .int (nI c)] (potV g a gr la kd pt wt mr tt yr mn) (fun r w2 => r = some (.int (nI (whatN kd pt tt yr c))) ∧ w2 = (potV g a gr la kd pt wt mr tt yr mn)) := by
  refine ct_of (by decide) (Nat.le_of_ble_eq_true rfl) ?_
  intro φ C0 Rr
  have C : Cx φ g cX0_partPutBy 2 RX0 (rk 0 0) := C0
  show Go φ g 2 0 [(0, .ref (a 0)), (1, .int (nI c))] [] (potV g a gr la kd pt wt mr tt yr mn)
  obtain ⟨hT, hTle, hgr, hkd, hpt, hwt, hmr, hyr, hmn⟩ := id hB
  refine g_aload_n (pc := 0) C dX0_partPutBy_0 rfl ?_
  refine g_get0 (pc := 1) C dX0_partPutBy_1 0 rfl 2 (by decide) fl_X0_18 rfl ?_
  refine g_iload_n (pc := 4) C dX0_partPutBy_4 rfl ?_
  refine g_ialdM (pc := 5) C dX0_partPutBy_5 3 rfl rfl (by omega) (by decide) ?_
  have b1 := hkd c
  by_cases c2 : kd c = 3
  · refine g_top (congrArg nI c2) (g_tableIn (pc := 6) (off := 26) (tgt := 32) C dX0_partPutBy_6 (by decide) (by decide) (by decide) (by decide) ?_)
    refine g_iconst (pc := 32) (v := nI 0) C dX0_partPutBy_32 (by decide) ?_
    exact g_iret C Rr dX0_partPutBy_33 ⟨by first | (simp [whatN, c2]; done) | (simp [whatN, c2, Nat.not_lt.mpr c2]), rfl⟩ rfl
  by_cases c3 : kd c = 4
  · refine g_top (congrArg nI c3) (g_tableIn (pc := 6) (off := 28) (tgt := 34) C dX0_partPutBy_6 (by decide) (by decide) (by decide) (by decide) ?_)
    refine g_aload_n (pc := 34) C dX0_partPutBy_34 rfl ?_
    refine g_get0 (pc := 35) C dX0_partPutBy_35 0 rfl 7 (by decide) fl_X0_40 rfl ?_
    refine g_iconst (pc := 38) (v := nI 5) C dX0_partPutBy_38 (by decide) ?_
    refine g_iremN (pc := 39) C dX0_partPutBy_39 (by omega) (by omega) (by omega) ?_
    refine g_if_neN (pc := 40) (tgt := 47) C dX0_partPutBy_40 (by decide) (by omega) (fun c4 => ?_) (fun c4 => ?_)
    · refine g_aload_n (pc := 47) C dX0_partPutBy_47 rfl ?_
      refine g_get0 (pc := 48) C dX0_partPutBy_48 0 rfl 3 (by decide) fl_X0_21 rfl ?_
      refine g_iload_n (pc := 51) C dX0_partPutBy_51 rfl ?_
      refine g_ialdM (pc := 52) C dX0_partPutBy_52 4 rfl rfl (by omega) (by decide) ?_
      have b5 := hpt c
      exact g_iret C Rr dX0_partPutBy_53 ⟨by first | (simp [whatN, c2, c3, c4]; done) | (simp [whatN, c2, c3, c4, Nat.not_lt.mpr c4]), rfl⟩ rfl
    · refine g_iconst (pc := 43) (v := nI 3) C dX0_partPutBy_43 (by decide) ?_
      refine g_goto (pc := 44) (tgt := 53) C dX0_partPutBy_44 (by decide) ?_
      exact g_iret C Rr dX0_partPutBy_53 ⟨by first | (simp [whatN, c2, c3, c4]; done) | (simp [whatN, c2, c3, c4, Nat.not_lt.mpr c4]), rfl⟩ rfl
  by_cases c6 : kd c = 5
  · refine g_top (congrArg nI c6) (g_tableIn (pc := 6) (off := 48) (tgt := 54) C dX0_partPutBy_6 (by decide) (by decide) (by decide) (by decide) ?_)
    refine g_aload_n (pc := 54) C dX0_partPutBy_54 rfl ?_
    refine g_get0 (pc := 55) C dX0_partPutBy_55 0 rfl 6 (by decide) fl_X0_30 rfl ?_
    refine g_sipush (pc := 58) (v := nI 500) C dX0_partPutBy_58 (by decide) ?_
    refine g_icmp_geN (pc := 61) (tgt := 69) C dX0_partPutBy_61 (by decide) (by omega) (by omega) (fun c7 => ?_) (fun c7 => ?_)
    · refine g_aload_n (pc := 69) C dX0_partPutBy_69 rfl ?_
      refine g_get0 (pc := 70) C dX0_partPutBy_70 0 rfl 3 (by decide) fl_X0_21 rfl ?_
      refine g_iload_n (pc := 73) C dX0_partPutBy_73 rfl ?_
      refine g_ialdM (pc := 74) C dX0_partPutBy_74 4 rfl rfl (by omega) (by decide) ?_
      have b8 := hpt c
      exact g_iret C Rr dX0_partPutBy_75 ⟨by first | (simp [whatN, c2, c3, c6, c7]; done) | (simp [whatN, c2, c3, c6, c7, Nat.not_lt.mpr c7]), rfl⟩ rfl
    · refine g_bipush (pc := 64) (v := nI 11) C dX0_partPutBy_64 (by decide) ?_
      refine g_goto (pc := 66) (tgt := 75) C dX0_partPutBy_66 (by decide) ?_
      exact g_iret C Rr dX0_partPutBy_75 ⟨by first | (simp [whatN, c2, c3, c6, c7]; done) | (simp [whatN, c2, c3, c6, c7, Nat.not_lt.mpr c7]), rfl⟩ rfl
  refine g_tableOut (pc := 6) (tgt := 76) C dX0_partPutBy_6 (by rw [nI_toInt (by omega)]; omega) (by decide) ?_
  refine g_aload_n (pc := 76) C dX0_partPutBy_76 rfl ?_
  refine g_get0 (pc := 77) C dX0_partPutBy_77 0 rfl 3 (by decide) fl_X0_21 rfl ?_
  refine g_iload_n (pc := 80) C dX0_partPutBy_80 rfl ?_
  refine g_ialdM (pc := 81) C dX0_partPutBy_81 4 rfl rfl (by omega) (by decide) ?_
  have b9 := hpt c
  exact g_iret C Rr dX0_partPutBy_82 ⟨by first | (simp [whatN, c2, c3, c6]; done) | (simp [whatN, c2, c3, c6, Nat.not_lt.mpr c6]), rfl⟩ rfl
set_option maxHeartbeats 400000 in
set_option maxRecDepth 100000 in
theorem c_become (g : Gl) (a : Nat → Nat) (gr : Nat → Nat) (la : Nat → Nat) (kd : Nat → Nat) (pt : Nat → Nat) (wt : Nat → Nat) (mr : Nat → Nat) (tt : Nat) (yr : Nat) (mn : Nat) (b : Nat → Nat) (gr' : Nat → Nat) (la' : Nat → Nat) (kd' : Nat → Nat) (pt' : Nat → Nat) (wt' : Nat → Nat) (mr' : Nat → Nat) (tt' : Nat) (yr' : Nat) (mn' : Nat)  : Ct g yX0_become cX0_become 2 none (rk 1 60) [.ref (a 0), .ref (b 0)] (fl [potV g a gr la kd pt wt mr tt yr mn, potV g b gr' la' kd' pt' wt' mr' tt' yr' mn']) (fun r w2 => r = none ∧ w2 = (fl [potV g a gr' la kd' pt' wt' mr' tt' yr' mn', potV g b gr' la' kd' pt' wt' mr' tt' yr' mn'])) := by
  refine ct_of (by decide) (Nat.le_of_ble_eq_true rfl) ?_
  intro φ C0 Rr
  have C : Cx φ g cX0_become 2 RX0 (rk 1 60) := C0
  show Go φ g 2 0 [(0, .ref (a 0)), (1, .ref (b 0))] [] (fl [potV g a gr la kd pt wt mr tt yr mn, potV g b gr' la' kd' pt' wt' mr' tt' yr' mn'])
  refine g_aload_n (pc := 0) C dX0_become_0 rfl ?_
  refine g_get0 (pc := 1) C dX0_become_1 7 rfl 0 (by decide) fl_X0_9 rfl ?_
  refine g_iconst (pc := 4) (v := nI 0) C dX0_become_4 (by decide) ?_
  refine g_aload_n (pc := 5) C dX0_become_5 rfl ?_
  refine g_get0 (pc := 6) C dX0_become_6 0 rfl 0 (by decide) fl_X0_9 rfl ?_
  refine g_iconst (pc := 9) (v := nI 0) C dX0_become_9 (by decide) ?_
  refine g_bipush (pc := 10) (v := nI 12) C dX0_become_10 (by decide) ?_
  refine g_copyi (pc := 12) (ws2 := _) C dX0_become_12 ml_X0_34 8 1 rfl rfl rfl rfl (by decide) (by decide) (by decide) (by decide) (by decide) (Nat.le_of_ble_eq_true rfl) (Nat.le_of_ble_eq_true rfl) rfl ?_
  refine g_arrc (q0 := 1) (f2 := fun j => nI (gr' j)) (ws2 := (fl [potV g a gr' la kd pt wt mr tt yr mn, potV g b gr' la' kd' pt' wt' mr' tt' yr' mn'])) rfl (cpy_all (by decide)) rfl ?_
  refine g_aload_n (pc := 15) C dX0_become_15 rfl ?_
  refine g_get0 (pc := 16) C dX0_become_16 7 rfl 2 (by decide) fl_X0_18 rfl ?_
  refine g_iconst (pc := 19) (v := nI 0) C dX0_become_19 (by decide) ?_
  refine g_aload_n (pc := 20) C dX0_become_20 rfl ?_
  refine g_get0 (pc := 21) C dX0_become_21 0 rfl 2 (by decide) fl_X0_18 rfl ?_
  refine g_iconst (pc := 24) (v := nI 0) C dX0_become_24 (by decide) ?_
  refine g_bipush (pc := 25) (v := nI 8) C dX0_become_25 (by decide) ?_
  refine g_copyi (pc := 27) (ws2 := _) C dX0_become_27 ml_X0_34 10 3 rfl rfl rfl rfl (by decide) (by decide) (by decide) (by decide) (by decide) (Nat.le_of_ble_eq_true rfl) (Nat.le_of_ble_eq_true rfl) rfl ?_
  refine g_arrc (q0 := 3) (f2 := fun j => nI (kd' j)) (ws2 := (fl [potV g a gr' la kd' pt wt mr tt yr mn, potV g b gr' la' kd' pt' wt' mr' tt' yr' mn'])) rfl (cpy_all (by decide)) rfl ?_
  refine g_aload_n (pc := 30) C dX0_become_30 rfl ?_
  refine g_get0 (pc := 31) C dX0_become_31 7 rfl 3 (by decide) fl_X0_21 rfl ?_
  refine g_iconst (pc := 34) (v := nI 0) C dX0_become_34 (by decide) ?_
  refine g_aload_n (pc := 35) C dX0_become_35 rfl ?_
  refine g_get0 (pc := 36) C dX0_become_36 0 rfl 3 (by decide) fl_X0_21 rfl ?_
  refine g_iconst (pc := 39) (v := nI 0) C dX0_become_39 (by decide) ?_
  refine g_bipush (pc := 40) (v := nI 8) C dX0_become_40 (by decide) ?_
  refine g_copyi (pc := 42) (ws2 := _) C dX0_become_42 ml_X0_34 11 4 rfl rfl rfl rfl (by decide) (by decide) (by decide) (by decide) (by decide) (Nat.le_of_ble_eq_true rfl) (Nat.le_of_ble_eq_true rfl) rfl ?_
  refine g_arrc (q0 := 4) (f2 := fun j => nI (pt' j)) (ws2 := (fl [potV g a gr' la kd' pt' wt mr tt yr mn, potV g b gr' la' kd' pt' wt' mr' tt' yr' mn'])) rfl (cpy_all (by decide)) rfl ?_
  refine g_aload_n (pc := 45) C dX0_become_45 rfl ?_
  refine g_get0 (pc := 46) C dX0_become_46 7 rfl 4 (by decide) fl_X0_24 rfl ?_
  refine g_iconst (pc := 49) (v := nI 0) C dX0_become_49 (by decide) ?_
  refine g_aload_n (pc := 50) C dX0_become_50 rfl ?_
  refine g_get0 (pc := 51) C dX0_become_51 0 rfl 4 (by decide) fl_X0_24 rfl ?_
  refine g_iconst (pc := 54) (v := nI 0) C dX0_become_54 (by decide) ?_
  refine g_bipush (pc := 55) (v := nI 8) C dX0_become_55 (by decide) ?_
  refine g_copyi (pc := 57) (ws2 := _) C dX0_become_57 ml_X0_34 12 5 rfl rfl rfl rfl (by decide) (by decide) (by decide) (by decide) (by decide) (Nat.le_of_ble_eq_true rfl) (Nat.le_of_ble_eq_true rfl) rfl ?_
  refine g_arrc (q0 := 5) (f2 := fun j => nI (wt' j)) (ws2 := (fl [potV g a gr' la kd' pt' wt' mr tt yr mn, potV g b gr' la' kd' pt' wt' mr' tt' yr' mn'])) rfl (cpy_all (by decide)) rfl ?_
  refine g_aload_n (pc := 60) C dX0_become_60 rfl ?_
  refine g_get0 (pc := 61) C dX0_become_61 7 rfl 5 (by decide) fl_X0_27 rfl ?_
  refine g_iconst (pc := 64) (v := nI 0) C dX0_become_64 (by decide) ?_
  refine g_aload_n (pc := 65) C dX0_become_65 rfl ?_
  refine g_get0 (pc := 66) C dX0_become_66 0 rfl 5 (by decide) fl_X0_27 rfl ?_
  refine g_iconst (pc := 69) (v := nI 0) C dX0_become_69 (by decide) ?_
  refine g_bipush (pc := 70) (v := nI 8) C dX0_become_70 (by decide) ?_
  refine g_copyi (pc := 72) (ws2 := _) C dX0_become_72 ml_X0_34 13 6 rfl rfl rfl rfl (by decide) (by decide) (by decide) (by decide) (by decide) (Nat.le_of_ble_eq_true rfl) (Nat.le_of_ble_eq_true rfl) rfl ?_
  refine g_arrc (q0 := 6) (f2 := fun j => nI (mr' j)) (ws2 := (fl [potV g a gr' la kd' pt' wt' mr' tt yr mn, potV g b gr' la' kd' pt' wt' mr' tt' yr' mn'])) rfl (cpy_all (by decide)) rfl ?_
  refine g_aload_n (pc := 75) C dX0_become_75 rfl ?_
  refine g_aload_n (pc := 76) C dX0_become_76 rfl ?_
  refine g_get0 (pc := 77) C dX0_become_77 7 rfl 6 (by decide) fl_X0_30 rfl ?_
  refine g_put0 (pc := 80) (ws2 := (fl [potV g a gr' la kd' pt' wt' mr' tt' yr mn, potV g b gr' la' kd' pt' wt' mr' tt' yr' mn'])) C dX0_become_80 0 rfl 6 (by decide) fl_X0_30 rfl rfl rfl (Nat.le_of_ble_eq_true rfl) rfl ?_
  refine g_aload_n (pc := 83) C dX0_become_83 rfl ?_
  refine g_aload_n (pc := 84) C dX0_become_84 rfl ?_
  refine g_get0 (pc := 85) C dX0_become_85 7 rfl 7 (by decide) fl_X0_40 rfl ?_
  refine g_put0 (pc := 88) (ws2 := (fl [potV g a gr' la kd' pt' wt' mr' tt' yr' mn, potV g b gr' la' kd' pt' wt' mr' tt' yr' mn'])) C dX0_become_88 0 rfl 7 (by decide) fl_X0_40 rfl rfl rfl (Nat.le_of_ble_eq_true rfl) rfl ?_
  refine g_aload_n (pc := 91) C dX0_become_91 rfl ?_
  refine g_aload_n (pc := 92) C dX0_become_92 rfl ?_
  refine g_get0 (pc := 93) C dX0_become_93 7 rfl 8 (by decide) fl_X0_43 rfl ?_
  refine g_put0 (pc := 96) (ws2 := (fl [potV g a gr' la kd' pt' wt' mr' tt' yr' mn', potV g b gr' la' kd' pt' wt' mr' tt' yr' mn'])) C dX0_become_96 0 rfl 8 (by decide) fl_X0_43 rfl rfl rfl (Nat.le_of_ble_eq_true rfl) rfl ?_
  exact g_vret C Rr dX0_become_99 ⟨rfl, rfl⟩ rfl
