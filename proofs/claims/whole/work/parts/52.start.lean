/-! the law's loop -/
section
variable {φ : Fx} {g : Gl} {k9 n9 b L : Nat} {xs : Nat → Int32} {A : Ac} {a : Nat → Nat}
theorem law_head {i : Nat} {ws : va_W} (C : Cx φ g cL_law 4 RL room_1) (S : ScrF φ b L xs) (hi : i ≤ 3072) (kt : Ga φ g k9 n9 4 1334 (lvL b (A.1 0) (a 0) i) [] ws) (kf : i + 6 ≤ L → Ga φ g k9 n9 4 27 (lvL b (A.1 0) (a 0) i) [] ws) : Ga φ g k9 n9 4 18 (lvL b (A.1 0) (a 0) i) [] ws := by
  have hL := S.2.2.2
  refine a_iload_n (pc := 18) C dL_law_18 rfl ?_
  refine a_aload_n (pc := 19) C dL_law_19 rfl ?_
  refine a_slen (pc := 20) C S dL_law_20 ?_
  refine a_bipush (pc := 21) (v := nI 6) C dL_law_21 (by decide) ?_
  refine a_isub (pc := 23) C dL_law_23 ?_
  refine a_icmp_gt (pc := 24) (tgt := 1334) C dL_law_24 (by decide) (fun _ => kt) (fun z => kf ?_)
  have h1 := Int32.not_lt.mp z
  rw [Int32.le_iff_toInt_le, pk_sub_toInt (by omega) (by decide), nI_toInt (by omega)] at h1
  omega
theorem law_body {i : Nat} {X : Xs} {J : Jc} {M : Jm} (C : Cx φ g cL_law 4 RL room_1) (S : ScrF φ b L xs) (hk9 : k9 ≤ room_1.cells) (hn9 : n9 ≤ room_1.slots) (hi : i + 6 ≤ L) (hX : InvW X) (hJ : OkJ X J) (hM : OkM X M) (k : ∀ X2 J2 M2, InvW X2 → OkJ X2 J2 → OkM X2 M2 → Ga φ g k9 n9 4 1328 (lvL b (A.1 0) (a 0) i) [] (fl [spX g A X2 J2, mdX g a X2 M2])) : Ga φ g k9 n9 4 27 (lvL b (A.1 0) (a 0) i) [] (fl [spX g A X J, mdX g a X M]) := by
  refine a_aload_n (pc := 27) C dL_law_27 rfl ?_
  refine a_iload_n (pc := 28) C dL_law_28 rfl ?_
  refine a_sld (pc := 29) C S dL_law_29 (by omega) ?_
  refine a_bipush (pc := 30) (v := nI 63) C dL_law_30 (by decide) ?_
  refine a_iand (pc := 32) C dL_law_32 ?_
  obtain ⟨j, hj, e⟩ := pk_andE (xs i) (m := nI 63) 6 (by decide)
  refine a_top e ?_
  by_cases hj2 : j ≤ 36
  · rcases (show j = 0 ∨ j = 1 ∨ j = 2 ∨ j = 3 ∨ j = 4 ∨ j = 5 ∨ j = 6 ∨ j = 7 ∨ j = 8 ∨ j = 9 ∨ j = 10 ∨ j = 11 ∨ j = 12 ∨ j = 13 ∨ j = 14 ∨ j = 15 ∨ j = 16 ∨ j = 17 ∨ j = 18 ∨ j = 19 ∨ j = 20 ∨ j = 21 ∨ j = 22 ∨ j = 23 ∨ j = 24 ∨ j = 25 ∨ j = 26 ∨ j = 27 ∨ j = 28 ∨ j = 29 ∨ j = 30 ∨ j = 31 ∨ j = 32 ∨ j = 33 ∨ j = 34 ∨ j = 35 ∨ j = 36 by omega) with rfl | rfl | rfl | rfl | rfl | rfl | rfl | rfl | rfl | rfl | rfl | rfl | rfl | rfl | rfl | rfl | rfl | rfl | rfl | rfl | rfl | rfl | rfl | rfl | rfl | rfl | rfl | rfl | rfl | rfl | rfl | rfl | rfl | rfl | rfl | rfl | rfl
    · exact a_tableIn (pc := 33) (off := 163) (tgt := 196) C dL_law_33 (by decide) (by decide) (by decide) (by decide) (law_0 C S hk9 hn9 hi hX hJ hM k)
    · exact a_tableIn (pc := 33) (off := 186) (tgt := 219) C dL_law_33 (by decide) (by decide) (by decide) (by decide) (law_1 C S hk9 hn9 hi hX hJ hM k)
    · exact a_tableIn (pc := 33) (off := 219) (tgt := 252) C dL_law_33 (by decide) (by decide) (by decide) (by decide) (law_2 C S hk9 hn9 hi hX hJ hM k)
    · exact a_tableIn (pc := 33) (off := 242) (tgt := 275) C dL_law_33 (by decide) (by decide) (by decide) (by decide) (law_3 C S hk9 hn9 hi hX hJ hM k)
    · exact a_tableIn (pc := 33) (off := 265) (tgt := 298) C dL_law_33 (by decide) (by decide) (by decide) (by decide) (law_4 C S hk9 hn9 hi hX hJ hM k)
    · exact a_tableIn (pc := 33) (off := 298) (tgt := 331) C dL_law_33 (by decide) (by decide) (by decide) (by decide) (law_5 C S hk9 hn9 hi hX hJ hM k)
    · exact a_tableIn (pc := 33) (off := 321) (tgt := 354) C dL_law_33 (by decide) (by decide) (by decide) (by decide) (law_6 C S hk9 hn9 hi hX hJ hM k)
    · exact a_tableIn (pc := 33) (off := 354) (tgt := 387) C dL_law_33 (by decide) (by decide) (by decide) (by decide) (law_7 C S hk9 hn9 hi hX hJ hM k)
    · exact a_tableIn (pc := 33) (off := 397) (tgt := 430) C dL_law_33 (by decide) (by decide) (by decide) (by decide) (law_8 C S hk9 hn9 hi hX hJ hM k)
    · exact a_tableIn (pc := 33) (off := 430) (tgt := 463) C dL_law_33 (by decide) (by decide) (by decide) (by decide) (law_9 C S hk9 hn9 hi hX hJ hM k)
    · exact a_tableIn (pc := 33) (off := 463) (tgt := 496) C dL_law_33 (by decide) (by decide) (by decide) (by decide) (law_10 C S hk9 hn9 hi hX hJ hM k)
    · exact a_tableIn (pc := 33) (off := 496) (tgt := 529) C dL_law_33 (by decide) (by decide) (by decide) (by decide) (law_11 C S hk9 hn9 hi hX hJ hM k)
    · exact a_tableIn (pc := 33) (off := 519) (tgt := 552) C dL_law_33 (by decide) (by decide) (by decide) (by decide) (law_12 C S hk9 hn9 hi hX hJ hM k)
    · exact a_tableIn (pc := 33) (off := 542) (tgt := 575) C dL_law_33 (by decide) (by decide) (by decide) (by decide) (law_13 C S hk9 hn9 hi hX hJ hM k)
    · exact a_tableIn (pc := 33) (off := 585) (tgt := 618) C dL_law_33 (by decide) (by decide) (by decide) (by decide) (law_14 C S hk9 hn9 hi hX hJ hM k)
    · exact a_tableIn (pc := 33) (off := 598) (tgt := 631) C dL_law_33 (by decide) (by decide) (by decide) (by decide) (law_15 C S hk9 hn9 hi hX hJ hM k)
    · exact a_tableIn (pc := 33) (off := 631) (tgt := 664) C dL_law_33 (by decide) (by decide) (by decide) (by decide) (law_16 C S hk9 hn9 hi hX hJ hM k)
    · exact a_tableIn (pc := 33) (off := 664) (tgt := 697) C dL_law_33 (by decide) (by decide) (by decide) (by decide) (law_17 C S hk9 hn9 hi hX hJ hM k)
    · exact a_tableIn (pc := 33) (off := 697) (tgt := 730) C dL_law_33 (by decide) (by decide) (by decide) (by decide) (law_18 C S hk9 hn9 hi hX hJ hM k)
    · exact a_tableIn (pc := 33) (off := 750) (tgt := 783) C dL_law_33 (by decide) (by decide) (by decide) (by decide) (law_19 C S hk9 hn9 hi hX hJ hM k)
    · exact a_tableIn (pc := 33) (off := 793) (tgt := 826) C dL_law_33 (by decide) (by decide) (by decide) (by decide) (law_20 C S hk9 hn9 hi hX hJ hM k)
    · exact a_tableIn (pc := 33) (off := 826) (tgt := 859) C dL_law_33 (by decide) (by decide) (by decide) (by decide) (law_21 C S hk9 hn9 hi hX hJ hM k)
    · exact a_tableIn (pc := 33) (off := 849) (tgt := 882) C dL_law_33 (by decide) (by decide) (by decide) (by decide) (law_22 C S hk9 hn9 hi hX hJ hM k)
    · exact a_tableIn (pc := 33) (off := 872) (tgt := 905) C dL_law_33 (by decide) (by decide) (by decide) (by decide) (law_23 C S hk9 hn9 hi hX hJ hM k)
    · exact a_tableIn (pc := 33) (off := 905) (tgt := 938) C dL_law_33 (by decide) (by decide) (by decide) (by decide) (law_24 C S hk9 hn9 hi hX hJ hM k)
    · exact a_tableIn (pc := 33) (off := 918) (tgt := 951) C dL_law_33 (by decide) (by decide) (by decide) (by decide) (law_25 C S hk9 hn9 hi hX hJ hM k)
    · exact a_tableIn (pc := 33) (off := 931) (tgt := 964) C dL_law_33 (by decide) (by decide) (by decide) (by decide) (law_26 C S hk9 hn9 hi hX hJ hM k)
    · exact a_tableIn (pc := 33) (off := 974) (tgt := 1007) C dL_law_33 (by decide) (by decide) (by decide) (by decide) (law_27 C S hk9 hn9 hi hX hJ hM k)
    · exact a_tableIn (pc := 33) (off := 1048) (tgt := 1081) C dL_law_33 (by decide) (by decide) (by decide) (by decide) (law_28 C S hk9 hn9 hi hX hJ hM k)
    · exact a_tableIn (pc := 33) (off := 1111) (tgt := 1144) C dL_law_33 (by decide) (by decide) (by decide) (by decide) (law_29 C S hk9 hn9 hi hX hJ hM k)
    · exact a_tableIn (pc := 33) (off := 1134) (tgt := 1167) C dL_law_33 (by decide) (by decide) (by decide) (by decide) (law_30 C S hk9 hn9 hi hX hJ hM k)
    · exact a_tableIn (pc := 33) (off := 1167) (tgt := 1200) C dL_law_33 (by decide) (by decide) (by decide) (by decide) (law_31 C S hk9 hn9 hi hX hJ hM k)
    · exact a_tableIn (pc := 33) (off := 1210) (tgt := 1243) C dL_law_33 (by decide) (by decide) (by decide) (by decide) (law_32 C S hk9 hn9 hi hX hJ hM k)
    · exact a_tableIn (pc := 33) (off := 1223) (tgt := 1256) C dL_law_33 (by decide) (by decide) (by decide) (by decide) (law_33 C S hk9 hn9 hi hX hJ hM k)
    · exact a_tableIn (pc := 33) (off := 1236) (tgt := 1269) C dL_law_33 (by decide) (by decide) (by decide) (by decide) (law_34 C S hk9 hn9 hi hX hJ hM k)
    · exact a_tableIn (pc := 33) (off := 1249) (tgt := 1282) C dL_law_33 (by decide) (by decide) (by decide) (by decide) (law_35 C S hk9 hn9 hi hX hJ hM k)
    · exact a_tableIn (pc := 33) (off := 1272) (tgt := 1305) C dL_law_33 (by decide) (by decide) (by decide) (by decide) (law_36 C S hk9 hn9 hi hX hJ hM k)
  · exact a_tableOut (pc := 33) (tgt := 1328) C dL_law_33 (Or.inr (by rw [nI_toInt (by omega)]; omega)) (by decide) (k X J M hX hJ hM)
theorem law_loop (C : Cx φ g cL_law 4 RL room_1) (S : ScrF φ b L xs) (hk9 : k9 ≤ room_1.cells) (hn9 : n9 ≤ room_1.slots) (ke : ∀ (lv : List (Nat × Value)) (ws : va_W), Ga φ g k9 n9 4 1334 lv [] ws) : ∀ (d i : Nat) (X : Xs) (J : Jc) (M : Jm), L ≤ i + d → i ≤ 3072 → InvW X → OkJ X J → OkM X M → Ga φ g k9 n9 4 18 (lvL b (A.1 0) (a 0) i) [] (fl [spX g A X J, mdX g a X M]) := by
  intro d
  induction d with
  | zero => exact fun i X J M hd hi _ _ _ => law_head C S hi (ke _ _) (fun z => absurd z (by omega))
  | succ d ih =>
    intro i X J M hd hi hX hJ hM
    refine law_head C S hi (ke _ _) (fun z => law_body C S hk9 hn9 z hX hJ hM (fun X2 J2 M2 hX2 hJ2 hM2 => ?_))
    have hL := S.2.2.2
    refine a_iinc (pc := 1328) (v := nI (i + 6)) (lv2 := lvL b (A.1 0) (a 0) (i + 6)) C dL_law_1328 rfl (nI_add i 6) (Nat.le_of_ble_eq_true rfl) rfl ?_
    exact a_goto (pc := 1331) (tgt := 18) C dL_law_1331 (by decide) (ih (i + 6) X2 J2 M2 (by omega) (by omega) hX2 hJ2 hM2)
set_option maxHeartbeats 1000000 in
set_option maxRecDepth 100000 in
theorem law_start (C : Cx φ g cL_law 4 RL room_1) (S : ScrF φ b L xs) (hao : va_AO "StockPot$Sheet" (fs φ)) (ke : ∀ (k9 n9 : Nat) (lv : List (Nat × Value)) (ws : va_W), k9 ≤ 600000 → n9 ≤ 7302250 → Ga φ g k9 n9 4 1334 lv [] ws) : Ga φ g 0 0 4 0 [(0, .ref b)] [] [] := by
  refine a_new3 (pc := 0) C dL_law_0 cl_L_7 (Nat.le_of_ble_eq_true rfl) (Nat.le_of_ble_eq_true rfl) (fun x => ?_)
  refine a_dup (pc := 3) C dL_law_3 rfl ?_
  refine a_init (ws := []) (pc := 4) C hao dL_law_4 ml_L_9 im_X3_init in_X3 cd_X3_init rfl (by decide +kernel) (k_stock g x) ⟨rfl, rfl, (Nat.le_of_ble_eq_true rfl), (Nat.le_of_ble_eq_true rfl)⟩ (Nat.le_of_ble_eq_true rfl) (Nat.le_of_ble_eq_true rfl) (Nat.le_of_ble_eq_true rfl) (fun w9 h9 => ?_)
  obtain ⟨A, e_A, rfl⟩ := h9
  subst e_A
  refine a_astore_n (pc := 7) (lv2 := [(0, .ref b), (1, .ref (A.1 0))]) C dL_law_7 rfl (Nat.le_of_ble_eq_true rfl) rfl ?_
  refine a_new4 (pc := 8) C dL_law_8 cl_L_10 (Nat.le_of_ble_eq_true rfl) (Nat.le_of_ble_eq_true rfl) (fun y => ?_)
  refine a_dup (pc := 11) C dL_law_11 rfl ?_
  refine a_init (ws := [] ++ spX g A X0 JC0) (pc := 12) C hao dL_law_12 ml_L_12 im_X4_init in_X4 cd_X4_init rfl (by decide +kernel) (k_model g y) ⟨rfl, rfl, (Nat.le_of_ble_eq_true rfl), (Nat.le_of_ble_eq_true rfl)⟩ (Nat.le_of_ble_eq_true rfl) (Nat.le_of_ble_eq_true rfl) (Nat.le_of_ble_eq_true rfl) (fun w9 h9 => ?_)
  obtain ⟨a, e_a, rfl⟩ := h9
  subst e_a
  refine a_ws (ws2 := fl [spX g A X0 JC0, mdX g a X0 JM0]) (by simp [fl]) ?_
  refine a_astore_n (pc := 15) (lv2 := [(0, .ref b), (1, .ref (A.1 0)), (2, .ref (a 0))]) C dL_law_15 rfl (Nat.le_of_ble_eq_true rfl) rfl ?_
  refine a_iconst (pc := 16) (v := nI 0) C dL_law_16 (by decide) ?_
  refine a_istore_n (pc := 17) (lv2 := lvL b (A.1 0) (a 0) 0) C dL_law_17 rfl (Nat.le_of_ble_eq_true rfl) rfl ?_
  exact law_loop C S (Nat.le_of_ble_eq_true rfl) (Nat.le_of_ble_eq_true rfl) (fun lv ws => ke _ _ lv ws (Nat.le_of_ble_eq_true rfl) (Nat.le_of_ble_eq_true rfl)) L 0 X0 JC0 JM0 (Nat.le_add_left _ _) (Nat.zero_le _) X0_inv X0_okJ X0_okM
end
/-! what the start gives: the classes, the array classes, the String constants, two statics -/
theorem fr_ex : ∀ i, i < 10 → Cond.exactly (.string RX2 (strIx.getD i 0)) "java/lang/String" ∈ flatC (Jvm.Cond.and given_1 narrow_1) := by decide +kernel
theorem fr_co : ∀ i, i < 10 → Cond.eq (.field (.string RX2 (strIx.getD i 0)) "java/lang/String" "coder" "B") (.int 0) ∈ flatC (Jvm.Cond.and given_1 narrow_1) := by decide +kernel
theorem fr_ar : ∀ i, i < 10 → Cond.arrayOf (.field (.string RX2 (strIx.getD i 0)) "java/lang/String" "value" "[B") .byte ∈ flatC (Jvm.Cond.and given_1 narrow_1) := by decide +kernel
theorem fr_le : ∀ i, i < 10 → Cond.eq (.length (.field (.string RX2 (strIx.getD i 0)) "java/lang/String" "value" "[B")) (.int (Int32.ofNat (strLen.getD i 0))) ∈ flatC (Jvm.Cond.and given_1 narrow_1) := by decide +kernel
theorem fr_el : ∀ i, i < 10 → ∀ j, j < strLen.getD i 0 → Cond.eq (.elem (.field (.string RX2 (strIx.getD i 0)) "java/lang/String" "value" "[B") (.int (Int32.ofNat j))) (.int ((strByt.getD i []).getD j 0)) ∈ flatC (Jvm.Cond.and given_1 narrow_1) := by decide +kernel
theorem fr_ne : ∀ i, i < 10 → ∀ j, j < 10 → i ≠ j → (Cond.not (Cond.eq (.string RX2 (strIx.getD i 0)) (.string RX2 (strIx.getD j 0))) ∈ flatC (Jvm.Cond.and given_1 narrow_1) ∨ Cond.not (Cond.eq (.string RX2 (strIx.getD j 0)) (.string RX2 (strIx.getD i 0))) ∈ flatC (Jvm.Cond.and given_1 narrow_1)) := by decide +kernel
theorem fr_cs : Cond.eq (.static "java/lang/String" "COMPACT_STRINGS" "Z") (.int 1) ∈ flatC (Jvm.Cond.and given_1 narrow_1) := by decide +kernel
theorem fr_si : Cond.isRef (.static "jdk/internal/util/Preconditions" "SIOOBE_FORMATTER" "Ljava/util/function/BiFunction;") ∈ flatC (Jvm.Cond.and given_1 narrow_1) := by decide +kernel
theorem tl_cs : Cond.laysStatic "java/lang/String" "COMPACT_STRINGS" "Z" ∈ lw_tbl := by
  first | exact List.mem_of_getElem? (i := 475) (by decide +kernel) | exact List.mem_of_getElem? (i := 477) (by decide +kernel) | exact List.mem_of_getElem? (i := 474) (by decide +kernel) | exact List.mem_of_getElem? (i := 478) (by decide +kernel) | decide +kernel
theorem tl_si : Cond.laysStatic "jdk/internal/util/Preconditions" "SIOOBE_FORMATTER" "Ljava/util/function/BiFunction;" ∈ lw_tbl := by
  first | exact List.mem_of_getElem? (i := 491) (by decide +kernel) | exact List.mem_of_getElem? (i := 493) (by decide +kernel) | exact List.mem_of_getElem? (i := 490) (by decide +kernel) | decide +kernel
theorem tl_ao : Cond.arrayOver (.object "StockPot$Sheet") ∈ lw_tbl := by
  first | exact List.mem_of_getElem? (i := 154) (by decide +kernel) | decide +kernel
theorem st_sref {b : Nat} {s : State} (hts : ∀ w ∈ lw_tbl, w.before #[Value.ref b] s = true) : ∀ i, i < 10 → (Cond.stringRef RX2 (strIx.getD i 0) (strTx.getD i "")).before #[Value.ref b] s = true := by
  intro i hi
  rcases (show i = 0 ∨ i = 1 ∨ i = 2 ∨ i = 3 ∨ i = 4 ∨ i = 5 ∨ i = 6 ∨ i = 7 ∨ i = 8 ∨ i = 9 by omega) with rfl | rfl | rfl | rfl | rfl | rfl | rfl | rfl | rfl | rfl
  · exact hts _ (List.mem_of_getElem? (i := 463) (by decide +kernel))
  · exact hts _ (List.mem_of_getElem? (i := 530) (by decide +kernel))
  · exact hts _ (List.mem_of_getElem? (i := 531) (by decide +kernel))
  · exact hts _ (List.mem_of_getElem? (i := 532) (by decide +kernel))
  · exact hts _ (List.mem_of_getElem? (i := 533) (by decide +kernel))
  · exact hts _ (List.mem_of_getElem? (i := 534) (by decide +kernel))
  · exact hts _ (List.mem_of_getElem? (i := 535) (by decide +kernel))
  · exact hts _ (List.mem_of_getElem? (i := 538) (by decide +kernel))
  · exact hts _ (List.mem_of_getElem? (i := 543) (by decide +kernel))
  · exact hts _ (List.mem_of_getElem? (i := 544) (by decide +kernel))
theorem st_arr {b : Nat} {s : State} {ty : FieldType} (h : (Cond.arrayClass ty).before #[Value.ref b] s = true) : ∃ cA, ArrOfT s cA ty ∧ s.vm.findClass ("[" ++ ty.toString) = some cA := by
  obtain ⟨cA, kA, comp, h1, h2, h3⟩ := Cond.arrayClass_spec h
  exact ⟨cA, fun n z => ⟨fun k h => (by cases h), kA, h2, comp, h3⟩, h1⟩
theorem start_env {b : Nat} {s : State} (hts : ∀ w ∈ lw_tbl, w.before #[Value.ref b] s = true) (hgv : (Jvm.Cond.and given_1 narrow_1).before #[Value.ref b] s = true) : ∃ g : Gl, va_K g.1 vwCl (tysG g) s ∧ En g (fun q => s.heap.size ≤ q) s := by
  have hTB : ∀ w ∈ TB, w.before #[Value.ref b] s = true := fun w h => hts w (tb_of h)
  have hs := flat_of_before _ hgv
  have hA : ∀ a : Nat, a < s.heap.size → ¬ (fun q : Nat => s.heap.size ≤ q) a := fun a h => Nat.not_le.mpr h
  obtain ⟨c0, i0, k0⟩ := u_known (C := RX0) (T := TX0) (N := 9) (n := 9) hTB inT_X0 (hTB _ it_X0)
  obtain ⟨c1, i1, k1⟩ := u_known (C := RX1) (T := TX1) (N := 3) (n := 3) hTB inT_X1 (hTB _ it_X1)
  obtain ⟨c2, i2, k2⟩ := u_known (C := RX2) (T := TX2) (N := 6) (n := 6) hTB inT_X2 (hTB _ it_X2)
  obtain ⟨c3, i3, k3⟩ := u_known (C := RX3) (T := TX3) (N := 7) (n := 7) hTB inT_X3 (hTB _ it_X3)
  obtain ⟨c4, i4, k4⟩ := u_known (C := RX4) (T := TX4) (N := 17) (n := 17) hTB inT_X4 (hTB _ it_X4)
  obtain ⟨cI, aI, fI⟩ := st_arr (hTB _ ac_int)
  obtain ⟨cJ, aJ, fJ⟩ := st_arr (hTB _ ac_long)
  obtain ⟨cB, aB, fB⟩ := st_arr (hTB _ ac_byte)
  obtain ⟨comp, cQ, kQ, q1, -, q2, q3, q4⟩ := Cond.arrayOver_spec (hts _ tl_ao)
  obtain ⟨adK, adV, hSt, hRf⟩ := vk_Sof (tm := fun i => .string RX2 (strIx.getD i 0)) (N := 10) (len := strLen) (byt := strByt) (A := fun q : Nat => s.heap.size ≤ q) (fun i hi => Nat.lt_trans (str_all i hi).2.2.2.2.1 (by decide)) (fun i hi => hs _ (fr_ex i hi)) (fun i hi => hs _ (fr_co i hi)) (fun i hi => hs _ (fr_ar i hi)) (fun i hi => hs _ (fr_le i hi)) (fun i hi j hj => hs _ (fr_el i hi j hj)) (fun i j hi hj hij => (fr_ne i hi j hj hij).imp (fun h => hs _ h) (fun h => hs _ h)) hA
  refine ⟨((fun k => if k = 0 then c0 else if k = 1 then c1 else if k = 2 then c2 else if k = 3 then c3 else c4, fun k => if k = 0 then i0 else if k = 1 then i1 else if k = 2 then i2 else if k = 3 then i3 else i4), (cI, cJ, cB, cQ), (adK, adV)), ⟨fun k q hq => ?_, fun k q hq => ?_⟩, hSt, fun i hi => vk_R.of (st_sref hts i hi) (hRf i hi), va_Zof (hts _ tl_cs) (hTB _ in_J0) (va_eqt (hs _ fr_cs)) hA, va_Zqof (hts _ tl_si) (hTB _ in_J3) (hs _ fr_si) hA⟩
  · match k, hq with
    | 0, hq => cases hq; exact k0
    | 1, hq => cases hq; exact k1
    | 2, hq => cases hq; exact k2
    | 3, hq => cases hq; exact k3
    | 4, hq => cases hq; exact k4
    | k + 5, hq => simp [vwCl] at hq
  · match k, hq with
    | 0, hq => cases hq; exact ⟨aI, fI⟩
    | 1, hq => cases hq; exact ⟨aJ, fJ⟩
    | 2, hq => cases hq; exact ⟨aB, fB⟩
    | 3, hq => cases hq; exact ⟨fun n z => ⟨fun k h => (by cases h), kQ, q2, comp, q3⟩, kQ, comp, q2, q3, q1, q4⟩
    | k + 4, hq => simp [tysG] at hq
