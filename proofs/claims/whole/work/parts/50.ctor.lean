/-! the constructors -/
abbrev rn (f c s l : Nat) : Room := { frames := f, cells := c, slots := s, locals := l }
abbrev z0 : Nat → Nat := fun _ => 0
def gr0 : Nat → Nat := updN z0 0 1000
def adr (l : List Nat) : Nat → Nat := fun j => l.getD j 0
abbrev S00 : St := (0, 0, gr0, z0, z0, z0, z0)
/-- all as at first -/
def X0 : Xs := (S00, (S00, 0), (z0, 0), (z0, z0, fun _ _ => 0), z0)
def JC0 : Jc := (z0, (S00, z0), (S00, z0), (0, 0, 0, 0))
def JM0 : Jm := (z0, z0, z0, z0, 0, 0, 0, 0, fun _ => 0)
theorem tbB_z0 : tbB z0 = fun _ => nI 0 := funext (fun _ => (by decide : sb_b 0 = nI 0))
theorem s0_eq : ∀ j, j < 46 → updN z0 2 1000 j = sF 0 0 gr0 z0 z0 z0 z0 j := by decide +kernel
theorem X0_inv : InvW X0 := by
  have hg : ∀ j, gr0 j ≤ 1000 := updN_le (fun _ => Nat.zero_le _) (Nat.le_refl _)
  refine ⟨⟨⟨rfl, by decide +kernel, fun j => Nat.le_trans (hg j) (by decide), fun _ => Nat.zero_le _, fun _ => Nat.zero_le _, fun _ => Nat.zero_le _, fun _ => Nat.zero_le _, Nat.zero_le _, Nat.zero_le _⟩, Nat.zero_le _⟩, ⟨Nat.zero_le _, fun z => absurd (show (0 : Nat) = 1 from z) (by decide)⟩, ⟨fun _ => (by decide : (0 : Nat) < 256), Nat.zero_le _⟩, ⟨fun _ => Or.inl rfl, fun _ => Nat.zero_le _⟩⟩
theorem X0_okJ : OkJ X0 JC0 := fun z => absurd (show (0 : Nat) = 1 from z) (by decide)
theorem X0_okM : OkM X0 JM0 := fun z => absurd (show (0 : Nat) = 1 from z) (by decide)
theorem va_arrq {D : va_G} {cl : List vw_C} {A : Nat → Prop} {ws : va_W} {H : Heap} {q0 a n : Nat} {cA : ClassId} {f f2 : Nat → Option Nat} (ha : ws[q0]? = some (a, .inl (cA, n, .inr (.inr (.inr (.inr f)))))) (hf : ∀ j, j < n → f j = f2 j) (hD : va_D A ws) (hP : va_P D cl ws H) : va_P D cl (ws.set q0 (a, .inl (cA, n, .inr (.inr (.inr (.inr f2)))))) H := by
  have h0 : H[a]? = some (vp_cell cA (n, .inr (.inr (.inr (.inr f))))) := hP q0 _ ha
  have e : vp_cell cA (n, .inr (.inr (.inr (.inr f)))) = vp_cell cA (n, .inr (.inr (.inr (.inr f2)))) := by
    rw [vp_cell_q, vp_cell_q]
    unfold arrV
    congr 1
    apply congrArg
    funext j
    show va_rf (f j.val) = va_rf (f2 j.val)
    rw [hf j.val j.isLt]
  have h2 : H[a]? = some (vp_cell cA (n, .inr (.inr (.inr (.inr f2))))) := by rw [← e]; exact h0
  exact hP.set hD ha h2 (fun _ _ => rfl)
section
variable {φ : Fx} {g : Gl} {k9 n9 nL pc : Nat} {lv : List (Nat × Value)} {st : List Value} {ws : va_W}
theorem a_arrc {q0 a n : Nat} {cA : ClassId} {f f2 : Nat → Int32} {ws2 : va_W} (ha : ws[q0]? = some (a, .inl (cA, n, .inl f))) (hf : ∀ j, j < n → f j = f2 j) (hw : ws.set q0 (a, .inl (cA, n, .inl f2)) = ws2) (k : Ga φ g k9 n9 nL pc lv st ws2) : Ga φ g k9 n9 nL pc lv st ws :=
  fun H locs ls hP hD hS hl => k H locs ls (hw ▸ va_arrc ha hf hD hP) (hw ▸ hD.set ha) hS hl
theorem a_arrq {q0 a n : Nat} {cA : ClassId} {f f2 : Nat → Option Nat} {ws2 : va_W} (ha : ws[q0]? = some (a, .inl (cA, n, .inr (.inr (.inr (.inr f)))))) (hf : ∀ j, j < n → f j = f2 j) (hw : ws.set q0 (a, .inl (cA, n, .inr (.inr (.inr (.inr f2))))) = ws2) (k : Ga φ g k9 n9 nL pc lv st ws2) : Ga φ g k9 n9 nL pc lv st ws :=
  fun H locs ls hP hD hS hl => k H locs ls (hw ▸ va_arrq ha hf hD hP) (hw ▸ hD.set ha) hS hl
end
set_option maxHeartbeats 1000000 in
set_option maxRecDepth 100000 in
theorem k_pot (g : Gl) (h : Nat) : Cc g yX0_init cX0_init 1 (rn 1 6 56 12) [.ref h] [(h, .inr (0, df0))] 6 56 (fun w2 => ∃ a : Nat → Nat, a 0 = h ∧ w2 = potV g a gr0 z0 z0 z0 z0 z0 (sumN gr0 12) 0 0) := by
  refine cc_of (by decide) rfl (Nat.le_of_ble_eq_true rfl) ?_
  intro φ C0 Rr hnm hao
  have C : Cx φ g cX0_init 1 RX0 (rn 1 6 56 12) := C0
  show Ga φ g 0 0 1 0 [(0, .ref h)] [] [(h, .inr (0, [.null, .null, .null, .null, .null, .null, .int (nI 0), .int (nI 0), .int (nI 0)]))]
  refine a_aload_n (pc := 0) C dX0_init_0 rfl ?_
  refine a_objInit (pc := 1) C dX0_init_1 ml_X0_3 (Nat.le_of_ble_eq_true rfl) (Nat.le_of_ble_eq_true rfl) ?_
  refine a_aload_n (pc := 4) C dX0_init_4 rfl ?_
  refine a_bipush (pc := 5) (v := nI 12) C dX0_init_5 (by decide) ?_
  refine a_newI (pc := 7) C dX0_init_7 (by decide) (Nat.le_of_ble_eq_true rfl) (Nat.le_of_ble_eq_true rfl) (fun q1 => ?_)
  refine a_putF0 (pc := 9) (ws2 := [(h, .inr (0, [.ref q1, .null, .null, .null, .null, .null, .int (nI 0), .int (nI 0), .int (nI 0)])), (q1, .inl (g.2.1.1, 12, .inl (fun _ => nI 0)))]) C hnm dX0_init_9 0 rfl 0 (by decide) fl_X0_9 rfl rfl rfl rfl (Nat.le_of_ble_eq_true rfl) rfl ?_
  refine a_aload_n (pc := 12) C dX0_init_12 rfl ?_
  refine a_bipush (pc := 13) (v := nI 12) C dX0_init_13 (by decide) ?_
  refine a_newI (pc := 15) C dX0_init_15 (by decide) (Nat.le_of_ble_eq_true rfl) (Nat.le_of_ble_eq_true rfl) (fun q2 => ?_)
  refine a_putF0 (pc := 17) (ws2 := [(h, .inr (0, [.ref q1, .ref q2, .null, .null, .null, .null, .int (nI 0), .int (nI 0), .int (nI 0)])), (q1, .inl (g.2.1.1, 12, .inl (fun _ => nI 0))), (q2, .inl (g.2.1.1, 12, .inl (fun _ => nI 0)))]) C hnm dX0_init_17 0 rfl 1 (by decide) fl_X0_15 rfl rfl rfl rfl (Nat.le_of_ble_eq_true rfl) rfl ?_
  refine a_aload_n (pc := 20) C dX0_init_20 rfl ?_
  refine a_bipush (pc := 21) (v := nI 8) C dX0_init_21 (by decide) ?_
  refine a_newI (pc := 23) C dX0_init_23 (by decide) (Nat.le_of_ble_eq_true rfl) (Nat.le_of_ble_eq_true rfl) (fun q3 => ?_)
  refine a_putF0 (pc := 25) (ws2 := [(h, .inr (0, [.ref q1, .ref q2, .ref q3, .null, .null, .null, .int (nI 0), .int (nI 0), .int (nI 0)])), (q1, .inl (g.2.1.1, 12, .inl (fun _ => nI 0))), (q2, .inl (g.2.1.1, 12, .inl (fun _ => nI 0))), (q3, .inl (g.2.1.1, 8, .inl (fun _ => nI 0)))]) C hnm dX0_init_25 0 rfl 2 (by decide) fl_X0_18 rfl rfl rfl rfl (Nat.le_of_ble_eq_true rfl) rfl ?_
  refine a_aload_n (pc := 28) C dX0_init_28 rfl ?_
  refine a_bipush (pc := 29) (v := nI 8) C dX0_init_29 (by decide) ?_
  refine a_newI (pc := 31) C dX0_init_31 (by decide) (Nat.le_of_ble_eq_true rfl) (Nat.le_of_ble_eq_true rfl) (fun q4 => ?_)
  refine a_putF0 (pc := 33) (ws2 := [(h, .inr (0, [.ref q1, .ref q2, .ref q3, .ref q4, .null, .null, .int (nI 0), .int (nI 0), .int (nI 0)])), (q1, .inl (g.2.1.1, 12, .inl (fun _ => nI 0))), (q2, .inl (g.2.1.1, 12, .inl (fun _ => nI 0))), (q3, .inl (g.2.1.1, 8, .inl (fun _ => nI 0))), (q4, .inl (g.2.1.1, 8, .inl (fun _ => nI 0)))]) C hnm dX0_init_33 0 rfl 3 (by decide) fl_X0_21 rfl rfl rfl rfl (Nat.le_of_ble_eq_true rfl) rfl ?_
  refine a_aload_n (pc := 36) C dX0_init_36 rfl ?_
  refine a_bipush (pc := 37) (v := nI 8) C dX0_init_37 (by decide) ?_
  refine a_newI (pc := 39) C dX0_init_39 (by decide) (Nat.le_of_ble_eq_true rfl) (Nat.le_of_ble_eq_true rfl) (fun q5 => ?_)
  refine a_putF0 (pc := 41) (ws2 := [(h, .inr (0, [.ref q1, .ref q2, .ref q3, .ref q4, .ref q5, .null, .int (nI 0), .int (nI 0), .int (nI 0)])), (q1, .inl (g.2.1.1, 12, .inl (fun _ => nI 0))), (q2, .inl (g.2.1.1, 12, .inl (fun _ => nI 0))), (q3, .inl (g.2.1.1, 8, .inl (fun _ => nI 0))), (q4, .inl (g.2.1.1, 8, .inl (fun _ => nI 0))), (q5, .inl (g.2.1.1, 8, .inl (fun _ => nI 0)))]) C hnm dX0_init_41 0 rfl 4 (by decide) fl_X0_24 rfl rfl rfl rfl (Nat.le_of_ble_eq_true rfl) rfl ?_
  refine a_aload_n (pc := 44) C dX0_init_44 rfl ?_
  refine a_bipush (pc := 45) (v := nI 8) C dX0_init_45 (by decide) ?_
  refine a_newI (pc := 47) C dX0_init_47 (by decide) (Nat.le_of_ble_eq_true rfl) (Nat.le_of_ble_eq_true rfl) (fun q6 => ?_)
  refine a_putF0 (pc := 49) (ws2 := [(h, .inr (0, [.ref q1, .ref q2, .ref q3, .ref q4, .ref q5, .ref q6, .int (nI 0), .int (nI 0), .int (nI 0)])), (q1, .inl (g.2.1.1, 12, .inl (fun _ => nI 0))), (q2, .inl (g.2.1.1, 12, .inl (fun _ => nI 0))), (q3, .inl (g.2.1.1, 8, .inl (fun _ => nI 0))), (q4, .inl (g.2.1.1, 8, .inl (fun _ => nI 0))), (q5, .inl (g.2.1.1, 8, .inl (fun _ => nI 0))), (q6, .inl (g.2.1.1, 8, .inl (fun _ => nI 0)))]) C hnm dX0_init_49 0 rfl 5 (by decide) fl_X0_27 rfl rfl rfl rfl (Nat.le_of_ble_eq_true rfl) rfl ?_
  refine a_aload_n (pc := 52) C dX0_init_52 rfl ?_
  refine a_sipush (pc := 53) (v := nI 1000) C dX0_init_53 (by decide) ?_
  refine a_put0 (pc := 56) (ws2 := [(h, .inr (0, [.ref q1, .ref q2, .ref q3, .ref q4, .ref q5, .ref q6, .int (nI 1000), .int (nI 0), .int (nI 0)])), (q1, .inl (g.2.1.1, 12, .inl (fun _ => nI 0))), (q2, .inl (g.2.1.1, 12, .inl (fun _ => nI 0))), (q3, .inl (g.2.1.1, 8, .inl (fun _ => nI 0))), (q4, .inl (g.2.1.1, 8, .inl (fun _ => nI 0))), (q5, .inl (g.2.1.1, 8, .inl (fun _ => nI 0))), (q6, .inl (g.2.1.1, 8, .inl (fun _ => nI 0)))]) C dX0_init_56 0 rfl 6 (by decide) fl_X0_30 rfl rfl rfl (Nat.le_of_ble_eq_true rfl) rfl ?_
  refine a_aload_n (pc := 59) C dX0_init_59 rfl ?_
  refine a_get0 (pc := 60) C dX0_init_60 0 rfl 0 (by decide) fl_X0_9 rfl ?_
  refine a_iconst (pc := 63) (v := nI 0) C dX0_init_63 (by decide) ?_
  refine a_aload_n (pc := 64) C dX0_init_64 rfl ?_
  refine a_get0 (pc := 65) C dX0_init_65 0 rfl 6 (by decide) fl_X0_30 rfl ?_
  refine a_iastM (pc := 68) (f := z0) (ws2 := [(h, .inr (0, [.ref q1, .ref q2, .ref q3, .ref q4, .ref q5, .ref q6, .int (nI 1000), .int (nI 0), .int (nI 0)])), (q1, .inl (g.2.1.1, 12, .inl (fun j => nI (gr0 j)))), (q2, .inl (g.2.1.1, 12, .inl (fun _ => nI 0))), (q3, .inl (g.2.1.1, 8, .inl (fun _ => nI 0))), (q4, .inl (g.2.1.1, 8, .inl (fun _ => nI 0))), (q5, .inl (g.2.1.1, 8, .inl (fun _ => nI 0))), (q6, .inl (g.2.1.1, 8, .inl (fun _ => nI 0)))]) C dX0_init_68 1 rfl rfl (by decide) (by decide) rfl ?_
  exact a_vret C Rr dX0_init_69 ⟨adr [h, q1, q2, q3, q4, q5, q6], rfl, rfl⟩
set_option maxHeartbeats 1000000 in
set_option maxRecDepth 100000 in
theorem k_sheet (g : Gl) (h : Nat) : Cc g yX1_init cX1_init 1 (rn 1 1 40 12) [.ref h] [(h, .inr (1, df1))] 1 40 (fun w2 => ∃ a : Nat → Nat, a 0 = h ∧ w2 = shV g a (fun _ => 0) 0 0) := by
  refine cc_of (by decide) rfl (Nat.le_of_ble_eq_true rfl) ?_
  intro φ C0 Rr hnm hao
  have C : Cx φ g cX1_init 1 RX1 (rn 1 1 40 12) := C0
  show Ga φ g 0 0 1 0 [(0, .ref h)] [] [(h, .inr (1, [.null, .int (nI 0), .int (nI 0)]))]
  refine a_aload_n (pc := 0) C dX1_init_0 rfl ?_
  refine a_objInit (pc := 1) C dX1_init_1 ml_X1_3 (Nat.le_of_ble_eq_true rfl) (Nat.le_of_ble_eq_true rfl) ?_
  refine a_aload_n (pc := 4) C dX1_init_4 rfl ?_
  refine a_bipush (pc := 5) (v := nI 40) C dX1_init_5 (by decide) ?_
  refine a_newJ (pc := 7) C dX1_init_7 (by decide) (Nat.le_of_ble_eq_true rfl) (Nat.le_of_ble_eq_true rfl) (fun q1 => ?_)
  refine a_putF1 (pc := 9) (ws2 := [(h, .inr (1, [.ref q1, .int (nI 0), .int (nI 0)])), (q1, .inl (g.2.1.2.1, 40, .inr (.inl (fun _ => 0))))]) C hnm dX1_init_9 0 rfl 0 (by decide) fl_X1_9 rfl rfl rfl rfl (Nat.le_of_ble_eq_true rfl) rfl ?_
  exact a_vret C Rr dX1_init_12 ⟨adr [h, q1], rfl, rfl⟩
set_option maxHeartbeats 1000000 in
set_option maxRecDepth 100000 in
theorem k_tape (g : Gl) (h : Nat) : Cc g yX2_init cX2_init 1 (rn 1 1 120 12) [.ref h] [(h, .inr (2, df2))] 1 120 (fun w2 => ∃ a : Nat → Nat, a 0 = h ∧ w2 = tpV g a (tbB z0) 0 0 0 0 0) := by
  refine cc_of (by decide) rfl (Nat.le_of_ble_eq_true rfl) ?_
  intro φ C0 Rr hnm hao
  have C : Cx φ g cX2_init 1 RX2 (rn 1 1 120 12) := C0
  show Ga φ g 0 0 1 0 [(0, .ref h)] [] [(h, .inr (2, [.null, .int (nI 0), .int (nI 0), .int (nI 0), .int (nI 0), .int (nI 0)]))]
  refine a_aload_n (pc := 0) C dX2_init_0 rfl ?_
  refine a_objInit (pc := 1) C dX2_init_1 ml_X2_3 (Nat.le_of_ble_eq_true rfl) (Nat.le_of_ble_eq_true rfl) ?_
  refine a_aload_n (pc := 4) C dX2_init_4 rfl ?_
  refine a_bipush (pc := 5) (v := nI 120) C dX2_init_5 (by decide) ?_
  refine a_newB (pc := 7) C dX2_init_7 (by decide) (Nat.le_of_ble_eq_true rfl) (Nat.le_of_ble_eq_true rfl) (fun q1 => ?_)
  refine a_putF2 (pc := 9) (ws2 := [(h, .inr (2, [.ref q1, .int (nI 0), .int (nI 0), .int (nI 0), .int (nI 0), .int (nI 0)])), (q1, .inl (g.2.1.2.2.1, 120, .inl (fun _ => nI 0)))]) C hnm dX2_init_9 0 rfl 0 (by decide) fl_X2_9 rfl rfl rfl rfl (Nat.le_of_ble_eq_true rfl) rfl ?_
  exact a_vret C Rr dX2_init_12 ⟨adr [h, q1], rfl, by rw [tbB_z0]; rfl⟩
set_option maxHeartbeats 1000000 in
set_option maxRecDepth 100000 in
theorem k_model (g : Gl) (h : Nat) : Cc g yX4_init cX4_init 1 (rn 1 11 531 12) [.ref h] [(h, .inr (4, df4))] 11 531 (fun w2 => ∃ a : Nat → Nat, a 0 = h ∧ w2 = mdX g a X0 JM0) := by
  refine cc_of (by decide) rfl (Nat.le_of_ble_eq_true rfl) ?_
  intro φ C0 Rr hnm hao
  have C : Cx φ g cX4_init 1 RX4 (rn 1 11 531 12) := C0
  show Ga φ g 0 0 1 0 [(0, .ref h)] [] [(h, .inr (4, [.null, .null, .null, .null, .null, .int (nI 0), .null, .null, .int (nI 0), .int (nI 0), .int (nI 0), .int (nI 0), .int (nI 0), .null, .null, .null, .null]))]
  refine a_aload_n (pc := 0) C dX4_init_0 rfl ?_
  refine a_objInit (pc := 1) C dX4_init_1 ml_X4_1 (Nat.le_of_ble_eq_true rfl) (Nat.le_of_ble_eq_true rfl) ?_
  refine a_aload_n (pc := 4) C dX4_init_4 rfl ?_
  refine a_bipush (pc := 5) (v := nI 46) C dX4_init_5 (by decide) ?_
  refine a_newI (pc := 7) C dX4_init_7 (by decide) (Nat.le_of_ble_eq_true rfl) (Nat.le_of_ble_eq_true rfl) (fun q1 => ?_)
  refine a_putF4 (pc := 9) (ws2 := [(h, .inr (4, [.ref q1, .null, .null, .null, .null, .int (nI 0), .null, .null, .int (nI 0), .int (nI 0), .int (nI 0), .int (nI 0), .int (nI 0), .null, .null, .null, .null])), (q1, .inl (g.2.1.1, 46, .inl (fun _ => nI 0)))]) C hnm dX4_init_9 0 rfl 0 (by decide) fl_X4_7 rfl rfl rfl rfl (Nat.le_of_ble_eq_true rfl) rfl ?_
  refine a_aload_n (pc := 12) C dX4_init_12 rfl ?_
  refine a_bipush (pc := 13) (v := nI 46) C dX4_init_13 (by decide) ?_
  refine a_newI (pc := 15) C dX4_init_15 (by decide) (Nat.le_of_ble_eq_true rfl) (Nat.le_of_ble_eq_true rfl) (fun q2 => ?_)
  refine a_putF4 (pc := 17) (ws2 := [(h, .inr (4, [.ref q1, .ref q2, .null, .null, .null, .int (nI 0), .null, .null, .int (nI 0), .int (nI 0), .int (nI 0), .int (nI 0), .int (nI 0), .null, .null, .null, .null])), (q1, .inl (g.2.1.1, 46, .inl (fun _ => nI 0))), (q2, .inl (g.2.1.1, 46, .inl (fun _ => nI 0)))]) C hnm dX4_init_17 0 rfl 1 (by decide) fl_X4_13 rfl rfl rfl rfl (Nat.le_of_ble_eq_true rfl) rfl ?_
  refine a_aload_n (pc := 20) C dX4_init_20 rfl ?_
  refine a_bipush (pc := 21) (v := nI 46) C dX4_init_21 (by decide) ?_
  refine a_newI (pc := 23) C dX4_init_23 (by decide) (Nat.le_of_ble_eq_true rfl) (Nat.le_of_ble_eq_true rfl) (fun q3 => ?_)
  refine a_putF4 (pc := 25) (ws2 := [(h, .inr (4, [.ref q1, .ref q2, .ref q3, .null, .null, .int (nI 0), .null, .null, .int (nI 0), .int (nI 0), .int (nI 0), .int (nI 0), .int (nI 0), .null, .null, .null, .null])), (q1, .inl (g.2.1.1, 46, .inl (fun _ => nI 0))), (q2, .inl (g.2.1.1, 46, .inl (fun _ => nI 0))), (q3, .inl (g.2.1.1, 46, .inl (fun _ => nI 0)))]) C hnm dX4_init_25 0 rfl 2 (by decide) fl_X4_16 rfl rfl rfl rfl (Nat.le_of_ble_eq_true rfl) rfl ?_
  refine a_aload_n (pc := 28) C dX4_init_28 rfl ?_
  refine a_bipush (pc := 29) (v := nI 46) C dX4_init_29 (by decide) ?_
  refine a_newI (pc := 31) C dX4_init_31 (by decide) (Nat.le_of_ble_eq_true rfl) (Nat.le_of_ble_eq_true rfl) (fun q4 => ?_)
  refine a_putF4 (pc := 33) (ws2 := [(h, .inr (4, [.ref q1, .ref q2, .ref q3, .ref q4, .null, .int (nI 0), .null, .null, .int (nI 0), .int (nI 0), .int (nI 0), .int (nI 0), .int (nI 0), .null, .null, .null, .null])), (q1, .inl (g.2.1.1, 46, .inl (fun _ => nI 0))), (q2, .inl (g.2.1.1, 46, .inl (fun _ => nI 0))), (q3, .inl (g.2.1.1, 46, .inl (fun _ => nI 0))), (q4, .inl (g.2.1.1, 46, .inl (fun _ => nI 0)))]) C hnm dX4_init_33 0 rfl 3 (by decide) fl_X4_19 rfl rfl rfl rfl (Nat.le_of_ble_eq_true rfl) rfl ?_
  refine a_aload_n (pc := 36) C dX4_init_36 rfl ?_
  refine a_bipush (pc := 37) (v := nI 7) C dX4_init_37 (by decide) ?_
  refine a_newI (pc := 39) C dX4_init_39 (by decide) (Nat.le_of_ble_eq_true rfl) (Nat.le_of_ble_eq_true rfl) (fun q5 => ?_)
  refine a_putF4 (pc := 41) (ws2 := [(h, .inr (4, [.ref q1, .ref q2, .ref q3, .ref q4, .ref q5, .int (nI 0), .null, .null, .int (nI 0), .int (nI 0), .int (nI 0), .int (nI 0), .int (nI 0), .null, .null, .null, .null])), (q1, .inl (g.2.1.1, 46, .inl (fun _ => nI 0))), (q2, .inl (g.2.1.1, 46, .inl (fun _ => nI 0))), (q3, .inl (g.2.1.1, 46, .inl (fun _ => nI 0))), (q4, .inl (g.2.1.1, 46, .inl (fun _ => nI 0))), (q5, .inl (g.2.1.1, 7, .inl (fun _ => nI 0)))]) C hnm dX4_init_41 0 rfl 4 (by decide) fl_X4_22 rfl rfl rfl rfl (Nat.le_of_ble_eq_true rfl) rfl ?_
  refine a_aload_n (pc := 44) C dX4_init_44 rfl ?_
  refine a_bipush (pc := 45) (v := nI 12) C dX4_init_45 (by decide) ?_
  refine a_newI (pc := 47) C dX4_init_47 (by decide) (Nat.le_of_ble_eq_true rfl) (Nat.le_of_ble_eq_true rfl) (fun q6 => ?_)
  refine a_putF4 (pc := 49) (ws2 := [(h, .inr (4, [.ref q1, .ref q2, .ref q3, .ref q4, .ref q5, .int (nI 0), .ref q6, .null, .int (nI 0), .int (nI 0), .int (nI 0), .int (nI 0), .int (nI 0), .null, .null, .null, .null])), (q1, .inl (g.2.1.1, 46, .inl (fun _ => nI 0))), (q2, .inl (g.2.1.1, 46, .inl (fun _ => nI 0))), (q3, .inl (g.2.1.1, 46, .inl (fun _ => nI 0))), (q4, .inl (g.2.1.1, 46, .inl (fun _ => nI 0))), (q5, .inl (g.2.1.1, 7, .inl (fun _ => nI 0))), (q6, .inl (g.2.1.1, 12, .inl (fun _ => nI 0)))]) C hnm dX4_init_49 0 rfl 6 (by decide) fl_X4_25 rfl rfl rfl rfl (Nat.le_of_ble_eq_true rfl) rfl ?_
  refine a_aload_n (pc := 52) C dX4_init_52 rfl ?_
  refine a_bipush (pc := 53) (v := nI 120) C dX4_init_53 (by decide) ?_
  refine a_newI (pc := 55) C dX4_init_55 (by decide) (Nat.le_of_ble_eq_true rfl) (Nat.le_of_ble_eq_true rfl) (fun q7 => ?_)
  refine a_putF4 (pc := 57) (ws2 := [(h, .inr (4, [.ref q1, .ref q2, .ref q3, .ref q4, .ref q5, .int (nI 0), .ref q6, .ref q7, .int (nI 0), .int (nI 0), .int (nI 0), .int (nI 0), .int (nI 0), .null, .null, .null, .null])), (q1, .inl (g.2.1.1, 46, .inl (fun _ => nI 0))), (q2, .inl (g.2.1.1, 46, .inl (fun _ => nI 0))), (q3, .inl (g.2.1.1, 46, .inl (fun _ => nI 0))), (q4, .inl (g.2.1.1, 46, .inl (fun _ => nI 0))), (q5, .inl (g.2.1.1, 7, .inl (fun _ => nI 0))), (q6, .inl (g.2.1.1, 12, .inl (fun _ => nI 0))), (q7, .inl (g.2.1.1, 120, .inl (fun _ => nI 0)))]) C hnm dX4_init_57 0 rfl 7 (by decide) fl_X4_28 rfl rfl rfl rfl (Nat.le_of_ble_eq_true rfl) rfl ?_
  refine a_aload_n (pc := 60) C dX4_init_60 rfl ?_
  refine a_iconst (pc := 61) (v := nI 4) C dX4_init_61 (by decide) ?_
  refine a_newI (pc := 62) C dX4_init_62 (by decide) (Nat.le_of_ble_eq_true rfl) (Nat.le_of_ble_eq_true rfl) (fun q8 => ?_)
  refine a_putF4 (pc := 64) (ws2 := [(h, .inr (4, [.ref q1, .ref q2, .ref q3, .ref q4, .ref q5, .int (nI 0), .ref q6, .ref q7, .int (nI 0), .int (nI 0), .int (nI 0), .int (nI 0), .int (nI 0), .ref q8, .null, .null, .null])), (q1, .inl (g.2.1.1, 46, .inl (fun _ => nI 0))), (q2, .inl (g.2.1.1, 46, .inl (fun _ => nI 0))), (q3, .inl (g.2.1.1, 46, .inl (fun _ => nI 0))), (q4, .inl (g.2.1.1, 46, .inl (fun _ => nI 0))), (q5, .inl (g.2.1.1, 7, .inl (fun _ => nI 0))), (q6, .inl (g.2.1.1, 12, .inl (fun _ => nI 0))), (q7, .inl (g.2.1.1, 120, .inl (fun _ => nI 0))), (q8, .inl (g.2.1.1, 4, .inl (fun _ => nI 0)))]) C hnm dX4_init_64 0 rfl 13 (by decide) fl_X4_31 rfl rfl rfl rfl (Nat.le_of_ble_eq_true rfl) rfl ?_
  refine a_aload_n (pc := 67) C dX4_init_67 rfl ?_
  refine a_iconst (pc := 68) (v := nI 4) C dX4_init_68 (by decide) ?_
  refine a_newI (pc := 69) C dX4_init_69 (by decide) (Nat.le_of_ble_eq_true rfl) (Nat.le_of_ble_eq_true rfl) (fun q9 => ?_)
  refine a_putF4 (pc := 71) (ws2 := [(h, .inr (4, [.ref q1, .ref q2, .ref q3, .ref q4, .ref q5, .int (nI 0), .ref q6, .ref q7, .int (nI 0), .int (nI 0), .int (nI 0), .int (nI 0), .int (nI 0), .ref q8, .ref q9, .null, .null])), (q1, .inl (g.2.1.1, 46, .inl (fun _ => nI 0))), (q2, .inl (g.2.1.1, 46, .inl (fun _ => nI 0))), (q3, .inl (g.2.1.1, 46, .inl (fun _ => nI 0))), (q4, .inl (g.2.1.1, 46, .inl (fun _ => nI 0))), (q5, .inl (g.2.1.1, 7, .inl (fun _ => nI 0))), (q6, .inl (g.2.1.1, 12, .inl (fun _ => nI 0))), (q7, .inl (g.2.1.1, 120, .inl (fun _ => nI 0))), (q8, .inl (g.2.1.1, 4, .inl (fun _ => nI 0))), (q9, .inl (g.2.1.1, 4, .inl (fun _ => nI 0)))]) C hnm dX4_init_71 0 rfl 14 (by decide) fl_X4_34 rfl rfl rfl rfl (Nat.le_of_ble_eq_true rfl) rfl ?_
  refine a_aload_n (pc := 74) C dX4_init_74 rfl ?_
  refine a_sipush (pc := 75) (v := nI 160) C dX4_init_75 (by decide) ?_
  refine a_newJ (pc := 78) C dX4_init_78 (by decide) (Nat.le_of_ble_eq_true rfl) (Nat.le_of_ble_eq_true rfl) (fun q10 => ?_)
  refine a_putF4 (pc := 80) (ws2 := [(h, .inr (4, [.ref q1, .ref q2, .ref q3, .ref q4, .ref q5, .int (nI 0), .ref q6, .ref q7, .int (nI 0), .int (nI 0), .int (nI 0), .int (nI 0), .int (nI 0), .ref q8, .ref q9, .ref q10, .null])), (q1, .inl (g.2.1.1, 46, .inl (fun _ => nI 0))), (q2, .inl (g.2.1.1, 46, .inl (fun _ => nI 0))), (q3, .inl (g.2.1.1, 46, .inl (fun _ => nI 0))), (q4, .inl (g.2.1.1, 46, .inl (fun _ => nI 0))), (q5, .inl (g.2.1.1, 7, .inl (fun _ => nI 0))), (q6, .inl (g.2.1.1, 12, .inl (fun _ => nI 0))), (q7, .inl (g.2.1.1, 120, .inl (fun _ => nI 0))), (q8, .inl (g.2.1.1, 4, .inl (fun _ => nI 0))), (q9, .inl (g.2.1.1, 4, .inl (fun _ => nI 0))), (q10, .inl (g.2.1.2.1, 160, .inr (.inl (fun _ => 0))))]) C hnm dX4_init_80 0 rfl 15 (by decide) fl_X4_37 rfl rfl rfl rfl (Nat.le_of_ble_eq_true rfl) rfl ?_
  refine a_aload_n (pc := 83) C dX4_init_83 rfl ?_
  refine a_bipush (pc := 84) (v := nI 40) C dX4_init_84 (by decide) ?_
  refine a_newJ (pc := 86) C dX4_init_86 (by decide) (Nat.le_of_ble_eq_true rfl) (Nat.le_of_ble_eq_true rfl) (fun q11 => ?_)
  refine a_putF4 (pc := 88) (ws2 := [(h, .inr (4, [.ref q1, .ref q2, .ref q3, .ref q4, .ref q5, .int (nI 0), .ref q6, .ref q7, .int (nI 0), .int (nI 0), .int (nI 0), .int (nI 0), .int (nI 0), .ref q8, .ref q9, .ref q10, .ref q11])), (q1, .inl (g.2.1.1, 46, .inl (fun _ => nI 0))), (q2, .inl (g.2.1.1, 46, .inl (fun _ => nI 0))), (q3, .inl (g.2.1.1, 46, .inl (fun _ => nI 0))), (q4, .inl (g.2.1.1, 46, .inl (fun _ => nI 0))), (q5, .inl (g.2.1.1, 7, .inl (fun _ => nI 0))), (q6, .inl (g.2.1.1, 12, .inl (fun _ => nI 0))), (q7, .inl (g.2.1.1, 120, .inl (fun _ => nI 0))), (q8, .inl (g.2.1.1, 4, .inl (fun _ => nI 0))), (q9, .inl (g.2.1.1, 4, .inl (fun _ => nI 0))), (q10, .inl (g.2.1.2.1, 160, .inr (.inl (fun _ => 0)))), (q11, .inl (g.2.1.2.1, 40, .inr (.inl (fun _ => 0))))]) C hnm dX4_init_88 0 rfl 16 (by decide) fl_X4_41 rfl rfl rfl rfl (Nat.le_of_ble_eq_true rfl) rfl ?_
  refine a_aload_n (pc := 91) C dX4_init_91 rfl ?_
  refine a_get4 (pc := 92) C dX4_init_92 0 rfl 0 (by decide) fl_X4_7 rfl ?_
  refine a_iconst (pc := 95) (v := nI 2) C dX4_init_95 (by decide) ?_
  refine a_sipush (pc := 96) (v := nI 1000) C dX4_init_96 (by decide) ?_
  refine a_iastM (pc := 99) (f := z0) (ws2 := [(h, .inr (4, [.ref q1, .ref q2, .ref q3, .ref q4, .ref q5, .int (nI 0), .ref q6, .ref q7, .int (nI 0), .int (nI 0), .int (nI 0), .int (nI 0), .int (nI 0), .ref q8, .ref q9, .ref q10, .ref q11])), (q1, .inl (g.2.1.1, 46, .inl (fun j => nI (updN z0 2 1000 j)))), (q2, .inl (g.2.1.1, 46, .inl (fun _ => nI 0))), (q3, .inl (g.2.1.1, 46, .inl (fun _ => nI 0))), (q4, .inl (g.2.1.1, 46, .inl (fun _ => nI 0))), (q5, .inl (g.2.1.1, 7, .inl (fun _ => nI 0))), (q6, .inl (g.2.1.1, 12, .inl (fun _ => nI 0))), (q7, .inl (g.2.1.1, 120, .inl (fun _ => nI 0))), (q8, .inl (g.2.1.1, 4, .inl (fun _ => nI 0))), (q9, .inl (g.2.1.1, 4, .inl (fun _ => nI 0))), (q10, .inl (g.2.1.2.1, 160, .inr (.inl (fun _ => 0)))), (q11, .inl (g.2.1.2.1, 40, .inr (.inl (fun _ => 0))))]) C dX4_init_99 1 rfl rfl (by decide) (by decide) rfl ?_
  refine a_arrc (q0 := 1) (f2 := fun j => nI (sF 0 0 gr0 z0 z0 z0 z0 j)) (ws2 := [(h, .inr (4, [.ref q1, .ref q2, .ref q3, .ref q4, .ref q5, .int (nI 0), .ref q6, .ref q7, .int (nI 0), .int (nI 0), .int (nI 0), .int (nI 0), .int (nI 0), .ref q8, .ref q9, .ref q10, .ref q11])), (q1, .inl (g.2.1.1, 46, .inl (fun j => nI (sF 0 0 gr0 z0 z0 z0 z0 j)))), (q2, .inl (g.2.1.1, 46, .inl (fun _ => nI 0))), (q3, .inl (g.2.1.1, 46, .inl (fun _ => nI 0))), (q4, .inl (g.2.1.1, 46, .inl (fun _ => nI 0))), (q5, .inl (g.2.1.1, 7, .inl (fun _ => nI 0))), (q6, .inl (g.2.1.1, 12, .inl (fun _ => nI 0))), (q7, .inl (g.2.1.1, 120, .inl (fun _ => nI 0))), (q8, .inl (g.2.1.1, 4, .inl (fun _ => nI 0))), (q9, .inl (g.2.1.1, 4, .inl (fun _ => nI 0))), (q10, .inl (g.2.1.2.1, 160, .inr (.inl (fun _ => 0)))), (q11, .inl (g.2.1.2.1, 40, .inr (.inl (fun _ => 0))))]) rfl (fun j hj => congrArg nI (s0_eq j hj)) rfl ?_
  exact a_vret C Rr dX4_init_100 ⟨adr [h, q1, q2, q3, q4, q5, q6, q7, q8, q9, q10, q11], rfl, rfl⟩
set_option maxHeartbeats 4000000 in
set_option maxRecDepth 100000 in
theorem k_stock (g : Gl) (h : Nat) : Cc g yX3_init cX3_init 2 (rn 2 33 504 32) [.ref h] [(h, .inr (3, df3))] 33 504 (fun w2 => ∃ A : Ac, A.1 0 = h ∧ w2 = spX g A X0 JC0) := by
  refine cc_of (by decide) rfl (Nat.le_of_ble_eq_true rfl) ?_
  intro φ C0 Rr hnm hao
  have C : Cx φ g cX3_init 2 RX3 (rn 2 33 504 32) := C0
  show Ga φ g 0 0 2 0 [(0, .ref h)] [] ([(h, .inr (3, [.null, .null, .null, .null, .null, .null, .int (nI 0)]))])
  refine a_aload_n (pc := 0) C dX3_init_0 rfl ?_
  refine a_objInit (pc := 1) C dX3_init_1 ml_X3_1 (Nat.le_of_ble_eq_true rfl) (Nat.le_of_ble_eq_true rfl) ?_
  refine a_aload_n (pc := 4) C dX3_init_4 rfl ?_
  refine a_new0 (pc := 5) C dX3_init_5 cl_X3_7 (Nat.le_of_ble_eq_true rfl) (Nat.le_of_ble_eq_true rfl) (fun n_ap => ?_)
  refine a_dup (pc := 8) C dX3_init_8 rfl ?_
  refine a_init (pc := 9) C hao dX3_init_9 ml_X3_9 im_X0_init in_X0 cd_X0_init rfl (by decide +kernel) (k_pot g n_ap) ⟨rfl, rfl, (Nat.le_of_ble_eq_true rfl), (Nat.le_of_ble_eq_true rfl)⟩ (Nat.le_of_ble_eq_true rfl) (Nat.le_of_ble_eq_true rfl) (Nat.le_of_ble_eq_true rfl) (fun w9 h9 => ?_)
  obtain ⟨ap, e_ap, rfl⟩ := h9
  subst e_ap
  refine a_putF3 (pc := 12) (ws2 := [(h, .inr (3, [.ref (ap 0), .null, .null, .null, .null, .null, .int (nI 0)]))] ++ potV g ap gr0 z0 z0 z0 z0 z0 (sumN gr0 12) 0 0) C hnm dX3_init_12 0 rfl 0 (by decide) fl_X3_10 rfl rfl rfl rfl (Nat.le_of_ble_eq_true rfl) rfl ?_
  refine a_aload_n (pc := 15) C dX3_init_15 rfl ?_
  refine a_new0 (pc := 16) C dX3_init_16 cl_X3_7 (Nat.le_of_ble_eq_true rfl) (Nat.le_of_ble_eq_true rfl) (fun n_ak => ?_)
  refine a_dup (pc := 19) C dX3_init_19 rfl ?_
  refine a_init (pc := 20) C hao dX3_init_20 ml_X3_9 im_X0_init in_X0 cd_X0_init rfl (by decide +kernel) (k_pot g n_ak) ⟨rfl, rfl, (Nat.le_of_ble_eq_true rfl), (Nat.le_of_ble_eq_true rfl)⟩ (Nat.le_of_ble_eq_true rfl) (Nat.le_of_ble_eq_true rfl) (Nat.le_of_ble_eq_true rfl) (fun w9 h9 => ?_)
  obtain ⟨ak, e_ak, rfl⟩ := h9
  subst e_ak
  refine a_putF3 (pc := 23) (ws2 := [(h, .inr (3, [.ref (ap 0), .ref (ak 0), .null, .null, .null, .null, .int (nI 0)]))] ++ potV g ap gr0 z0 z0 z0 z0 z0 (sumN gr0 12) 0 0 ++ potV g ak gr0 z0 z0 z0 z0 z0 (sumN gr0 12) 0 0) C hnm dX3_init_23 0 rfl 1 (by decide) fl_X3_16 rfl rfl rfl rfl (Nat.le_of_ble_eq_true rfl) rfl ?_
  refine a_aload_n (pc := 26) C dX3_init_26 rfl ?_
  refine a_new0 (pc := 27) C dX3_init_27 cl_X3_7 (Nat.le_of_ble_eq_true rfl) (Nat.le_of_ble_eq_true rfl) (fun n_at => ?_)
  refine a_dup (pc := 30) C dX3_init_30 rfl ?_
  refine a_init (pc := 31) C hao dX3_init_31 ml_X3_9 im_X0_init in_X0 cd_X0_init rfl (by decide +kernel) (k_pot g n_at) ⟨rfl, rfl, (Nat.le_of_ble_eq_true rfl), (Nat.le_of_ble_eq_true rfl)⟩ (Nat.le_of_ble_eq_true rfl) (Nat.le_of_ble_eq_true rfl) (Nat.le_of_ble_eq_true rfl) (fun w9 h9 => ?_)
  obtain ⟨at', e_at', rfl⟩ := h9
  subst e_at'
  refine a_putF3 (pc := 34) (ws2 := [(h, .inr (3, [.ref (ap 0), .ref (ak 0), .ref (at' 0), .null, .null, .null, .int (nI 0)]))] ++ potV g ap gr0 z0 z0 z0 z0 z0 (sumN gr0 12) 0 0 ++ potV g ak gr0 z0 z0 z0 z0 z0 (sumN gr0 12) 0 0 ++ potV g at' gr0 z0 z0 z0 z0 z0 (sumN gr0 12) 0 0) C hnm dX3_init_34 0 rfl 2 (by decide) fl_X3_19 rfl rfl rfl rfl (Nat.le_of_ble_eq_true rfl) rfl ?_
  refine a_aload_n (pc := 37) C dX3_init_37 rfl ?_
  refine a_new2 (pc := 38) C dX3_init_38 cl_X3_22 (Nat.le_of_ble_eq_true rfl) (Nat.le_of_ble_eq_true rfl) (fun n_au => ?_)
  refine a_dup (pc := 41) C dX3_init_41 rfl ?_
  refine a_init (pc := 42) C hao dX3_init_42 ml_X3_24 im_X2_init in_X2 cd_X2_init rfl (by decide +kernel) (k_tape g n_au) ⟨rfl, rfl, (Nat.le_of_ble_eq_true rfl), (Nat.le_of_ble_eq_true rfl)⟩ (Nat.le_of_ble_eq_true rfl) (Nat.le_of_ble_eq_true rfl) (Nat.le_of_ble_eq_true rfl) (fun w9 h9 => ?_)
  obtain ⟨au, e_au, rfl⟩ := h9
  subst e_au
  refine a_putF3 (pc := 45) (ws2 := [(h, .inr (3, [.ref (ap 0), .ref (ak 0), .ref (at' 0), .ref (au 0), .null, .null, .int (nI 0)]))] ++ potV g ap gr0 z0 z0 z0 z0 z0 (sumN gr0 12) 0 0 ++ potV g ak gr0 z0 z0 z0 z0 z0 (sumN gr0 12) 0 0 ++ potV g at' gr0 z0 z0 z0 z0 z0 (sumN gr0 12) 0 0 ++ tpV g au (tbB z0) 0 0 0 0 0) C hnm dX3_init_45 0 rfl 3 (by decide) fl_X3_25 rfl rfl rfl rfl (Nat.le_of_ble_eq_true rfl) rfl ?_
  refine a_aload_n (pc := 48) C dX3_init_48 rfl ?_
  refine a_iconst (pc := 49) (v := nI 4) C dX3_init_49 (by decide) ?_
  refine a_newQ (pc := 50) C hao dX3_init_50 cl_X3_29 (Nat.le_of_ble_eq_true rfl) (Nat.le_of_ble_eq_true rfl) (fun qe => ?_)
  refine a_putF3 (pc := 53) (ws2 := [(h, .inr (3, [.ref (ap 0), .ref (ak 0), .ref (at' 0), .ref (au 0), .ref qe, .null, .int (nI 0)]))] ++ potV g ap gr0 z0 z0 z0 z0 z0 (sumN gr0 12) 0 0 ++ potV g ak gr0 z0 z0 z0 z0 z0 (sumN gr0 12) 0 0 ++ potV g at' gr0 z0 z0 z0 z0 z0 (sumN gr0 12) 0 0 ++ tpV g au (tbB z0) 0 0 0 0 0 ++ [(qe, .inl (g.2.1.2.2.2, 4, .inr (.inr (.inr (.inr (fun _ => none))))))]) C hnm dX3_init_53 0 rfl 4 (by decide) fl_X3_31 rfl rfl rfl rfl (Nat.le_of_ble_eq_true rfl) rfl ?_
  refine a_aload_n (pc := 56) C dX3_init_56 rfl ?_
  refine a_bipush (pc := 57) (v := nI 7) C dX3_init_57 (by decide) ?_
  refine a_newI (pc := 59) C dX3_init_59 (by decide) (Nat.le_of_ble_eq_true rfl) (Nat.le_of_ble_eq_true rfl) (fun qy => ?_)
  refine a_putF3 (pc := 61) (ws2 := [(h, .inr (3, [.ref (ap 0), .ref (ak 0), .ref (at' 0), .ref (au 0), .ref qe, .ref qy, .int (nI 0)]))] ++ potV g ap gr0 z0 z0 z0 z0 z0 (sumN gr0 12) 0 0 ++ potV g ak gr0 z0 z0 z0 z0 z0 (sumN gr0 12) 0 0 ++ potV g at' gr0 z0 z0 z0 z0 z0 (sumN gr0 12) 0 0 ++ tpV g au (tbB z0) 0 0 0 0 0 ++ [(qe, .inl (g.2.1.2.2.2, 4, .inr (.inr (.inr (.inr (fun _ => none))))))] ++ [(qy, .inl (g.2.1.1, 7, .inl (fun _ => nI 0)))]) C hnm dX3_init_61 0 rfl 5 (by decide) fl_X3_35 rfl rfl rfl rfl (Nat.le_of_ble_eq_true rfl) rfl ?_
  refine a_iconst (pc := 64) (v := nI 0) C dX3_init_64 (by decide) ?_
  refine a_istore_n (pc := 65) (lv2 := [(0, .ref h), (1, .int (nI 0))]) C dX3_init_65 rfl (Nat.le_of_ble_eq_true rfl) rfl ?_
  refine a_iload_n (pc := 66) C dX3_init_66 rfl ?_
  refine a_iconst (pc := 67) (v := nI 4) C dX3_init_67 (by decide) ?_
  refine a_icmp_geN (pc := 68) (tgt := 90) C dX3_init_68 (by decide) (by decide) (by decide) (fun z => absurd z (by decide)) (fun _ => ?_)
  refine a_aload_n (pc := 71) C dX3_init_71 rfl ?_
  refine a_get3 (pc := 72) C dX3_init_72 0 rfl 4 (by decide) fl_X3_31 rfl ?_
  refine a_iload_n (pc := 75) C dX3_init_75 rfl ?_
  refine a_new1 (pc := 76) C dX3_init_76 cl_X3_29 (Nat.le_of_ble_eq_true rfl) (Nat.le_of_ble_eq_true rfl) (fun n_a0 => ?_)
  refine a_dup (pc := 79) C dX3_init_79 rfl ?_
  refine a_init (pc := 80) C hao dX3_init_80 ml_X3_39 im_X1_init in_X1 cd_X1_init rfl (by decide +kernel) (k_sheet g n_a0) ⟨rfl, rfl, (Nat.le_of_ble_eq_true rfl), (Nat.le_of_ble_eq_true rfl)⟩ (Nat.le_of_ble_eq_true rfl) (Nat.le_of_ble_eq_true rfl) (Nat.le_of_ble_eq_true rfl) (fun w9 h9 => ?_)
  obtain ⟨a0, e_a0, rfl⟩ := h9
  subst e_a0
  refine a_astQ (pc := 83) (ws2 := [(h, .inr (3, [.ref (ap 0), .ref (ak 0), .ref (at' 0), .ref (au 0), .ref qe, .ref qy, .int (nI 0)]))] ++ potV g ap gr0 z0 z0 z0 z0 z0 (sumN gr0 12) 0 0 ++ potV g ak gr0 z0 z0 z0 z0 z0 (sumN gr0 12) 0 0 ++ potV g at' gr0 z0 z0 z0 z0 z0 (sumN gr0 12) 0 0 ++ tpV g au (tbB z0) 0 0 0 0 0 ++ [(qe, .inl (g.2.1.2.2.2, 4, .inr (.inr (.inr (.inr (va_up (fun _ => none) 0 (some (a0 0))))))))] ++ [(qy, .inl (g.2.1.1, 7, .inl (fun _ => nI 0)))] ++ shV g a0 (fun _ => 0) 0 0) C dX3_init_83 24 26 rfl rfl (by decide) rfl ?_
  refine a_iinc (pc := 84) (v := nI 1) (lv2 := [(0, .ref h), (1, .int (nI 1))]) C dX3_init_84 rfl (by decide) (Nat.le_of_ble_eq_true rfl) rfl ?_
  refine a_goto (pc := 87) (tgt := 66) C dX3_init_87 (by decide) ?_
  refine a_iload_n (pc := 66) C dX3_init_66 rfl ?_
  refine a_iconst (pc := 67) (v := nI 4) C dX3_init_67 (by decide) ?_
  refine a_icmp_geN (pc := 68) (tgt := 90) C dX3_init_68 (by decide) (by decide) (by decide) (fun z => absurd z (by decide)) (fun _ => ?_)
  refine a_aload_n (pc := 71) C dX3_init_71 rfl ?_
  refine a_get3 (pc := 72) C dX3_init_72 0 rfl 4 (by decide) fl_X3_31 rfl ?_
  refine a_iload_n (pc := 75) C dX3_init_75 rfl ?_
  refine a_new1 (pc := 76) C dX3_init_76 cl_X3_29 (Nat.le_of_ble_eq_true rfl) (Nat.le_of_ble_eq_true rfl) (fun n_a1 => ?_)
  refine a_dup (pc := 79) C dX3_init_79 rfl ?_
  refine a_init (pc := 80) C hao dX3_init_80 ml_X3_39 im_X1_init in_X1 cd_X1_init rfl (by decide +kernel) (k_sheet g n_a1) ⟨rfl, rfl, (Nat.le_of_ble_eq_true rfl), (Nat.le_of_ble_eq_true rfl)⟩ (Nat.le_of_ble_eq_true rfl) (Nat.le_of_ble_eq_true rfl) (Nat.le_of_ble_eq_true rfl) (fun w9 h9 => ?_)
  obtain ⟨a1, e_a1, rfl⟩ := h9
  subst e_a1
  refine a_astQ (pc := 83) (ws2 := [(h, .inr (3, [.ref (ap 0), .ref (ak 0), .ref (at' 0), .ref (au 0), .ref qe, .ref qy, .int (nI 0)]))] ++ potV g ap gr0 z0 z0 z0 z0 z0 (sumN gr0 12) 0 0 ++ potV g ak gr0 z0 z0 z0 z0 z0 (sumN gr0 12) 0 0 ++ potV g at' gr0 z0 z0 z0 z0 z0 (sumN gr0 12) 0 0 ++ tpV g au (tbB z0) 0 0 0 0 0 ++ [(qe, .inl (g.2.1.2.2.2, 4, .inr (.inr (.inr (.inr (va_up (va_up (fun _ => none) 0 (some (a0 0))) 1 (some (a1 0))))))))] ++ [(qy, .inl (g.2.1.1, 7, .inl (fun _ => nI 0)))] ++ shV g a0 (fun _ => 0) 0 0 ++ shV g a1 (fun _ => 0) 0 0) C dX3_init_83 24 28 rfl rfl (by decide) rfl ?_
  refine a_iinc (pc := 84) (v := nI 2) (lv2 := [(0, .ref h), (1, .int (nI 2))]) C dX3_init_84 rfl (by decide) (Nat.le_of_ble_eq_true rfl) rfl ?_
  refine a_goto (pc := 87) (tgt := 66) C dX3_init_87 (by decide) ?_
  refine a_iload_n (pc := 66) C dX3_init_66 rfl ?_
  refine a_iconst (pc := 67) (v := nI 4) C dX3_init_67 (by decide) ?_
  refine a_icmp_geN (pc := 68) (tgt := 90) C dX3_init_68 (by decide) (by decide) (by decide) (fun z => absurd z (by decide)) (fun _ => ?_)
  refine a_aload_n (pc := 71) C dX3_init_71 rfl ?_
  refine a_get3 (pc := 72) C dX3_init_72 0 rfl 4 (by decide) fl_X3_31 rfl ?_
  refine a_iload_n (pc := 75) C dX3_init_75 rfl ?_
  refine a_new1 (pc := 76) C dX3_init_76 cl_X3_29 (Nat.le_of_ble_eq_true rfl) (Nat.le_of_ble_eq_true rfl) (fun n_a2 => ?_)
  refine a_dup (pc := 79) C dX3_init_79 rfl ?_
  refine a_init (pc := 80) C hao dX3_init_80 ml_X3_39 im_X1_init in_X1 cd_X1_init rfl (by decide +kernel) (k_sheet g n_a2) ⟨rfl, rfl, (Nat.le_of_ble_eq_true rfl), (Nat.le_of_ble_eq_true rfl)⟩ (Nat.le_of_ble_eq_true rfl) (Nat.le_of_ble_eq_true rfl) (Nat.le_of_ble_eq_true rfl) (fun w9 h9 => ?_)
  obtain ⟨a2, e_a2, rfl⟩ := h9
  subst e_a2
  refine a_astQ (pc := 83) (ws2 := [(h, .inr (3, [.ref (ap 0), .ref (ak 0), .ref (at' 0), .ref (au 0), .ref qe, .ref qy, .int (nI 0)]))] ++ potV g ap gr0 z0 z0 z0 z0 z0 (sumN gr0 12) 0 0 ++ potV g ak gr0 z0 z0 z0 z0 z0 (sumN gr0 12) 0 0 ++ potV g at' gr0 z0 z0 z0 z0 z0 (sumN gr0 12) 0 0 ++ tpV g au (tbB z0) 0 0 0 0 0 ++ [(qe, .inl (g.2.1.2.2.2, 4, .inr (.inr (.inr (.inr (va_up (va_up (va_up (fun _ => none) 0 (some (a0 0))) 1 (some (a1 0))) 2 (some (a2 0))))))))] ++ [(qy, .inl (g.2.1.1, 7, .inl (fun _ => nI 0)))] ++ shV g a0 (fun _ => 0) 0 0 ++ shV g a1 (fun _ => 0) 0 0 ++ shV g a2 (fun _ => 0) 0 0) C dX3_init_83 24 30 rfl rfl (by decide) rfl ?_
  refine a_iinc (pc := 84) (v := nI 3) (lv2 := [(0, .ref h), (1, .int (nI 3))]) C dX3_init_84 rfl (by decide) (Nat.le_of_ble_eq_true rfl) rfl ?_
  refine a_goto (pc := 87) (tgt := 66) C dX3_init_87 (by decide) ?_
  refine a_iload_n (pc := 66) C dX3_init_66 rfl ?_
  refine a_iconst (pc := 67) (v := nI 4) C dX3_init_67 (by decide) ?_
  refine a_icmp_geN (pc := 68) (tgt := 90) C dX3_init_68 (by decide) (by decide) (by decide) (fun z => absurd z (by decide)) (fun _ => ?_)
  refine a_aload_n (pc := 71) C dX3_init_71 rfl ?_
  refine a_get3 (pc := 72) C dX3_init_72 0 rfl 4 (by decide) fl_X3_31 rfl ?_
  refine a_iload_n (pc := 75) C dX3_init_75 rfl ?_
  refine a_new1 (pc := 76) C dX3_init_76 cl_X3_29 (Nat.le_of_ble_eq_true rfl) (Nat.le_of_ble_eq_true rfl) (fun n_a3 => ?_)
  refine a_dup (pc := 79) C dX3_init_79 rfl ?_
  refine a_init (pc := 80) C hao dX3_init_80 ml_X3_39 im_X1_init in_X1 cd_X1_init rfl (by decide +kernel) (k_sheet g n_a3) ⟨rfl, rfl, (Nat.le_of_ble_eq_true rfl), (Nat.le_of_ble_eq_true rfl)⟩ (Nat.le_of_ble_eq_true rfl) (Nat.le_of_ble_eq_true rfl) (Nat.le_of_ble_eq_true rfl) (fun w9 h9 => ?_)
  obtain ⟨a3, e_a3, rfl⟩ := h9
  subst e_a3
  refine a_astQ (pc := 83) (ws2 := [(h, .inr (3, [.ref (ap 0), .ref (ak 0), .ref (at' 0), .ref (au 0), .ref qe, .ref qy, .int (nI 0)]))] ++ potV g ap gr0 z0 z0 z0 z0 z0 (sumN gr0 12) 0 0 ++ potV g ak gr0 z0 z0 z0 z0 z0 (sumN gr0 12) 0 0 ++ potV g at' gr0 z0 z0 z0 z0 z0 (sumN gr0 12) 0 0 ++ tpV g au (tbB z0) 0 0 0 0 0 ++ [(qe, .inl (g.2.1.2.2.2, 4, .inr (.inr (.inr (.inr (va_up (va_up (va_up (va_up (fun _ => none) 0 (some (a0 0))) 1 (some (a1 0))) 2 (some (a2 0))) 3 (some (a3 0))))))))] ++ [(qy, .inl (g.2.1.1, 7, .inl (fun _ => nI 0)))] ++ shV g a0 (fun _ => 0) 0 0 ++ shV g a1 (fun _ => 0) 0 0 ++ shV g a2 (fun _ => 0) 0 0 ++ shV g a3 (fun _ => 0) 0 0) C dX3_init_83 24 32 rfl rfl (by decide) rfl ?_
  refine a_iinc (pc := 84) (v := nI 4) (lv2 := [(0, .ref h), (1, .int (nI 4))]) C dX3_init_84 rfl (by decide) (Nat.le_of_ble_eq_true rfl) rfl ?_
  refine a_goto (pc := 87) (tgt := 66) C dX3_init_87 (by decide) ?_
  refine a_iload_n (pc := 66) C dX3_init_66 rfl ?_
  refine a_iconst (pc := 67) (v := nI 4) C dX3_init_67 (by decide) ?_
  refine a_icmp_geN (pc := 68) (tgt := 90) C dX3_init_68 (by decide) (by decide) (by decide) (fun _ => ?_) (fun z => absurd z (by decide))
  refine a_arrq (q0 := 24) (f2 := shad a0 a1 a2 a3) (ws2 := [(h, .inr (3, [.ref (ap 0), .ref (ak 0), .ref (at' 0), .ref (au 0), .ref qe, .ref qy, .int (nI 0)]))] ++ potV g ap gr0 z0 z0 z0 z0 z0 (sumN gr0 12) 0 0 ++ potV g ak gr0 z0 z0 z0 z0 z0 (sumN gr0 12) 0 0 ++ potV g at' gr0 z0 z0 z0 z0 z0 (sumN gr0 12) 0 0 ++ tpV g au (tbB z0) 0 0 0 0 0 ++ shA g (fun _ => qe) a0 a1 a2 a3 ++ [(qy, .inl (g.2.1.1, 7, .inl (fun _ => nI 0)))] ++ shV g a0 (fun _ => 0) 0 0 ++ shV g a1 (fun _ => 0) 0 0 ++ shV g a2 (fun _ => 0) 0 0 ++ shV g a3 (fun _ => 0) 0 0) rfl (fun j hj => by rcases (show j = 0 ∨ j = 1 ∨ j = 2 ∨ j = 3 by omega) with rfl | rfl | rfl | rfl <;> rfl) rfl ?_
  refine a_sub (ws2 := spX g (fun _ => h, ap, ak, at', au, fun _ => qe, a0, a1, a2, a3, fun _ => qy) X0 JC0) [0, 1, 2, 3, 4, 5, 6, 7, 8, 9, 10, 11, 12, 13, 14, 15, 16, 17, 18, 19, 20, 21, 22, 23, 24, 26, 27, 28, 29, 30, 31, 32, 33, 25] rfl rfl ?_
  exact a_vret C Rr dX3_init_90 ⟨(fun _ => h, ap, ak, at', au, fun _ => qe, a0, a1, a2, a3, fun _ => qy), rfl, rfl⟩
