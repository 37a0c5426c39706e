def kdW (w : Int64) : Int32 := if w = 114155 then nI 0 else if w = 220896300 then nI 1 else if w = 7931332 then nI 2 else if w = 773461593 then nI 3 else if w = 21073909381 then nI 4 else if w = 2500250 then nI 5 else -1
theorem cod_pos {f : Nat → Nat} {a m : Nat} (h : ∀ i, i < m + 1 → isL (f (a + i))) : 0 < codN f a (m + 1) := by
  rw [codN]
  have := h m (by omega)
  split
  · omega
  · omega
theorem cod_inj {f g : Nat → Nat} {a b : Nat} : ∀ n m, (∀ i, i < m → isL (f (a + i))) → (∀ i, i < n → isL (g (b + i))) → codN g b n ≤ 36028797018963967 → codN f a m = codN g b n → m = n ∧ ∀ i, i < m → f (a + i) = g (b + i)
  | 0, 0, _, _, _, _ => ⟨rfl, fun i h => absurd h (Nat.not_lt_zero i)⟩
  | 0, m + 1, hf, _, _, e => by
    have := cod_pos hf
    rw [e, codN] at this
    exact absurd this (Nat.lt_irrefl 0)
  | n + 1, 0, _, hg, _, e => by
    have := cod_pos hg
    rw [← e, codN] at this
    exact absurd this (Nat.lt_irrefl 0)
  | n + 1, m + 1, hf, hg, hc, e => by
    have h1 := hf m (by omega)
    have h2 := hg n (by omega)
    have z1 : ¬ 36028797018963967 < codN g b n := fun q => by
      rw [codN, if_pos q] at hc
      omega
    have z2 : ¬ 36028797018963967 < codN f a m := fun q => by
      rw [codN, if_pos q] at e
      omega
    rw [codN, if_neg z2, codN, if_neg z1] at e
    obtain ⟨r1, r2⟩ := cod_inj n m (fun i hi => hf i (by omega)) (fun i hi => hg i (by omega)) (by omega) (by omega)
    refine ⟨by omega, fun i hi => ?_⟩
    rcases Nat.lt_or_ge i m with q | q
    · exact r2 i q
    · rw [show i = m by omega]
      rw [← r1] at e h2
      omega
theorem cod_con {f g : Nat → Nat} {a b : Nat} : ∀ m, (∀ i, i < m → f (a + i) = g (b + i)) → codN f a m = codN g b m
  | 0, _ => rfl
  | m + 1, h => by
    rw [codN, codN, cod_con m (fun i hi => h i (by omega)), h m (by omega)]
/-- the letters of a word -/
def ltr (ws : List Nat) : Nat → Nat := fun i => ws.getD i 0
/-- the word ws stands from fr to to -/
def isW (tp : Nat → Nat) (tn fr to : Nat) (ws : List Nat) : Prop := (fr < tn ∧ isL (tp fr)) ∧ to - fr = ws.length ∧ ∀ i, i < ws.length → tp (fr + i) = ltr ws i
theorem wrd_iff {tp : Nat → Nat} {tn fr to c : Nat} (ws : List Nat) (htok : to = tkE tp tn fr) (hc0 : 0 < c) (hc : c ≤ 36028797018963967) (hw : codN (ltr ws) 0 ws.length = c) (hl : ∀ i, i < ws.length → isL (ltr ws (0 + i))) (hb : ∀ m, codN tp fr m < 2 ^ 61) : wdL tp tn fr to = lN c ↔ isW tp tn fr to ws := by
  unfold wdL isW
  by_cases e : fr < tn ∧ isL (tp fr)
  · rw [if_pos e]
    have hall := tk_let htok e
    have hi : ∀ i, i < to - fr → isL (tp (fr + i)) := fun i h => hall _ (by omega) (by omega)
    constructor
    · intro q
      have q2 := congrArg Int64.toInt q
      rw [lN_int (hb _), lN_int (by omega)] at q2
      obtain ⟨r1, r2⟩ := cod_inj ws.length (to - fr) hi hl (by rw [hw]; exact hc) (by rw [hw]; omega)
      exact ⟨e, r1, fun i h => by have := r2 i (by omega); rw [Nat.zero_add] at this; exact this⟩
    · rintro ⟨-, r1, r2⟩
      rw [r1, cod_con (g := ltr ws) (b := 0) ws.length (fun i h => by rw [Nat.zero_add]; exact r2 i h), hw]
  · rw [if_neg e]
    constructor
    · intro q
      have q2 := congrArg Int64.toInt q
      rw [lN_int (by omega)] at q2
      have h9 : (0 : Int64).toInt = 0 := rfl
      omega
    · intro q
      exact absurd q.1 e
set_option maxHeartbeats 400000 in
set_option maxRecDepth 100000 in
theorem m_kindHere (g : Gl) (a : Nat → Nat) (s : Nat → Nat) (ks : Nat → Nat) (os : Nat → Nat) (sd : Nat → Nat) (sts : Nat → Nat) (kp : Nat) (tk : Nat → Nat) (tp : Nat → Nat) (tn : Nat) (fr : Nat) (to : Nat) (vl : Nat) (bo : Nat → Nat) (so : Nat → Nat) (nm : Nat → Int64) (mv : Nat → Int64) (htb : ∀ j, tp j < 256) (htn : tn ≤ 120) (hft : fr ≤ tn) (htok : to = tkE tp tn fr) (hto : to ≤ tn) : Ct g yX4_kindHere cX4_kindHere 3 (some .int) (rk 3 68) [.ref (a 0)] (mdV g a s ks os sd sts kp tk tp tn fr to vl 0 bo so nm mv) (fun r w2 => r = some (.int (kdW (wdL tp tn fr to))) ∧ w2 = (mdV g a s ks os sd sts kp tk tp tn fr to vl 0 bo so nm mv)) := by
  refine ct_of (by decide) (Nat.le_of_ble_eq_true rfl) ?_
  intro φ C0 Rr
  have C : Cx φ g cX4_kindHere 3 RX4 (rk 3 68) := C0
  show Go φ g 3 0 [(0, .ref (a 0))] [] (mdV g a s ks os sd sts kp tk tp tn fr to vl 0 bo so nm mv)
  refine g_aload_n (pc := 0) C dX4_kindHere_0 rfl ?_
  refine g_vxl (pc := 1) (ws2 := (mdV g a s ks os sd sts kp tk tp tn fr to vl 0 bo so nm mv)) C dX4_kindHere_1 ml_X4_229 mf_X4_word (m_word g a s ks os sd sts kp tk tp tn fr to vl bo so nm mv htb htn (by omega) htok (by omega)) ⟨rfl, rfl, (Nat.le_of_ble_eq_true rfl), (Nat.le_of_ble_eq_true rfl)⟩ rfl rfl (Nat.le_of_ble_eq_true rfl) 0 rfl rfl rfl [0, 1, 2, 3, 4, 5, 6, 7, 8, 9, 10, 11] [] [0, 1, 2, 3, 4, 5, 6, 7, 8, 9, 10, 11] rfl rfl rfl rfl (by decide) rfl rfl ?_
  refine g_lstore_n (pc := 4) (lv2 := [(0, .ref (a 0)), (1, .long (wdL tp tn fr to))]) C dX4_kindHere_4 rfl (Nat.le_of_ble_eq_true rfl) rfl ?_
  refine g_lload_n (pc := 5) C dX4_kindHere_5 rfl ?_
  refine g_ldc2 (pc := 6) C dX4_kindHere_6 ckl_X4_233 rfl ?_
  refine g_lcmp (pc := 9) C dX4_kindHere_9 ?_
  refine g_if_neL (pc := 10) (tgt := 17) C dX4_kindHere_10 (by decide) (fun c1 => ?_) (fun c1 => ?_)
  · refine g_lload_n (pc := 17) C dX4_kindHere_17 rfl ?_
    refine g_ldc2 (pc := 18) C dX4_kindHere_18 ckl_X4_235 rfl ?_
    refine g_lcmp (pc := 21) C dX4_kindHere_21 ?_
    refine g_if_neL (pc := 22) (tgt := 29) C dX4_kindHere_22 (by decide) (fun c2 => ?_) (fun c2 => ?_)
    · refine g_lload_n (pc := 29) C dX4_kindHere_29 rfl ?_
      refine g_ldc2 (pc := 30) C dX4_kindHere_30 ckl_X4_237 rfl ?_
      refine g_lcmp (pc := 33) C dX4_kindHere_33 ?_
      refine g_if_neL (pc := 34) (tgt := 41) C dX4_kindHere_34 (by decide) (fun c3 => ?_) (fun c3 => ?_)
      · refine g_lload_n (pc := 41) C dX4_kindHere_41 rfl ?_
        refine g_ldc2 (pc := 42) C dX4_kindHere_42 ckl_X4_239 rfl ?_
        refine g_lcmp (pc := 45) C dX4_kindHere_45 ?_
        refine g_if_neL (pc := 46) (tgt := 53) C dX4_kindHere_46 (by decide) (fun c4 => ?_) (fun c4 => ?_)
        · refine g_lload_n (pc := 53) C dX4_kindHere_53 rfl ?_
          refine g_ldc2 (pc := 54) C dX4_kindHere_54 ckl_X4_241 rfl ?_
          refine g_lcmp (pc := 57) C dX4_kindHere_57 ?_
          refine g_if_neL (pc := 58) (tgt := 65) C dX4_kindHere_58 (by decide) (fun c5 => ?_) (fun c5 => ?_)
          · refine g_lload_n (pc := 65) C dX4_kindHere_65 rfl ?_
            refine g_ldc2 (pc := 66) C dX4_kindHere_66 ckl_X4_243 rfl ?_
            refine g_lcmp (pc := 69) C dX4_kindHere_69 ?_
            refine g_if_neL (pc := 70) (tgt := 77) C dX4_kindHere_70 (by decide) (fun c6 => ?_) (fun c6 => ?_)
            · refine g_iconst (pc := 77) (v := -1) C dX4_kindHere_77 (by decide) ?_
              exact g_iret C Rr dX4_kindHere_78 ⟨by rw [kdW, if_neg c1, if_neg c2, if_neg c3, if_neg c4, if_neg c5, if_neg c6], rfl⟩ rfl
            · refine g_iconst (pc := 73) (v := nI 5) C dX4_kindHere_73 (by decide) ?_
              refine g_goto (pc := 74) (tgt := 78) C dX4_kindHere_74 (by decide) ?_
              exact g_iret C Rr dX4_kindHere_78 ⟨by rw [kdW, if_neg c1, if_neg c2, if_neg c3, if_neg c4, if_neg c5, if_pos c6], rfl⟩ rfl
          · refine g_iconst (pc := 61) (v := nI 4) C dX4_kindHere_61 (by decide) ?_
            refine g_goto (pc := 62) (tgt := 78) C dX4_kindHere_62 (by decide) ?_
            exact g_iret C Rr dX4_kindHere_78 ⟨by rw [kdW, if_neg c1, if_neg c2, if_neg c3, if_neg c4, if_pos c5], rfl⟩ rfl
        · refine g_iconst (pc := 49) (v := nI 3) C dX4_kindHere_49 (by decide) ?_
          refine g_goto (pc := 50) (tgt := 78) C dX4_kindHere_50 (by decide) ?_
          exact g_iret C Rr dX4_kindHere_78 ⟨by rw [kdW, if_neg c1, if_neg c2, if_neg c3, if_pos c4], rfl⟩ rfl
      · refine g_iconst (pc := 37) (v := nI 2) C dX4_kindHere_37 (by decide) ?_
        refine g_goto (pc := 38) (tgt := 78) C dX4_kindHere_38 (by decide) ?_
        exact g_iret C Rr dX4_kindHere_78 ⟨by rw [kdW, if_neg c1, if_neg c2, if_pos c3], rfl⟩ rfl
    · refine g_iconst (pc := 25) (v := nI 1) C dX4_kindHere_25 (by decide) ?_
      refine g_goto (pc := 26) (tgt := 78) C dX4_kindHere_26 (by decide) ?_
      exact g_iret C Rr dX4_kindHere_78 ⟨by rw [kdW, if_neg c1, if_pos c2], rfl⟩ rfl
  · refine g_iconst (pc := 13) (v := nI 0) C dX4_kindHere_13 (by decide) ?_
    refine g_goto (pc := 14) (tgt := 78) C dX4_kindHere_14 (by decide) ?_
    exact g_iret C Rr dX4_kindHere_78 ⟨by rw [kdW, if_pos c1], rfl⟩ rfl
