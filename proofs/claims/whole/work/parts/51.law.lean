/-! the law's cases: the class and the reference are asked the same, and answer alike -/
def ScrF (φ : Fx) (b L : Nat) (xs : Nat → Int32) : Prop := va_X b L xs (fs φ) (fs φ).heap ∧ b < (fs φ).heap.size ∧ ¬ fA φ b ∧ L ≤ 3072
abbrev lvL (b x m i : Nat) : List (Nat × Value) := [(0, .ref b), (1, .ref x), (2, .ref m), (3, .int (nI i))]
theorem spX_hd (g : Gl) (A : Ac) (X : Xs) (J : Jc) : ∃ f9, (spX g A X J)[0]? = some (A.1 0, .inr (3, f9)) := by
  obtain ⟨ao, ap, ak, at', au, ae, a0, a1, a2, a3, ay⟩ := A
  obtain ⟨⟨mn, yr, gr, kd, pt, wt, mr⟩, ⟨ks, kp⟩, ⟨tb, tn⟩, ⟨wd, sz, nm⟩, tl⟩ := X
  obtain ⟨la, ⟨⟨kmn, kyr, kgr, kkd, kpt, kwt, kmr⟩, kla⟩, ⟨⟨tmn, tyr, tgr, tkd, tpt, twt, tmr⟩, tla⟩, ⟨pl, tk, sr, vl⟩⟩ := J
  exact ⟨_, rfl⟩
theorem mdX_hd (g : Gl) (a : Nat → Nat) (X : Xs) (J : Jm) : ∃ f9, (mdX g a X J)[0]? = some (a 0, .inr (4, f9)) := by
  obtain ⟨⟨mn, yr, gr, kd, pt, wt, mr⟩, ⟨ks, kp⟩, ⟨tb, tn⟩, ⟨wd, sz, nm⟩, tl⟩ := X
  obtain ⟨kc, os, sd, tk, fr, to, vl, wr, mv⟩ := J
  exact ⟨_, rfl⟩
theorem mdX_ad (g : Gl) (a : Nat → Nat) (X1 X0 : Xs) (J1 J0 : Jm) : (mdX g a X1 J1).map Prod.fst = (mdX g a X0 J0).map Prod.fst := by
  obtain ⟨⟨mn, yr, gr, kd, pt, wt, mr⟩, ⟨ks, kp⟩, ⟨tb, tn⟩, ⟨wd, sz, nm⟩, tl⟩ := X1
  obtain ⟨kc, os, sd, tk, fr, to, vl, wr, mv⟩ := J1
  obtain ⟨⟨mn', yr', gr', kd', pt', wt', mr'⟩, ⟨ks', kp'⟩, ⟨tb', tn'⟩, ⟨wd', sz', nm'⟩, tl'⟩ := X0
  obtain ⟨kc', os', sd', tk', fr', to', vl', wr', mv'⟩ := J0
  rfl
section
variable {φ : Fx} {g : Gl} {cc : ByteArray} {k9 n9 nL pc : Nat} {own : String} {rm : Room} {lv : List (Nat × Value)} {st : List Value} {ws : va_W} {b L : Nat} {xs : Nat → Int32}
theorem a_sld {j : Nat} (C : Cx φ g cc nL own rm) (S : ScrF φ b L xs) (hd : decode cc pc = .ok (.iaload, 1)) (hj : j < L) (k : Ga φ g k9 n9 nL (pc + 1) lv (.int (xs j) :: st) ws) : Ga φ g k9 n9 nL pc lv (.int (nI j) :: .ref b :: st) ws := fun H locs ls hP hD hS hl => by
  have hL := S.2.2.2
  have e : (nI j).toNatClampNeg = j := nI_clamp (by omega)
  refine va_sld (i := nI j) C.1 C.2.1 S.1 S.2.1 S.2.2.1 hS (vp_in_nI hj (by omega)) hd ?_
  rw [e]
  exact k H locs ls hP hD hS hl
theorem a_slen (C : Cx φ g cc nL own rm) (S : ScrF φ b L xs) (hd : decode cc pc = .ok (.arraylength, 1)) (k : Ga φ g k9 n9 nL (pc + 1) lv (.int (nI L) :: st) ws) : Ga φ g k9 n9 nL pc lv (.ref b :: st) ws := fun H locs ls hP hD hS hl =>
  va_slen C.1 C.2.1 S.1 S.2.1 S.2.2.1 hS hd (k H locs ls hP hD hS hl)
theorem a_arg {i j x m : Nat} {n : Int} (C : Cx φ g cc nL own rm) (S : ScrF φ b L xs) (d0 : decode cc pc = .ok (.aload_n 0, 1)) (d1 : decode cc (pc + 1) = .ok (.iload_n 3, 1)) (d2 : decode cc (pc + 1 + 1) = .ok (.iconst n, 1)) (hv : Int32.ofInt n = nI j) (d3 : decode cc (pc + 1 + 1 + 1) = .ok (.iadd, 1)) (d4 : decode cc (pc + 1 + 1 + 1 + 1) = .ok (.iaload, 1)) (hj : i + j < L) (k : Ga φ g k9 n9 nL (pc + 1 + 1 + 1 + 1 + 1) (lvL b x m i) (.int (xs (i + j)) :: st) ws) : Ga φ g k9 n9 nL pc (lvL b x m i) st ws :=
  a_aload_n (x := b) C d0 rfl (a_iload_n (x := nI i) C d1 rfl (a_iconst C d2 hv (a_iaddN C d3 (a_sld C S d4 hj k))))
end
section
variable {φ : Fx} {g : Gl} {cc : ByteArray} {k9 n9 nL pc : Nat} {own : String} {rm : Room} {lv : List (Nat × Value)} {st : List Value}
variable {y : MethodName} {bytes : ByteArray} {maxL n ix : Nat} {ret : Option FieldType} {rmc : Room} {As rest : List Value} {wx : va_W} {A : Ac} {a : Nat → Nat} {X X2 : Xs} {v : Value}
theorem a_callX {J : Jc} (C : Cx φ g cc nL own rm) (hk9 : k9 ≤ rm.cells) (hn9 : n9 ≤ rm.slots) (hd : decode cc pc = .ok (.invokevirtual ix, 3)) (hml : Cond.methodLink own ix y ∈ TB) (M : MV y RX3 bytes maxL ret n) (hM : Ct g y bytes maxL ret rmc (.ref (A.1 0) :: As) (spX g A X J) (fun r w2 => ∃ J2, OkJ X2 J2 ∧ r = some v ∧ w2 = spX g A X2 J2)) (hf : Fit rmc maxL rm) (hn : As.length = n) (hst : st = As.reverse ++ .ref (A.1 0) :: rest) (hcat : (rest.map fun v => v.category).sum ≤ 8)
    (k : ∀ J2, OkJ X2 J2 → Ga φ g k9 n9 nL (pc + 3) lv (v :: rest) (fl [spX g A X2 J2, wx])) : Ga φ g k9 n9 nL pc lv st (fl [spX g A X J, wx]) := by
  obtain ⟨f9, hb⟩ := spX_hd g A X J
  exact a_bV (cs := [spX g A X J]) C hk9 hn9 hd hml M hM hf hn hst hcat (fl1 _) 0 hb rfl rfl [0] rfl rfl (fun r w2 h => by
    obtain ⟨J2, ho, rfl, rfl⟩ := h
    exact ⟨[spX g A X2 J2], fl1 _, congrArg (fun z => [z]) (spX_ad g A X2 X J2 J), k J2 ho⟩)
theorem a_callM {M0 : Jm} (C : Cx φ g cc nL own rm) (hk9 : k9 ≤ rm.cells) (hn9 : n9 ≤ rm.slots) (hd : decode cc pc = .ok (.invokevirtual ix, 3)) (hml : Cond.methodLink own ix y ∈ TB) (M : MV y RX4 bytes maxL ret n) (hM : Ct g y bytes maxL ret rmc (.ref (a 0) :: As) (mdX g a X M0) (fun r w2 => ∃ J2, OkM X2 J2 ∧ r = some v ∧ w2 = mdX g a X2 J2)) (hf : Fit rmc maxL rm) (hn : As.length = n) (hst : st = As.reverse ++ .ref (a 0) :: rest) (hcat : (rest.map fun v => v.category).sum ≤ 8)
    (k : ∀ J2, OkM X2 J2 → Ga φ g k9 n9 nL (pc + 3) lv (v :: rest) (fl [wx, mdX g a X2 J2])) : Ga φ g k9 n9 nL pc lv st (fl [wx, mdX g a X M0]) := by
  obtain ⟨f9, hb⟩ := mdX_hd g a X M0
  exact a_bV (cs := [mdX g a X M0]) C hk9 hn9 hd hml M hM hf hn hst hcat (fl1 _) 0 hb rfl rfl [1] rfl rfl (fun r w2 h => by
    obtain ⟨J2, ho, rfl, rfl⟩ := h
    exact ⟨[mdX g a X2 J2], fl1 _, congrArg (fun z => [z]) (mdX_ad g a X2 X J2 M0), k J2 ho⟩)
end
section
variable {φ : Fx} {g : Gl} {k9 n9 b L i : Nat} {xs : Nat → Int32} {A : Ac} {a : Nat → Nat} {X : Xs} {J : Jc} {M : Jm}
theorem law_0 (C : Cx φ g cL_law 4 RL room_1) (S : ScrF φ b L xs) (hk9 : k9 ≤ room_1.cells) (hn9 : n9 ≤ room_1.slots) (hi : i + 6 ≤ L) (hX : InvW X) (hJ : OkJ X J) (hM : OkM X M) (k : ∀ X2 J2 M2, InvW X2 → OkJ X2 J2 → OkM X2 M2 → Ga φ g k9 n9 4 1328 (lvL b (A.1 0) (a 0) i) [] (fl [spX g A X2 J2, mdX g a X2 M2])) : Ga φ g k9 n9 4 196 (lvL b (A.1 0) (a 0) i) [] (fl [spX g A X J, mdX g a X M]) := by
  refine a_aload_n (pc := 196) C dL_law_196 rfl ?_
  refine a_arg (pc := 197) (j := 1) C S dL_law_197 dL_law_198 dL_law_199 (by decide) dL_law_200 dL_law_201 (by omega) ?_
  refine a_callX (pc := 202) (X2 := (f_grains X (xs (i + 1))).2) (rest := []) C hk9 hn9 dL_law_202 ml_L_13 mf_X3_grains (x_grains g A X J (xs (i + 1)) hX.inv hJ) ⟨rfl, rfl, (Nat.le_of_ble_eq_true rfl), (Nat.le_of_ble_eq_true rfl)⟩ rfl rfl (Nat.le_of_ble_eq_true rfl) (fun J2 hJ2 => ?_)
  refine a_aload_n (pc := 205) C dL_law_205 rfl ?_
  refine a_arg (pc := 206) (j := 1) C S dL_law_206 dL_law_207 dL_law_208 (by decide) dL_law_209 dL_law_210 (by omega) ?_
  refine a_callM (pc := 211) (X2 := (f_grains X (xs (i + 1))).2) (rest := [.int (f_grains X (xs (i + 1))).1]) C hk9 hn9 dL_law_211 ml_L_17 mf_X4_grains (n_grains g a X M (xs (i + 1)) hX.inv hM) ⟨rfl, rfl, (Nat.le_of_ble_eq_true rfl), (Nat.le_of_ble_eq_true rfl)⟩ rfl rfl (Nat.le_of_ble_eq_true rfl) (fun M2 hM2 => ?_)
  refine a_icmp_eq (pc := 214) (tgt := 1328) C dL_law_214 (by decide) (fun _ => ?_) (fun z => absurd rfl z)
  exact k _ J2 M2 (W_grains hX _) hJ2 hM2
theorem law_1 (C : Cx φ g cL_law 4 RL room_1) (S : ScrF φ b L xs) (hk9 : k9 ≤ room_1.cells) (hn9 : n9 ≤ room_1.slots) (hi : i + 6 ≤ L) (hX : InvW X) (hJ : OkJ X J) (hM : OkM X M) (k : ∀ X2 J2 M2, InvW X2 → OkJ X2 J2 → OkM X2 M2 → Ga φ g k9 n9 4 1328 (lvL b (A.1 0) (a 0) i) [] (fl [spX g A X2 J2, mdX g a X2 M2])) : Ga φ g k9 n9 4 219 (lvL b (A.1 0) (a 0) i) [] (fl [spX g A X J, mdX g a X M]) := by
  refine a_aload_n (pc := 219) C dL_law_219 rfl ?_
  refine a_arg (pc := 220) (j := 1) C S dL_law_220 dL_law_221 dL_law_222 (by decide) dL_law_223 dL_law_224 (by omega) ?_
  refine a_arg (pc := 225) (j := 2) C S dL_law_225 dL_law_226 dL_law_227 (by decide) dL_law_228 dL_law_229 (by omega) ?_
  refine a_callX (pc := 230) (X2 := (f_pour X (xs (i + 1)) (xs (i + 2))).2) (rest := []) C hk9 hn9 dL_law_230 ml_L_18 mf_X3_pour (x_pour g A X J (xs (i + 1)) (xs (i + 2)) hX.inv hJ) ⟨rfl, rfl, (Nat.le_of_ble_eq_true rfl), (Nat.le_of_ble_eq_true rfl)⟩ rfl rfl (Nat.le_of_ble_eq_true rfl) (fun J2 hJ2 => ?_)
  refine a_aload_n (pc := 233) C dL_law_233 rfl ?_
  refine a_arg (pc := 234) (j := 1) C S dL_law_234 dL_law_235 dL_law_236 (by decide) dL_law_237 dL_law_238 (by omega) ?_
  refine a_arg (pc := 239) (j := 2) C S dL_law_239 dL_law_240 dL_law_241 (by decide) dL_law_242 dL_law_243 (by omega) ?_
  refine a_callM (pc := 244) (X2 := (f_pour X (xs (i + 1)) (xs (i + 2))).2) (rest := [.int (f_pour X (xs (i + 1)) (xs (i + 2))).1]) C hk9 hn9 dL_law_244 ml_L_22 mf_X4_pour (n_pour g a X M (xs (i + 1)) (xs (i + 2)) hX.inv hM) ⟨rfl, rfl, (Nat.le_of_ble_eq_true rfl), (Nat.le_of_ble_eq_true rfl)⟩ rfl rfl (Nat.le_of_ble_eq_true rfl) (fun M2 hM2 => ?_)
  refine a_icmp_eq (pc := 247) (tgt := 1328) C dL_law_247 (by decide) (fun _ => ?_) (fun z => absurd rfl z)
  exact k _ J2 M2 (W_pour hX _ _) hJ2 hM2
theorem law_2 (C : Cx φ g cL_law 4 RL room_1) (S : ScrF φ b L xs) (hk9 : k9 ≤ room_1.cells) (hn9 : n9 ≤ room_1.slots) (hi : i + 6 ≤ L) (hX : InvW X) (hJ : OkJ X J) (hM : OkM X M) (k : ∀ X2 J2 M2, InvW X2 → OkJ X2 J2 → OkM X2 M2 → Ga φ g k9 n9 4 1328 (lvL b (A.1 0) (a 0) i) [] (fl [spX g A X2 J2, mdX g a X2 M2])) : Ga φ g k9 n9 4 252 (lvL b (A.1 0) (a 0) i) [] (fl [spX g A X J, mdX g a X M]) := by
  refine a_aload_n (pc := 252) C dL_law_252 rfl ?_
  refine a_arg (pc := 253) (j := 1) C S dL_law_253 dL_law_254 dL_law_255 (by decide) dL_law_256 dL_law_257 (by omega) ?_
  refine a_callX (pc := 258) (X2 := (f_taste X (xs (i + 1))).2) (rest := []) C hk9 hn9 dL_law_258 ml_L_23 mf_X3_taste (x_taste g A X J (xs (i + 1)) hX.inv hJ) ⟨rfl, rfl, (Nat.le_of_ble_eq_true rfl), (Nat.le_of_ble_eq_true rfl)⟩ rfl rfl (Nat.le_of_ble_eq_true rfl) (fun J2 hJ2 => ?_)
  refine a_aload_n (pc := 261) C dL_law_261 rfl ?_
  refine a_arg (pc := 262) (j := 1) C S dL_law_262 dL_law_263 dL_law_264 (by decide) dL_law_265 dL_law_266 (by omega) ?_
  refine a_callM (pc := 267) (X2 := (f_taste X (xs (i + 1))).2) (rest := [.int (f_taste X (xs (i + 1))).1]) C hk9 hn9 dL_law_267 ml_L_26 mf_X4_taste (n_taste g a X M (xs (i + 1)) hX.inv hM) ⟨rfl, rfl, (Nat.le_of_ble_eq_true rfl), (Nat.le_of_ble_eq_true rfl)⟩ rfl rfl (Nat.le_of_ble_eq_true rfl) (fun M2 hM2 => ?_)
  refine a_icmp_eq (pc := 270) (tgt := 1328) C dL_law_270 (by decide) (fun _ => ?_) (fun z => absurd rfl z)
  exact k _ J2 M2 (W_taste hX _) hJ2 hM2
theorem law_3 (C : Cx φ g cL_law 4 RL room_1) (S : ScrF φ b L xs) (hk9 : k9 ≤ room_1.cells) (hn9 : n9 ≤ room_1.slots) (hi : i + 6 ≤ L) (hX : InvW X) (hJ : OkJ X J) (hM : OkM X M) (k : ∀ X2 J2 M2, InvW X2 → OkJ X2 J2 → OkM X2 M2 → Ga φ g k9 n9 4 1328 (lvL b (A.1 0) (a 0) i) [] (fl [spX g A X2 J2, mdX g a X2 M2])) : Ga φ g k9 n9 4 275 (lvL b (A.1 0) (a 0) i) [] (fl [spX g A X J, mdX g a X M]) := by
  refine a_aload_n (pc := 275) C dL_law_275 rfl ?_
  refine a_arg (pc := 276) (j := 1) C S dL_law_276 dL_law_277 dL_law_278 (by decide) dL_law_279 dL_law_280 (by omega) ?_
  refine a_callX (pc := 281) (X2 := (f_spoon X (xs (i + 1))).2) (rest := []) C hk9 hn9 dL_law_281 ml_L_27 mf_X3_spoon (x_spoon g A X J (xs (i + 1)) hX.inv hJ) ⟨rfl, rfl, (Nat.le_of_ble_eq_true rfl), (Nat.le_of_ble_eq_true rfl)⟩ rfl rfl (Nat.le_of_ble_eq_true rfl) (fun J2 hJ2 => ?_)
  refine a_aload_n (pc := 284) C dL_law_284 rfl ?_
  refine a_arg (pc := 285) (j := 1) C S dL_law_285 dL_law_286 dL_law_287 (by decide) dL_law_288 dL_law_289 (by omega) ?_
  refine a_callM (pc := 290) (X2 := (f_spoon X (xs (i + 1))).2) (rest := [.int (f_spoon X (xs (i + 1))).1]) C hk9 hn9 dL_law_290 ml_L_30 mf_X4_spoon (n_spoon g a X M (xs (i + 1)) hX.inv hM) ⟨rfl, rfl, (Nat.le_of_ble_eq_true rfl), (Nat.le_of_ble_eq_true rfl)⟩ rfl rfl (Nat.le_of_ble_eq_true rfl) (fun M2 hM2 => ?_)
  refine a_icmp_eq (pc := 293) (tgt := 1328) C dL_law_293 (by decide) (fun _ => ?_) (fun z => absurd rfl z)
  exact k _ J2 M2 (W_spoon hX _) hJ2 hM2
theorem law_4 (C : Cx φ g cL_law 4 RL room_1) (S : ScrF φ b L xs) (hk9 : k9 ≤ room_1.cells) (hn9 : n9 ≤ room_1.slots) (hi : i + 6 ≤ L) (hX : InvW X) (hJ : OkJ X J) (hM : OkM X M) (k : ∀ X2 J2 M2, InvW X2 → OkJ X2 J2 → OkM X2 M2 → Ga φ g k9 n9 4 1328 (lvL b (A.1 0) (a 0) i) [] (fl [spX g A X2 J2, mdX g a X2 M2])) : Ga φ g k9 n9 4 298 (lvL b (A.1 0) (a 0) i) [] (fl [spX g A X J, mdX g a X M]) := by
  refine a_aload_n (pc := 298) C dL_law_298 rfl ?_
  refine a_arg (pc := 299) (j := 1) C S dL_law_299 dL_law_300 dL_law_301 (by decide) dL_law_302 dL_law_303 (by omega) ?_
  refine a_arg (pc := 304) (j := 2) C S dL_law_304 dL_law_305 dL_law_306 (by decide) dL_law_307 dL_law_308 (by omega) ?_
  refine a_callX (pc := 309) (X2 := (f_spoonOf X (xs (i + 1)) (xs (i + 2))).2) (rest := []) C hk9 hn9 dL_law_309 ml_L_31 mf_X3_spoonOf (x_spoonOf g A X J (xs (i + 1)) (xs (i + 2)) hX.inv hJ) ⟨rfl, rfl, (Nat.le_of_ble_eq_true rfl), (Nat.le_of_ble_eq_true rfl)⟩ rfl rfl (Nat.le_of_ble_eq_true rfl) (fun J2 hJ2 => ?_)
  refine a_aload_n (pc := 312) C dL_law_312 rfl ?_
  refine a_arg (pc := 313) (j := 1) C S dL_law_313 dL_law_314 dL_law_315 (by decide) dL_law_316 dL_law_317 (by omega) ?_
  refine a_arg (pc := 318) (j := 2) C S dL_law_318 dL_law_319 dL_law_320 (by decide) dL_law_321 dL_law_322 (by omega) ?_
  refine a_callM (pc := 323) (X2 := (f_spoonOf X (xs (i + 1)) (xs (i + 2))).2) (rest := [.int (f_spoonOf X (xs (i + 1)) (xs (i + 2))).1]) C hk9 hn9 dL_law_323 ml_L_34 mf_X4_spoonOf (n_spoonOf g a X M (xs (i + 1)) (xs (i + 2)) hX.inv hM) ⟨rfl, rfl, (Nat.le_of_ble_eq_true rfl), (Nat.le_of_ble_eq_true rfl)⟩ rfl rfl (Nat.le_of_ble_eq_true rfl) (fun M2 hM2 => ?_)
  refine a_icmp_eq (pc := 326) (tgt := 1328) C dL_law_326 (by decide) (fun _ => ?_) (fun z => absurd rfl z)
  exact k _ J2 M2 (W_spoonOf hX _ _) hJ2 hM2
theorem law_5 (C : Cx φ g cL_law 4 RL room_1) (S : ScrF φ b L xs) (hk9 : k9 ≤ room_1.cells) (hn9 : n9 ≤ room_1.slots) (hi : i + 6 ≤ L) (hX : InvW X) (hJ : OkJ X J) (hM : OkM X M) (k : ∀ X2 J2 M2, InvW X2 → OkJ X2 J2 → OkM X2 M2 → Ga φ g k9 n9 4 1328 (lvL b (A.1 0) (a 0) i) [] (fl [spX g A X2 J2, mdX g a X2 M2])) : Ga φ g k9 n9 4 331 (lvL b (A.1 0) (a 0) i) [] (fl [spX g A X J, mdX g a X M]) := by
  refine a_aload_n (pc := 331) C dL_law_331 rfl ?_
  refine a_arg (pc := 332) (j := 1) C S dL_law_332 dL_law_333 dL_law_334 (by decide) dL_law_335 dL_law_336 (by omega) ?_
  refine a_callX (pc := 337) (X2 := (f_cook X (xs (i + 1))).2) (rest := []) C hk9 hn9 dL_law_337 ml_L_35 mf_X3_cook (x_cook g A X J (xs (i + 1)) hX.inv hJ) ⟨rfl, rfl, (Nat.le_of_ble_eq_true rfl), (Nat.le_of_ble_eq_true rfl)⟩ rfl rfl (Nat.le_of_ble_eq_true rfl) (fun J2 hJ2 => ?_)
  refine a_aload_n (pc := 340) C dL_law_340 rfl ?_
  refine a_arg (pc := 341) (j := 1) C S dL_law_341 dL_law_342 dL_law_343 (by decide) dL_law_344 dL_law_345 (by omega) ?_
  refine a_callM (pc := 346) (X2 := (f_cook X (xs (i + 1))).2) (rest := [.int (f_cook X (xs (i + 1))).1]) C hk9 hn9 dL_law_346 ml_L_38 mf_X4_cook (n_cook g a X M (xs (i + 1)) hX.inv hM) ⟨rfl, rfl, (Nat.le_of_ble_eq_true rfl), (Nat.le_of_ble_eq_true rfl)⟩ rfl rfl (Nat.le_of_ble_eq_true rfl) (fun M2 hM2 => ?_)
  refine a_icmp_eq (pc := 349) (tgt := 1328) C dL_law_349 (by decide) (fun _ => ?_) (fun z => absurd rfl z)
  exact k _ J2 M2 (W_cook hX _) hJ2 hM2
theorem law_6 (C : Cx φ g cL_law 4 RL room_1) (S : ScrF φ b L xs) (hk9 : k9 ≤ room_1.cells) (hn9 : n9 ≤ room_1.slots) (hi : i + 6 ≤ L) (hX : InvW X) (hJ : OkJ X J) (hM : OkM X M) (k : ∀ X2 J2 M2, InvW X2 → OkJ X2 J2 → OkM X2 M2 → Ga φ g k9 n9 4 1328 (lvL b (A.1 0) (a 0) i) [] (fl [spX g A X2 J2, mdX g a X2 M2])) : Ga φ g k9 n9 4 354 (lvL b (A.1 0) (a 0) i) [] (fl [spX g A X J, mdX g a X M]) := by
  refine a_aload_n (pc := 354) C dL_law_354 rfl ?_
  refine a_arg (pc := 355) (j := 1) C S dL_law_355 dL_law_356 dL_law_357 (by decide) dL_law_358 dL_law_359 (by omega) ?_
  refine a_arg (pc := 360) (j := 2) C S dL_law_360 dL_law_361 dL_law_362 (by decide) dL_law_363 dL_law_364 (by omega) ?_
  refine a_callX (pc := 365) (X2 := (f_of X (xs (i + 1)) (xs (i + 2))).2) (rest := []) C hk9 hn9 dL_law_365 ml_L_39 mf_X3_of (x_of g A X J (xs (i + 1)) (xs (i + 2)) hX.inv hJ) ⟨rfl, rfl, (Nat.le_of_ble_eq_true rfl), (Nat.le_of_ble_eq_true rfl)⟩ rfl rfl (Nat.le_of_ble_eq_true rfl) (fun J2 hJ2 => ?_)
  refine a_aload_n (pc := 368) C dL_law_368 rfl ?_
  refine a_arg (pc := 369) (j := 1) C S dL_law_369 dL_law_370 dL_law_371 (by decide) dL_law_372 dL_law_373 (by omega) ?_
  refine a_arg (pc := 374) (j := 2) C S dL_law_374 dL_law_375 dL_law_376 (by decide) dL_law_377 dL_law_378 (by omega) ?_
  refine a_callM (pc := 379) (X2 := (f_of X (xs (i + 1)) (xs (i + 2))).2) (rest := [.int (f_of X (xs (i + 1)) (xs (i + 2))).1]) C hk9 hn9 dL_law_379 ml_L_42 mf_X4_of (n_of g a X M (xs (i + 1)) (xs (i + 2)) hX.inv hM) ⟨rfl, rfl, (Nat.le_of_ble_eq_true rfl), (Nat.le_of_ble_eq_true rfl)⟩ rfl rfl (Nat.le_of_ble_eq_true rfl) (fun M2 hM2 => ?_)
  refine a_icmp_eq (pc := 382) (tgt := 1328) C dL_law_382 (by decide) (fun _ => ?_) (fun z => absurd rfl z)
  exact k _ J2 M2 (W_of hX _ _) hJ2 hM2
theorem law_7 (C : Cx φ g cL_law 4 RL room_1) (S : ScrF φ b L xs) (hk9 : k9 ≤ room_1.cells) (hn9 : n9 ≤ room_1.slots) (hi : i + 6 ≤ L) (hX : InvW X) (hJ : OkJ X J) (hM : OkM X M) (k : ∀ X2 J2 M2, InvW X2 → OkJ X2 J2 → OkM X2 M2 → Ga φ g k9 n9 4 1328 (lvL b (A.1 0) (a 0) i) [] (fl [spX g A X2 J2, mdX g a X2 M2])) : Ga φ g k9 n9 4 387 (lvL b (A.1 0) (a 0) i) [] (fl [spX g A X J, mdX g a X M]) := by
  refine a_aload_n (pc := 387) C dL_law_387 rfl ?_
  refine a_arg (pc := 388) (j := 1) C S dL_law_388 dL_law_389 dL_law_390 (by decide) dL_law_391 dL_law_392 (by omega) ?_
  refine a_arg (pc := 393) (j := 2) C S dL_law_393 dL_law_394 dL_law_395 (by decide) dL_law_396 dL_law_397 (by omega) ?_
  refine a_arg (pc := 398) (j := 3) C S dL_law_398 dL_law_399 dL_law_400 (by decide) dL_law_401 dL_law_402 (by omega) ?_
  refine a_callX (pc := 403) (X2 := (f_set X (xs (i + 1)) (xs (i + 2)) (xs (i + 3))).2) (rest := []) C hk9 hn9 dL_law_403 ml_L_43 mf_X3_set (x_set g A X J (xs (i + 1)) (xs (i + 2)) (xs (i + 3)) hX.inv hJ) ⟨rfl, rfl, (Nat.le_of_ble_eq_true rfl), (Nat.le_of_ble_eq_true rfl)⟩ rfl rfl (Nat.le_of_ble_eq_true rfl) (fun J2 hJ2 => ?_)
  refine a_aload_n (pc := 406) C dL_law_406 rfl ?_
  refine a_arg (pc := 407) (j := 1) C S dL_law_407 dL_law_408 dL_law_409 (by decide) dL_law_410 dL_law_411 (by omega) ?_
  refine a_arg (pc := 412) (j := 2) C S dL_law_412 dL_law_413 dL_law_414 (by decide) dL_law_415 dL_law_416 (by omega) ?_
  refine a_arg (pc := 417) (j := 3) C S dL_law_417 dL_law_418 dL_law_419 (by decide) dL_law_420 dL_law_421 (by omega) ?_
  refine a_callM (pc := 422) (X2 := (f_set X (xs (i + 1)) (xs (i + 2)) (xs (i + 3))).2) (rest := [.int (f_set X (xs (i + 1)) (xs (i + 2)) (xs (i + 3))).1]) C hk9 hn9 dL_law_422 ml_L_47 mf_X4_set (n_set g a X M (xs (i + 1)) (xs (i + 2)) (xs (i + 3)) hX.inv hM) ⟨rfl, rfl, (Nat.le_of_ble_eq_true rfl), (Nat.le_of_ble_eq_true rfl)⟩ rfl rfl (Nat.le_of_ble_eq_true rfl) (fun M2 hM2 => ?_)
  refine a_icmp_eq (pc := 425) (tgt := 1328) C dL_law_425 (by decide) (fun _ => ?_) (fun z => absurd rfl z)
  exact k _ J2 M2 (W_set hX _ _ _) hJ2 hM2
theorem law_8 (C : Cx φ g cL_law 4 RL room_1) (S : ScrF φ b L xs) (hk9 : k9 ≤ room_1.cells) (hn9 : n9 ≤ room_1.slots) (hi : i + 6 ≤ L) (hX : InvW X) (hJ : OkJ X J) (hM : OkM X M) (k : ∀ X2 J2 M2, InvW X2 → OkJ X2 J2 → OkM X2 M2 → Ga φ g k9 n9 4 1328 (lvL b (A.1 0) (a 0) i) [] (fl [spX g A X2 J2, mdX g a X2 M2])) : Ga φ g k9 n9 4 430 (lvL b (A.1 0) (a 0) i) [] (fl [spX g A X J, mdX g a X M]) := by
  refine a_aload_n (pc := 430) C dL_law_430 rfl ?_
  refine a_arg (pc := 431) (j := 1) C S dL_law_431 dL_law_432 dL_law_433 (by decide) dL_law_434 dL_law_435 (by omega) ?_
  refine a_arg (pc := 436) (j := 2) C S dL_law_436 dL_law_437 dL_law_438 (by decide) dL_law_439 dL_law_440 (by omega) ?_
  refine a_callX (pc := 441) (X2 := (f_turn X (xs (i + 1)) (xs (i + 2))).2) (rest := []) C hk9 hn9 dL_law_441 ml_L_48 mf_X3_turn (x_turn g A X J (xs (i + 1)) (xs (i + 2)) hX.inv hJ) ⟨rfl, rfl, (Nat.le_of_ble_eq_true rfl), (Nat.le_of_ble_eq_true rfl)⟩ rfl rfl (Nat.le_of_ble_eq_true rfl) (fun J2 hJ2 => ?_)
  refine a_aload_n (pc := 444) C dL_law_444 rfl ?_
  refine a_arg (pc := 445) (j := 1) C S dL_law_445 dL_law_446 dL_law_447 (by decide) dL_law_448 dL_law_449 (by omega) ?_
  refine a_arg (pc := 450) (j := 2) C S dL_law_450 dL_law_451 dL_law_452 (by decide) dL_law_453 dL_law_454 (by omega) ?_
  refine a_callM (pc := 455) (X2 := (f_turn X (xs (i + 1)) (xs (i + 2))).2) (rest := [.int (f_turn X (xs (i + 1)) (xs (i + 2))).1]) C hk9 hn9 dL_law_455 ml_L_51 mf_X4_turn (n_turn g a X M (xs (i + 1)) (xs (i + 2)) hX.inv hM) ⟨rfl, rfl, (Nat.le_of_ble_eq_true rfl), (Nat.le_of_ble_eq_true rfl)⟩ rfl rfl (Nat.le_of_ble_eq_true rfl) (fun M2 hM2 => ?_)
  refine a_icmp_eq (pc := 458) (tgt := 1328) C dL_law_458 (by decide) (fun _ => ?_) (fun z => absurd rfl z)
  exact k _ J2 M2 (W_turn hX _ _) hJ2 hM2
theorem law_9 (C : Cx φ g cL_law 4 RL room_1) (S : ScrF φ b L xs) (hk9 : k9 ≤ room_1.cells) (hn9 : n9 ≤ room_1.slots) (hi : i + 6 ≤ L) (hX : InvW X) (hJ : OkJ X J) (hM : OkM X M) (k : ∀ X2 J2 M2, InvW X2 → OkJ X2 J2 → OkM X2 M2 → Ga φ g k9 n9 4 1328 (lvL b (A.1 0) (a 0) i) [] (fl [spX g A X2 J2, mdX g a X2 M2])) : Ga φ g k9 n9 4 463 (lvL b (A.1 0) (a 0) i) [] (fl [spX g A X J, mdX g a X M]) := by
  refine a_aload_n (pc := 463) C dL_law_463 rfl ?_
  refine a_arg (pc := 464) (j := 1) C S dL_law_464 dL_law_465 dL_law_466 (by decide) dL_law_467 dL_law_468 (by omega) ?_
  refine a_arg (pc := 469) (j := 2) C S dL_law_469 dL_law_470 dL_law_471 (by decide) dL_law_472 dL_law_473 (by omega) ?_
  refine a_callX (pc := 474) (X2 := (f_as X (xs (i + 1)) (xs (i + 2))).2) (rest := []) C hk9 hn9 dL_law_474 ml_L_52 mf_X3_as (x_as g A X J (xs (i + 1)) (xs (i + 2)) hX.inv hJ) ⟨rfl, rfl, (Nat.le_of_ble_eq_true rfl), (Nat.le_of_ble_eq_true rfl)⟩ rfl rfl (Nat.le_of_ble_eq_true rfl) (fun J2 hJ2 => ?_)
  refine a_aload_n (pc := 477) C dL_law_477 rfl ?_
  refine a_arg (pc := 478) (j := 1) C S dL_law_478 dL_law_479 dL_law_480 (by decide) dL_law_481 dL_law_482 (by omega) ?_
  refine a_arg (pc := 483) (j := 2) C S dL_law_483 dL_law_484 dL_law_485 (by decide) dL_law_486 dL_law_487 (by omega) ?_
  refine a_callM (pc := 488) (X2 := (f_as X (xs (i + 1)) (xs (i + 2))).2) (rest := [.int (f_as X (xs (i + 1)) (xs (i + 2))).1]) C hk9 hn9 dL_law_488 ml_L_55 mf_X4_as (n_as g a X M (xs (i + 1)) (xs (i + 2)) hX.inv hM) ⟨rfl, rfl, (Nat.le_of_ble_eq_true rfl), (Nat.le_of_ble_eq_true rfl)⟩ rfl rfl (Nat.le_of_ble_eq_true rfl) (fun M2 hM2 => ?_)
  refine a_icmp_eq (pc := 491) (tgt := 1328) C dL_law_491 (by decide) (fun _ => ?_) (fun z => absurd rfl z)
  exact k _ J2 M2 (W_as hX _ _) hJ2 hM2
theorem law_10 (C : Cx φ g cL_law 4 RL room_1) (S : ScrF φ b L xs) (hk9 : k9 ≤ room_1.cells) (hn9 : n9 ≤ room_1.slots) (hi : i + 6 ≤ L) (hX : InvW X) (hJ : OkJ X J) (hM : OkM X M) (k : ∀ X2 J2 M2, InvW X2 → OkJ X2 J2 → OkM X2 M2 → Ga φ g k9 n9 4 1328 (lvL b (A.1 0) (a 0) i) [] (fl [spX g A X2 J2, mdX g a X2 M2])) : Ga φ g k9 n9 4 496 (lvL b (A.1 0) (a 0) i) [] (fl [spX g A X J, mdX g a X M]) := by
  refine a_aload_n (pc := 496) C dL_law_496 rfl ?_
  refine a_arg (pc := 497) (j := 1) C S dL_law_497 dL_law_498 dL_law_499 (by decide) dL_law_500 dL_law_501 (by omega) ?_
  refine a_arg (pc := 502) (j := 2) C S dL_law_502 dL_law_503 dL_law_504 (by decide) dL_law_505 dL_law_506 (by omega) ?_
  refine a_callX (pc := 507) (X2 := (f_swap X (xs (i + 1)) (xs (i + 2))).2) (rest := []) C hk9 hn9 dL_law_507 ml_L_56 mf_X3_swap (x_swap g A X J (xs (i + 1)) (xs (i + 2)) hX.inv hJ) ⟨rfl, rfl, (Nat.le_of_ble_eq_true rfl), (Nat.le_of_ble_eq_true rfl)⟩ rfl rfl (Nat.le_of_ble_eq_true rfl) (fun J2 hJ2 => ?_)
  refine a_aload_n (pc := 510) C dL_law_510 rfl ?_
  refine a_arg (pc := 511) (j := 1) C S dL_law_511 dL_law_512 dL_law_513 (by decide) dL_law_514 dL_law_515 (by omega) ?_
  refine a_arg (pc := 516) (j := 2) C S dL_law_516 dL_law_517 dL_law_518 (by decide) dL_law_519 dL_law_520 (by omega) ?_
  refine a_callM (pc := 521) (X2 := (f_swap X (xs (i + 1)) (xs (i + 2))).2) (rest := [.int (f_swap X (xs (i + 1)) (xs (i + 2))).1]) C hk9 hn9 dL_law_521 ml_L_59 mf_X4_swap (n_swap g a X M (xs (i + 1)) (xs (i + 2)) hX.inv hM) ⟨rfl, rfl, (Nat.le_of_ble_eq_true rfl), (Nat.le_of_ble_eq_true rfl)⟩ rfl rfl (Nat.le_of_ble_eq_true rfl) (fun M2 hM2 => ?_)
  refine a_icmp_eq (pc := 524) (tgt := 1328) C dL_law_524 (by decide) (fun _ => ?_) (fun z => absurd rfl z)
  exact k _ J2 M2 (W_swap hX _ _) hJ2 hM2
theorem law_11 (C : Cx φ g cL_law 4 RL room_1) (S : ScrF φ b L xs) (hk9 : k9 ≤ room_1.cells) (hn9 : n9 ≤ room_1.slots) (hi : i + 6 ≤ L) (hX : InvW X) (hJ : OkJ X J) (hM : OkM X M) (k : ∀ X2 J2 M2, InvW X2 → OkJ X2 J2 → OkM X2 M2 → Ga φ g k9 n9 4 1328 (lvL b (A.1 0) (a 0) i) [] (fl [spX g A X2 J2, mdX g a X2 M2])) : Ga φ g k9 n9 4 529 (lvL b (A.1 0) (a 0) i) [] (fl [spX g A X J, mdX g a X M]) := by
  refine a_aload_n (pc := 529) C dL_law_529 rfl ?_
  refine a_arg (pc := 530) (j := 1) C S dL_law_530 dL_law_531 dL_law_532 (by decide) dL_law_533 dL_law_534 (by omega) ?_
  refine a_callX (pc := 535) (X2 := (f_years X (xs (i + 1))).2) (rest := []) C hk9 hn9 dL_law_535 ml_L_60 mf_X3_years (x_years g A X J (xs (i + 1)) hX.inv hJ) ⟨rfl, rfl, (Nat.le_of_ble_eq_true rfl), (Nat.le_of_ble_eq_true rfl)⟩ rfl rfl (Nat.le_of_ble_eq_true rfl) (fun J2 hJ2 => ?_)
  refine a_aload_n (pc := 538) C dL_law_538 rfl ?_
  refine a_arg (pc := 539) (j := 1) C S dL_law_539 dL_law_540 dL_law_541 (by decide) dL_law_542 dL_law_543 (by omega) ?_
  refine a_callM (pc := 544) (X2 := (f_years X (xs (i + 1))).2) (rest := [.int (f_years X (xs (i + 1))).1]) C hk9 hn9 dL_law_544 ml_L_63 mf_X4_years (n_years g a X M (xs (i + 1)) hX.inv hM) ⟨rfl, rfl, (Nat.le_of_ble_eq_true rfl), (Nat.le_of_ble_eq_true rfl)⟩ rfl rfl (Nat.le_of_ble_eq_true rfl) (fun M2 hM2 => ?_)
  refine a_icmp_eq (pc := 547) (tgt := 1328) C dL_law_547 (by decide) (fun _ => ?_) (fun z => absurd rfl z)
  exact k _ J2 M2 (W_years hX _) hJ2 hM2
theorem law_12 (C : Cx φ g cL_law 4 RL room_1) (S : ScrF φ b L xs) (hk9 : k9 ≤ room_1.cells) (hn9 : n9 ≤ room_1.slots) (hi : i + 6 ≤ L) (hX : InvW X) (hJ : OkJ X J) (hM : OkM X M) (k : ∀ X2 J2 M2, InvW X2 → OkJ X2 J2 → OkM X2 M2 → Ga φ g k9 n9 4 1328 (lvL b (A.1 0) (a 0) i) [] (fl [spX g A X2 J2, mdX g a X2 M2])) : Ga φ g k9 n9 4 552 (lvL b (A.1 0) (a 0) i) [] (fl [spX g A X J, mdX g a X M]) := by
  refine a_aload_n (pc := 552) C dL_law_552 rfl ?_
  refine a_arg (pc := 553) (j := 1) C S dL_law_553 dL_law_554 dL_law_555 (by decide) dL_law_556 dL_law_557 (by omega) ?_
  refine a_callX (pc := 558) (X2 := (f_now X (xs (i + 1))).2) (rest := []) C hk9 hn9 dL_law_558 ml_L_64 mf_X3_now (x_now g A X J (xs (i + 1)) hX.inv hJ) ⟨rfl, rfl, (Nat.le_of_ble_eq_true rfl), (Nat.le_of_ble_eq_true rfl)⟩ rfl rfl (Nat.le_of_ble_eq_true rfl) (fun J2 hJ2 => ?_)
  refine a_aload_n (pc := 561) C dL_law_561 rfl ?_
  refine a_arg (pc := 562) (j := 1) C S dL_law_562 dL_law_563 dL_law_564 (by decide) dL_law_565 dL_law_566 (by omega) ?_
  refine a_callM (pc := 567) (X2 := (f_now X (xs (i + 1))).2) (rest := [.int (f_now X (xs (i + 1))).1]) C hk9 hn9 dL_law_567 ml_L_67 mf_X4_now (n_now g a X M (xs (i + 1)) hX.inv hM) ⟨rfl, rfl, (Nat.le_of_ble_eq_true rfl), (Nat.le_of_ble_eq_true rfl)⟩ rfl rfl (Nat.le_of_ble_eq_true rfl) (fun M2 hM2 => ?_)
  refine a_icmp_eq (pc := 570) (tgt := 1328) C dL_law_570 (by decide) (fun _ => ?_) (fun z => absurd rfl z)
  exact k _ J2 M2 (W_now hX _) hJ2 hM2
theorem law_13 (C : Cx φ g cL_law 4 RL room_1) (S : ScrF φ b L xs) (hk9 : k9 ≤ room_1.cells) (hn9 : n9 ≤ room_1.slots) (hi : i + 6 ≤ L) (hX : InvW X) (hJ : OkJ X J) (hM : OkM X M) (k : ∀ X2 J2 M2, InvW X2 → OkJ X2 J2 → OkM X2 M2 → Ga φ g k9 n9 4 1328 (lvL b (A.1 0) (a 0) i) [] (fl [spX g A X2 J2, mdX g a X2 M2])) : Ga φ g k9 n9 4 575 (lvL b (A.1 0) (a 0) i) [] (fl [spX g A X J, mdX g a X M]) := by
  refine a_aload_n (pc := 575) C dL_law_575 rfl ?_
  refine a_arg (pc := 576) (j := 1) C S dL_law_576 dL_law_577 dL_law_578 (by decide) dL_law_579 dL_law_580 (by omega) ?_
  refine a_arg (pc := 581) (j := 2) C S dL_law_581 dL_law_582 dL_law_583 (by decide) dL_law_584 dL_law_585 (by omega) ?_
  refine a_arg (pc := 586) (j := 3) C S dL_law_586 dL_law_587 dL_law_588 (by decide) dL_law_589 dL_law_590 (by omega) ?_
  refine a_callX (pc := 591) (X2 := (f_on X (xs (i + 1)) (xs (i + 2)) (xs (i + 3))).2) (rest := []) C hk9 hn9 dL_law_591 ml_L_68 mf_X3_on (x_on g A X J (xs (i + 1)) (xs (i + 2)) (xs (i + 3)) hX.inv hJ) ⟨rfl, rfl, (Nat.le_of_ble_eq_true rfl), (Nat.le_of_ble_eq_true rfl)⟩ rfl rfl (Nat.le_of_ble_eq_true rfl) (fun J2 hJ2 => ?_)
  refine a_aload_n (pc := 594) C dL_law_594 rfl ?_
  refine a_arg (pc := 595) (j := 1) C S dL_law_595 dL_law_596 dL_law_597 (by decide) dL_law_598 dL_law_599 (by omega) ?_
  refine a_arg (pc := 600) (j := 2) C S dL_law_600 dL_law_601 dL_law_602 (by decide) dL_law_603 dL_law_604 (by omega) ?_
  refine a_arg (pc := 605) (j := 3) C S dL_law_605 dL_law_606 dL_law_607 (by decide) dL_law_608 dL_law_609 (by omega) ?_
  refine a_callM (pc := 610) (X2 := (f_on X (xs (i + 1)) (xs (i + 2)) (xs (i + 3))).2) (rest := [.int (f_on X (xs (i + 1)) (xs (i + 2)) (xs (i + 3))).1]) C hk9 hn9 dL_law_610 ml_L_71 mf_X4_on (n_on g a X M (xs (i + 1)) (xs (i + 2)) (xs (i + 3)) hX.inv hM) ⟨rfl, rfl, (Nat.le_of_ble_eq_true rfl), (Nat.le_of_ble_eq_true rfl)⟩ rfl rfl (Nat.le_of_ble_eq_true rfl) (fun M2 hM2 => ?_)
  refine a_icmp_eq (pc := 613) (tgt := 1328) C dL_law_613 (by decide) (fun _ => ?_) (fun z => absurd rfl z)
  exact k _ J2 M2 (W_on hX _ _ _) hJ2 hM2
theorem law_14 (C : Cx φ g cL_law 4 RL room_1) (S : ScrF φ b L xs) (hk9 : k9 ≤ room_1.cells) (hn9 : n9 ≤ room_1.slots) (hi : i + 6 ≤ L) (hX : InvW X) (hJ : OkJ X J) (hM : OkM X M) (k : ∀ X2 J2 M2, InvW X2 → OkJ X2 J2 → OkM X2 M2 → Ga φ g k9 n9 4 1328 (lvL b (A.1 0) (a 0) i) [] (fl [spX g A X2 J2, mdX g a X2 M2])) : Ga φ g k9 n9 4 618 (lvL b (A.1 0) (a 0) i) [] (fl [spX g A X J, mdX g a X M]) := by
  refine a_aload_n (pc := 618) C dL_law_618 rfl ?_
  refine a_callX (pc := 619) (X2 := (f_vague X).2) (rest := []) C hk9 hn9 dL_law_619 ml_L_72 mf_X3_vague (x_vague g A X J hX.inv hJ) ⟨rfl, rfl, (Nat.le_of_ble_eq_true rfl), (Nat.le_of_ble_eq_true rfl)⟩ rfl rfl (Nat.le_of_ble_eq_true rfl) (fun J2 hJ2 => ?_)
  refine a_aload_n (pc := 622) C dL_law_622 rfl ?_
  refine a_callM (pc := 623) (X2 := (f_vague X).2) (rest := [.int (f_vague X).1]) C hk9 hn9 dL_law_623 ml_L_76 mf_X4_vague (n_vague g a X M hX.inv hM) ⟨rfl, rfl, (Nat.le_of_ble_eq_true rfl), (Nat.le_of_ble_eq_true rfl)⟩ rfl rfl (Nat.le_of_ble_eq_true rfl) (fun M2 hM2 => ?_)
  refine a_icmp_eq (pc := 626) (tgt := 1328) C dL_law_626 (by decide) (fun _ => ?_) (fun z => absurd rfl z)
  exact k _ J2 M2 (W_vague hX) hJ2 hM2
theorem law_15 (C : Cx φ g cL_law 4 RL room_1) (S : ScrF φ b L xs) (hk9 : k9 ≤ room_1.cells) (hn9 : n9 ≤ room_1.slots) (hi : i + 6 ≤ L) (hX : InvW X) (hJ : OkJ X J) (hM : OkM X M) (k : ∀ X2 J2 M2, InvW X2 → OkJ X2 J2 → OkM X2 M2 → Ga φ g k9 n9 4 1328 (lvL b (A.1 0) (a 0) i) [] (fl [spX g A X2 J2, mdX g a X2 M2])) : Ga φ g k9 n9 4 631 (lvL b (A.1 0) (a 0) i) [] (fl [spX g A X J, mdX g a X M]) := by
  refine a_aload_n (pc := 631) C dL_law_631 rfl ?_
  refine a_arg (pc := 632) (j := 1) C S dL_law_632 dL_law_633 dL_law_634 (by decide) dL_law_635 dL_law_636 (by omega) ?_
  refine a_arg (pc := 637) (j := 2) C S dL_law_637 dL_law_638 dL_law_639 (by decide) dL_law_640 dL_law_641 (by omega) ?_
  refine a_callX (pc := 642) (X2 := (f_gone X (xs (i + 1)) (xs (i + 2))).2) (rest := []) C hk9 hn9 dL_law_642 ml_L_77 mf_X3_gone (x_gone g A X J (xs (i + 1)) (xs (i + 2)) hX.inv hJ) ⟨rfl, rfl, (Nat.le_of_ble_eq_true rfl), (Nat.le_of_ble_eq_true rfl)⟩ rfl rfl (Nat.le_of_ble_eq_true rfl) (fun J2 hJ2 => ?_)
  refine a_aload_n (pc := 645) C dL_law_645 rfl ?_
  refine a_arg (pc := 646) (j := 1) C S dL_law_646 dL_law_647 dL_law_648 (by decide) dL_law_649 dL_law_650 (by omega) ?_
  refine a_arg (pc := 651) (j := 2) C S dL_law_651 dL_law_652 dL_law_653 (by decide) dL_law_654 dL_law_655 (by omega) ?_
  refine a_callM (pc := 656) (X2 := (f_gone X (xs (i + 1)) (xs (i + 2))).2) (rest := [.int (f_gone X (xs (i + 1)) (xs (i + 2))).1]) C hk9 hn9 dL_law_656 ml_L_80 mf_X4_gone (n_gone g a X M (xs (i + 1)) (xs (i + 2)) hX.inv hM) ⟨rfl, rfl, (Nat.le_of_ble_eq_true rfl), (Nat.le_of_ble_eq_true rfl)⟩ rfl rfl (Nat.le_of_ble_eq_true rfl) (fun M2 hM2 => ?_)
  refine a_icmp_eq (pc := 659) (tgt := 1328) C dL_law_659 (by decide) (fun _ => ?_) (fun z => absurd rfl z)
  exact k _ J2 M2 (W_gone hX _ _) hJ2 hM2
theorem law_16 (C : Cx φ g cL_law 4 RL room_1) (S : ScrF φ b L xs) (hk9 : k9 ≤ room_1.cells) (hn9 : n9 ≤ room_1.slots) (hi : i + 6 ≤ L) (hX : InvW X) (hJ : OkJ X J) (hM : OkM X M) (k : ∀ X2 J2 M2, InvW X2 → OkJ X2 J2 → OkM X2 M2 → Ga φ g k9 n9 4 1328 (lvL b (A.1 0) (a 0) i) [] (fl [spX g A X2 J2, mdX g a X2 M2])) : Ga φ g k9 n9 4 664 (lvL b (A.1 0) (a 0) i) [] (fl [spX g A X J, mdX g a X M]) := by
  refine a_aload_n (pc := 664) C dL_law_664 rfl ?_
  refine a_arg (pc := 665) (j := 1) C S dL_law_665 dL_law_666 dL_law_667 (by decide) dL_law_668 dL_law_669 (by omega) ?_
  refine a_arg (pc := 670) (j := 2) C S dL_law_670 dL_law_671 dL_law_672 (by decide) dL_law_673 dL_law_674 (by omega) ?_
  refine a_callX (pc := 675) (X2 := (f_strong X (xs (i + 1)) (xs (i + 2))).2) (rest := []) C hk9 hn9 dL_law_675 ml_L_81 mf_X3_strong (x_strong g A X J (xs (i + 1)) (xs (i + 2)) hX.inv hJ) ⟨rfl, rfl, (Nat.le_of_ble_eq_true rfl), (Nat.le_of_ble_eq_true rfl)⟩ rfl rfl (Nat.le_of_ble_eq_true rfl) (fun J2 hJ2 => ?_)
  refine a_aload_n (pc := 678) C dL_law_678 rfl ?_
  refine a_arg (pc := 679) (j := 1) C S dL_law_679 dL_law_680 dL_law_681 (by decide) dL_law_682 dL_law_683 (by omega) ?_
  refine a_arg (pc := 684) (j := 2) C S dL_law_684 dL_law_685 dL_law_686 (by decide) dL_law_687 dL_law_688 (by omega) ?_
  refine a_callM (pc := 689) (X2 := (f_strong X (xs (i + 1)) (xs (i + 2))).2) (rest := [.int (f_strong X (xs (i + 1)) (xs (i + 2))).1]) C hk9 hn9 dL_law_689 ml_L_84 mf_X4_strong (n_strong g a X M (xs (i + 1)) (xs (i + 2)) hX.inv hM) ⟨rfl, rfl, (Nat.le_of_ble_eq_true rfl), (Nat.le_of_ble_eq_true rfl)⟩ rfl rfl (Nat.le_of_ble_eq_true rfl) (fun M2 hM2 => ?_)
  refine a_icmp_eq (pc := 692) (tgt := 1328) C dL_law_692 (by decide) (fun _ => ?_) (fun z => absurd rfl z)
  exact k _ J2 M2 (W_strong hX _ _) hJ2 hM2
theorem law_17 (C : Cx φ g cL_law 4 RL room_1) (S : ScrF φ b L xs) (hk9 : k9 ≤ room_1.cells) (hn9 : n9 ≤ room_1.slots) (hi : i + 6 ≤ L) (hX : InvW X) (hJ : OkJ X J) (hM : OkM X M) (k : ∀ X2 J2 M2, InvW X2 → OkJ X2 J2 → OkM X2 M2 → Ga φ g k9 n9 4 1328 (lvL b (A.1 0) (a 0) i) [] (fl [spX g A X2 J2, mdX g a X2 M2])) : Ga φ g k9 n9 4 697 (lvL b (A.1 0) (a 0) i) [] (fl [spX g A X J, mdX g a X M]) := by
  refine a_aload_n (pc := 697) C dL_law_697 rfl ?_
  refine a_arg (pc := 698) (j := 1) C S dL_law_698 dL_law_699 dL_law_700 (by decide) dL_law_701 dL_law_702 (by omega) ?_
  refine a_arg (pc := 703) (j := 2) C S dL_law_703 dL_law_704 dL_law_705 (by decide) dL_law_706 dL_law_707 (by omega) ?_
  refine a_callX (pc := 708) (X2 := (f_better X (xs (i + 1)) (xs (i + 2))).2) (rest := []) C hk9 hn9 dL_law_708 ml_L_85 mf_X3_better (x_better g A X J (xs (i + 1)) (xs (i + 2)) hX.inv hJ) ⟨rfl, rfl, (Nat.le_of_ble_eq_true rfl), (Nat.le_of_ble_eq_true rfl)⟩ rfl rfl (Nat.le_of_ble_eq_true rfl) (fun J2 hJ2 => ?_)
  refine a_aload_n (pc := 711) C dL_law_711 rfl ?_
  refine a_arg (pc := 712) (j := 1) C S dL_law_712 dL_law_713 dL_law_714 (by decide) dL_law_715 dL_law_716 (by omega) ?_
  refine a_arg (pc := 717) (j := 2) C S dL_law_717 dL_law_718 dL_law_719 (by decide) dL_law_720 dL_law_721 (by omega) ?_
  refine a_callM (pc := 722) (X2 := (f_better X (xs (i + 1)) (xs (i + 2))).2) (rest := [.int (f_better X (xs (i + 1)) (xs (i + 2))).1]) C hk9 hn9 dL_law_722 ml_L_88 mf_X4_better (n_better g a X M (xs (i + 1)) (xs (i + 2)) hX.inv hM) ⟨rfl, rfl, (Nat.le_of_ble_eq_true rfl), (Nat.le_of_ble_eq_true rfl)⟩ rfl rfl (Nat.le_of_ble_eq_true rfl) (fun M2 hM2 => ?_)
  refine a_icmp_eq (pc := 725) (tgt := 1328) C dL_law_725 (by decide) (fun _ => ?_) (fun z => absurd rfl z)
  exact k _ J2 M2 (W_better hX _ _) hJ2 hM2
theorem law_18 (C : Cx φ g cL_law 4 RL room_1) (S : ScrF φ b L xs) (hk9 : k9 ≤ room_1.cells) (hn9 : n9 ≤ room_1.slots) (hi : i + 6 ≤ L) (hX : InvW X) (hJ : OkJ X J) (hM : OkM X M) (k : ∀ X2 J2 M2, InvW X2 → OkJ X2 J2 → OkM X2 M2 → Ga φ g k9 n9 4 1328 (lvL b (A.1 0) (a 0) i) [] (fl [spX g A X2 J2, mdX g a X2 M2])) : Ga φ g k9 n9 4 730 (lvL b (A.1 0) (a 0) i) [] (fl [spX g A X J, mdX g a X M]) := by
  refine a_aload_n (pc := 730) C dL_law_730 rfl ?_
  refine a_arg (pc := 731) (j := 1) C S dL_law_731 dL_law_732 dL_law_733 (by decide) dL_law_734 dL_law_735 (by omega) ?_
  refine a_arg (pc := 736) (j := 2) C S dL_law_736 dL_law_737 dL_law_738 (by decide) dL_law_739 dL_law_740 (by omega) ?_
  refine a_arg (pc := 741) (j := 3) C S dL_law_741 dL_law_742 dL_law_743 (by decide) dL_law_744 dL_law_745 (by omega) ?_
  refine a_arg (pc := 746) (j := 4) C S dL_law_746 dL_law_747 dL_law_748 (by decide) dL_law_749 dL_law_750 (by omega) ?_
  refine a_callX (pc := 751) (X2 := (f_weight X (xs (i + 1)) (xs (i + 2)) (xs (i + 3)) (xs (i + 4))).2) (rest := []) C hk9 hn9 dL_law_751 ml_L_89 mf_X3_weight (x_weight g A X J (xs (i + 1)) (xs (i + 2)) (xs (i + 3)) (xs (i + 4)) hX.inv hJ) ⟨rfl, rfl, (Nat.le_of_ble_eq_true rfl), (Nat.le_of_ble_eq_true rfl)⟩ rfl rfl (Nat.le_of_ble_eq_true rfl) (fun J2 hJ2 => ?_)
  refine a_aload_n (pc := 754) C dL_law_754 rfl ?_
  refine a_arg (pc := 755) (j := 1) C S dL_law_755 dL_law_756 dL_law_757 (by decide) dL_law_758 dL_law_759 (by omega) ?_
  refine a_arg (pc := 760) (j := 2) C S dL_law_760 dL_law_761 dL_law_762 (by decide) dL_law_763 dL_law_764 (by omega) ?_
  refine a_arg (pc := 765) (j := 3) C S dL_law_765 dL_law_766 dL_law_767 (by decide) dL_law_768 dL_law_769 (by omega) ?_
  refine a_arg (pc := 770) (j := 4) C S dL_law_770 dL_law_771 dL_law_772 (by decide) dL_law_773 dL_law_774 (by omega) ?_
  refine a_callM (pc := 775) (X2 := (f_weight X (xs (i + 1)) (xs (i + 2)) (xs (i + 3)) (xs (i + 4))).2) (rest := [.int (f_weight X (xs (i + 1)) (xs (i + 2)) (xs (i + 3)) (xs (i + 4))).1]) C hk9 hn9 dL_law_775 ml_L_93 mf_X4_weight (n_weight g a X M (xs (i + 1)) (xs (i + 2)) (xs (i + 3)) (xs (i + 4)) hX.inv hM) ⟨rfl, rfl, (Nat.le_of_ble_eq_true rfl), (Nat.le_of_ble_eq_true rfl)⟩ rfl rfl (Nat.le_of_ble_eq_true rfl) (fun M2 hM2 => ?_)
  refine a_icmp_eq (pc := 778) (tgt := 1328) C dL_law_778 (by decide) (fun _ => ?_) (fun z => absurd rfl z)
  exact k _ J2 M2 (W_weight hX _ _ _ _) hJ2 hM2
theorem law_19 (C : Cx φ g cL_law 4 RL room_1) (S : ScrF φ b L xs) (hk9 : k9 ≤ room_1.cells) (hn9 : n9 ≤ room_1.slots) (hi : i + 6 ≤ L) (hX : InvW X) (hJ : OkJ X J) (hM : OkM X M) (k : ∀ X2 J2 M2, InvW X2 → OkJ X2 J2 → OkM X2 M2 → Ga φ g k9 n9 4 1328 (lvL b (A.1 0) (a 0) i) [] (fl [spX g A X2 J2, mdX g a X2 M2])) : Ga φ g k9 n9 4 783 (lvL b (A.1 0) (a 0) i) [] (fl [spX g A X J, mdX g a X M]) := by
  refine a_aload_n (pc := 783) C dL_law_783 rfl ?_
  refine a_arg (pc := 784) (j := 1) C S dL_law_784 dL_law_785 dL_law_786 (by decide) dL_law_787 dL_law_788 (by omega) ?_
  refine a_arg (pc := 789) (j := 2) C S dL_law_789 dL_law_790 dL_law_791 (by decide) dL_law_792 dL_law_793 (by omega) ?_
  refine a_arg (pc := 794) (j := 3) C S dL_law_794 dL_law_795 dL_law_796 (by decide) dL_law_797 dL_law_798 (by omega) ?_
  refine a_callX (pc := 799) (X2 := (f_kind X (xs (i + 1)) (xs (i + 2)) (xs (i + 3))).2) (rest := []) C hk9 hn9 dL_law_799 ml_L_94 mf_X3_kind (x_kind g A X J (xs (i + 1)) (xs (i + 2)) (xs (i + 3)) hX.inv hJ) ⟨rfl, rfl, (Nat.le_of_ble_eq_true rfl), (Nat.le_of_ble_eq_true rfl)⟩ rfl rfl (Nat.le_of_ble_eq_true rfl) (fun J2 hJ2 => ?_)
  refine a_aload_n (pc := 802) C dL_law_802 rfl ?_
  refine a_arg (pc := 803) (j := 1) C S dL_law_803 dL_law_804 dL_law_805 (by decide) dL_law_806 dL_law_807 (by omega) ?_
  refine a_arg (pc := 808) (j := 2) C S dL_law_808 dL_law_809 dL_law_810 (by decide) dL_law_811 dL_law_812 (by omega) ?_
  refine a_arg (pc := 813) (j := 3) C S dL_law_813 dL_law_814 dL_law_815 (by decide) dL_law_816 dL_law_817 (by omega) ?_
  refine a_callM (pc := 818) (X2 := (f_kind X (xs (i + 1)) (xs (i + 2)) (xs (i + 3))).2) (rest := [.int (f_kind X (xs (i + 1)) (xs (i + 2)) (xs (i + 3))).1]) C hk9 hn9 dL_law_818 ml_L_97 mf_X4_kind (n_kind g a X M (xs (i + 1)) (xs (i + 2)) (xs (i + 3)) hX.inv hM) ⟨rfl, rfl, (Nat.le_of_ble_eq_true rfl), (Nat.le_of_ble_eq_true rfl)⟩ rfl rfl (Nat.le_of_ble_eq_true rfl) (fun M2 hM2 => ?_)
  refine a_icmp_eq (pc := 821) (tgt := 1328) C dL_law_821 (by decide) (fun _ => ?_) (fun z => absurd rfl z)
  exact k _ J2 M2 (W_kind hX _ _ _) hJ2 hM2
theorem law_20 (C : Cx φ g cL_law 4 RL room_1) (S : ScrF φ b L xs) (hk9 : k9 ≤ room_1.cells) (hn9 : n9 ≤ room_1.slots) (hi : i + 6 ≤ L) (hX : InvW X) (hJ : OkJ X J) (hM : OkM X M) (k : ∀ X2 J2 M2, InvW X2 → OkJ X2 J2 → OkM X2 M2 → Ga φ g k9 n9 4 1328 (lvL b (A.1 0) (a 0) i) [] (fl [spX g A X2 J2, mdX g a X2 M2])) : Ga φ g k9 n9 4 826 (lvL b (A.1 0) (a 0) i) [] (fl [spX g A X J, mdX g a X M]) := by
  refine a_aload_n (pc := 826) C dL_law_826 rfl ?_
  refine a_arg (pc := 827) (j := 1) C S dL_law_827 dL_law_828 dL_law_829 (by decide) dL_law_830 dL_law_831 (by omega) ?_
  refine a_arg (pc := 832) (j := 2) C S dL_law_832 dL_law_833 dL_law_834 (by decide) dL_law_835 dL_law_836 (by omega) ?_
  refine a_callX (pc := 837) (X2 := (f_puts X (xs (i + 1)) (xs (i + 2))).2) (rest := []) C hk9 hn9 dL_law_837 ml_L_98 mf_X3_puts (x_puts g A X J (xs (i + 1)) (xs (i + 2)) hX.inv hJ) ⟨rfl, rfl, (Nat.le_of_ble_eq_true rfl), (Nat.le_of_ble_eq_true rfl)⟩ rfl rfl (Nat.le_of_ble_eq_true rfl) (fun J2 hJ2 => ?_)
  refine a_aload_n (pc := 840) C dL_law_840 rfl ?_
  refine a_arg (pc := 841) (j := 1) C S dL_law_841 dL_law_842 dL_law_843 (by decide) dL_law_844 dL_law_845 (by omega) ?_
  refine a_arg (pc := 846) (j := 2) C S dL_law_846 dL_law_847 dL_law_848 (by decide) dL_law_849 dL_law_850 (by omega) ?_
  refine a_callM (pc := 851) (X2 := (f_puts X (xs (i + 1)) (xs (i + 2))).2) (rest := [.int (f_puts X (xs (i + 1)) (xs (i + 2))).1]) C hk9 hn9 dL_law_851 ml_L_101 mf_X4_puts (n_puts g a X M (xs (i + 1)) (xs (i + 2)) hX.inv hM) ⟨rfl, rfl, (Nat.le_of_ble_eq_true rfl), (Nat.le_of_ble_eq_true rfl)⟩ rfl rfl (Nat.le_of_ble_eq_true rfl) (fun M2 hM2 => ?_)
  refine a_icmp_eq (pc := 854) (tgt := 1328) C dL_law_854 (by decide) (fun _ => ?_) (fun z => absurd rfl z)
  exact k _ J2 M2 (W_puts hX _ _) hJ2 hM2
theorem law_21 (C : Cx φ g cL_law 4 RL room_1) (S : ScrF φ b L xs) (hk9 : k9 ≤ room_1.cells) (hn9 : n9 ≤ room_1.slots) (hi : i + 6 ≤ L) (hX : InvW X) (hJ : OkJ X J) (hM : OkM X M) (k : ∀ X2 J2 M2, InvW X2 → OkJ X2 J2 → OkM X2 M2 → Ga φ g k9 n9 4 1328 (lvL b (A.1 0) (a 0) i) [] (fl [spX g A X2 J2, mdX g a X2 M2])) : Ga φ g k9 n9 4 859 (lvL b (A.1 0) (a 0) i) [] (fl [spX g A X J, mdX g a X M]) := by
  refine a_aload_n (pc := 859) C dL_law_859 rfl ?_
  refine a_arg (pc := 860) (j := 1) C S dL_law_860 dL_law_861 dL_law_862 (by decide) dL_law_863 dL_law_864 (by omega) ?_
  refine a_callX (pc := 865) (X2 := (f_best X (xs (i + 1))).2) (rest := []) C hk9 hn9 dL_law_865 ml_L_102 mf_X3_best (x_best g A X J (xs (i + 1)) hX.inv hJ) ⟨rfl, rfl, (Nat.le_of_ble_eq_true rfl), (Nat.le_of_ble_eq_true rfl)⟩ rfl rfl (Nat.le_of_ble_eq_true rfl) (fun J2 hJ2 => ?_)
  refine a_aload_n (pc := 868) C dL_law_868 rfl ?_
  refine a_arg (pc := 869) (j := 1) C S dL_law_869 dL_law_870 dL_law_871 (by decide) dL_law_872 dL_law_873 (by omega) ?_
  refine a_callM (pc := 874) (X2 := (f_best X (xs (i + 1))).2) (rest := [.int (f_best X (xs (i + 1))).1]) C hk9 hn9 dL_law_874 ml_L_105 mf_X4_best (n_best g a X M (xs (i + 1)) hX.inv hM) ⟨rfl, rfl, (Nat.le_of_ble_eq_true rfl), (Nat.le_of_ble_eq_true rfl)⟩ rfl rfl (Nat.le_of_ble_eq_true rfl) (fun M2 hM2 => ?_)
  refine a_icmp_eq (pc := 877) (tgt := 1328) C dL_law_877 (by decide) (fun _ => ?_) (fun z => absurd rfl z)
  exact k _ J2 M2 (W_best hX _) hJ2 hM2
theorem law_22 (C : Cx φ g cL_law 4 RL room_1) (S : ScrF φ b L xs) (hk9 : k9 ≤ room_1.cells) (hn9 : n9 ≤ room_1.slots) (hi : i + 6 ≤ L) (hX : InvW X) (hJ : OkJ X J) (hM : OkM X M) (k : ∀ X2 J2 M2, InvW X2 → OkJ X2 J2 → OkM X2 M2 → Ga φ g k9 n9 4 1328 (lvL b (A.1 0) (a 0) i) [] (fl [spX g A X2 J2, mdX g a X2 M2])) : Ga φ g k9 n9 4 882 (lvL b (A.1 0) (a 0) i) [] (fl [spX g A X J, mdX g a X M]) := by
  refine a_aload_n (pc := 882) C dL_law_882 rfl ?_
  refine a_arg (pc := 883) (j := 1) C S dL_law_883 dL_law_884 dL_law_885 (by decide) dL_law_886 dL_law_887 (by omega) ?_
  refine a_callX (pc := 888) (X2 := (f_dull X (xs (i + 1))).2) (rest := []) C hk9 hn9 dL_law_888 ml_L_106 mf_X3_dull (x_dull g A X J (xs (i + 1)) hX.inv hJ) ⟨rfl, rfl, (Nat.le_of_ble_eq_true rfl), (Nat.le_of_ble_eq_true rfl)⟩ rfl rfl (Nat.le_of_ble_eq_true rfl) (fun J2 hJ2 => ?_)
  refine a_aload_n (pc := 891) C dL_law_891 rfl ?_
  refine a_arg (pc := 892) (j := 1) C S dL_law_892 dL_law_893 dL_law_894 (by decide) dL_law_895 dL_law_896 (by omega) ?_
  refine a_callM (pc := 897) (X2 := (f_dull X (xs (i + 1))).2) (rest := [.int (f_dull X (xs (i + 1))).1]) C hk9 hn9 dL_law_897 ml_L_109 mf_X4_dull (n_dull g a X M (xs (i + 1)) hX.inv hM) ⟨rfl, rfl, (Nat.le_of_ble_eq_true rfl), (Nat.le_of_ble_eq_true rfl)⟩ rfl rfl (Nat.le_of_ble_eq_true rfl) (fun M2 hM2 => ?_)
  refine a_icmp_eq (pc := 900) (tgt := 1328) C dL_law_900 (by decide) (fun _ => ?_) (fun z => absurd rfl z)
  exact k _ J2 M2 (W_dull hX _) hJ2 hM2
theorem law_23 (C : Cx φ g cL_law 4 RL room_1) (S : ScrF φ b L xs) (hk9 : k9 ≤ room_1.cells) (hn9 : n9 ≤ room_1.slots) (hi : i + 6 ≤ L) (hX : InvW X) (hJ : OkJ X J) (hM : OkM X M) (k : ∀ X2 J2 M2, InvW X2 → OkJ X2 J2 → OkM X2 M2 → Ga φ g k9 n9 4 1328 (lvL b (A.1 0) (a 0) i) [] (fl [spX g A X2 J2, mdX g a X2 M2])) : Ga φ g k9 n9 4 905 (lvL b (A.1 0) (a 0) i) [] (fl [spX g A X J, mdX g a X M]) := by
  refine a_aload_n (pc := 905) C dL_law_905 rfl ?_
  refine a_arg (pc := 906) (j := 1) C S dL_law_906 dL_law_907 dL_law_908 (by decide) dL_law_909 dL_law_910 (by omega) ?_
  refine a_arg (pc := 911) (j := 2) C S dL_law_911 dL_law_912 dL_law_913 (by decide) dL_law_914 dL_law_915 (by omega) ?_
  refine a_callX (pc := 916) (X2 := (f_feed X (xs (i + 1)) (xs (i + 2))).2) (rest := []) C hk9 hn9 dL_law_916 ml_L_110 mf_X3_feed (x_feed g A X J (xs (i + 1)) (xs (i + 2)) hX.inv hJ) ⟨rfl, rfl, (Nat.le_of_ble_eq_true rfl), (Nat.le_of_ble_eq_true rfl)⟩ rfl rfl (Nat.le_of_ble_eq_true rfl) (fun J2 hJ2 => ?_)
  refine a_aload_n (pc := 919) C dL_law_919 rfl ?_
  refine a_arg (pc := 920) (j := 1) C S dL_law_920 dL_law_921 dL_law_922 (by decide) dL_law_923 dL_law_924 (by omega) ?_
  refine a_arg (pc := 925) (j := 2) C S dL_law_925 dL_law_926 dL_law_927 (by decide) dL_law_928 dL_law_929 (by omega) ?_
  refine a_callM (pc := 930) (X2 := (f_feed X (xs (i + 1)) (xs (i + 2))).2) (rest := [.int (f_feed X (xs (i + 1)) (xs (i + 2))).1]) C hk9 hn9 dL_law_930 ml_L_113 mf_X4_feed (n_feed g a X M (xs (i + 1)) (xs (i + 2)) hX.inv hM) ⟨rfl, rfl, (Nat.le_of_ble_eq_true rfl), (Nat.le_of_ble_eq_true rfl)⟩ rfl rfl (Nat.le_of_ble_eq_true rfl) (fun M2 hM2 => ?_)
  refine a_icmp_eq (pc := 933) (tgt := 1328) C dL_law_933 (by decide) (fun _ => ?_) (fun z => absurd rfl z)
  exact k _ J2 M2 (W_feed hX _ _) hJ2 hM2
theorem law_24 (C : Cx φ g cL_law 4 RL room_1) (S : ScrF φ b L xs) (hk9 : k9 ≤ room_1.cells) (hn9 : n9 ≤ room_1.slots) (hi : i + 6 ≤ L) (hX : InvW X) (hJ : OkJ X J) (hM : OkM X M) (k : ∀ X2 J2 M2, InvW X2 → OkJ X2 J2 → OkM X2 M2 → Ga φ g k9 n9 4 1328 (lvL b (A.1 0) (a 0) i) [] (fl [spX g A X2 J2, mdX g a X2 M2])) : Ga φ g k9 n9 4 938 (lvL b (A.1 0) (a 0) i) [] (fl [spX g A X J, mdX g a X M]) := by
  refine a_aload_n (pc := 938) C dL_law_938 rfl ?_
  refine a_callX (pc := 939) (X2 := (f_wipe X).2) (rest := []) C hk9 hn9 dL_law_939 ml_L_114 mf_X3_wipe (x_wipe g A X J hX.inv hJ) ⟨rfl, rfl, (Nat.le_of_ble_eq_true rfl), (Nat.le_of_ble_eq_true rfl)⟩ rfl rfl (Nat.le_of_ble_eq_true rfl) (fun J2 hJ2 => ?_)
  refine a_aload_n (pc := 942) C dL_law_942 rfl ?_
  refine a_callM (pc := 943) (X2 := (f_wipe X).2) (rest := [.int (f_wipe X).1]) C hk9 hn9 dL_law_943 ml_L_117 mf_X4_wipe (n_wipe g a X M hX.inv hM) ⟨rfl, rfl, (Nat.le_of_ble_eq_true rfl), (Nat.le_of_ble_eq_true rfl)⟩ rfl rfl (Nat.le_of_ble_eq_true rfl) (fun M2 hM2 => ?_)
  refine a_icmp_eq (pc := 946) (tgt := 1328) C dL_law_946 (by decide) (fun _ => ?_) (fun z => absurd rfl z)
  exact k _ J2 M2 (W_wipe hX) hJ2 hM2
theorem law_25 (C : Cx φ g cL_law 4 RL room_1) (S : ScrF φ b L xs) (hk9 : k9 ≤ room_1.cells) (hn9 : n9 ≤ room_1.slots) (hi : i + 6 ≤ L) (hX : InvW X) (hJ : OkJ X J) (hM : OkM X M) (k : ∀ X2 J2 M2, InvW X2 → OkJ X2 J2 → OkM X2 M2 → Ga φ g k9 n9 4 1328 (lvL b (A.1 0) (a 0) i) [] (fl [spX g A X2 J2, mdX g a X2 M2])) : Ga φ g k9 n9 4 951 (lvL b (A.1 0) (a 0) i) [] (fl [spX g A X J, mdX g a X M]) := by
  refine a_aload_n (pc := 951) C dL_law_951 rfl ?_
  refine a_callX (pc := 952) (X2 := (f_college X).2) (rest := []) C hk9 hn9 dL_law_952 ml_L_118 mf_X3_college (x_college g A X J hX.inv hJ) ⟨rfl, rfl, (Nat.le_of_ble_eq_true rfl), (Nat.le_of_ble_eq_true rfl)⟩ rfl rfl (Nat.le_of_ble_eq_true rfl) (fun J2 hJ2 => ?_)
  refine a_aload_n (pc := 955) C dL_law_955 rfl ?_
  refine a_callM (pc := 956) (X2 := (f_college X).2) (rest := [.int (f_college X).1]) C hk9 hn9 dL_law_956 ml_L_121 mf_X4_college (n_college g a X M hX.inv hM) ⟨rfl, rfl, (Nat.le_of_ble_eq_true rfl), (Nat.le_of_ble_eq_true rfl)⟩ rfl rfl (Nat.le_of_ble_eq_true rfl) (fun M2 hM2 => ?_)
  refine a_icmp_eq (pc := 959) (tgt := 1328) C dL_law_959 (by decide) (fun _ => ?_) (fun z => absurd rfl z)
  exact k _ J2 M2 (W_college hX) hJ2 hM2
theorem law_26 (C : Cx φ g cL_law 4 RL room_1) (S : ScrF φ b L xs) (hk9 : k9 ≤ room_1.cells) (hn9 : n9 ≤ room_1.slots) (hi : i + 6 ≤ L) (hX : InvW X) (hJ : OkJ X J) (hM : OkM X M) (k : ∀ X2 J2 M2, InvW X2 → OkJ X2 J2 → OkM X2 M2 → Ga φ g k9 n9 4 1328 (lvL b (A.1 0) (a 0) i) [] (fl [spX g A X2 J2, mdX g a X2 M2])) : Ga φ g k9 n9 4 964 (lvL b (A.1 0) (a 0) i) [] (fl [spX g A X J, mdX g a X M]) := by
  refine a_aload_n (pc := 964) C dL_law_964 rfl ?_
  refine a_arg (pc := 965) (j := 1) C S dL_law_965 dL_law_966 dL_law_967 (by decide) dL_law_968 dL_law_969 (by omega) ?_
  refine a_arg (pc := 970) (j := 2) C S dL_law_970 dL_law_971 dL_law_972 (by decide) dL_law_973 dL_law_974 (by omega) ?_
  refine a_arg (pc := 975) (j := 3) C S dL_law_975 dL_law_976 dL_law_977 (by decide) dL_law_978 dL_law_979 (by omega) ?_
  refine a_callX (pc := 980) (X2 := (f_sheet X (xs (i + 1)) (xs (i + 2)) (xs (i + 3))).2) (rest := []) C hk9 hn9 dL_law_980 ml_L_122 mf_X3_sheet (x_sheet g A X J (xs (i + 1)) (xs (i + 2)) (xs (i + 3)) hX.inv hJ) ⟨rfl, rfl, (Nat.le_of_ble_eq_true rfl), (Nat.le_of_ble_eq_true rfl)⟩ rfl rfl (Nat.le_of_ble_eq_true rfl) (fun J2 hJ2 => ?_)
  refine a_aload_n (pc := 983) C dL_law_983 rfl ?_
  refine a_arg (pc := 984) (j := 1) C S dL_law_984 dL_law_985 dL_law_986 (by decide) dL_law_987 dL_law_988 (by omega) ?_
  refine a_arg (pc := 989) (j := 2) C S dL_law_989 dL_law_990 dL_law_991 (by decide) dL_law_992 dL_law_993 (by omega) ?_
  refine a_arg (pc := 994) (j := 3) C S dL_law_994 dL_law_995 dL_law_996 (by decide) dL_law_997 dL_law_998 (by omega) ?_
  refine a_callM (pc := 999) (X2 := (f_sheet X (xs (i + 1)) (xs (i + 2)) (xs (i + 3))).2) (rest := [.int (f_sheet X (xs (i + 1)) (xs (i + 2)) (xs (i + 3))).1]) C hk9 hn9 dL_law_999 ml_L_125 mf_X4_sheet (n_sheet g a X M (xs (i + 1)) (xs (i + 2)) (xs (i + 3)) hX.inv hM) ⟨rfl, rfl, (Nat.le_of_ble_eq_true rfl), (Nat.le_of_ble_eq_true rfl)⟩ rfl rfl (Nat.le_of_ble_eq_true rfl) (fun M2 hM2 => ?_)
  refine a_icmp_eq (pc := 1002) (tgt := 1328) C dL_law_1002 (by decide) (fun _ => ?_) (fun z => absurd rfl z)
  exact k _ J2 M2 (W_sheet hX _ _ _) hJ2 hM2
theorem law_27 (C : Cx φ g cL_law 4 RL room_1) (S : ScrF φ b L xs) (hk9 : k9 ≤ room_1.cells) (hn9 : n9 ≤ room_1.slots) (hi : i + 6 ≤ L) (hX : InvW X) (hJ : OkJ X J) (hM : OkM X M) (k : ∀ X2 J2 M2, InvW X2 → OkJ X2 J2 → OkM X2 M2 → Ga φ g k9 n9 4 1328 (lvL b (A.1 0) (a 0) i) [] (fl [spX g A X2 J2, mdX g a X2 M2])) : Ga φ g k9 n9 4 1007 (lvL b (A.1 0) (a 0) i) [] (fl [spX g A X J, mdX g a X M]) := by
  refine a_aload_n (pc := 1007) C dL_law_1007 rfl ?_
  refine a_arg (pc := 1008) (j := 1) C S dL_law_1008 dL_law_1009 dL_law_1010 (by decide) dL_law_1011 dL_law_1012 (by omega) ?_
  refine a_arg (pc := 1013) (j := 2) C S dL_law_1013 dL_law_1014 dL_law_1015 (by decide) dL_law_1016 dL_law_1017 (by omega) ?_
  refine a_arg (pc := 1018) (j := 3) C S dL_law_1018 dL_law_1019 dL_law_1020 (by decide) dL_law_1021 dL_law_1022 (by omega) ?_
  refine a_i2l (pc := 1023) C dL_law_1023 ?_
  refine a_bipush (pc := 1024) (v := nI 32) C dL_law_1024 (by decide) ?_
  refine a_lshl (pc := 1026) C dL_law_1026 ?_
  refine a_arg (pc := 1027) (j := 4) C S dL_law_1027 dL_law_1028 dL_law_1029 (by decide) dL_law_1030 dL_law_1031 (by omega) ?_
  refine a_i2l (pc := 1032) C dL_law_1032 ?_
  refine a_ldc2 (pc := 1033) C dL_law_1033 ckl_L_126 rfl ?_
  refine a_land (pc := 1036) C dL_law_1036 ?_
  refine a_lor (pc := 1037) C dL_law_1037 ?_
  refine a_callX (pc := 1038) (X2 := (f_write X (xs (i + 1)) (xs (i + 2)) (((xs (i + 3)).toInt64 <<< ((nI 32).toInt64 &&& 63)) ||| ((xs (i + 4)).toInt64 &&& (4294967295)))).2) (rest := []) C hk9 hn9 dL_law_1038 ml_L_128 mf_X3_write (x_write g A X J (xs (i + 1)) (xs (i + 2)) (((xs (i + 3)).toInt64 <<< ((nI 32).toInt64 &&& 63)) ||| ((xs (i + 4)).toInt64 &&& (4294967295))) hX.inv hJ) ⟨rfl, rfl, (Nat.le_of_ble_eq_true rfl), (Nat.le_of_ble_eq_true rfl)⟩ rfl rfl (Nat.le_of_ble_eq_true rfl) (fun J2 hJ2 => ?_)
  refine a_aload_n (pc := 1041) C dL_law_1041 rfl ?_
  refine a_arg (pc := 1042) (j := 1) C S dL_law_1042 dL_law_1043 dL_law_1044 (by decide) dL_law_1045 dL_law_1046 (by omega) ?_
  refine a_arg (pc := 1047) (j := 2) C S dL_law_1047 dL_law_1048 dL_law_1049 (by decide) dL_law_1050 dL_law_1051 (by omega) ?_
  refine a_arg (pc := 1052) (j := 3) C S dL_law_1052 dL_law_1053 dL_law_1054 (by decide) dL_law_1055 dL_law_1056 (by omega) ?_
  refine a_i2l (pc := 1057) C dL_law_1057 ?_
  refine a_bipush (pc := 1058) (v := nI 32) C dL_law_1058 (by decide) ?_
  refine a_lshl (pc := 1060) C dL_law_1060 ?_
  refine a_arg (pc := 1061) (j := 4) C S dL_law_1061 dL_law_1062 dL_law_1063 (by decide) dL_law_1064 dL_law_1065 (by omega) ?_
  refine a_i2l (pc := 1066) C dL_law_1066 ?_
  refine a_ldc2 (pc := 1067) C dL_law_1067 ckl_L_126 rfl ?_
  refine a_land (pc := 1070) C dL_law_1070 ?_
  refine a_lor (pc := 1071) C dL_law_1071 ?_
  refine a_callM (pc := 1072) (X2 := (f_write X (xs (i + 1)) (xs (i + 2)) (((xs (i + 3)).toInt64 <<< ((nI 32).toInt64 &&& 63)) ||| ((xs (i + 4)).toInt64 &&& (4294967295)))).2) (rest := [.long (f_write X (xs (i + 1)) (xs (i + 2)) (((xs (i + 3)).toInt64 <<< ((nI 32).toInt64 &&& 63)) ||| ((xs (i + 4)).toInt64 &&& (4294967295)))).1]) C hk9 hn9 dL_law_1072 ml_L_132 mf_X4_write (n_write g a X M (xs (i + 1)) (xs (i + 2)) (((xs (i + 3)).toInt64 <<< ((nI 32).toInt64 &&& 63)) ||| ((xs (i + 4)).toInt64 &&& (4294967295))) hX.inv hM) ⟨rfl, rfl, (Nat.le_of_ble_eq_true rfl), (Nat.le_of_ble_eq_true rfl)⟩ rfl rfl (Nat.le_of_ble_eq_true rfl) (fun M2 hM2 => ?_)
  refine a_lcmp (pc := 1075) C dL_law_1075 ?_
  refine a_if_eqL (pc := 1076) (tgt := 1328) C dL_law_1076 (by decide) (fun _ => ?_) (fun z => absurd rfl z)
  exact k _ J2 M2 (W_write hX _ _ _) hJ2 hM2
theorem law_28 (C : Cx φ g cL_law 4 RL room_1) (S : ScrF φ b L xs) (hk9 : k9 ≤ room_1.cells) (hn9 : n9 ≤ room_1.slots) (hi : i + 6 ≤ L) (hX : InvW X) (hJ : OkJ X J) (hM : OkM X M) (k : ∀ X2 J2 M2, InvW X2 → OkJ X2 J2 → OkM X2 M2 → Ga φ g k9 n9 4 1328 (lvL b (A.1 0) (a 0) i) [] (fl [spX g A X2 J2, mdX g a X2 M2])) : Ga φ g k9 n9 4 1081 (lvL b (A.1 0) (a 0) i) [] (fl [spX g A X J, mdX g a X M]) := by
  refine a_aload_n (pc := 1081) C dL_law_1081 rfl ?_
  refine a_arg (pc := 1082) (j := 1) C S dL_law_1082 dL_law_1083 dL_law_1084 (by decide) dL_law_1085 dL_law_1086 (by omega) ?_
  refine a_arg (pc := 1087) (j := 2) C S dL_law_1087 dL_law_1088 dL_law_1089 (by decide) dL_law_1090 dL_law_1091 (by omega) ?_
  refine a_arg (pc := 1092) (j := 3) C S dL_law_1092 dL_law_1093 dL_law_1094 (by decide) dL_law_1095 dL_law_1096 (by omega) ?_
  refine a_arg (pc := 1097) (j := 4) C S dL_law_1097 dL_law_1098 dL_law_1099 (by decide) dL_law_1100 dL_law_1101 (by omega) ?_
  refine a_arg (pc := 1102) (j := 5) C S dL_law_1102 dL_law_1103 dL_law_1104 (by decide) dL_law_1105 dL_law_1106 (by omega) ?_
  refine a_callX (pc := 1107) (X2 := (f_copy X (xs (i + 1)) (xs (i + 2)) (xs (i + 3)) (xs (i + 4)) (xs (i + 5))).2) (rest := []) C hk9 hn9 dL_law_1107 ml_L_133 mf_X3_copy (x_copy g A X J (xs (i + 1)) (xs (i + 2)) (xs (i + 3)) (xs (i + 4)) (xs (i + 5)) hX.inv hJ) ⟨rfl, rfl, (Nat.le_of_ble_eq_true rfl), (Nat.le_of_ble_eq_true rfl)⟩ rfl rfl (Nat.le_of_ble_eq_true rfl) (fun J2 hJ2 => ?_)
  refine a_aload_n (pc := 1110) C dL_law_1110 rfl ?_
  refine a_arg (pc := 1111) (j := 1) C S dL_law_1111 dL_law_1112 dL_law_1113 (by decide) dL_law_1114 dL_law_1115 (by omega) ?_
  refine a_arg (pc := 1116) (j := 2) C S dL_law_1116 dL_law_1117 dL_law_1118 (by decide) dL_law_1119 dL_law_1120 (by omega) ?_
  refine a_arg (pc := 1121) (j := 3) C S dL_law_1121 dL_law_1122 dL_law_1123 (by decide) dL_law_1124 dL_law_1125 (by omega) ?_
  refine a_arg (pc := 1126) (j := 4) C S dL_law_1126 dL_law_1127 dL_law_1128 (by decide) dL_law_1129 dL_law_1130 (by omega) ?_
  refine a_arg (pc := 1131) (j := 5) C S dL_law_1131 dL_law_1132 dL_law_1133 (by decide) dL_law_1134 dL_law_1135 (by omega) ?_
  refine a_callM (pc := 1136) (X2 := (f_copy X (xs (i + 1)) (xs (i + 2)) (xs (i + 3)) (xs (i + 4)) (xs (i + 5))).2) (rest := [.int (f_copy X (xs (i + 1)) (xs (i + 2)) (xs (i + 3)) (xs (i + 4)) (xs (i + 5))).1]) C hk9 hn9 dL_law_1136 ml_L_137 mf_X4_copy (n_copy g a X M (xs (i + 1)) (xs (i + 2)) (xs (i + 3)) (xs (i + 4)) (xs (i + 5)) hX.inv hM) ⟨rfl, rfl, (Nat.le_of_ble_eq_true rfl), (Nat.le_of_ble_eq_true rfl)⟩ rfl rfl (Nat.le_of_ble_eq_true rfl) (fun M2 hM2 => ?_)
  refine a_icmp_eq (pc := 1139) (tgt := 1328) C dL_law_1139 (by decide) (fun _ => ?_) (fun z => absurd rfl z)
  exact k _ J2 M2 (W_copy hX _ _ _ _ _) hJ2 hM2
theorem law_29 (C : Cx φ g cL_law 4 RL room_1) (S : ScrF φ b L xs) (hk9 : k9 ≤ room_1.cells) (hn9 : n9 ≤ room_1.slots) (hi : i + 6 ≤ L) (hX : InvW X) (hJ : OkJ X J) (hM : OkM X M) (k : ∀ X2 J2 M2, InvW X2 → OkJ X2 J2 → OkM X2 M2 → Ga φ g k9 n9 4 1328 (lvL b (A.1 0) (a 0) i) [] (fl [spX g A X2 J2, mdX g a X2 M2])) : Ga φ g k9 n9 4 1144 (lvL b (A.1 0) (a 0) i) [] (fl [spX g A X J, mdX g a X M]) := by
  refine a_aload_n (pc := 1144) C dL_law_1144 rfl ?_
  refine a_arg (pc := 1145) (j := 1) C S dL_law_1145 dL_law_1146 dL_law_1147 (by decide) dL_law_1148 dL_law_1149 (by omega) ?_
  refine a_callX (pc := 1150) (X2 := (f_lays X (xs (i + 1))).2) (rest := []) C hk9 hn9 dL_law_1150 ml_L_138 mf_X3_lays (x_lays g A X J (xs (i + 1)) hX.inv hJ) ⟨rfl, rfl, (Nat.le_of_ble_eq_true rfl), (Nat.le_of_ble_eq_true rfl)⟩ rfl rfl (Nat.le_of_ble_eq_true rfl) (fun J2 hJ2 => ?_)
  refine a_aload_n (pc := 1153) C dL_law_1153 rfl ?_
  refine a_arg (pc := 1154) (j := 1) C S dL_law_1154 dL_law_1155 dL_law_1156 (by decide) dL_law_1157 dL_law_1158 (by omega) ?_
  refine a_callM (pc := 1159) (X2 := (f_lays X (xs (i + 1))).2) (rest := [.int (f_lays X (xs (i + 1))).1]) C hk9 hn9 dL_law_1159 ml_L_141 mf_X4_lays (n_lays g a X M (xs (i + 1)) hX.inv hM) ⟨rfl, rfl, (Nat.le_of_ble_eq_true rfl), (Nat.le_of_ble_eq_true rfl)⟩ rfl rfl (Nat.le_of_ble_eq_true rfl) (fun M2 hM2 => ?_)
  refine a_icmp_eq (pc := 1162) (tgt := 1328) C dL_law_1162 (by decide) (fun _ => ?_) (fun z => absurd rfl z)
  exact k _ J2 M2 (W_lays hX _) hJ2 hM2
theorem law_30 (C : Cx φ g cL_law 4 RL room_1) (S : ScrF φ b L xs) (hk9 : k9 ≤ room_1.cells) (hn9 : n9 ≤ room_1.slots) (hi : i + 6 ≤ L) (hX : InvW X) (hJ : OkJ X J) (hM : OkM X M) (k : ∀ X2 J2 M2, InvW X2 → OkJ X2 J2 → OkM X2 M2 → Ga φ g k9 n9 4 1328 (lvL b (A.1 0) (a 0) i) [] (fl [spX g A X2 J2, mdX g a X2 M2])) : Ga φ g k9 n9 4 1167 (lvL b (A.1 0) (a 0) i) [] (fl [spX g A X J, mdX g a X M]) := by
  refine a_aload_n (pc := 1167) C dL_law_1167 rfl ?_
  refine a_arg (pc := 1168) (j := 1) C S dL_law_1168 dL_law_1169 dL_law_1170 (by decide) dL_law_1171 dL_law_1172 (by omega) ?_
  refine a_arg (pc := 1173) (j := 2) C S dL_law_1173 dL_law_1174 dL_law_1175 (by decide) dL_law_1176 dL_law_1177 (by omega) ?_
  refine a_callX (pc := 1178) (X2 := (f_book X (xs (i + 1)) (xs (i + 2))).2) (rest := []) C hk9 hn9 dL_law_1178 ml_L_142 mf_X3_book (x_book g A X J (xs (i + 1)) (xs (i + 2)) hX.inv hJ) ⟨rfl, rfl, (Nat.le_of_ble_eq_true rfl), (Nat.le_of_ble_eq_true rfl)⟩ rfl rfl (Nat.le_of_ble_eq_true rfl) (fun J2 hJ2 => ?_)
  refine a_aload_n (pc := 1181) C dL_law_1181 rfl ?_
  refine a_arg (pc := 1182) (j := 1) C S dL_law_1182 dL_law_1183 dL_law_1184 (by decide) dL_law_1185 dL_law_1186 (by omega) ?_
  refine a_arg (pc := 1187) (j := 2) C S dL_law_1187 dL_law_1188 dL_law_1189 (by decide) dL_law_1190 dL_law_1191 (by omega) ?_
  refine a_callM (pc := 1192) (X2 := (f_book X (xs (i + 1)) (xs (i + 2))).2) (rest := [.int (f_book X (xs (i + 1)) (xs (i + 2))).1]) C hk9 hn9 dL_law_1192 ml_L_145 mf_X4_book (n_book g a X M (xs (i + 1)) (xs (i + 2)) hX.inv hM) ⟨rfl, rfl, (Nat.le_of_ble_eq_true rfl), (Nat.le_of_ble_eq_true rfl)⟩ rfl rfl (Nat.le_of_ble_eq_true rfl) (fun M2 hM2 => ?_)
  refine a_icmp_eq (pc := 1195) (tgt := 1328) C dL_law_1195 (by decide) (fun _ => ?_) (fun z => absurd rfl z)
  exact k _ J2 M2 (W_book hX _ _) hJ2 hM2
theorem law_31 (C : Cx φ g cL_law 4 RL room_1) (S : ScrF φ b L xs) (hk9 : k9 ≤ room_1.cells) (hn9 : n9 ≤ room_1.slots) (hi : i + 6 ≤ L) (hX : InvW X) (hJ : OkJ X J) (hM : OkM X M) (k : ∀ X2 J2 M2, InvW X2 → OkJ X2 J2 → OkM X2 M2 → Ga φ g k9 n9 4 1328 (lvL b (A.1 0) (a 0) i) [] (fl [spX g A X2 J2, mdX g a X2 M2])) : Ga φ g k9 n9 4 1200 (lvL b (A.1 0) (a 0) i) [] (fl [spX g A X J, mdX g a X M]) := by
  refine a_aload_n (pc := 1200) C dL_law_1200 rfl ?_
  refine a_arg (pc := 1201) (j := 1) C S dL_law_1201 dL_law_1202 dL_law_1203 (by decide) dL_law_1204 dL_law_1205 (by omega) ?_
  refine a_arg (pc := 1206) (j := 2) C S dL_law_1206 dL_law_1207 dL_law_1208 (by decide) dL_law_1209 dL_law_1210 (by omega) ?_
  refine a_arg (pc := 1211) (j := 3) C S dL_law_1211 dL_law_1212 dL_law_1213 (by decide) dL_law_1214 dL_law_1215 (by omega) ?_
  refine a_callX (pc := 1216) (X2 := (f_read X (xs (i + 1)) (xs (i + 2)) (xs (i + 3))).2) (rest := []) C hk9 hn9 dL_law_1216 ml_L_146 mf_X3_read (x_read g A X J (xs (i + 1)) (xs (i + 2)) (xs (i + 3)) hX.inv hJ) ⟨rfl, rfl, (Nat.le_of_ble_eq_true rfl), (Nat.le_of_ble_eq_true rfl)⟩ rfl rfl (Nat.le_of_ble_eq_true rfl) (fun J2 hJ2 => ?_)
  refine a_aload_n (pc := 1219) C dL_law_1219 rfl ?_
  refine a_arg (pc := 1220) (j := 1) C S dL_law_1220 dL_law_1221 dL_law_1222 (by decide) dL_law_1223 dL_law_1224 (by omega) ?_
  refine a_arg (pc := 1225) (j := 2) C S dL_law_1225 dL_law_1226 dL_law_1227 (by decide) dL_law_1228 dL_law_1229 (by omega) ?_
  refine a_arg (pc := 1230) (j := 3) C S dL_law_1230 dL_law_1231 dL_law_1232 (by decide) dL_law_1233 dL_law_1234 (by omega) ?_
  refine a_callM (pc := 1235) (X2 := (f_read X (xs (i + 1)) (xs (i + 2)) (xs (i + 3))).2) (rest := [.int (f_read X (xs (i + 1)) (xs (i + 2)) (xs (i + 3))).1]) C hk9 hn9 dL_law_1235 ml_L_149 mf_X4_read (n_read g a X M (xs (i + 1)) (xs (i + 2)) (xs (i + 3)) hX.inv hM) ⟨rfl, rfl, (Nat.le_of_ble_eq_true rfl), (Nat.le_of_ble_eq_true rfl)⟩ rfl rfl (Nat.le_of_ble_eq_true rfl) (fun M2 hM2 => ?_)
  refine a_icmp_eq (pc := 1238) (tgt := 1328) C dL_law_1238 (by decide) (fun _ => ?_) (fun z => absurd rfl z)
  exact k _ J2 M2 (W_read hX _ _ _) hJ2 hM2
theorem law_32 (C : Cx φ g cL_law 4 RL room_1) (S : ScrF φ b L xs) (hk9 : k9 ≤ room_1.cells) (hn9 : n9 ≤ room_1.slots) (hi : i + 6 ≤ L) (hX : InvW X) (hJ : OkJ X J) (hM : OkM X M) (k : ∀ X2 J2 M2, InvW X2 → OkJ X2 J2 → OkM X2 M2 → Ga φ g k9 n9 4 1328 (lvL b (A.1 0) (a 0) i) [] (fl [spX g A X2 J2, mdX g a X2 M2])) : Ga φ g k9 n9 4 1243 (lvL b (A.1 0) (a 0) i) [] (fl [spX g A X J, mdX g a X M]) := by
  refine a_aload_n (pc := 1243) C dL_law_1243 rfl ?_
  refine a_callX (pc := 1244) (X2 := (f_image X).2) (rest := []) C hk9 hn9 dL_law_1244 ml_L_150 mf_X3_image (x_image g A X J hX.inv hJ) ⟨rfl, rfl, (Nat.le_of_ble_eq_true rfl), (Nat.le_of_ble_eq_true rfl)⟩ rfl rfl (Nat.le_of_ble_eq_true rfl) (fun J2 hJ2 => ?_)
  refine a_aload_n (pc := 1247) C dL_law_1247 rfl ?_
  refine a_callM (pc := 1248) (X2 := (f_image X).2) (rest := [.int (f_image X).1]) C hk9 hn9 dL_law_1248 ml_L_153 mf_X4_image (n_image g a X M hX.inv hM) ⟨rfl, rfl, (Nat.le_of_ble_eq_true rfl), (Nat.le_of_ble_eq_true rfl)⟩ rfl rfl (Nat.le_of_ble_eq_true rfl) (fun M2 hM2 => ?_)
  refine a_icmp_eq (pc := 1251) (tgt := 1328) C dL_law_1251 (by decide) (fun _ => ?_) (fun z => absurd rfl z)
  exact k _ J2 M2 (W_image hX) hJ2 hM2
theorem law_33 (C : Cx φ g cL_law 4 RL room_1) (S : ScrF φ b L xs) (hk9 : k9 ≤ room_1.cells) (hn9 : n9 ≤ room_1.slots) (hi : i + 6 ≤ L) (hX : InvW X) (hJ : OkJ X J) (hM : OkM X M) (k : ∀ X2 J2 M2, InvW X2 → OkJ X2 J2 → OkM X2 M2 → Ga φ g k9 n9 4 1328 (lvL b (A.1 0) (a 0) i) [] (fl [spX g A X2 J2, mdX g a X2 M2])) : Ga φ g k9 n9 4 1256 (lvL b (A.1 0) (a 0) i) [] (fl [spX g A X J, mdX g a X M]) := by
  refine a_aload_n (pc := 1256) C dL_law_1256 rfl ?_
  refine a_callX (pc := 1257) (X2 := (f_undo X).2) (rest := []) C hk9 hn9 dL_law_1257 ml_L_154 mf_X3_undo (x_undo g A X J hX.inv hJ) ⟨rfl, rfl, (Nat.le_of_ble_eq_true rfl), (Nat.le_of_ble_eq_true rfl)⟩ rfl rfl (Nat.le_of_ble_eq_true rfl) (fun J2 hJ2 => ?_)
  refine a_aload_n (pc := 1260) C dL_law_1260 rfl ?_
  refine a_callM (pc := 1261) (X2 := (f_undo X).2) (rest := [.int (f_undo X).1]) C hk9 hn9 dL_law_1261 ml_L_157 mf_X4_undo (n_undo g a X M hX.inv hM) ⟨rfl, rfl, (Nat.le_of_ble_eq_true rfl), (Nat.le_of_ble_eq_true rfl)⟩ rfl rfl (Nat.le_of_ble_eq_true rfl) (fun M2 hM2 => ?_)
  refine a_icmp_eq (pc := 1264) (tgt := 1328) C dL_law_1264 (by decide) (fun _ => ?_) (fun z => absurd rfl z)
  exact k _ J2 M2 (W_undo hX) hJ2 hM2
theorem law_34 (C : Cx φ g cL_law 4 RL room_1) (S : ScrF φ b L xs) (hk9 : k9 ≤ room_1.cells) (hn9 : n9 ≤ room_1.slots) (hi : i + 6 ≤ L) (hX : InvW X) (hJ : OkJ X J) (hM : OkM X M) (k : ∀ X2 J2 M2, InvW X2 → OkJ X2 J2 → OkM X2 M2 → Ga φ g k9 n9 4 1328 (lvL b (A.1 0) (a 0) i) [] (fl [spX g A X2 J2, mdX g a X2 M2])) : Ga φ g k9 n9 4 1269 (lvL b (A.1 0) (a 0) i) [] (fl [spX g A X J, mdX g a X M]) := by
  refine a_aload_n (pc := 1269) C dL_law_1269 rfl ?_
  refine a_callX (pc := 1270) (X2 := (f_tear X).2) (rest := []) C hk9 hn9 dL_law_1270 ml_L_158 mf_X3_tear (x_tear g A X J hX.inv hJ) ⟨rfl, rfl, (Nat.le_of_ble_eq_true rfl), (Nat.le_of_ble_eq_true rfl)⟩ rfl rfl (Nat.le_of_ble_eq_true rfl) (fun J2 hJ2 => ?_)
  refine a_aload_n (pc := 1273) C dL_law_1273 rfl ?_
  refine a_callM (pc := 1274) (X2 := (f_tear X).2) (rest := [.int (f_tear X).1]) C hk9 hn9 dL_law_1274 ml_L_161 mf_X4_tear (n_tear g a X M hX.inv hM) ⟨rfl, rfl, (Nat.le_of_ble_eq_true rfl), (Nat.le_of_ble_eq_true rfl)⟩ rfl rfl (Nat.le_of_ble_eq_true rfl) (fun M2 hM2 => ?_)
  refine a_icmp_eq (pc := 1277) (tgt := 1328) C dL_law_1277 (by decide) (fun _ => ?_) (fun z => absurd rfl z)
  exact k _ J2 M2 (W_tear hX) hJ2 hM2
theorem law_35 (C : Cx φ g cL_law 4 RL room_1) (S : ScrF φ b L xs) (hk9 : k9 ≤ room_1.cells) (hn9 : n9 ≤ room_1.slots) (hi : i + 6 ≤ L) (hX : InvW X) (hJ : OkJ X J) (hM : OkM X M) (k : ∀ X2 J2 M2, InvW X2 → OkJ X2 J2 → OkM X2 M2 → Ga φ g k9 n9 4 1328 (lvL b (A.1 0) (a 0) i) [] (fl [spX g A X2 J2, mdX g a X2 M2])) : Ga φ g k9 n9 4 1282 (lvL b (A.1 0) (a 0) i) [] (fl [spX g A X J, mdX g a X M]) := by
  refine a_aload_n (pc := 1282) C dL_law_1282 rfl ?_
  refine a_arg (pc := 1283) (j := 1) C S dL_law_1283 dL_law_1284 dL_law_1285 (by decide) dL_law_1286 dL_law_1287 (by omega) ?_
  refine a_callX (pc := 1288) (X2 := (f_count X (xs (i + 1))).2) (rest := []) C hk9 hn9 dL_law_1288 ml_L_162 mf_X3_count (x_count g A X J (xs (i + 1)) hX.inv hJ) ⟨rfl, rfl, (Nat.le_of_ble_eq_true rfl), (Nat.le_of_ble_eq_true rfl)⟩ rfl rfl (Nat.le_of_ble_eq_true rfl) (fun J2 hJ2 => ?_)
  refine a_aload_n (pc := 1291) C dL_law_1291 rfl ?_
  refine a_arg (pc := 1292) (j := 1) C S dL_law_1292 dL_law_1293 dL_law_1294 (by decide) dL_law_1295 dL_law_1296 (by omega) ?_
  refine a_callM (pc := 1297) (X2 := (f_count X (xs (i + 1))).2) (rest := [.int (f_count X (xs (i + 1))).1]) C hk9 hn9 dL_law_1297 ml_L_165 mf_X4_count (n_count g a X M (xs (i + 1)) hX.inv hM) ⟨rfl, rfl, (Nat.le_of_ble_eq_true rfl), (Nat.le_of_ble_eq_true rfl)⟩ rfl rfl (Nat.le_of_ble_eq_true rfl) (fun M2 hM2 => ?_)
  refine a_icmp_eq (pc := 1300) (tgt := 1328) C dL_law_1300 (by decide) (fun _ => ?_) (fun z => absurd rfl z)
  exact k _ J2 M2 (W_count hX _) hJ2 hM2
theorem law_36 (C : Cx φ g cL_law 4 RL room_1) (S : ScrF φ b L xs) (hk9 : k9 ≤ room_1.cells) (hn9 : n9 ≤ room_1.slots) (hi : i + 6 ≤ L) (hX : InvW X) (hJ : OkJ X J) (hM : OkM X M) (k : ∀ X2 J2 M2, InvW X2 → OkJ X2 J2 → OkM X2 M2 → Ga φ g k9 n9 4 1328 (lvL b (A.1 0) (a 0) i) [] (fl [spX g A X2 J2, mdX g a X2 M2])) : Ga φ g k9 n9 4 1305 (lvL b (A.1 0) (a 0) i) [] (fl [spX g A X J, mdX g a X M]) := by
  refine a_aload_n (pc := 1305) C dL_law_1305 rfl ?_
  refine a_arg (pc := 1306) (j := 1) C S dL_law_1306 dL_law_1307 dL_law_1308 (by decide) dL_law_1309 dL_law_1310 (by omega) ?_
  refine a_callX (pc := 1311) (X2 := (f_status X (xs (i + 1))).2) (rest := []) C hk9 hn9 dL_law_1311 ml_L_166 mf_X3_status (x_status g A X J (xs (i + 1)) hX.inv hJ) ⟨rfl, rfl, (Nat.le_of_ble_eq_true rfl), (Nat.le_of_ble_eq_true rfl)⟩ rfl rfl (Nat.le_of_ble_eq_true rfl) (fun J2 hJ2 => ?_)
  refine a_aload_n (pc := 1314) C dL_law_1314 rfl ?_
  refine a_arg (pc := 1315) (j := 1) C S dL_law_1315 dL_law_1316 dL_law_1317 (by decide) dL_law_1318 dL_law_1319 (by omega) ?_
  refine a_callM (pc := 1320) (X2 := (f_status X (xs (i + 1))).2) (rest := [.int (f_status X (xs (i + 1))).1]) C hk9 hn9 dL_law_1320 ml_L_169 mf_X4_status (n_status g a X M (xs (i + 1)) hX.inv hM) ⟨rfl, rfl, (Nat.le_of_ble_eq_true rfl), (Nat.le_of_ble_eq_true rfl)⟩ rfl rfl (Nat.le_of_ble_eq_true rfl) (fun M2 hM2 => ?_)
  refine a_icmp_eq (pc := 1323) (tgt := 1328) C dL_law_1323 (by decide) (fun _ => ?_) (fun z => absurd rfl z)
  exact k _ J2 M2 (W_status hX _) hJ2 hM2
end
