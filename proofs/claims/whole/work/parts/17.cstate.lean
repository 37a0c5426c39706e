/-! the class's cells -/
def spO (g : Gl) (ao : Nat → Nat) (ap ak at' au ae ay : Nat → Nat) (kp : Nat) : va_W := [(ao 0, .inr (3, [.ref (ap 0), .ref (ak 0), .ref (at' 0), .ref (au 0), .ref (ae 0), .ref (ay 0), .int (nI kp)]))]
def tpV (g : Gl) (a : Nat → Nat) (B : Nat → Int32) (tn pl tk sr vl : Nat) : va_W := [(a 0, .inr (2, [.ref (a 1), .int (nI tn), .int (nI pl), .int (nI tk), .int (nI sr), .int (nI vl)])), (a 1, .inl (g.2.1.2.2.1, 120, .inl B))]
def shad (a0 a1 a2 a3 : Nat → Nat) (j : Nat) : Option Nat := if j = 0 then some (a0 0) else if j = 1 then some (a1 0) else if j = 2 then some (a2 0) else some (a3 0)
def shA (g : Gl) (a : Nat → Nat) (a0 a1 a2 a3 : Nat → Nat) : va_W := [(a 0, .inl (g.2.1.2.2.2, 4, .inr (.inr (.inr (.inr (shad a0 a1 a2 a3))))))]
def shV (g : Gl) (a : Nat → Nat) (N : Nat → Int64) (wd sz : Nat) : va_W := [(a 0, .inr (1, [.ref (a 1), .int (nI wd), .int (nI sz)])), (a 1, .inl (g.2.1.2.1, 40, .inr (.inl N)))]
def arr7 (g : Gl) (a : Nat → Nat) (f : Nat → Nat) : va_W := [(a 0, .inl (g.2.1.1, 7, .inl (fun j => nI (f j))))]
abbrev Jc : Type := (Nat → Nat) × (St × (Nat → Nat)) × (St × (Nat → Nat)) × (Nat × Nat × Nat × Nat)
abbrev Ac : Type := (Nat → Nat) × (Nat → Nat) × (Nat → Nat) × (Nat → Nat) × (Nat → Nat) × (Nat → Nat) × (Nat → Nat) × (Nat → Nat) × (Nat → Nat) × (Nat → Nat) × (Nat → Nat)
def tbB (tb : Nat → Nat) : Nat → Int32 := fun j => sb_b (tb j)
def spX (g : Gl) (A : Ac) (X : Xs) (J : Jc) : va_W := match A, X, J with
  | (ao, ap, ak, at', au, ae, a0, a1, a2, a3, ay), ((mn, yr, gr, kd, pt, wt, mr), (_, kp), (tb, tn), (wd, sz, nm), tl), (la, ((kmn, kyr, kgr, kkd, kpt, kwt, kmr), kla), ((tmn, tyr, tgr, tkd, tpt, twt, tmr), tla), (pl, tk, sr, vl)) =>
    fl [spO g ao ap ak at' au ae ay kp, potV g ap gr la kd pt wt mr (sumN gr 12) yr mn, potV g ak kgr kla kkd kpt kwt kmr (sumN kgr 12) kyr kmn, potV g at' tgr tla tkd tpt twt tmr (sumN tgr 12) tyr tmn, tpV g au (tbB tb) tn pl tk sr vl, shA g ae a0 a1 a2 a3, shV g a0 (nm 0) (wd 0) (sz 0), shV g a1 (nm 1) (wd 1) (sz 1), shV g a2 (nm 2) (wd 2) (sz 2), shV g a3 (nm 3) (wd 3) (sz 3), arr7 g ay tl]
def OkJ (X : Xs) (J : Jc) : Prop := match X, J with
  | (_, (ks, kp), _, _, _), (_, (kc, _), _, _) => kp = 1 → kc = ks
theorem isW_iff {v : Int32} {a b : Nat} (ha : a < 2 ^ 31) (hb : b < 2 ^ 31) : (nI a ≤ v ∧ v ≤ nI b) ↔ inR v a b = true := by
  rw [inR_iff, Int32.le_iff_toInt_le, Int32.le_iff_toInt_le, nI_toInt ha, nI_toInt hb]
theorem spX_ad (g : Gl) (A : Ac) (X1 X0 : Xs) (J1 J0 : Jc) : (spX g A X1 J1).map Prod.fst = (spX g A X0 J0).map Prod.fst := by
  obtain ⟨ao, ap, ak, at', au, ae, a0, a1, a2, a3, ay⟩ := A
  obtain ⟨⟨mn, yr, gr, kd, pt, wt, mr⟩, ⟨ks, kp⟩, ⟨tb, tn⟩, ⟨wd, sz, nm⟩, tl⟩ := X1
  obtain ⟨⟨mn', yr', gr', kd', pt', wt', mr'⟩, ⟨ks', kp'⟩, ⟨tb', tn'⟩, ⟨wd', sz', nm'⟩, tl'⟩ := X0
  obtain ⟨la, ⟨⟨kmn, kyr, kgr, kkd, kpt, kwt, kmr⟩, kla⟩, ⟨⟨tmn, tyr, tgr, tkd, tpt, twt, tmr⟩, tla⟩, ⟨pl, tk, sr, vl⟩⟩ := J1
  obtain ⟨la', ⟨⟨kmn', kyr', kgr', kkd', kpt', kwt', kmr'⟩, kla'⟩, ⟨⟨tmn', tyr', tgr', tkd', tpt', twt', tmr'⟩, tla'⟩, ⟨pl', tk', sr', vl'⟩⟩ := J0
  simp only [spX, fl, List.flatten_cons, List.flatten_nil, List.map_append, List.map_nil, spO, potV, tpV, shA, shV, arr7, List.map_cons]
