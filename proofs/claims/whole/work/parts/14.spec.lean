/-! the system as a mathematical value, and what each call does to it -/
abbrev St : Type := Nat × Nat × (Nat → Nat) × (Nat → Nat) × (Nat → Nat) × (Nat → Nat) × (Nat → Nat)
/-- the state; what is kept and whether; the tape and its length; the sheets' bits, sizes and numbers; the findings' counts -/
abbrev Xs : Type := St × (St × Nat) × ((Nat → Nat) × Nat) × ((Nat → Nat) × (Nat → Nat) × (Nat → Nat → Int64)) × (Nat → Nat)
def fnd (X : Xs) (k : Nat) : Int32 × Xs := match X with
  | (S, K, T, H, tl) => (fd k, (S, K, T, H, updN tl k (tl k + 1)))
def f_grains (X : Xs) (p : Int32) : Int32 × Xs := match X with
  | ((_, _, gr, _, _, _, _), _, _, _, _) => if inR p 0 11 then (nI (gr (ix p)), X) else fnd X 0
def f_pour (X : Xs) (p v : Int32) : Int32 × Xs := match X with
  | ((mn, yr, gr, kd, pt, wt, mr), K, T, H, tl) =>
    if inR p 0 11 && inR v 0 99999 then
      if sumN gr 12 - gr (ix p) + ix v ≤ 99999 then (nI (gr (ix p)), ((mn, yr, updN gr (ix p) (ix v), kd, pt, wt, mr), K, T, H, tl)) else fnd X 1
    else fnd X 0
def f_taste (X : Xs) (p : Int32) : Int32 × Xs := match X with
  | ((_, _, gr, _, _, _, _), _, _, _, _) => if inR p 0 11 then (nI (tasteN gr (sumN gr 12) (ix p)), X) else fnd X 0
def f_spoon (X : Xs) (t : Int32) : Int32 × Xs := match X with
  | ((mn, yr, gr, kd, pt, wt, mr), K, T, H, tl) =>
    if inR t 1 999 then (nI (min (ix t) (sumN gr 12)), ((mn, yr, takeG gr (sumN gr 12) (min (ix t) (sumN gr 12)), kd, pt, wt, mr), K, T, H, tl)) else fnd X 0
def f_spoonOf (X : Xs) (p t : Int32) : Int32 × Xs := match X with
  | ((_, _, gr, _, _, _, _), _, _, _, _) => if inR p 0 11 && inR t 1 999 then (nI (ladN gr (sumN gr 12) (min (ix t) (sumN gr 12)) (ix p)), X) else fnd X 0
def f_cook (X : Xs) (k : Int32) : Int32 × Xs := match X with
  | ((mn, yr, gr, kd, pt, wt, mr), K, T, H, tl) =>
    if inR k 0 5 then if mn < 8 then (nI mn, ((mn + 1, yr, gr, updN kd mn (ix k), updN pt mn 1, updN wt mn 100, updN mr mn 5), K, T, H, tl)) else fnd X 1 else fnd X 0
def ofN (S : St) (c w : Nat) : Nat := match S with
  | (_, yr, gr, kd, pt, wt, mr) => if w = 4 then min (wantsN kd wt yr c) (sumN gr 12) else if w = 5 then putsN kd mr c (min (wantsN kd wt yr c) (sumN gr 12)) else if w = 6 then whatN kd pt (sumN gr 12) yr c else itF kd pt wt mr c w
def f_of (X : Xs) (c w : Int32) : Int32 × Xs := match X with
  | (S, _, _, _, _) => if inR c 0 ((S.1 : Int) - 1) && inR w 0 6 then (nI (ofN S (ix c) (ix w)), X) else fnd X 0
def f_set (X : Xs) (c w v : Int32) : Int32 × Xs := match X with
  | ((mn, yr, gr, kd, pt, wt, mr), K, T, H, tl) =>
    if inR c 0 ((mn : Int) - 1) && inR w 1 3 && inR v 0 (if ix w = 1 then 11 else if ix w = 2 then 999 else 9) then
      (nI (itF kd pt wt mr (ix c) (ix w)), ((mn, yr, gr, kd, if ix w = 1 then updN pt (ix c) (ix v) else pt, if ix w = 2 then updN wt (ix c) (ix v) else wt, if ix w = 3 then updN mr (ix c) (ix v) else mr), K, T, H, tl))
    else fnd X 0
def f_turn (X : Xs) (c k : Int32) : Int32 × Xs := match X with
  | ((mn, yr, gr, kd, pt, wt, mr), K, T, H, tl) =>
    if inR c 0 ((mn : Int) - 1) && inR k 0 5 then (nI (kd (ix c)), ((mn, yr, gr, updN kd (ix c) (ix k), pt, wt, mr), K, T, H, tl)) else fnd X 0
def f_as (X : Xs) (c k : Int32) : Int32 × Xs := match X with
  | ((mn, _, _, kd, _, wt, _), _, _, _, _) =>
    if inR c 0 ((mn : Int) - 1) && inR k 0 5 then if underN (kd (ix c)) (ix k) then (nI (wt (ix c)), X) else fnd X 2 else fnd X 0
def f_swap (X : Xs) (c o : Int32) : Int32 × Xs := match X with
  | ((mn, yr, gr, kd, pt, wt, mr), K, T, H, tl) =>
    if inR c 0 ((mn : Int) - 1) && inR o 0 ((mn : Int) - 1) && (c != o) then (nI 1, ((mn, yr, gr, exchN kd (ix c) (ix o), exchN pt (ix c) (ix o), exchN wt (ix c) (ix o), exchN mr (ix c) (ix o)), K, T, H, tl)) else fnd X 0
def f_years (X : Xs) (n : Int32) : Int32 × Xs := match X with
  | ((mn, yr, gr, kd, pt, wt, mr), K, T, H, tl) =>
    if inR n 1 100 then if yr + ix n ≤ 9999 then (nI (sumN (yearsG kd pt wt mr mn gr yr (ix n)) 12), ((mn, yr + ix n, yearsG kd pt wt mr mn gr yr (ix n), kd, pt, wt, mr), K, T, H, tl)) else fnd X 4 else fnd X 0
def f_now (X : Xs) (w : Int32) : Int32 × Xs := match X with
  | ((mn, yr, gr, _, _, _, _), _, _, _, _) =>
    if w == nI 0 then (nI yr, X) else if w == nI 1 then (nI (sumN gr 12), X) else if w == nI 2 then ((if mn = 0 then (-1) else nI (yr % mn)), X)
    else if w == nI 3 then (nI (maskN gr 12), X) else if w == nI 4 then (nI (if 500 < tasteN gr (sumN gr 12) 0 then 1 else 0), X) else if w == nI 5 then (nI (mostN gr 12), X) else fnd X 0
def f_on (X : Xs) (p n w : Int32) : Int32 × Xs := match X with
  | ((mn, yr, gr, kd, pt, wt, mr), _, _, _, _) =>
    if inR p 0 11 && inR n 0 100 && inR w 0 1 then (nI (if ix w = 0 then yearsG kd pt wt mr mn gr yr (ix n) (ix p) else tasteN (yearsG kd pt wt mr mn gr yr (ix n)) (sumN (yearsG kd pt wt mr mn gr yr (ix n)) 12) (ix p)), X) else fnd X 0
noncomputable def f_first (X : Xs) (q p v : Nat) : Int32 × Xs := match X with
  | ((mn, yr, gr, kd, pt, wt, mr), _, _, _, _) => if fsN kd pt wt mr mn gr yr q p v < 201 then (nI (fsN kd pt wt mr mn gr yr q p v), X) else fnd X 3
noncomputable def f_vague (X : Xs) : Int32 × Xs := f_first X 0 0 0
noncomputable def f_gone (X : Xs) (p v : Int32) : Int32 × Xs := if inR p 0 11 && inR v 0 99999 then f_first X 1 (ix p) (ix v) else fnd X 0
noncomputable def f_strong (X : Xs) (p v : Int32) : Int32 × Xs := if inR p 0 11 && inR v 0 1000 then f_first X 2 (ix p) (ix v) else fnd X 0
def f_wipe (X : Xs) : Int32 × Xs := match X with
  | (S, K, (tb, tn), H, tl) => (nI tn, (S, K, (tb, 0), H, tl))
def f_image (X : Xs) : Int32 × Xs := match X with
  | (S, _, T, H, tl) => (nI 1, (S, (S, 1), T, H, tl))
def f_undo (X : Xs) : Int32 × Xs := match X with
  | (_, (ks, kp), T, H, tl) => if kp = 0 then fnd X 3 else (nI ks.1, (ks, (ks, kp), T, H, tl))
def f_tear (X : Xs) : Int32 × Xs := match X with
  | (S, (ks, kp), T, H, tl) => (nI kp, (S, (ks, 0), T, H, tl))
def zerosN (gr : Nat → Nat) : Nat → Nat
  | 0 => 0
  | p + 1 => zerosN gr p + if gr p = 0 then 1 else 0
def f_count (X : Xs) (w : Int32) : Int32 × Xs := match X with
  | ((mn, _, gr, _, _, wt, _), _, (_, tn), _, _) => if w == nI 0 then (nI mn, X) else if w == nI 1 then (nI tn, X) else if w == nI 2 then (nI (sumN wt mn), X) else if w == nI 3 then (nI (zerosN gr 12), X) else fnd X 0
def f_status (X : Xs) (w : Int32) : Int32 × Xs := match X with
  | (_, _, _, _, tl) => if inR w (-1) 6 then (nI (if w == (-1) then sumN tl 7 else tl (ix w)), X) else fnd X 0
/-- the numbers' bounds -/
def InvX (X : Xs) : Prop := match X with
  | ((mn, yr, gr, kd, pt, wt, mr), (_, kp), (tb, tn), (wd, sz, _), _) =>
    PB gr kd pt wt mr (sumN gr 12) yr mn ∧ yr ≤ 9999 ∧ kp ≤ 1 ∧ (∀ j, tb j < 256) ∧ tn ≤ 120 ∧ (∀ s, wd s = 0 ∨ wd s = 8 ∨ wd s = 16 ∨ wd s = 64) ∧ (∀ s, sz s ≤ 40)
/-! the reference's world: what the state says, and what is left over in its rows -/
abbrev Jm : Type := (Nat → Nat) × (Nat → Nat) × (Nat → Nat) × (Nat → Nat) × Nat × Nat × Nat × Nat × (Nat → Int64)
def flat (nm : Nat → Nat → Int64) : Nat → Int64 := fun k => nm (k / 40) (k % 40)
def sT (S : St) : Nat → Nat := match S with
  | (mn, yr, gr, kd, pt, wt, mr) => sF mn yr gr kd pt wt mr
def mdX (g : Gl) (a : Nat → Nat) (X : Xs) (J : Jm) : va_W := match X, J with
  | ((mn, yr, gr, kd, pt, wt, mr), (_, kp), (tb, tn), (wd, sz, nm), tl), (kc, os, sd, tk, fr, to, vl, wr, mv) => mdV g a (sF mn yr gr kd pt wt mr) kc os sd tl kp tk tb tn fr to vl wr wd sz (flat nm) mv
def OkM (X : Xs) (J : Jm) : Prop := match X, J with
  | (_, (ks, kp), _, _, _), (kc, _) => kp = 1 → ∀ j, j < 46 → kc j = sT ks j
