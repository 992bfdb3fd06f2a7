/-! ===== what the methods compute, over Int ===== -/
def pMin (a b : Int) : Int := if b < a then b else a
/-- the sum of f over 1 .. k - 1 -/
def pSum (f : Nat → Int) : Nat → Int
  | 0 => 0
  | k + 1 => if k = 0 then 0 else pSum f k + f k
theorem pSum_1 (f : Nat → Int) : pSum f 1 = 0 := rfl
theorem pSum_s (f : Nat → Int) {k : Nat} (h : 1 ≤ k) : pSum f (k + 1) = pSum f k + f k := if_neg (by omega)
/-- the sum of f over 0 .. k - 1 -/
def qSum (f : Nat → Int) : Nat → Int
  | 0 => 0
  | k + 1 => qSum f k + f k
/-- what would go by door d -/
def pWish (P t : Int) (pe re fl sr : Nat → Int) (d : Nat) : Int := if 0 ≤ sr d ∧ sr d < P ∧ re (sr d).toNat ≤ t then pMin (pe (sr d).toNat) (fl d) else 0
/-- one round of grants at the place p: what is granted, what is left -/
def pG (w sh tg : Nat → Int) (p : Int) (G : Nat → Int) (L : Int) : Nat → (Nat → Int) × Int
  | 0 => (G, L)
  | k + 1 => if tg k = p then (gu (pG w sh tg p G L k).1 k ((pG w sh tg p G L k).1 k + pMin (pMin (sh k) (w k - (pG w sh tg p G L k).1 k)) (pG w sh tg p G L k).2), (pG w sh tg p G L k).2 - pMin (pMin (sh k) (w k - (pG w sh tg p G L k).1 k)) (pG w sh tg p G L k).2) else pG w sh tg p G L k
/-- n rounds -/
def pR (w sh tg : Nat → Int) (p : Int) (Dn : Nat) (G : Nat → Int) (L : Int) : Nat → (Nat → Int) × Int
  | 0 => (G, L)
  | n + 1 => pG w sh tg p (pR w sh tg p Dn G L n).1 (pR w sh tg p Dn G L n).2 Dn
def pRoom (rm pe : Nat → Int) (p : Nat) : Int := if p = 0 then 1000000 else rm p - pe p
def pZ (G : Nat → Int) : Nat → Nat → Int
  | 0 => G
  | k + 1 => gu (pZ G k) k 0
/-- all places, one after the other -/
def pA (w sh tg rm pe : Nat → Int) (Dn : Nat) (G : Nat → Int) : Nat → Nat → Int
  | 0 => G
  | p + 1 => (pR w sh tg (p : Int) Dn (pA w sh tg rm pe Dn G p) (pRoom rm pe p) 9).1
/-- the move -/
def pIn (P x : Int) : Prop := 0 ≤ x ∧ x < P
def pMove (P : Int) (sr tg G : Nat → Int) (f : Nat → Int) : Nat → Nat → Int
  | 0 => f
  | k + 1 => if (0 ≤ sr k ∧ sr k < P) ∧ (0 ≤ tg k ∧ tg k < P) then gu (gu (pMove P sr tg G f k) (sr k).toNat (pMove P sr tg G f k (sr k).toNat - G k)) (tg k).toNat (gu (pMove P sr tg G f k) (sr k).toNat (pMove P sr tg G f k (sr k).toNat - G k) (tg k).toNat + G k) else pMove P sr tg G f k
def pPass (P : Int) (sr tg G : Nat → Int) (f : Nat → Int) : Nat → Nat → Int
  | 0 => f
  | k + 1 => if (0 ≤ sr k ∧ sr k < P) ∧ (0 ≤ tg k ∧ tg k < P) then gu (pPass P sr tg G f k) k (pPass P sr tg G f k k + G k) else pPass P sr tg G f k
def pMoved (P : Int) (sr tg G : Nat → Int) : Nat → Int
  | 0 => 0
  | k + 1 => if (0 ≤ sr k ∧ sr k < P) ∧ (0 ≤ tg k ∧ tg k < P) then pMoved P sr tg G k + G k else pMoved P sr tg G k
/-- distances: one try, one door, one round, all rounds -/
def pReach (f : Nat → Int) (a b : Nat) (d : Int) : Nat → Int := if f a = -1 ∧ f b = d - 1 then gu f a d else f
def pRd (one oth op : Nat → Int) (d : Int) (f : Nat → Int) : Nat → Nat → Int
  | 0 => f
  | k + 1 => if op k = 0 then pRd one oth op d f k else pReach (pReach (pRd one oth op d f k) (one k).toNat (oth k).toNat d) (oth k).toNat (one k).toNat d
def pMs (one oth op : Nat → Int) (Dn : Nat) (f : Nat → Int) : Nat → Nat → Int
  | 0 => f
  | 1 => f
  | k + 2 => pRd one oth op ((k + 1 : Nat) : Int) (pMs one oth op Dn f (k + 1)) Dn
def pN (f : Nat → Int) : Nat → Nat → Int
  | 0 => f
  | 1 => f
  | k + 2 => gu (pN f (k + 1)) (k + 1) (-1)
/-- the distances as X lays them -/
def pDist (one oth op : Nat → Int) (P Dn : Nat) (f : Nat → Int) : Nat → Int := pMs one oth op Dn (pN (gu f 0 0) P) P
/-- the doors of places, and whence and where a door leads: (doorOf, source, target) -/
def pFit (di : Nat → Int) (op : Int) (a b : Nat) : Prop := op ≠ 0 ∧ 1 ≤ di a ∧ di b = di a - 1
def pOf (di : Nat → Int) (op : Int) (k a b : Nat) (T : (Nat → Int) × (Nat → Int) × (Nat → Int)) : (Nat → Int) × (Nat → Int) × (Nat → Int) :=
  if (op ≠ 0 ∧ 1 ≤ di a ∧ di b = di a - 1) ∧ T.1 a = -1 then (gu T.1 a (k : Int), gu T.2.1 k (a : Int), gu T.2.2 k (b : Int)) else T
def pOff (one oth op di : Nat → Int) (T : (Nat → Int) × (Nat → Int) × (Nat → Int)) : Nat → (Nat → Int) × (Nat → Int) × (Nat → Int)
  | 0 => T
  | k + 1 => pOf di (op k) k (oth k).toNat (one k).toNat (pOf di (op k) k (one k).toNat (oth k).toNat ((pOff one oth op di T k).1, gu (pOff one oth op di T k).2.1 k (-1), gu (pOff one oth op di T k).2.2 k (-1)))
def pM1 (f : Nat → Int) : Nat → Nat → Int
  | 0 => f
  | k + 1 => gu (pM1 f k) k (-1)
def pWays (one oth op di : Nat → Int) (P Dn : Nat) (T : (Nat → Int) × (Nat → Int) × (Nat → Int)) : (Nat → Int) × (Nat → Int) × (Nat → Int) := pOff one oth op di (pM1 T.1 P, T.2.1, T.2.2) Dn
/-- the bound -/
def pCrowd (di pe : Nat → Int) (d : Int) (P : Nat) : Int := pSum (fun j => if d ≤ di j then pe j else 0) P
def pJoin (di one oth op : Nat → Int) (d : Int) (k : Nat) : Prop := (di (one k).toNat = d ∧ di (oth k).toNat = d - 1 ∨ di (oth k).toNat = d ∧ di (one k).toNat = d - 1) ∧ op k ≠ 0
def pFlow (di one oth op fl : Nat → Int) (d : Int) (Dn : Nat) : Int := qSum (fun k => if ((di (one k).toNat = d ∧ di (oth k).toNat = d - 1) ∨ (di (oth k).toNat = d ∧ di (one k).toNat = d - 1)) ∧ op k ≠ 0 then fl k else 0) Dn
def pBd (cr fl d : Int) : Int := if cr = 0 ∨ fl = 0 then 0 else d - 1 + (cr + fl - 1) / fl
def pBound (di one oth op fl pe : Nat → Int) (P Dn : Nat) : Nat → Int
  | 0 => 0
  | 1 => 0
  | d + 2 => if pBound di one oth op fl pe P Dn (d + 1) < pBd (pCrowd di pe ((d + 1 : Nat) : Int) P) (pFlow di one oth op fl ((d + 1 : Nat) : Int) Dn) ((d + 1 : Nat) : Int) then pBd (pCrowd di pe ((d + 1 : Nat) : Int) P) (pFlow di one oth op fl ((d + 1 : Nat) : Int) Dn) ((d + 1 : Nat) : Int) else pBound di one oth op fl pe P Dn (d + 1)
