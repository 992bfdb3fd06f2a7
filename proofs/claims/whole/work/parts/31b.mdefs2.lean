/-- people, passed, far, wishes, grants, goals, time, lastOut, waited -/
abbrev mS : Type := (Nat → Int) × (Nat → Int) × (Nat → Int) × (Nat → Int) × (Nat → Int) × (Nat → Int) × Int × Int × Int
def mFS (P Dn : Nat) (g0 g2 g3 g4 g5 g6 g7 : Nat → Int) (S : mS) : Nat → Int := mDist g3 g4 g7 P Dn S.2.2.1
def mWS (P Dn : Nat) (g0 g2 g3 g4 g5 g6 g7 : Nat → Int) (S : mS) : (Nat → Int) × (Nat → Int) := mW (mFS P Dn g0 g2 g3 g4 g5 g6 g7 S) g3 g4 g7 S.1 g2 g5 S.2.2.2.2.2.2.1 Dn (pZ S.2.2.2.1 Dn, pM1 S.2.2.2.2.2.1 Dn) P
def mGS (P Dn : Nat) (g0 g2 g3 g4 g5 g6 g7 : Nat → Int) (S : mS) : Nat → Int := mA (mWS P Dn g0 g2 g3 g4 g5 g6 g7 S).1 g6 (mWS P Dn g0 g2 g3 g4 g5 g6 g7 S).2 g0 S.1 Dn (pZ S.2.2.2.2.1 Dn) P
def mMv (P Dn : Nat) (g0 g2 g3 g4 g5 g6 g7 : Nat → Int) (S : mS) : Int := mMoved (mGS P Dn g0 g2 g3 g4 g5 g6 g7 S) Dn
def mPe (P Dn : Nat) (g0 g2 g3 g4 g5 g6 g7 : Nat → Int) (S : mS) : Nat → Int := mMove g3 g4 (mWS P Dn g0 g2 g3 g4 g5 g6 g7 S).2 (mGS P Dn g0 g2 g3 g4 g5 g6 g7 S) S.1 Dn
def mStep (P Dn : Nat) (g0 g2 g3 g4 g5 g6 g7 : Nat → Int) (S : mS) : mS :=
  (mPe P Dn g0 g2 g3 g4 g5 g6 g7 S, mPass (mGS P Dn g0 g2 g3 g4 g5 g6 g7 S) S.2.1 Dn, mFS P Dn g0 g2 g3 g4 g5 g6 g7 S, (mWS P Dn g0 g2 g3 g4 g5 g6 g7 S).1, mGS P Dn g0 g2 g3 g4 g5 g6 g7 S, (mWS P Dn g0 g2 g3 g4 g5 g6 g7 S).2,
    S.2.2.2.2.2.2.1 + 1, mLast (mWS P Dn g0 g2 g3 g4 g5 g6 g7 S).2 (mGS P Dn g0 g2 g3 g4 g5 g6 g7 S) S.2.2.2.2.2.2.1 S.2.2.2.2.2.2.2.1 Dn, S.2.2.2.2.2.2.2.2 + pSum (mPe P Dn g0 g2 g3 g4 g5 g6 g7 S) P)
def mIt (P Dn : Nat) (g0 g2 g3 g4 g5 g6 g7 : Nat → Int) (S : mS) : Nat → mS
  | 0 => S
  | k + 1 => mStep P Dn g0 g2 g3 g4 g5 g6 g7 (mIt P Dn g0 g2 g3 g4 g5 g6 g7 S k)
/-- what a decision needs -/
def mOkD (P Dn : Nat) (g0 g2 g3 g4 g5 g6 g7 : Nat → Int) (S : mS) : Prop :=
  (-2147483648 ≤ S.2.2.2.2.2.2.1 ∧ S.2.2.2.2.2.2.1 < 2147483647) ∧ (∀ j : Nat, 1 ≤ j → j < P → 0 ≤ S.1 j ∧ S.1 j ≤ g0 j ∧ g0 j ≤ 30) ∧ gB S.2.2.1 ∧
    (∀ pl : Nat, pl < P → gGI (mWS P Dn g0 g2 g3 g4 g5 g6 g7 S).1 g6 (mA (mWS P Dn g0 g2 g3 g4 g5 g6 g7 S).1 g6 (mWS P Dn g0 g2 g3 g4 g5 g6 g7 S).2 g0 S.1 Dn (pZ S.2.2.2.2.1 Dn) pl) (mRoom g0 S.1 pl) Dn) ∧ gB (mWS P Dn g0 g2 g3 g4 g5 g6 g7 S).2
/-- what a step needs -/
def mOk (P Dn : Nat) (g0 g2 g3 g4 g5 g6 g7 : Nat → Int) (S : mS) : Prop :=
  mOkD P Dn g0 g2 g3 g4 g5 g6 g7 S ∧ gB (mGS P Dn g0 g2 g3 g4 g5 g6 g7 S) ∧
    (∀ k : Nat, k < Dn → 0 < mGS P Dn g0 g2 g3 g4 g5 g6 g7 S k → (0 ≤ (mWS P Dn g0 g2 g3 g4 g5 g6 g7 S).2 k ∧ (mWS P Dn g0 g2 g3 g4 g5 g6 g7 S).2 k < P) ∧ 0 ≤ mBy g3 g4 k ((mWS P Dn g0 g2 g3 g4 g5 g6 g7 S).2 k) ∧ mBy g3 g4 k ((mWS P Dn g0 g2 g3 g4 g5 g6 g7 S).2 k) < P) ∧
    (-2147483648 ≤ mMv P Dn g0 g2 g3 g4 g5 g6 g7 S ∧ mMv P Dn g0 g2 g3 g4 g5 g6 g7 S < 2147483648) ∧ (-2147483648 ≤ pSum S.1 P ∧ pSum S.1 P < 2147483648)
