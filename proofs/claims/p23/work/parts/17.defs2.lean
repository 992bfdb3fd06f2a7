/-! ===== a step, many steps ===== -/
def xG (P Dn : Nat) (t : Int) (f0 f1 f2 f7 f8 f11 f12 f13 : Nat → Int) : Nat → Int := pA (pWish (P : Int) t f1 f2 f7 f11) f8 f12 f0 f1 Dn (pZ f13 Dn) P
/-- people, passed, granted, time, latest, waited -/
abbrev xS : Type := (Nat → Int) × (Nat → Int) × (Nat → Int) × Int × Int × Int
def xGS (P Dn : Nat) (f0 f2 f7 f8 f11 f12 : Nat → Int) (S : xS) : Nat → Int := xG P Dn S.2.2.2.1 f0 S.1 f2 f7 f8 f11 f12 S.2.2.1
def xMv (P Dn : Nat) (f0 f2 f7 f8 f11 f12 : Nat → Int) (S : xS) : Int := pMoved (P : Int) f11 f12 (xGS P Dn f0 f2 f7 f8 f11 f12 S) Dn
def xStep (P Dn : Nat) (f0 f2 f7 f8 f11 f12 : Nat → Int) (S : xS) : xS :=
  (pMove (P : Int) f11 f12 (xGS P Dn f0 f2 f7 f8 f11 f12 S) S.1 Dn, pPass (P : Int) f11 f12 (xGS P Dn f0 f2 f7 f8 f11 f12 S) S.2.1 Dn, xGS P Dn f0 f2 f7 f8 f11 f12 S, S.2.2.2.1 + 1,
    (if S.1 0 < pMove (P : Int) f11 f12 (xGS P Dn f0 f2 f7 f8 f11 f12 S) S.1 Dn 0 then S.2.2.2.1 + 1 else S.2.2.2.2.1), S.2.2.2.2.2 + pSum (pMove (P : Int) f11 f12 (xGS P Dn f0 f2 f7 f8 f11 f12 S) S.1 Dn) P)
def xIt (P Dn : Nat) (f0 f2 f7 f8 f11 f12 : Nat → Int) (S : xS) : Nat → xS
  | 0 => S
  | k + 1 => xStep P Dn f0 f2 f7 f8 f11 f12 (xIt P Dn f0 f2 f7 f8 f11 f12 S k)
/-- what a step needs -/
def xOk (P Dn : Nat) (f0 f2 f7 f8 f11 f12 : Nat → Int) (S : xS) : Prop :=
  (-2147483648 ≤ S.2.2.2.1 ∧ S.2.2.2.1 < 2147483647) ∧ (∀ j : Nat, 1 ≤ j → j < P → 0 ≤ S.1 j ∧ S.1 j ≤ f0 j ∧ f0 j ≤ 30) ∧ (0 ≤ S.1 0 ∧ S.1 0 < 1073741824) ∧
    (-2147483648 ≤ pMove (P : Int) f11 f12 (xGS P Dn f0 f2 f7 f8 f11 f12 S) S.1 Dn 0 ∧ pMove (P : Int) f11 f12 (xGS P Dn f0 f2 f7 f8 f11 f12 S) S.1 Dn 0 < 2147483648) ∧
    (-2147483648 ≤ xMv P Dn f0 f2 f7 f8 f11 f12 S ∧ xMv P Dn f0 f2 f7 f8 f11 f12 S < 2147483648) ∧ (-2147483648 ≤ pSum S.1 P ∧ pSum S.1 P < 2147483648)
theorem pBd_b {cr fl d : Int} (h1 : 0 ≤ cr ∧ cr ≤ 10000) (h2 : 0 ≤ fl ∧ fl ≤ 1000) (h3 : 1 ≤ d ∧ d ≤ 11) : 0 ≤ pBd cr fl d ∧ pBd cr fl d ≤ 20000 := by
  unfold pBd
  split
  · omega
  · have h4 : (cr + fl - 1) / fl ≤ cr + fl - 1 := Int.ediv_le_self _ (by omega)
    have h5 : 0 ≤ (cr + fl - 1) / fl := Int.ediv_nonneg (by omega) (by omega)
    omega
theorem pBound_s {di one oth op fl pe : Nat → Int} {P Dn d : Nat} (h : 1 ≤ d) : pBound di one oth op fl pe P Dn (d + 1) = (if pBound di one oth op fl pe P Dn d < pBd (pCrowd di pe (d : Int) P) (pFlow di one oth op fl (d : Int) Dn) (d : Int) then pBd (pCrowd di pe (d : Int) P) (pFlow di one oth op fl (d : Int) Dn) (d : Int) else pBound di one oth op fl pe P Dn d) := by
  cases d with
  | zero => omega
  | succ d => rfl
theorem pBound_b {di one oth op fl pe : Nat → Int} {P Dn : Nat} (h : ∀ d : Nat, 1 ≤ d → d < P → (0 ≤ pCrowd di pe (d : Int) P ∧ pCrowd di pe (d : Int) P ≤ 10000) ∧ 0 ≤ pFlow di one oth op fl (d : Int) Dn ∧ pFlow di one oth op fl (d : Int) Dn ≤ 1000) (hP : P ≤ 11) : ∀ d, d ≤ P → 0 ≤ pBound di one oth op fl pe P Dn d ∧ pBound di one oth op fl pe P Dn d ≤ 20000 := by
  intro d
  induction d with
  | zero => intro _; show (0 : Int) ≤ 0 ∧ (0 : Int) ≤ 20000; omega
  | succ d ih =>
    intro hd
    rcases Nat.eq_zero_or_pos d with rfl | h1
    · show (0 : Int) ≤ 0 ∧ (0 : Int) ≤ 20000
      omega
    · rw [pBound_s h1]
      obtain ⟨h2, h3⟩ := h d h1 (by omega)
      have h4 := pBd_b h2 h3 (d := (d : Int)) (by omega)
      have h5 := ih (by omega)
      split
      · exact h4
      · exact h5
