/-! ===== bounds of what is computed ===== -/
def gB (f : Nat → Int) : Prop := ∀ j : Nat, -2147483648 ≤ f j ∧ f j < 2147483648
theorem gu_B {f : Nat → Int} {i : Nat} {v : Int} (h : gB f) (hv : -2147483648 ≤ v ∧ v < 2147483648) : gB (gu f i v) := by
  intro j
  unfold gu
  split
  · exact hv
  · exact h j
theorem gu_self {f : Nat → Int} {i : Nat} {v : Int} (h : v = f i) : gu f i v = f := by
  funext j
  unfold gu
  split
  · rename_i e; rw [h, e]
  · rfl
theorem pReach_B {f : Nat → Int} {a b : Nat} {d : Int} (h : gB f) (hd : -2147483648 ≤ d ∧ d < 2147483648) : gB (pReach f a b d) := by
  unfold pReach
  split
  · exact gu_B h hd
  · exact h
theorem pRd_B {one oth op : Nat → Int} {d : Int} {f : Nat → Int} (h : gB f) (hd : -2147483648 ≤ d ∧ d < 2147483648) : ∀ k, gB (pRd one oth op d f k) := by
  intro k
  induction k with
  | zero => exact h
  | succ k ih =>
    unfold pRd
    split
    · exact ih
    · exact pReach_B (pReach_B ih hd) hd
theorem pMs_s {one oth op : Nat → Int} {Dn : Nat} {f : Nat → Int} {k : Nat} (h : 1 ≤ k) : pMs one oth op Dn f (k + 1) = pRd one oth op (k : Int) (pMs one oth op Dn f k) Dn := by
  cases k with
  | zero => omega
  | succ k => rfl
theorem pMs_B {one oth op : Nat → Int} {Dn : Nat} {f : Nat → Int} (h : gB f) : ∀ k, k ≤ 100 → gB (pMs one oth op Dn f k) := by
  intro k
  induction k with
  | zero => intro _; exact h
  | succ k ih =>
    intro hk
    rcases Nat.eq_zero_or_pos k with rfl | h1
    · exact h
    · rw [pMs_s h1]
      exact pRd_B (ih (by omega)) (by omega) Dn
theorem pN_s {f : Nat → Int} {k : Nat} (h : 1 ≤ k) : pN f (k + 1) = gu (pN f k) k (-1) := by
  cases k with
  | zero => omega
  | succ k => rfl
theorem pN_B {f : Nat → Int} (h : gB f) : ∀ k, gB (pN f k) := by
  intro k
  induction k with
  | zero => exact h
  | succ k ih =>
    rcases Nat.eq_zero_or_pos k with rfl | h1
    · exact h
    · rw [pN_s h1]
      exact gu_B ih (by omega)
theorem pDist_B {one oth op : Nat → Int} {P Dn : Nat} {f : Nat → Int} (h : gB f) (hP : P ≤ 11) : gB (pDist one oth op P Dn f) := pMs_B (pN_B (gu_B h (by omega)) _) _ (by omega)
theorem pRd_0 {one oth op : Nat → Int} {d : Int} {f : Nat → Int} {k : Nat} (h : op k = 0) : pRd one oth op d f (k + 1) = pRd one oth op d f k := if_pos h
theorem pRd_1 {one oth op : Nat → Int} {d : Int} {f : Nat → Int} {k : Nat} (h : ¬ op k = 0) : pRd one oth op d f (k + 1) = pReach (pReach (pRd one oth op d f k) (one k).toNat (oth k).toNat d) (oth k).toNat (one k).toNat d := if_neg h
theorem pM1_B {f : Nat → Int} (h : gB f) : ∀ k, gB (pM1 f k) := by
  intro k
  induction k with
  | zero => exact h
  | succ k ih => exact gu_B ih (by omega)
theorem pOf_B {di : Nat → Int} {op : Int} {k a b : Nat} {T : (Nat → Int) × (Nat → Int) × (Nat → Int)} (h : gB T.1) (hk : k ≤ 100) : gB (pOf di op k a b T).1 := by
  unfold pOf
  split
  · exact gu_B h (by omega)
  · exact h
theorem pOff_B {one oth op di : Nat → Int} {T : (Nat → Int) × (Nat → Int) × (Nat → Int)} (h : gB T.1) : ∀ k, k ≤ 100 → gB (pOff one oth op di T k).1 := by
  intro k
  induction k with
  | zero => intro _; exact h
  | succ k ih =>
    intro hk
    exact pOf_B (pOf_B (ih (by omega)) (by omega)) (by omega)
/-! grants -/
def gGI (w sh G : Nat → Int) (L : Int) (Dn : Nat) : Prop := (∀ j, j < Dn → (0 ≤ G j ∧ G j ≤ w j) ∧ w j ≤ 9 ∧ 1 ≤ sh j ∧ sh j ≤ 5) ∧ 0 ≤ L ∧ L < 2147483648
theorem pMin_c (a b : Int) : (pMin a b = a ∧ a ≤ b) ∨ (pMin a b = b ∧ b ≤ a) := by
  unfold pMin
  split
  · right; omega
  · left; omega
theorem pG_inv {w sh tg : Nat → Int} {p : Int} {G : Nat → Int} {L : Int} {Dn : Nat} (h : gGI w sh G L Dn) : ∀ k, k ≤ Dn → gGI w sh (pG w sh tg p G L k).1 (pG w sh tg p G L k).2 Dn ∧ (pG w sh tg p G L k).2 ≤ L := by
  intro k
  induction k with
  | zero => intro _; exact ⟨h, Int.le_refl _⟩
  | succ k ih =>
    intro hk
    obtain ⟨⟨h1, h2, h3⟩, h4⟩ := ih (by omega)
    obtain ⟨⟨g1, g2⟩, g3, g4, g5⟩ := h1 k (by omega)
    unfold pG
    split
    · have c1 := pMin_c (sh k) (w k - (pG w sh tg p G L k).1 k)
      have c2 := pMin_c (pMin (sh k) (w k - (pG w sh tg p G L k).1 k)) (pG w sh tg p G L k).2
      refine ⟨⟨fun j hj => ?_, ?_, ?_⟩, ?_⟩
      · obtain ⟨⟨a1, a2⟩, a3⟩ := h1 j hj
        refine ⟨?_, a3⟩
        simp only [gu]
        split
        · rename_i e; subst e; omega
        · exact ⟨a1, a2⟩
      · simp only; omega
      · simp only; omega
      · simp only; omega
    · exact ⟨⟨h1, h2, h3⟩, h4⟩
theorem pG_same {w sh tg : Nat → Int} {p : Int} {G : Nat → Int} {L : Int} {Dn : Nat} (h : gGI w sh G L Dn) : ∀ k, k ≤ Dn → (pG w sh tg p G L k).2 = L → (pG w sh tg p G L k).1 = G := by
  intro k
  induction k with
  | zero => intro _ _; rfl
  | succ k ih =>
    intro hk e
    obtain ⟨⟨h1, h2, h3⟩, h4⟩ := pG_inv (tg := tg) (p := p) h k (by omega)
    obtain ⟨⟨g1, g2⟩, g3, g4, g5⟩ := h1 k (by omega)
    unfold pG at e ⊢
    split at e
    · rename_i ht
      rw [if_pos ht]
      have c1 := pMin_c (sh k) (w k - (pG w sh tg p G L k).1 k)
      have c2 := pMin_c (pMin (sh k) (w k - (pG w sh tg p G L k).1 k)) (pG w sh tg p G L k).2
      simp only at e ⊢
      have e0 : (pG w sh tg p G L k).2 = L := by omega
      rw [gu_self (by omega)]
      exact ih (by omega) e0
    · rename_i ht
      rw [if_neg ht]
      exact ih (by omega) e
theorem pR_inv {w sh tg : Nat → Int} {p : Int} {G : Nat → Int} {L : Int} {Dn : Nat} (h : gGI w sh G L Dn) : ∀ n, gGI w sh (pR w sh tg p Dn G L n).1 (pR w sh tg p Dn G L n).2 Dn := by
  intro n
  induction n with
  | zero => exact h
  | succ n ih => exact (pG_inv ih Dn (Nat.le_refl _)).1
theorem pR_stop {w sh tg : Nat → Int} {p : Int} {G : Nat → Int} {L : Int} {Dn : Nat} (h : gGI w sh G L Dn) {n : Nat} (e : (pR w sh tg p Dn G L (n + 1)).2 = (pR w sh tg p Dn G L n).2) : ∀ m, pR w sh tg p Dn G L (n + m) = pR w sh tg p Dn G L n := by
  have h1 : pR w sh tg p Dn G L (n + 1) = pR w sh tg p Dn G L n := Prod.ext (pG_same (pR_inv h n) Dn (Nat.le_refl _) e) e
  intro m
  induction m with
  | zero => rfl
  | succ m ih =>
    show pG w sh tg p (pR w sh tg p Dn G L (n + m)).1 (pR w sh tg p Dn G L (n + m)).2 Dn = _
    rw [ih]
    exact h1
theorem pR_out {w sh tg : Nat → Int} {p : Int} {G : Nat → Int} {L : Int} {Dn : Nat} (h : gGI w sh G L Dn) {n N : Nat} (e : (pR w sh tg p Dn G L (n + 1)).2 = (pR w sh tg p Dn G L n).2) (hN : n + 1 ≤ N) : pR w sh tg p Dn G L N = pR w sh tg p Dn G L (n + 1) := by
  rw [show N = n + (N - n) by omega, pR_stop h e, ← pR_stop h e 1]
theorem pWish_B {P t : Int} {pe re fl sr : Nat → Int} {Dn : Nat} (hpe : ∀ j : Nat, (j : Int) < P → 1 ≤ j → 0 ≤ pe j) (hp0 : 0 ≤ pe 0) (hfl : ∀ j, j < Dn → 1 ≤ fl j ∧ fl j ≤ 9) : ∀ j, j < Dn → 0 ≤ pWish P t pe re fl sr j ∧ pWish P t pe re fl sr j ≤ 9 := by
  intro j hj
  have h1 := hfl j hj
  unfold pWish
  split
  · rename_i h
    have c := pMin_c (pe (sr j).toNat) (fl j)
    have h2 : 0 ≤ pe (sr j).toNat := by
      rcases Nat.eq_zero_or_pos (sr j).toNat with h0 | h0
      · rw [h0]; exact hp0
      · exact hpe _ (by omega) h0
    omega
  · omega
theorem pZ_0 {G : Nat → Int} : ∀ k j, j < k → pZ G k j = 0 := by
  intro k
  induction k with
  | zero => intro j hj; omega
  | succ k ih =>
    intro j hj
    unfold pZ gu
    split
    · rfl
    · exact ih j (by omega)
theorem pA_inv {w sh tg rm pe : Nat → Int} {Dn : Nat} {G : Nat → Int} (h : ∀ j, j < Dn → (0 ≤ G j ∧ G j ≤ w j) ∧ w j ≤ 9 ∧ 1 ≤ sh j ∧ sh j ≤ 5) {P : Nat} (hr : ∀ p : Nat, p < P → 0 ≤ pRoom rm pe p ∧ pRoom rm pe p < 2147483648) : ∀ p, p ≤ P → ∀ j, j < Dn → (0 ≤ pA w sh tg rm pe Dn G p j ∧ pA w sh tg rm pe Dn G p j ≤ w j) ∧ w j ≤ 9 ∧ 1 ≤ sh j ∧ sh j ≤ 5 := by
  intro p
  induction p with
  | zero => intro _; exact h
  | succ p ih =>
    intro hp
    exact (pR_inv (w := w) (sh := sh) (tg := tg) (p := (p : Int)) (L := pRoom rm pe p) ⟨ih (by omega), hr p (by omega)⟩ 9).1
theorem pA_gGI {w sh tg rm pe : Nat → Int} {Dn : Nat} {G : Nat → Int} (h : ∀ j, j < Dn → (0 ≤ G j ∧ G j ≤ w j) ∧ w j ≤ 9 ∧ 1 ≤ sh j ∧ sh j ≤ 5) {P : Nat} (hr : ∀ p : Nat, p < P → 0 ≤ pRoom rm pe p ∧ pRoom rm pe p < 2147483648) {p : Nat} (hp : p < P) : gGI w sh (pA w sh tg rm pe Dn G p) (pRoom rm pe p) Dn := ⟨pA_inv h hr p (by omega), hr p hp⟩
