/-! ===== how many come and go ===== -/
theorem qSum_c {f g : Nat → Int} : ∀ {n : Nat}, (∀ k, k < n → f k = g k) → qSum f n = qSum g n := by
  intro n
  induction n with
  | zero => intro _; rfl
  | succ n ih =>
    intro h
    show qSum f n + f n = qSum g n + g n
    rw [ih (fun k hk => h k (by omega)), h n (by omega)]
theorem qSum_0 {f : Nat → Int} : ∀ {n : Nat}, (∀ k, k < n → f k = 0) → qSum f n = 0 := by
  intro n
  induction n with
  | zero => intro _; rfl
  | succ n ih =>
    intro h
    show qSum f n + f n = 0
    rw [ih (fun k hk => h k (by omega)), h n (by omega)]
    rfl
theorem qSum_b {f : Nat → Int} {B : Int} : ∀ {n : Nat}, (∀ k, k < n → 0 ≤ f k ∧ f k ≤ B) → 0 ≤ qSum f n ∧ qSum f n ≤ B * n := by
  intro n
  induction n with
  | zero => intro _; show (0 : Int) ≤ 0 ∧ (0 : Int) ≤ B * ((0 : Nat) : Int); simp
  | succ n ih =>
    intro h
    have h1 := ih (fun k hk => h k (by omega))
    have h2 := h n (by omega)
    show 0 ≤ qSum f n + f n ∧ qSum f n + f n ≤ B * ((n + 1 : Nat) : Int)
    rw [show B * ((n + 1 : Nat) : Int) = B * (n : Int) + B by rw [Int.natCast_succ, Int.mul_add, Int.mul_one]]
    omega
/-- at most one of them is not 0 -/
theorem qSum_1 {f : Nat → Int} {B : Int} (hB : 0 ≤ B) : ∀ {n : Nat}, (∀ k, k < n → 0 ≤ f k ∧ f k ≤ B) → (∀ j k, j < n → k < n → 0 < f j → 0 < f k → j = k) → qSum f n ≤ B := by
  intro n
  induction n with
  | zero => intro _ _; exact hB
  | succ n ih =>
    intro h1 h2
    show qSum f n + f n ≤ B
    have h3 := h1 n (by omega)
    by_cases hz : 0 < f n
    · rw [qSum_0 (fun k hk => ?_)]
      · omega
      · have h4 := h1 k (by omega)
        by_cases h5 : 0 < f k
        · have := h2 k n (by omega) (by omega) h5 hz
          omega
        · omega
    · have := ih (fun k hk => h1 k (by omega)) (fun j k hj hk => h2 j k (by omega) (by omega))
      omega
theorem qSum_u {f : Nat → Int} {i : Nat} {v : Int} : ∀ {n : Nat}, i < n → qSum (gu f i v) n = qSum f n - f i + v := by
  intro n
  induction n with
  | zero => intro h; omega
  | succ n ih =>
    intro h
    show qSum (gu f i v) n + gu f i v n = qSum f n + f n - f i + v
    rcases Nat.lt_or_ge i n with h1 | h1
    · rw [ih h1, gu_n _ _ (by omega)]
      omega
    · have : i = n := by omega
      subst this
      rw [gu_s, qSum_c (f := gu f i v) (g := f) (fun k hk => gu_n _ _ (by omega))]
      omega
/-- what is granted to the place p -/
def gTS (go : Nat → Int) (p : Int) (Dn : Nat) (G : Nat → Int) : Int := qSum (fun e => if go e = p then G e else 0) Dn
theorem gTS_pG {w sh go : Nat → Int} {p : Int} {G : Nat → Int} {L : Int} {Dn : Nat} (p' : Int) : ∀ k, k ≤ Dn → gTS go p' Dn (pG w sh go p G L k).1 + (if p' = p then (pG w sh go p G L k).2 else 0) = gTS go p' Dn G + (if p' = p then L else 0) := by
  intro k
  induction k with
  | zero => intro _; rfl
  | succ k ih =>
    intro hk
    have ih' := ih (by omega)
    unfold pG
    split
    · rename_i ht
      rw [← ih']
      unfold gTS
      simp only
      generalize (pG w sh go p G L k).1 = G1
      generalize pMin (pMin (sh k) (w k - G1 k)) (pG w sh go p G L k).2 = v
      generalize (pG w sh go p G L k).2 = L1
      by_cases hp : p' = p
      · have e1 : (fun e => if go e = p' then gu G1 k (G1 k + v) e else 0) = gu (fun e => if go e = p' then G1 e else 0) k (G1 k + v) := by
          funext e
          by_cases hek : e = k
          · subst hek
            rw [if_pos (ht.trans hp.symm), gu_s, gu_s]
          · rw [gu_n _ _ hek, gu_n _ _ hek]
        rw [e1, if_pos hp, if_pos hp, qSum_u (by omega), if_pos (ht.trans hp.symm)]
        omega
      · have e1 : (fun e => if go e = p' then gu G1 k (G1 k + v) e else 0) = (fun e => if go e = p' then G1 e else 0) := by
          funext e
          by_cases hek : e = k
          · subst hek
            rw [if_neg (fun h9 => hp (h9.symm.trans ht)), if_neg (fun h9 => hp (h9.symm.trans ht))]
          · rw [gu_n _ _ hek]
        rw [e1, if_neg hp, if_neg hp]
    · exact ih'
theorem gTS_pR {w sh go : Nat → Int} {p : Int} {G : Nat → Int} {L : Int} {Dn : Nat} (p' : Int) : ∀ n, gTS go p' Dn (pR w sh go p Dn G L n).1 + (if p' = p then (pR w sh go p Dn G L n).2 else 0) = gTS go p' Dn G + (if p' = p then L else 0) := by
  intro n
  induction n with
  | zero => rfl
  | succ n ih =>
    rw [← ih]
    exact gTS_pG p' Dn (Nat.le_refl _)
theorem gTS_mA {w sh go rm pe : Nat → Int} {Dn : Nat} {G : Nat → Int} (h0 : ∀ e, e < Dn → G e = 0) (h : ∀ j, j < Dn → (0 ≤ G j ∧ G j ≤ w j) ∧ w j ≤ 9 ∧ 1 ≤ sh j ∧ sh j ≤ 5) {P : Nat} (hr : ∀ p : Nat, p < P → 0 ≤ mRoom rm pe p ∧ mRoom rm pe p < 2147483648) : ∀ n, n ≤ P → (∀ p : Nat, p < n → gTS go (p : Int) Dn (mA w sh go rm pe Dn G n) ≤ mRoom rm pe p) ∧ ∀ p : Nat, n ≤ p → gTS go (p : Int) Dn (mA w sh go rm pe Dn G n) = 0 := by
  intro n
  induction n with
  | zero =>
    intro _
    refine ⟨fun p hp => absurd hp (Nat.not_lt_zero p), fun p _ => qSum_0 (fun k hk => ?_)⟩
    show (if go k = (p : Int) then G k else 0) = 0
    split
    · exact h0 k hk
    · rfl
  | succ n ih =>
    intro hn
    obtain ⟨i1, i2⟩ := ih (by omega)
    have st : ∀ p' : Int, gTS go p' Dn (mA w sh go rm pe Dn G (n + 1)) + (if p' = (n : Int) then (pR w sh go (n : Int) Dn (mA w sh go rm pe Dn G n) (mRoom rm pe n) 9).2 else 0) = gTS go p' Dn (mA w sh go rm pe Dn G n) + (if p' = (n : Int) then mRoom rm pe n else 0) := fun p' => gTS_pR p' 9
    have inv := pR_inv (tg := go) (p := (n : Int)) (mA_gGI (tg := go) h hr (p := n) (by omega)) 9
    refine ⟨fun p hp => ?_, fun p hp => ?_⟩
    · have s1 := st (p : Int)
      rcases Nat.lt_or_ge p n with h9 | h9
      · rw [if_neg (by omega), if_neg (by omega)] at s1
        have := i1 p h9
        omega
      · have : p = n := by omega
        subst this
        rw [if_pos rfl, if_pos rfl] at s1
        have := i2 p (Nat.le_refl _)
        have := inv.2.1
        omega
    · have s1 := st (p : Int)
      rw [if_neg (by omega), if_neg (by omega)] at s1
      have := i2 p (by omega)
      omega
/-- the model's move: come in less gone out -/
theorem move_io {one oth go G f : Nat → Int} : ∀ k : Nat, (∀ e, e < k → 0 ≤ G e ∧ (0 < G e → 0 ≤ go e ∧ 0 ≤ mBy one oth e (go e) ∧ mBy one oth e (go e) ≠ go e)) → ∀ j : Nat, mMove one oth go G f k j = f j + qSum (fun e => if go e = (j : Int) then G e else 0) k - qSum (fun e => if 0 < G e ∧ mBy one oth e (go e) = (j : Int) then G e else 0) k := by
  intro k
  induction k with
  | zero => intro _ j; show f j = f j + 0 - 0; omega
  | succ k ih =>
    intro h j
    have i1 := ih (fun e he => h e (by omega))
    obtain ⟨h1, h2⟩ := h k (by omega)
    show mMove one oth go G f (k + 1) j = f j + (qSum (fun e => if go e = (j : Int) then G e else 0) k + (if go k = (j : Int) then G k else 0)) - (qSum (fun e => if 0 < G e ∧ mBy one oth e (go e) = (j : Int) then G e else 0) k + (if 0 < G k ∧ mBy one oth k (go k) = (j : Int) then G k else 0))
    unfold mMove
    by_cases hz : 0 < G k
    · obtain ⟨a1, a2, a3⟩ := h2 hz
      rw [if_pos hz]
      have ej := i1 j
      simp only [gu]
      by_cases c1 : go k = (j : Int)
      · rw [if_pos (show j = (go k).toNat by omega), if_neg (show ¬ (go k).toNat = (mBy one oth k (go k)).toNat by omega), if_pos c1, if_neg (by omega), show (go k).toNat = j by omega]
        omega
      · rw [if_neg (show ¬ j = (go k).toNat by omega), if_neg c1]
        by_cases c2 : mBy one oth k (go k) = (j : Int)
        · rw [if_pos (show j = (mBy one oth k (go k)).toNat by omega), if_pos ⟨hz, c2⟩, show (mBy one oth k (go k)).toNat = j by omega]
          omega
        · rw [if_neg (show ¬ j = (mBy one oth k (go k)).toNat by omega), if_neg (fun h9 => c2 h9.2)]
          omega
    · have hg : G k = 0 := by omega
      rw [if_neg hz, hg]
      have ej := i1 j
      simp only [ite_self]
      omega
/-- who leaves last -/
theorem last_io {go G : Nat → Int} {t lo : Int} : ∀ k : Nat, (∀ e, e < k → 0 ≤ G e) → (mLast go G t lo k = t + 1 ∧ 0 < qSum (fun e => if go e = 0 then G e else 0) k) ∨ (mLast go G t lo k = lo ∧ qSum (fun e => if go e = 0 then G e else 0) k = 0) := by
  intro k
  induction k with
  | zero => intro _; right; exact ⟨rfl, rfl⟩
  | succ k ih =>
    intro h
    have i1 := ih (fun e he => h e (by omega))
    have h1 := h k (by omega)
    show (mLast go G t lo (k + 1) = t + 1 ∧ 0 < qSum (fun e => if go e = 0 then G e else 0) k + (if go k = 0 then G k else 0)) ∨ (mLast go G t lo (k + 1) = lo ∧ qSum (fun e => if go e = 0 then G e else 0) k + (if go k = 0 then G k else 0) = 0)
    unfold mLast
    by_cases hz : 0 < G k
    · rw [if_pos hz]
      by_cases c : go k = 0
      · rw [if_pos c, if_pos c]
        left
        refine ⟨rfl, ?_⟩
        rcases i1 with ⟨-, e⟩ | ⟨-, e⟩ <;> omega
      · rw [if_neg c, if_neg c, Int.add_zero]
        exact i1
    · have hg : G k = 0 := by omega
      rw [if_neg hz, hg]
      simp only [ite_self, Int.add_zero]
      exact i1
theorem pSum_c {f g : Nat → Int} : ∀ {n : Nat}, (∀ k, 1 ≤ k → k < n → f k = g k) → pSum f n = pSum g n := by
  intro n
  induction n with
  | zero => intro _; rfl
  | succ n ih =>
    intro h
    rcases Nat.eq_zero_or_pos n with rfl | h1
    · rfl
    · rw [pSum_s _ h1, pSum_s _ h1, ih (fun k h2 h3 => h k h2 (by omega)), h n h1 (by omega)]
theorem pSum_b {f : Nat → Int} {B : Int} (hB : 0 ≤ B) : ∀ {n : Nat}, (∀ k, 1 ≤ k → k < n → 0 ≤ f k ∧ f k ≤ B) → 0 ≤ pSum f n ∧ pSum f n ≤ B * n := by
  intro n
  induction n with
  | zero => intro _; show (0 : Int) ≤ 0 ∧ (0 : Int) ≤ B * ((0 : Nat) : Int); simp
  | succ n ih =>
    intro h
    have e9 : B * ((n + 1 : Nat) : Int) = B * (n : Int) + B := by rw [Int.natCast_succ, Int.mul_add, Int.mul_one]
    rcases Nat.eq_zero_or_pos n with rfl | h1
    · show (0 : Int) ≤ 0 ∧ (0 : Int) ≤ B * ((0 + 1 : Nat) : Int)
      rw [e9]
      simp
      exact hB
    · have i1 := ih (fun k h2 h3 => h k h2 (by omega))
      have i2 := h n h1 (by omega)
      rw [pSum_s _ h1, e9]
      omega
