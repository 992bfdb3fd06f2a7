/-! ===== wishes, grants, moves ===== -/
theorem mW_spec {far one oth op pe re fl : Nat → Int} {t : Int} {P Dn : Nat} (he : ∀ j : Nat, j < Dn → 0 ≤ one j ∧ one j < P) (he2 : ∀ j : Nat, j < Dn → 0 ≤ oth j ∧ oth j < P) (w0 g0 : Nat → Int) : ∀ i : Nat, ∀ e, e < Dn →
    (∃ a : Nat, 1 ≤ a ∧ a < i ∧ mDo far one oth op a Dn = (e : Int) ∧ re a ≤ t ∧ (mW far one oth op pe re fl t Dn (pZ w0 Dn, pM1 g0 Dn) i).1 e = mMin (pe a) (fl e) ∧ (mW far one oth op pe re fl t Dn (pZ w0 Dn, pM1 g0 Dn) i).2 e = mBy one oth e (a : Int)) ∨
    ((mW far one oth op pe re fl t Dn (pZ w0 Dn, pM1 g0 Dn) i).1 e = 0 ∧ (mW far one oth op pe re fl t Dn (pZ w0 Dn, pM1 g0 Dn) i).2 e = -1 ∧ ∀ a : Nat, 1 ≤ a → a < i → mDo far one oth op a Dn = (e : Int) → ¬ re a ≤ t) := by
  intro i
  induction i with
  | zero =>
    intro e h
    right
    exact ⟨pZ_0 Dn e h, pM1_v _ Dn e h, fun a h1 h2 => by omega⟩
  | succ i ih =>
    intro e h
    rcases Nat.eq_zero_or_pos i with rfl | h1
    · right
      exact ⟨pZ_0 Dn e h, pM1_v _ Dn e h, fun a h1 h2 => by omega⟩
    · rw [mW_s h1]
      unfold mW1
      split
      · rename_i hc
        have hb := mDo_b (far := far) (one := one) (oth := oth) (op := op) (i := i) Dn
        obtain ⟨n, hn⟩ : ∃ n : Nat, mDo far one oth op i Dn = (n : Int) := ⟨(mDo far one oth op i Dn).toNat, by omega⟩
        rw [hn, Int.toNat_natCast]
        simp only [gu]
        by_cases hen : e = n
        · subst hen
          left
          exact ⟨i, h1, by omega, hn, hc.2, if_pos rfl, if_pos rfl⟩
        · rw [if_neg hen, if_neg hen]
          rcases ih e h with ⟨a, a1, a2, a3, a4, a5, a6⟩ | ⟨a1, a2, a3⟩
          · left
            exact ⟨a, a1, by omega, a3, a4, a5, a6⟩
          · right
            refine ⟨a1, a2, fun a b1 b2 b3 => ?_⟩
            rcases Nat.lt_or_ge a i with h9 | h9
            · exact a3 a b1 h9 b3
            · have : a = i := by omega
              subst this
              omega
      · rename_i hc
        rcases ih e h with ⟨a, a1, a2, a3, a4, a5, a6⟩ | ⟨a1, a2, a3⟩
        · left
          exact ⟨a, a1, by omega, a3, a4, a5, a6⟩
        · right
          refine ⟨a1, a2, fun a b1 b2 b3 => ?_⟩
          rcases Nat.lt_or_ge a i with h9 | h9
          · exact a3 a b1 h9 b3
          · have : a = i := by omega
            subst this
            intro h8
            exact hc ⟨by omega, h8⟩
/-- X's wishes and targets, and the model's -/
def gWG (far one oth op pe re fl sr tg w w' go : Nat → Int) (t : Int) (P Dn : Nat) : Prop :=
  ∀ e, e < Dn → w e = w' e ∧ ((w' e = 0 ∧ go e = -1) ∨ ∃ a b : Nat, 1 ≤ a ∧ a < P ∧ b < P ∧ a ≠ b ∧ sr e = (a : Int) ∧ tg e = (b : Int) ∧ go e = (b : Int) ∧ mDo far one oth op a Dn = (e : Int) ∧ mBy one oth e (b : Int) = (a : Int) ∧ w' e = pMin (pe a) (fl e))
theorem wish_eq {di far one oth op pe re fl : Nat → Int} {t : Int} {P Dn : Nat} (he : ∀ j : Nat, j < Dn → 0 ≤ one j ∧ one j < P) (he2 : ∀ j : Nat, j < Dn → 0 ≤ oth j ∧ oth j < P) (hne : ∀ j : Nat, j < Dn → one j ≠ oth j) (hdi : ∀ j, j < P → di j = far j) (h0 : far 0 = 0) (hP : 1 ≤ P) {T : (Nat → Int) × (Nat → Int) × (Nat → Int)} (hT : gWy di one oth op P Dn T) (w0 g0 : Nat → Int) :
    gWG far one oth op pe re fl T.2.1 T.2.2 (pWish (P : Int) t pe re fl T.2.1) (mW far one oth op pe re fl t Dn (pZ w0 Dn, pM1 g0 Dn) P).1 (mW far one oth op pe re fl t Dn (pZ w0 Dn, pM1 g0 Dn) P).2 t P Dn := by
  intro e hek
  have hm : ∀ i, i < P → mDo di one oth op i Dn = mDo far one oth op i Dn := fun i hi => mDo_c he he2 hdi hi Dn (Nat.le_refl _)
  have sp := mW_spec (far := far) (op := op) (pe := pe) (re := re) (fl := fl) (t := t) he he2 w0 g0 P e hek
  rcases hT.2 e hek with ⟨x1, x2, x3⟩ | ⟨a, b, x1, x2, x3, x4, x5, x6, x7, x8, x9⟩
  · rcases sp with ⟨a', y1, y2, y3, -⟩ | ⟨y1, y2, y3⟩
    · exact absurd (by rw [hm a' y2]; exact y3) (x3 a' y2)
    · refine ⟨?_, Or.inl ⟨y1, y2⟩⟩
      rw [y1]
      unfold pWish
      rw [if_neg (by omega)]
  · have ha1 : 1 ≤ a := by
      rcases Nat.eq_zero_or_pos a with rfl | h9
      · have := hdi 0 (by omega)
        omega
      · exact h9
    have hab : a ≠ b := fun e9 => by rw [e9] at x8; omega
    by_cases hr : re a ≤ t
    · rcases sp with ⟨a', y1, y2, y3, y4, y5, y6⟩ | ⟨y1, y2, y3⟩
      · have : a' = a := mDo_inj he he2 (Nat.le_refl _) y3 (by rw [← hm a x1]; exact x5)
        subst this
        have hw : pWish (P : Int) t pe re fl T.2.1 e = pMin (pe a') (fl e) := by
          unfold pWish
          rw [if_pos (by rw [x3]; exact ⟨by omega, by omega, by rw [Int.toNat_natCast]; exact hr⟩), x3, Int.toNat_natCast]
        have hby : mBy one oth e (b : Int) = (a' : Int) := by
          have q3 := hne e hek
          have q1 := he e hek
          rcases mBy_c (x := (a' : Int)) (e := e) (one := one) (oth := oth) (by rw [x6]; omega) with ⟨c1, c2⟩ | ⟨c1, c2⟩
          · unfold mBy
            rw [if_neg (by omega), if_pos (by omega)]
            exact c1
          · unfold mBy
            rw [if_pos (by omega)]
            exact c1
        refine ⟨by rw [hw, y5, mMin_p], Or.inr ⟨a', b, ha1, x1, x2, hab, x3, x4, by rw [y6, x6], y3, hby, by rw [y5, mMin_p]⟩⟩
      · exact absurd hr (y3 a ha1 x1 (by rw [← hm a x1]; exact x5))
    · have hw : pWish (P : Int) t pe re fl T.2.1 e = 0 := by
        unfold pWish
        rw [if_neg (by rw [x3, Int.toNat_natCast]; exact fun h => hr h.2.2)]
      rcases sp with ⟨a', y1, y2, y3, y4, y5, y6⟩ | ⟨y1, y2, y3⟩
      · have : a' = a := mDo_inj he he2 (Nat.le_refl _) y3 (by rw [← hm a x1]; exact x5)
        subst this
        exact absurd y4 hr
      · exact ⟨by rw [hw, y1], Or.inl ⟨y1, y2⟩⟩
theorem pG_rel {w w' sh tg go : Nat → Int} {p : Int} {G G' : Nat → Int} {L L' : Int} {Dn c : Nat} (hw : ∀ e, e < Dn → w e = w' e) (ht : ∀ e, e < Dn → (w' e = 0 ∧ go e = -1) ∨ tg e = go e) (hp : 0 ≤ p) (hG : ∀ e, e < Dn → G e = G' e) (h : gGI w sh G L Dn) (h' : gGI w' sh G' L' Dn) (hL : L = L' ∨ (5 * (c : Int) ≤ L ∧ 5 * (c : Int) ≤ L')) :
    ∀ k, k ≤ Dn → k ≤ c → (∀ e, e < Dn → (pG w sh tg p G L k).1 e = (pG w' sh go p G' L' k).1 e) ∧ ((pG w sh tg p G L k).2 = (pG w' sh go p G' L' k).2 ∨ (5 * ((c : Int) - (k : Int)) ≤ (pG w sh tg p G L k).2 ∧ 5 * ((c : Int) - (k : Int)) ≤ (pG w' sh go p G' L' k).2)) := by
  intro k
  induction k with
  | zero =>
    intro _ _
    refine ⟨hG, ?_⟩
    show L = L' ∨ (5 * ((c : Int) - ((0 : Nat) : Int)) ≤ L ∧ 5 * ((c : Int) - ((0 : Nat) : Int)) ≤ L')
    omega
  | succ k ih =>
    intro hk hc
    obtain ⟨i1, i2⟩ := ih (by omega) (by omega)
    obtain ⟨⟨a1, a2, a3⟩, -⟩ := pG_inv (tg := tg) (p := p) h k (by omega)
    obtain ⟨⟨b1, b2, b3⟩, -⟩ := pG_inv (tg := go) (p := p) h' k (by omega)
    obtain ⟨⟨c1, c2⟩, c3, c4, c5⟩ := a1 k (by omega)
    obtain ⟨⟨d1, d2⟩, d3, d4, d5⟩ := b1 k (by omega)
    have e1 := i1 k (by omega)
    have e2 := hw k (by omega)
    have m1 := pMin_c (sh k) (w k - (pG w sh tg p G L k).1 k)
    have m2 := pMin_c (pMin (sh k) (w k - (pG w sh tg p G L k).1 k)) (pG w sh tg p G L k).2
    have m3 := pMin_c (sh k) (w' k - (pG w' sh go p G' L' k).1 k)
    have m4 := pMin_c (pMin (sh k) (w' k - (pG w' sh go p G' L' k).1 k)) (pG w' sh go p G' L' k).2
    unfold pG
    by_cases h1 : tg k = p
    · rw [if_pos h1]
      by_cases h2 : go k = p
      · rw [if_pos h2]
        have em : pMin (pMin (sh k) (w k - (pG w sh tg p G L k).1 k)) (pG w sh tg p G L k).2 = pMin (pMin (sh k) (w' k - (pG w' sh go p G' L' k).1 k)) (pG w' sh go p G' L' k).2 := by omega
        refine ⟨fun e he => ?_, ?_⟩
        · simp only [gu]
          split
          · rw [em, e1]
          · exact i1 e he
        · simp only
          omega
      · rw [if_neg h2]
        have hz : w' k = 0 := by
          rcases ht k (by omega) with ⟨z, -⟩ | z
          · exact z
          · omega
        have em : pMin (pMin (sh k) (w k - (pG w sh tg p G L k).1 k)) (pG w sh tg p G L k).2 = 0 := by omega
        rw [em, gu_self (by omega)]
        refine ⟨i1, ?_⟩
        simp only
        omega
    · rw [if_neg h1]
      have h2 : ¬ go k = p := by
        rcases ht k (by omega) with ⟨-, z⟩ | z
        · omega
        · omega
      rw [if_neg h2]
      refine ⟨i1, ?_⟩
      omega
theorem pR_rel {w w' sh tg go : Nat → Int} {p : Int} {G G' : Nat → Int} {L L' : Int} {Dn : Nat} (hD : Dn ≤ 16) (hw : ∀ e, e < Dn → w e = w' e) (ht : ∀ e, e < Dn → (w' e = 0 ∧ go e = -1) ∨ tg e = go e) (hp : 0 ≤ p) (hG : ∀ e, e < Dn → G e = G' e) (h : gGI w sh G L Dn) (h' : gGI w' sh G' L' Dn) (hL : L = L' ∨ (720 ≤ L ∧ 720 ≤ L')) :
    ∀ n, n ≤ 9 → (∀ e, e < Dn → (pR w sh tg p Dn G L n).1 e = (pR w' sh go p Dn G' L' n).1 e) ∧ ((pR w sh tg p Dn G L n).2 = (pR w' sh go p Dn G' L' n).2 ∨ (5 * (16 * (9 - (n : Int))) ≤ (pR w sh tg p Dn G L n).2 ∧ 5 * (16 * (9 - (n : Int))) ≤ (pR w' sh go p Dn G' L' n).2)) := by
  intro n
  induction n with
  | zero =>
    intro _
    refine ⟨hG, ?_⟩
    show L = L' ∨ (5 * (16 * (9 - ((0 : Nat) : Int))) ≤ L ∧ 5 * (16 * (9 - ((0 : Nat) : Int))) ≤ L')
    omega
  | succ n ih =>
    intro hn
    obtain ⟨i1, i2⟩ := ih (by omega)
    have r := pG_rel (c := 16 * (9 - n)) hw ht hp i1 (pR_inv (tg := tg) (p := p) h n) (pR_inv (tg := go) (p := p) h' n) (by omega) Dn (Nat.le_refl _) (by omega)
    refine ⟨r.1, ?_⟩
    have r2 := r.2
    show (pG w sh tg p (pR w sh tg p Dn G L n).1 (pR w sh tg p Dn G L n).2 Dn).2 = (pG w' sh go p (pR w' sh go p Dn G' L' n).1 (pR w' sh go p Dn G' L' n).2 Dn).2 ∨ _
    show _ ∨ (_ ≤ (pG w sh tg p (pR w sh tg p Dn G L n).1 (pR w sh tg p Dn G L n).2 Dn).2 ∧ _ ≤ (pG w' sh go p (pR w' sh go p Dn G' L' n).1 (pR w' sh go p Dn G' L' n).2 Dn).2)
    omega
theorem mA_inv {w sh tg rm pe : Nat → Int} {Dn : Nat} {G : Nat → Int} (h : ∀ j, j < Dn → (0 ≤ G j ∧ G j ≤ w j) ∧ w j ≤ 9 ∧ 1 ≤ sh j ∧ sh j ≤ 5) {P : Nat} (hr : ∀ p : Nat, p < P → 0 ≤ mRoom rm pe p ∧ mRoom rm pe p < 2147483648) : ∀ p, p ≤ P → ∀ j, j < Dn → (0 ≤ mA w sh tg rm pe Dn G p j ∧ mA w sh tg rm pe Dn G p j ≤ w j) ∧ w j ≤ 9 ∧ 1 ≤ sh j ∧ sh j ≤ 5 := by
  intro p
  induction p with
  | zero => intro _; exact h
  | succ p ih =>
    intro hp
    exact (pR_inv (w := w) (sh := sh) (tg := tg) (p := (p : Int)) (L := mRoom rm pe p) ⟨ih (by omega), hr p (by omega)⟩ 9).1
theorem mA_gGI {w sh tg rm pe : Nat → Int} {Dn : Nat} {G : Nat → Int} (h : ∀ j, j < Dn → (0 ≤ G j ∧ G j ≤ w j) ∧ w j ≤ 9 ∧ 1 ≤ sh j ∧ sh j ≤ 5) {P : Nat} (hr : ∀ p : Nat, p < P → 0 ≤ mRoom rm pe p ∧ mRoom rm pe p < 2147483648) {p : Nat} (hp : p < P) : gGI w sh (mA w sh tg rm pe Dn G p) (mRoom rm pe p) Dn := ⟨mA_inv h hr p (by omega), hr p hp⟩
theorem pA_rel {w w' sh tg go rm pe : Nat → Int} {G G' : Nat → Int} {P Dn : Nat} (hD : Dn ≤ 16) (hw : ∀ e, e < Dn → w e = w' e) (ht : ∀ e, e < Dn → (w' e = 0 ∧ go e = -1) ∨ tg e = go e) (hG : ∀ e, e < Dn → G e = G' e) (h : ∀ j, j < Dn → (0 ≤ G j ∧ G j ≤ w j) ∧ w j ≤ 9 ∧ 1 ≤ sh j ∧ sh j ≤ 5) (h' : ∀ j, j < Dn → (0 ≤ G' j ∧ G' j ≤ w' j) ∧ w' j ≤ 9 ∧ 1 ≤ sh j ∧ sh j ≤ 5)
    (hr : ∀ p : Nat, p < P → 0 ≤ pRoom rm pe p ∧ pRoom rm pe p < 2147483648) (hr' : ∀ p : Nat, p < P → 0 ≤ mRoom rm pe p ∧ mRoom rm pe p < 2147483648) : ∀ p, p ≤ P → ∀ e, e < Dn → pA w sh tg rm pe Dn G p e = mA w' sh go rm pe Dn G' p e := by
  intro p
  induction p with
  | zero => intro _; exact hG
  | succ p ih =>
    intro hp
    have hl : pRoom rm pe p = mRoom rm pe p ∨ (720 ≤ pRoom rm pe p ∧ 720 ≤ mRoom rm pe p) := by
      unfold pRoom mRoom
      split
      · right; omega
      · left; rfl
    exact (pR_rel hD hw ht (by omega) (ih (by omega)) (pA_gGI (tg := tg) h hr (p := p) (by omega)) (mA_gGI (tg := go) h' hr' (p := p) (by omega)) hl 9 (Nat.le_refl _)).1
/-- the moves are the same -/
theorem move_eq {far one oth op pe re fl sr tg w w' go G G' : Nat → Int} {t : Int} {P Dn : Nat} (hg : gWG far one oth op pe re fl sr tg w w' go t P Dn) (hG : ∀ e, e < Dn → G e = G' e) (hb : ∀ e, e < Dn → 0 ≤ G' e ∧ G' e ≤ w' e) (f : Nat → Int) : ∀ k, k ≤ Dn → pMove (P : Int) sr tg G f k = mMove one oth go G' f k := by
  intro k
  induction k with
  | zero => intro _; rfl
  | succ k ih =>
    intro hk
    have e1 := hG k (by omega)
    have b1 := hb k (by omega)
    unfold pMove mMove
    rw [ih (by omega), e1]
    rcases hg k (by omega) with ⟨-, ⟨z1, z2⟩ | ⟨a, b, x1, x2, x3, x4, x5, x6, x7, x8, x9, x10⟩⟩
    · have hz : G' k = 0 := by omega
      rw [hz, if_neg (show ¬ (0 : Int) < 0 by omega)]
      split
      · rw [gu_self (f := mMove one oth go G' f k) (by omega), gu_self (by omega)]
      · rfl
    · rw [if_pos (by omega), x5, x6, x7, x9, Int.toNat_natCast, Int.toNat_natCast]
      split
      · rfl
      · have hz : G' k = 0 := by omega
        rw [hz, gu_self (f := mMove one oth go G' f k) (by omega), gu_self (by omega)]
theorem pass_eq {far one oth op pe re fl sr tg w w' go G G' : Nat → Int} {t : Int} {P Dn : Nat} (hg : gWG far one oth op pe re fl sr tg w w' go t P Dn) (hG : ∀ e, e < Dn → G e = G' e) (hb : ∀ e, e < Dn → 0 ≤ G' e ∧ G' e ≤ w' e) (f : Nat → Int) : ∀ k, k ≤ Dn → pPass (P : Int) sr tg G f k = mPass G' f k := by
  intro k
  induction k with
  | zero => intro _; rfl
  | succ k ih =>
    intro hk
    have e1 := hG k (by omega)
    have b1 := hb k (by omega)
    unfold pPass mPass
    rw [ih (by omega), e1]
    rcases hg k (by omega) with ⟨-, ⟨z1, z2⟩ | ⟨a, b, x1, x2, x3, x4, x5, x6, x7, x8, x9, x10⟩⟩
    · have hz : G' k = 0 := by omega
      rw [hz, if_neg (show ¬ (0 : Int) < 0 by omega)]
      split
      · rw [gu_self (by omega)]
      · rfl
    · rw [if_pos (by omega)]
      split
      · rfl
      · rw [gu_self (by omega)]
theorem moved_eq {far one oth op pe re fl sr tg w w' go G G' : Nat → Int} {t : Int} {P Dn : Nat} (hg : gWG far one oth op pe re fl sr tg w w' go t P Dn) (hG : ∀ e, e < Dn → G e = G' e) (hb : ∀ e, e < Dn → 0 ≤ G' e ∧ G' e ≤ w' e) (hw9 : ∀ e, e < Dn → w' e ≤ 9) : ∀ k, k ≤ Dn → pMoved (P : Int) sr tg G k = mMoved G' k ∧ 0 ≤ mMoved G' k ∧ mMoved G' k ≤ 9 * k := by
  intro k
  induction k with
  | zero => intro _; exact ⟨rfl, Int.le_refl _, by show (0 : Int) ≤ 9 * ((0 : Nat) : Int); omega⟩
  | succ k ih =>
    intro hk
    obtain ⟨i1, i2, i3⟩ := ih (by omega)
    have e1 := hG k (by omega)
    have b1 := hb k (by omega)
    have b2 := hw9 k (by omega)
    unfold pMoved mMoved
    rw [i1, e1]
    rcases hg k (by omega) with ⟨-, ⟨z1, z2⟩ | ⟨a, b, x1, x2, x3, x4, x5, x6, x7, x8, x9, x10⟩⟩
    · have hz : G' k = 0 := by omega
      rw [hz, if_neg (show ¬ (0 : Int) < 0 by omega)]
      refine ⟨?_, i2, by omega⟩
      split
      · omega
      · rfl
    · rw [if_pos (by omega)]
      split
      · exact ⟨rfl, by omega, by omega⟩
      · exact ⟨by omega, i2, by omega⟩
