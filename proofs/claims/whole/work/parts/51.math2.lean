/-! ===== the doors of places are the same ===== -/
/-- what holds of (doorOf, source, target) with the doors below k offered -/
def gWy (di one oth op : Nat → Int) (P k : Nat) (T : (Nat → Int) × (Nat → Int) × (Nat → Int)) : Prop :=
  (∀ i, i < P → T.1 i = mDo di one oth op i k) ∧ (∀ e, e < k → (T.2.1 e = -1 ∧ T.2.2 e = -1 ∧ ∀ i, i < P → mDo di one oth op i k ≠ (e : Int)) ∨ ∃ a b : Nat, a < P ∧ b < P ∧ T.2.1 e = (a : Int) ∧ T.2.2 e = (b : Int) ∧ mDo di one oth op a k = (e : Int) ∧ mBy one oth e (a : Int) = (b : Int) ∧ 1 ≤ di a ∧ di b = di a - 1 ∧ op e ≠ 0)
theorem mDo_s {far one oth op : Nat → Int} {i k : Nat} : mDo far one oth op i (k + 1) = (if mDo far one oth op i k = -1 then (if 0 < far i ∧ op k ≠ 0 ∧ mBy one oth k (i : Int) ≠ -1 ∧ far (mBy one oth k (i : Int)).toNat = far i - 1 then (k : Int) else -1) else mDo far one oth op i k) := rfl
theorem mDo_one {far one oth op : Nat → Int} {i j : Nat} : ∀ k, mDo far one oth op i k ≠ -1 → 0 < far i := by
  intro k
  induction k with
  | zero => intro h; exact absurd rfl h
  | succ k ih =>
    rw [mDo_s]
    split
    · split
      · rename_i h; intro _; exact h.1
      · intro h; exact absurd rfl h
    · rename_i h; intro _; exact ih h
/-- a door is the door of at most one place -/
theorem mDo_fit {far one oth op : Nat → Int} {i : Nat} : ∀ k e : Nat, mDo far one oth op i k = (e : Int) → e < k ∧ (0 < far i ∧ op e ≠ 0 ∧ mBy one oth e (i : Int) ≠ -1 ∧ far (mBy one oth e (i : Int)).toNat = far i - 1) := by
  intro k
  induction k with
  | zero => intro e h; have h' : (-1 : Int) = (e : Int) := h; omega
  | succ k ih =>
    intro e h
    rw [mDo_s] at h
    split at h
    · split at h
      · rename_i h2
        have : k = e := by omega
        subst this
        exact ⟨by omega, h2⟩
      · omega
    · obtain ⟨h1, h2⟩ := ih e h
      exact ⟨by omega, h2⟩
theorem mBy_c {one oth : Nat → Int} {e : Nat} {x : Int} (h : mBy one oth e x ≠ -1) : (one e = x ∧ mBy one oth e x = oth e) ∨ (oth e = x ∧ mBy one oth e x = one e) := by
  unfold mBy at h ⊢
  split
  · left; exact ⟨by assumption, rfl⟩
  · rename_i h1
    rw [if_neg h1] at h
    split
    · right; exact ⟨by assumption, rfl⟩
    · rename_i h2
      rw [if_neg h2] at h
      exact absurd rfl h
theorem mDo_inj {far one oth op : Nat → Int} {P Dn : Nat} (he : ∀ j : Nat, j < Dn → 0 ≤ one j ∧ one j < P) (he2 : ∀ j : Nat, j < Dn → 0 ≤ oth j ∧ oth j < P) {i j e k : Nat} (hk : k ≤ Dn) (h1 : mDo far one oth op i k = (e : Int)) (h2 : mDo far one oth op j k = (e : Int)) : i = j := by
  obtain ⟨e1, a1, a2, a3, a4⟩ := mDo_fit k e h1
  obtain ⟨e2, b1, b2, b3, b4⟩ := mDo_fit k e h2
  have q1 := he e (by omega)
  have q2 := he2 e (by omega)
  rcases mBy_c a3 with ⟨c1, c2⟩ | ⟨c1, c2⟩ <;> rcases mBy_c b3 with ⟨d1, d2⟩ | ⟨d1, d2⟩
  · omega
  · rw [c2] at a4
    rw [d2] at b4
    rw [show (oth e).toNat = j by omega] at a4
    rw [show (one e).toNat = i by omega] at b4
    omega
  · rw [c2] at a4
    rw [d2] at b4
    rw [show (one e).toNat = j by omega] at a4
    rw [show (oth e).toNat = i by omega] at b4
    omega
  · omega
theorem pM1_v (f : Nat → Int) : ∀ k j, j < k → pM1 f k j = -1 := by
  intro k
  induction k with
  | zero => intro j h; omega
  | succ k ih =>
    intro j h
    unfold pM1 gu
    split
    · rfl
    · exact ih j (by omega)
theorem off_eq {di one oth op : Nat → Int} {P Dn : Nat} (he : ∀ j : Nat, j < Dn → 0 ≤ one j ∧ one j < P) (he2 : ∀ j : Nat, j < Dn → 0 ≤ oth j ∧ oth j < P) (hne : ∀ j : Nat, j < Dn → one j ≠ oth j) {T : (Nat → Int) × (Nat → Int) × (Nat → Int)} (hT : ∀ i, i < P → T.1 i = -1) : ∀ k, k ≤ Dn → gWy di one oth op P k (pOff one oth op di T k) := by
  intro k
  induction k with
  | zero => intro _; exact ⟨fun i hi => hT i hi, fun e h => absurd h (Nat.not_lt_zero e)⟩
  | succ k ih =>
    intro hk
    obtain ⟨w1, w2⟩ := ih (by omega)
    have q1 := he k (by omega)
    have q2 := he2 k (by omega)
    have q3 := hne k (by omega)
    obtain ⟨a, ha⟩ : ∃ a : Nat, one k = (a : Int) := ⟨(one k).toNat, by omega⟩
    obtain ⟨b, hb⟩ : ∃ b : Nat, oth k = (b : Int) := ⟨(oth k).toNat, by omega⟩
    have hab : a ≠ b := by omega
    have bya : mBy one oth k (a : Int) = (b : Int) := by unfold mBy; rw [if_pos ha, hb]
    have byb : mBy one oth k (b : Int) = (a : Int) := by unfold mBy; rw [if_neg (by omega), if_pos hb, ha]
    have byo : ∀ i : Nat, i ≠ a → i ≠ b → mBy one oth k (i : Int) = -1 := fun i h1 h2 => by unfold mBy; rw [if_neg (by omega), if_neg (by omega)]
    have dk : ∀ i, mDo di one oth op i k ≠ (k : Int) := fun i h => by
      have := (mDo_b (far := di) (one := one) (oth := oth) (op := op) (i := i) k).2
      omega
    have do_o : ∀ i : Nat, i ≠ a → i ≠ b → mDo di one oth op i (k + 1) = mDo di one oth op i k := fun i h1 h2 => by
      rw [mDo_s]
      split
      · rename_i h; rw [byo i h1 h2, if_neg (fun h9 => h9.2.2.1 rfl), h]
      · rfl
    have do_a : mDo di one oth op a (k + 1) = (if mDo di one oth op a k = -1 then (if (op k ≠ 0 ∧ 1 ≤ di a ∧ di b = di a - 1) then (k : Int) else -1) else mDo di one oth op a k) := by
      rw [mDo_s, bya, Int.toNat_natCast]
      congr 1
      by_cases h9 : op k ≠ 0 ∧ 1 ≤ di a ∧ di b = di a - 1
      · rw [if_pos h9, if_pos ⟨by omega, h9.1, by omega, h9.2.2⟩]
      · rw [if_neg h9, if_neg (fun h => h9 ⟨h.2.1, by omega, h.2.2.2⟩)]
    have do_b : mDo di one oth op b (k + 1) = (if mDo di one oth op b k = -1 then (if (op k ≠ 0 ∧ 1 ≤ di b ∧ di a = di b - 1) then (k : Int) else -1) else mDo di one oth op b k) := by
      rw [mDo_s, byb, Int.toNat_natCast]
      congr 1
      by_cases h9 : op k ≠ 0 ∧ 1 ≤ di b ∧ di a = di b - 1
      · rw [if_pos h9, if_pos ⟨by omega, h9.1, by omega, h9.2.2⟩]
      · rw [if_neg h9, if_neg (fun h => h9 ⟨h.2.1, by omega, h.2.2.2⟩)]
    show gWy di one oth op P (k + 1) (pOf di (op k) k (oth k).toNat (one k).toNat (pOf di (op k) k (one k).toNat (oth k).toNat ((pOff one oth op di T k).1, gu (pOff one oth op di T k).2.1 k (-1), gu (pOff one oth op di T k).2.2 k (-1))))
    rw [ha, hb, Int.toNat_natCast, Int.toNat_natCast]
    have wa := w1 a (by omega)
    have wb := w1 b (by omega)
    -- the old doors' rows
    have old : ∀ e, e < k → ∀ (s t : Nat → Int), s e = (pOff one oth op di T k).2.1 e → t e = (pOff one oth op di T k).2.2 e → (∀ i, i < P → mDo di one oth op i (k + 1) = (e : Int) → mDo di one oth op i k = (e : Int)) → (∀ i, i < P → mDo di one oth op i k = (e : Int) → mDo di one oth op i (k + 1) = (e : Int)) → (s e = -1 ∧ t e = -1 ∧ ∀ i, i < P → mDo di one oth op i (k + 1) ≠ (e : Int)) ∨ ∃ a b : Nat, a < P ∧ b < P ∧ s e = (a : Int) ∧ t e = (b : Int) ∧ mDo di one oth op a (k + 1) = (e : Int) ∧ mBy one oth e (a : Int) = (b : Int) ∧ 1 ≤ di a ∧ di b = di a - 1 ∧ op e ≠ 0 := by
      intro e he9 s t hs ht h1 h2
      rw [hs, ht]
      rcases w2 e he9 with ⟨x1, x2, x3⟩ | ⟨a', b', x1, x2, x3, x4, x5, x6⟩
      · left; exact ⟨x1, x2, fun i hi h => x3 i hi (h1 i hi h)⟩
      · right; exact ⟨a', b', x1, x2, x3, x4, h2 a' x1 x5, x6⟩
    have stay : ∀ e, e < k → ∀ i, mDo di one oth op i k = (e : Int) → mDo di one oth op i (k + 1) = (e : Int) := fun e he9 i h => by
      rw [mDo_s, if_neg (by omega)]; exact h
    have back : ∀ e, e < k → ∀ i, mDo di one oth op i (k + 1) = (e : Int) → mDo di one oth op i k = (e : Int) := fun e he9 i h => by
      rw [mDo_s] at h
      split at h
      · split at h
        · omega
        · omega
      · exact h
    by_cases c1 : (op k ≠ 0 ∧ 1 ≤ di a ∧ di b = di a - 1) ∧ (pOff one oth op di T k).1 a = -1
    · -- the first offer is taken
      have e1 : pOf di (op k) k a b ((pOff one oth op di T k).1, gu (pOff one oth op di T k).2.1 k (-1), gu (pOff one oth op di T k).2.2 k (-1)) = (gu (pOff one oth op di T k).1 a (k : Int), gu (gu (pOff one oth op di T k).2.1 k (-1)) k (a : Int), gu (gu (pOff one oth op di T k).2.2 k (-1)) k (b : Int)) := if_pos c1
      rw [e1]
      have e2 : pOf di (op k) k b a (gu (pOff one oth op di T k).1 a (k : Int), gu (gu (pOff one oth op di T k).2.1 k (-1)) k (a : Int), gu (gu (pOff one oth op di T k).2.2 k (-1)) k (b : Int)) = (gu (pOff one oth op di T k).1 a (k : Int), gu (gu (pOff one oth op di T k).2.1 k (-1)) k (a : Int), gu (gu (pOff one oth op di T k).2.2 k (-1)) k (b : Int)) := if_neg (fun h => by omega)
      rw [e2]
      have da : mDo di one oth op a (k + 1) = (k : Int) := by rw [do_a, if_pos (by omega), if_pos c1.1]
      refine ⟨fun i hi => ?_, fun e hek => ?_⟩
      · show gu (pOff one oth op di T k).1 a (k : Int) i = _
        unfold gu
        split
        · rename_i h; rw [h, da]
        · rename_i h
          by_cases hib : i = b
          · rw [hib, do_b, wb]
            split
            · rename_i h9; rw [h9, if_neg (by omega)]
            · rfl
          · rw [do_o i h hib]
            exact w1 i hi
      · rcases Nat.lt_or_ge e k with h9 | h9
        · exact old e h9 _ _ (by simp only [gu]; rw [if_neg (by omega), if_neg (by omega)]) (by simp only [gu]; rw [if_neg (by omega), if_neg (by omega)]) (fun i _ => back e h9 i) (fun i _ => stay e h9 i)
        · have : e = k := by omega
          subst this
          right
          exact ⟨a, b, by omega, by omega, gu_s _ _ _, gu_s _ _ _, da, bya, c1.1.2.1, c1.1.2.2, c1.1.1⟩
    · have e1 : pOf di (op k) k a b ((pOff one oth op di T k).1, gu (pOff one oth op di T k).2.1 k (-1), gu (pOff one oth op di T k).2.2 k (-1)) = ((pOff one oth op di T k).1, gu (pOff one oth op di T k).2.1 k (-1), gu (pOff one oth op di T k).2.2 k (-1)) := if_neg c1
      rw [e1]
      have da : mDo di one oth op a (k + 1) = mDo di one oth op a k := by
        rw [do_a]
        split
        · rename_i h9
          rw [if_neg (fun h => c1 ⟨h, by omega⟩), h9]
        · rfl
      by_cases c2 : (op k ≠ 0 ∧ 1 ≤ di b ∧ di a = di b - 1) ∧ (pOff one oth op di T k).1 b = -1
      · have e2 : pOf di (op k) k b a ((pOff one oth op di T k).1, gu (pOff one oth op di T k).2.1 k (-1), gu (pOff one oth op di T k).2.2 k (-1)) = (gu (pOff one oth op di T k).1 b (k : Int), gu (gu (pOff one oth op di T k).2.1 k (-1)) k (b : Int), gu (gu (pOff one oth op di T k).2.2 k (-1)) k (a : Int)) := if_pos c2
        rw [e2]
        have db : mDo di one oth op b (k + 1) = (k : Int) := by rw [do_b, if_pos (by omega), if_pos c2.1]
        refine ⟨fun i hi => ?_, fun e hek => ?_⟩
        · show gu (pOff one oth op di T k).1 b (k : Int) i = _
          unfold gu
          split
          · rename_i h; rw [h, db]
          · rename_i h
            by_cases hia : i = a
            · rw [hia, da]
              exact wa
            · rw [do_o i hia h]
              exact w1 i hi
        · rcases Nat.lt_or_ge e k with h9 | h9
          · exact old e h9 _ _ (by simp only [gu]; rw [if_neg (by omega), if_neg (by omega)]) (by simp only [gu]; rw [if_neg (by omega), if_neg (by omega)]) (fun i _ => back e h9 i) (fun i _ => stay e h9 i)
          · have : e = k := by omega
            subst this
            right
            exact ⟨b, a, by omega, by omega, gu_s _ _ _, gu_s _ _ _, db, byb, c2.1.2.1, c2.1.2.2, c2.1.1⟩
      · have e2 : pOf di (op k) k b a ((pOff one oth op di T k).1, gu (pOff one oth op di T k).2.1 k (-1), gu (pOff one oth op di T k).2.2 k (-1)) = ((pOff one oth op di T k).1, gu (pOff one oth op di T k).2.1 k (-1), gu (pOff one oth op di T k).2.2 k (-1)) := if_neg c2
        rw [e2]
        have db : mDo di one oth op b (k + 1) = mDo di one oth op b k := by
          rw [do_b]
          split
          · rename_i h9
            rw [if_neg (fun h => c2 ⟨h, by omega⟩), h9]
          · rfl
        have all : ∀ i, mDo di one oth op i (k + 1) = mDo di one oth op i k := fun i => by
          by_cases hia : i = a
          · rw [hia]; exact da
          · by_cases hib : i = b
            · rw [hib]; exact db
            · exact do_o i hia hib
        refine ⟨fun i hi => by rw [all i]; exact w1 i hi, fun e hek => ?_⟩
        rcases Nat.lt_or_ge e k with h9 | h9
        · exact old e h9 _ _ (by simp only [gu]; rw [if_neg (by omega)]) (by simp only [gu]; rw [if_neg (by omega)]) (fun i _ => back e h9 i) (fun i _ => stay e h9 i)
        · have : e = k := by omega
          subst this
          left
          exact ⟨gu_s _ _ _, gu_s _ _ _, fun i _ h => dk i (by rw [← all i]; exact h)⟩
theorem ways_eq {di one oth op : Nat → Int} {P Dn : Nat} (he : ∀ j : Nat, j < Dn → 0 ≤ one j ∧ one j < P) (he2 : ∀ j : Nat, j < Dn → 0 ≤ oth j ∧ oth j < P) (hne : ∀ j : Nat, j < Dn → one j ≠ oth j) (T : (Nat → Int) × (Nat → Int) × (Nat → Int)) : gWy di one oth op P Dn (pWays one oth op di P Dn T) := off_eq he he2 hne (fun i hi => pM1_v T.1 P i hi) Dn (Nat.le_refl _)
/-- the door of a place depends on the places' distances alone -/
theorem mDo_c {far far' one oth op : Nat → Int} {P Dn : Nat} (he : ∀ j : Nat, j < Dn → 0 ≤ one j ∧ one j < P) (he2 : ∀ j : Nat, j < Dn → 0 ≤ oth j ∧ oth j < P) (h : ∀ j, j < P → far j = far' j) {i : Nat} (hi : i < P) : ∀ k, k ≤ Dn → mDo far one oth op i k = mDo far' one oth op i k := by
  intro k
  induction k with
  | zero => intro _; rfl
  | succ k ih =>
    intro hk
    rw [mDo_s, mDo_s, ih (by omega), h i hi]
    congr 1
    by_cases hb : mBy one oth k (i : Int) = -1
    · rw [if_neg (fun h9 => h9.2.2.1 hb), if_neg (fun h9 => h9.2.2.1 hb)]
    · have q1 := he k (by omega)
      have q2 := he2 k (by omega)
      have hl : (mBy one oth k (i : Int)).toNat < P := by
        rcases mBy_c hb with ⟨_, e⟩ | ⟨_, e⟩ <;> omega
      rw [h _ hl]
