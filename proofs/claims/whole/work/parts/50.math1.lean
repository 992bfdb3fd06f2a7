/-! ===== the distances of both are the same ===== -/
theorem reach_swap (f : Nat → Int) (op : Int) (a b : Nat) {d : Int} (hop : op ≠ 0) (hd : 1 ≤ d) : pReach (pReach f a b d) b a d = mReach (mReach f op a b (d - 1)) op b a (d - 1) := by
  unfold pReach mReach
  by_cases h1 : f a = -1 ∧ f b = d - 1
  · rw [if_pos h1]
    have hab : b ≠ a := fun e => by rw [e] at h1; omega
    have h2 : ¬ (gu f a d b = -1 ∧ gu f a d a = d - 1) := by
      rw [gu_n f d hab]
      omega
    rw [if_neg h2]
    have h3 : ¬ (op ≠ 0 ∧ f a = d - 1 ∧ f b = -1) := by omega
    rw [if_neg h3, if_pos ⟨hop, h1.2, h1.1⟩, show d - 1 + 1 = d by omega]
  · rw [if_neg h1]
    by_cases h2 : f b = -1 ∧ f a = d - 1
    · have hab : a ≠ b := fun e => by rw [e] at h2; omega
      have e1 : (if op ≠ 0 ∧ f a = d - 1 ∧ f b = -1 then gu f b (d - 1 + 1) else f) = gu f b d := by
        rw [if_pos (show op ≠ 0 ∧ f a = d - 1 ∧ f b = -1 from ⟨hop, h2.2, h2.1⟩), show d - 1 + 1 = d by omega]
      rw [if_pos h2, e1]
      have h3 : ¬ (op ≠ 0 ∧ gu f b d b = d - 1 ∧ gu f b d a = -1) := by
        rw [gu_s]
        omega
      rw [if_neg h3]
    · rw [if_neg h2]
      have h3 : ¬ (op ≠ 0 ∧ f a = d - 1 ∧ f b = -1) := by omega
      rw [if_neg h3]
      have h4 : ¬ (op ≠ 0 ∧ f b = d - 1 ∧ f a = -1) := by omega
      rw [if_neg h4]
theorem mReach_0 (f : Nat → Int) (a b : Nat) (d : Int) : mReach f 0 a b d = f := if_neg (fun h => h.1 rfl)
theorem rd_swap (one oth op f : Nat → Int) {d : Int} (hd : 1 ≤ d) : ∀ k, pRd one oth op d f k = mRd one oth op (d - 1) f k := by
  intro k
  induction k with
  | zero => rfl
  | succ k ih =>
    unfold pRd mRd
    rw [ih]
    split
    · rename_i h
      rw [h, mReach_0, mReach_0]
    · rename_i h
      exact reach_swap _ _ _ _ h hd
theorem ms_swap (one oth op : Nat → Int) (Dn : Nat) (f : Nat → Int) : ∀ k, pMs one oth op Dn f (k + 1) = mMs one oth op Dn f k := by
  intro k
  induction k with
  | zero => rfl
  | succ k ih =>
    rw [pMs_s (by omega), ih, rd_swap _ _ _ _ (by omega)]
    show mRd one oth op (((k + 1 : Nat) : Int) - 1) _ Dn = mRd one oth op (k : Int) _ Dn
    rw [show ((k + 1 : Nat) : Int) - 1 = (k : Int) by omega]
/-- what the rounds do depends on the places alone -/
theorem mReach_c {f g : Nat → Int} {P : Nat} (h : ∀ j, j < P → f j = g j) {op : Int} {a b : Nat} (ha : a < P) (hb : b < P) (d : Int) : ∀ j, j < P → mReach f op a b d j = mReach g op a b d j := by
  intro j hj
  unfold mReach
  rw [h a ha, h b hb]
  split
  · unfold gu
    split
    · rfl
    · exact h j hj
  · exact h j hj
theorem mRd_c {one oth op : Nat → Int} {P Dn : Nat} (he : ∀ j : Nat, j < Dn → 0 ≤ one j ∧ one j < P) (he2 : ∀ j : Nat, j < Dn → 0 ≤ oth j ∧ oth j < P) {f g : Nat → Int} (h : ∀ j, j < P → f j = g j) (d : Int) : ∀ k, k ≤ Dn → ∀ j, j < P → mRd one oth op d f k j = mRd one oth op d g k j := by
  intro k
  induction k with
  | zero => intro _; exact h
  | succ k ih =>
    intro hk
    have h1 := he k (by omega)
    have h2 := he2 k (by omega)
    exact mReach_c (mReach_c (ih (by omega)) (by omega) (by omega) d) (by omega) (by omega) d
theorem mMs_c {one oth op : Nat → Int} {P Dn : Nat} (he : ∀ j : Nat, j < Dn → 0 ≤ one j ∧ one j < P) (he2 : ∀ j : Nat, j < Dn → 0 ≤ oth j ∧ oth j < P) {f g : Nat → Int} (h : ∀ j, j < P → f j = g j) : ∀ r, ∀ j, j < P → mMs one oth op Dn f r j = mMs one oth op Dn g r j := by
  intro r
  induction r with
  | zero => exact h
  | succ r ih => exact mRd_c he he2 ih _ Dn (Nat.le_refl _)
theorem pN_v (f : Nat → Int) : ∀ k j, 1 ≤ j → j < k → pN f k j = -1 := by
  intro k
  induction k with
  | zero => intro j _ h; omega
  | succ k ih =>
    intro j h1 h2
    rw [pN_s (by omega)]
    unfold gu
    split
    · rfl
    · exact ih j h1 (by omega)
theorem pN_0 (f : Nat → Int) : ∀ k, pN f k 0 = f 0 := by
  intro k
  induction k with
  | zero => rfl
  | succ k ih =>
    rcases Nat.eq_zero_or_pos k with rfl | h
    · rfl
    · rw [pN_s h, gu_n _ _ (by omega)]
      exact ih
theorem mN_v (f : Nat → Int) : ∀ k j, j < k → mN f k j = if j = 0 then 0 else -1 := by
  intro k
  induction k with
  | zero => intro j h; omega
  | succ k ih =>
    intro j h
    unfold mN gu
    split
    · rename_i e; rw [e]
    · exact ih j (by omega)
/-- an open door between a and b -/
def gJn (one oth op : Nat → Int) (Dn : Nat) (a b : Nat) : Prop := ∃ e : Nat, e < Dn ∧ op e ≠ 0 ∧ ((one e = (a : Int) ∧ oth e = (b : Int)) ∨ (one e = (b : Int) ∧ oth e = (a : Int)))
/-- what holds of distances in the making, up to r -/
def gBf (one oth op : Nat → Int) (P Dn : Nat) (r : Int) (f : Nat → Int) : Prop :=
  f 0 = 0 ∧ (∀ k, k < P → f k = -1 ∨ (0 ≤ f k ∧ f k ≤ r)) ∧ (∀ k, k < P → f k = 0 → k = 0) ∧ ∀ k, k < P → 1 ≤ f k → ∃ j, j < P ∧ f j = f k - 1 ∧ gJn one oth op Dn k j
theorem gBf_reach {one oth op : Nat → Int} {P Dn : Nat} {r : Int} {f : Nat → Int} (hr : 0 ≤ r) (hP : 1 ≤ P) (h : gBf one oth op P Dn (r + 1) f) {e a b : Nat} (he : e < Dn) (ha : a < P) (hb : b < P) (hj : op e ≠ 0 → gJn one oth op Dn b a) : gBf one oth op P Dn (r + 1) (mReach f (op e) a b r) := by
  unfold mReach
  split
  · rename_i hc
    obtain ⟨h1, h2, h3, h4⟩ := h
    have hb0 : b ≠ 0 := fun e0 => by rw [e0] at hc; omega
    have hab : a ≠ b := fun e0 => by rw [e0] at hc; omega
    refine ⟨by rw [gu_n _ _ (by omega)]; exact h1, fun k hk => ?_, fun k hk => ?_, fun k hk => ?_⟩
    · unfold gu
      split
      · right; omega
      · exact h2 k hk
    · unfold gu
      split
      · intro h9; omega
      · exact h3 k hk
    · unfold gu
      split
      · rename_i ek
        subst ek
        intro _
        exact ⟨a, ha, by rw [if_neg hab]; omega, hj hc.1⟩
      · intro h9
        obtain ⟨j, j1, j2, j3⟩ := h4 k hk h9
        have hjb : j ≠ b := fun e0 => by rw [e0] at j2; omega
        exact ⟨j, j1, by rw [if_neg hjb]; exact j2, j3⟩
  · exact h
theorem gBf_up {one oth op : Nat → Int} {P Dn : Nat} {r r' : Int} {f : Nat → Int} (h : gBf one oth op P Dn r f) (hr : r ≤ r') : gBf one oth op P Dn r' f := by
  obtain ⟨h1, h2, h3, h4⟩ := h
  refine ⟨h1, fun k hk => ?_, h3, h4⟩
  rcases h2 k hk with e | e
  · left; exact e
  · right; omega
theorem gBf_rd {one oth op : Nat → Int} {P Dn : Nat} (he : ∀ j : Nat, j < Dn → 0 ≤ one j ∧ one j < P) (he2 : ∀ j : Nat, j < Dn → 0 ≤ oth j ∧ oth j < P) (hP : 1 ≤ P) {r : Nat} {f : Nat → Int} (h : gBf one oth op P Dn (r : Int) f) : ∀ k, k ≤ Dn → gBf one oth op P Dn ((r : Int) + 1) (mRd one oth op (r : Int) f k) := by
  intro k
  induction k with
  | zero => intro _; exact gBf_up h (by omega)
  | succ k ih =>
    intro hk
    have h1 := he k (by omega)
    have h2 := he2 k (by omega)
    refine gBf_reach (by omega) hP (gBf_reach (by omega) hP (ih (by omega)) (e := k) (by omega) (by omega) (by omega) ?_) (e := k) (by omega) (by omega) (by omega) ?_
    · intro ho
      exact ⟨k, by omega, ho, Or.inr ⟨by omega, by omega⟩⟩
    · intro ho
      exact ⟨k, by omega, ho, Or.inl ⟨by omega, by omega⟩⟩
theorem gBf_ms {one oth op : Nat → Int} {P Dn : Nat} (he : ∀ j : Nat, j < Dn → 0 ≤ one j ∧ one j < P) (he2 : ∀ j : Nat, j < Dn → 0 ≤ oth j ∧ oth j < P) (hP : 1 ≤ P) (f : Nat → Int) : ∀ r : Nat, gBf one oth op P Dn (r : Int) (mMs one oth op Dn (mN f P) r) := by
  intro r
  induction r with
  | zero =>
    refine ⟨by show mN f P 0 = 0; rw [mN_v f P 0 (by omega)]; rfl, fun k hk => ?_, fun k hk => ?_, fun k hk => ?_⟩
    · show mN f P k = -1 ∨ _
      rw [mN_v f P k hk]
      show _ ∨ 0 ≤ mN f P k ∧ mN f P k ≤ _
      rw [mN_v f P k hk]
      split
      · right; omega
      · left; rfl
    · show mN f P k = 0 → _
      rw [mN_v f P k hk]
      split
      · intro _; assumption
      · intro h; omega
    · show 1 ≤ mN f P k → _
      rw [mN_v f P k hk]
      split
      · intro h; omega
      · intro h; omega
  | succ r ih =>
    have := gBf_rd he he2 hP ih Dn (Nat.le_refl _)
    show gBf one oth op P Dn ((r + 1 : Nat) : Int) (mRd one oth op (r : Int) (mMs one oth op Dn (mN f P) r) Dn)
    rw [show ((r + 1 : Nat) : Int) = (r : Int) + 1 by omega]
    exact this
/-- a chain down from a distance -/
theorem gBf_chain {one oth op : Nat → Int} {P Dn : Nat} {r : Int} {f : Nat → Int} (h : gBf one oth op P Dn r f) : ∀ (n : Nat) (k : Nat), k < P → f k = (n : Int) → ∀ d : Nat, d ≤ n → ∃ j, j < P ∧ f j = (d : Int) := by
  intro n
  induction n with
  | zero => intro k hk e d hd; exact ⟨k, hk, by omega⟩
  | succ n ih =>
    intro k hk e d hd
    rcases Nat.lt_or_ge d (n + 1) with h9 | h9
    · obtain ⟨j, j1, j2, -⟩ := h.2.2.2 k hk (by omega)
      exact ih j j1 (by omega) d (by omega)
    · exact ⟨k, hk, by omega⟩
/-- n different numbers below n are all of them -/
theorem g_onto : ∀ (n : Nat) (f : Nat → Nat), (∀ i, i < n → f i < n) → (∀ i j, i < n → j < n → f i = f j → i = j) → ∀ y, y < n → ∃ i, i < n ∧ f i = y := by
  intro n
  induction n with
  | zero => intro f _ _ y hy; omega
  | succ n ih =>
    intro f h1 h2 y hy
    -- exchange: where f hits n, let it take f n's value
    by_cases hc : f n = y
    · exact ⟨n, by omega, hc⟩
    · let g : Nat → Nat := fun i => if f i = n then f n else f i
      have g1 : ∀ i, i < n → g i < n := by
        intro i hi
        show (if f i = n then f n else f i) < n
        split
        · rename_i e
          have a1 := h1 n (by omega)
          rcases Nat.lt_or_ge (f n) n with a2 | a2
          · exact a2
          · have : i = n := h2 i n (by omega) (by omega) (by omega)
            omega
        · rename_i e
          have := h1 i (by omega)
          omega
      have g2 : ∀ i j, i < n → j < n → g i = g j → i = j := by
        intro i j hi hj e
        have e' : (if f i = n then f n else f i) = (if f j = n then f n else f j) := e
        split at e' <;> split at e'
        · exact h2 i j (by omega) (by omega) (by omega)
        · have := h2 n j (by omega) (by omega) e'
          omega
        · have := h2 i n (by omega) (by omega) e'
          omega
        · exact h2 i j (by omega) (by omega) e'
      by_cases hy9 : y = n
      · -- y = n: some i < n hits n, else all f i < n for i ≤ n
        by_cases hex : ∃ i, i < n ∧ f i = n
        · obtain ⟨i, hi, e⟩ := hex
          exact ⟨i, by omega, by omega⟩
        · have hfn : f n < n := by
            have := h1 n (by omega)
            omega
          obtain ⟨i, hi, e⟩ := ih g g1 g2 (f n) hfn
          have e' : (if f i = n then f n else f i) = f n := e
          rw [if_neg (fun h9 => hex ⟨i, hi, h9⟩)] at e'
          have := h2 i n (by omega) (by omega) e'
          omega
      · obtain ⟨i, hi, e⟩ := ih g g1 g2 y (by omega)
        have e' : (if f i = n then f n else f i) = y := e
        split at e'
        · exact absurd e' hc
        · exact ⟨i, by omega, e'⟩
/-- a place at distance P - 1: then all have one -/
theorem gBf_all {one oth op : Nat → Int} {P Dn : Nat} {r : Int} {f : Nat → Int} (h : gBf one oth op P Dn r f) (hP : 1 ≤ P) {a : Nat} (ha : a < P) (e : f a = ((P - 1 : Nat) : Int)) : ∀ b, b < P → f b ≠ -1 := by
  have hc := gBf_chain h (P - 1) a ha e
  have hw : ∃ w : Nat → Nat, ∀ d, d < P → w d < P ∧ f (w d) = (d : Int) := by
    refine ⟨fun d => if hd : d < P then (hc d (by omega)).choose else 0, fun d hd => ?_⟩
    simp only [dif_pos hd]
    exact (hc d (by omega)).choose_spec
  obtain ⟨w, hw⟩ := hw
  intro b hb
  obtain ⟨d, hd, e9⟩ := g_onto P w (fun i hi => (hw i hi).1) (fun i j hi hj e9 => by
    have h1 := (hw i hi).2
    have h2 := (hw j hj).2
    rw [e9] at h1
    omega) b hb
  rw [← e9, (hw d hd).2]
  omega
theorem mRd_last {one oth op : Nat → Int} {P Dn : Nat} (he : ∀ j : Nat, j < Dn → 0 ≤ one j ∧ one j < P) (he2 : ∀ j : Nat, j < Dn → 0 ≤ oth j ∧ oth j < P) (hP : 1 ≤ P) {r : Int} {f : Nat → Int} (h : gBf one oth op P Dn r f) : ∀ k, k ≤ Dn → mRd one oth op ((P - 1 : Nat) : Int) f k = f := by
  intro k
  induction k with
  | zero => intro _; rfl
  | succ k ih =>
    intro hk
    have h1 := he k (by omega)
    have h2 := he2 k (by omega)
    have no : ∀ a b : Nat, a < P → b < P → mReach f (op k) a b ((P - 1 : Nat) : Int) = f := fun a b ha hb => if_neg (fun hc => gBf_all h hP ha hc.2.1 b hb hc.2.2)
    unfold mRd
    rw [ih (by omega), no _ _ (by omega) (by omega), no _ _ (by omega) (by omega)]
/-- X's distances are the model's, on the places -/
theorem dist_eq {one oth op : Nat → Int} {P Dn : Nat} (he : ∀ j : Nat, j < Dn → 0 ≤ one j ∧ one j < P) (he2 : ∀ j : Nat, j < Dn → 0 ≤ oth j ∧ oth j < P) (hP : 1 ≤ P) (f g : Nat → Int) : ∀ k, k < P → pDist one oth op P Dn f k = mDist one oth op P Dn g k := by
  intro k hk
  obtain ⟨p, rfl⟩ : ∃ p, P = p + 1 := ⟨P - 1, by omega⟩
  unfold pDist mDist
  rw [ms_swap]
  show _ = mRd one oth op (p : Int) (mMs one oth op Dn (mN g (p + 1)) p) Dn k
  have h := gBf_ms (op := op) he he2 hP g p
  have h2 := mRd_last he he2 hP h Dn (Nat.le_refl _)
  rw [show p + 1 - 1 = p by omega] at h2
  rw [h2]
  refine mMs_c he he2 (fun j hj => ?_) p k hk
  rw [mN_v g _ j hj]
  rcases Nat.eq_zero_or_pos j with rfl | h1
  · rw [pN_0, gu_s]; rfl
  · rw [pN_v _ _ j h1 hj, if_neg (by omega)]
/-- .. and the model's do not depend on what was there -/
theorem mdist_eq {one oth op : Nat → Int} {P Dn : Nat} (he : ∀ j : Nat, j < Dn → 0 ≤ one j ∧ one j < P) (he2 : ∀ j : Nat, j < Dn → 0 ≤ oth j ∧ oth j < P) (f g : Nat → Int) : ∀ k, k < P → mDist one oth op P Dn f k = mDist one oth op P Dn g k := fun k hk => mMs_c he he2 (fun j hj => by rw [mN_v f P j hj, mN_v g P j hj]) P k hk
theorem mdist_bf {one oth op : Nat → Int} {P Dn : Nat} (he : ∀ j : Nat, j < Dn → 0 ≤ one j ∧ one j < P) (he2 : ∀ j : Nat, j < Dn → 0 ≤ oth j ∧ oth j < P) (hP : 1 ≤ P) (f : Nat → Int) : gBf one oth op P Dn (P : Int) (mDist one oth op P Dn f) := gBf_ms he he2 hP f P
