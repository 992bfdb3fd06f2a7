/-! ===== the class StairflowModel: its world, what its methods compute ===== -/
def gfM : List (Bool × Nat) := [(true, 0), (true, 1), (false, 0), (false, 1), (false, 2), (true, 2), (false, 3), (false, 4), (false, 5), (false, 6), (false, 7), (false, 8), (true, 3), (true, 4), (true, 5), (false, 9), (false, 10), (false, 11), (false, 12)]
def gaM : List (Bool × Nat) := [(false, 11), (false, 11), (false, 11), (false, 16), (false, 16), (false, 16), (false, 16), (true, 16), (false, 16), (false, 11), (false, 16), (false, 16), (false, 16)]
abbrev gM (cI cZ : ClassId) (q : Nat) (r : Nat → Nat) (F : List Int) (A : List (Nat → Int)) : va_W := gW 1 gfM gaM cI cZ q r F A
def mMin (a b : Int) : Int := if a < b then a else b
theorem mMin_c (a b : Int) : (mMin a b = a ∧ a ≤ b) ∨ (mMin a b = b ∧ b ≤ a) := by
  unfold mMin
  split
  · left; omega
  · right; omega
theorem mMin_p (a b : Int) : mMin a b = pMin a b := by
  have := mMin_c a b
  have := pMin_c a b
  omega
def mN (f : Nat → Int) : Nat → Nat → Int
  | 0 => f
  | k + 1 => gu (mN f k) k (if k = 0 then 0 else -1)
def mReach (f : Nat → Int) (op : Int) (a b : Nat) (d : Int) : Nat → Int := if op ≠ 0 ∧ f a = d ∧ f b = -1 then gu f b (d + 1) else f
def mRd (one oth op : Nat → Int) (d : Int) (f : Nat → Int) : Nat → Nat → Int
  | 0 => f
  | k + 1 => mReach (mReach (mRd one oth op d f k) (op k) (one k).toNat (oth k).toNat d) (op k) (oth k).toNat (one k).toNat d
def mMs (one oth op : Nat → Int) (Dn : Nat) (f : Nat → Int) : Nat → Nat → Int
  | 0 => f
  | r + 1 => mRd one oth op (r : Int) (mMs one oth op Dn f r) Dn
def mDist (one oth op : Nat → Int) (P Dn : Nat) (f : Nat → Int) : Nat → Int := mMs one oth op Dn (mN f P) P
theorem mReach_B {f : Nat → Int} {op : Int} {a b : Nat} {d : Int} (h : gB f) (hd : 0 ≤ d ∧ d ≤ 100) : gB (mReach f op a b d) := by
  unfold mReach
  split
  · exact gu_B h (by omega)
  · exact h
theorem mRd_B {one oth op : Nat → Int} {d : Int} {f : Nat → Int} (h : gB f) (hd : 0 ≤ d ∧ d ≤ 100) : ∀ k, gB (mRd one oth op d f k) := by
  intro k
  induction k with
  | zero => exact h
  | succ k ih => exact mReach_B (mReach_B ih hd) hd
theorem mMs_B {one oth op : Nat → Int} {Dn : Nat} {f : Nat → Int} (h : gB f) : ∀ r, r ≤ 100 → gB (mMs one oth op Dn f r) := by
  intro r
  induction r with
  | zero => intro _; exact h
  | succ r ih => intro hr; exact mRd_B (ih (by omega)) (by omega) Dn
theorem mN_B {f : Nat → Int} (h : gB f) : ∀ k, gB (mN f k) := by
  intro k
  induction k with
  | zero => exact h
  | succ k ih =>
    refine gu_B ih ?_
    split
    · omega
    · omega
theorem mDist_B {one oth op : Nat → Int} {P Dn : Nat} {f : Nat → Int} (h : gB f) (hP : P ≤ 11) : gB (mDist one oth op P Dn f) := mMs_B (mN_B h P) P (by omega)
def mBy (one oth : Nat → Int) (d : Nat) (x : Int) : Int := if one d = x then oth d else if oth d = x then one d else -1
/-- the first of the doors below k that is the door of place i; -1 if none is -/
def mDo (far one oth op : Nat → Int) (i : Nat) : Nat → Int
  | 0 => -1
  | k + 1 => if mDo far one oth op i k = -1 then (if 0 < far i ∧ op k ≠ 0 ∧ mBy one oth k (i : Int) ≠ -1 ∧ far (mBy one oth k (i : Int)).toNat = far i - 1 then (k : Int) else -1) else mDo far one oth op i k
theorem mDo_stay {far one oth op : Nat → Int} {i k : Nat} (h : mDo far one oth op i k ≠ -1) : ∀ m, mDo far one oth op i (k + m) = mDo far one oth op i k := by
  intro m
  induction m with
  | zero => rfl
  | succ m ih =>
    show (if mDo far one oth op i (k + m) = -1 then _ else mDo far one oth op i (k + m)) = _
    rw [ih, if_neg h]
theorem mDo_no {far one oth op : Nat → Int} {i : Nat} (h : ¬ 0 < far i) : ∀ k, mDo far one oth op i k = -1 := by
  intro k
  induction k with
  | zero => rfl
  | succ k ih =>
    show (if mDo far one oth op i k = -1 then _ else mDo far one oth op i k) = _
    rw [if_pos ih, if_neg (fun h2 => h h2.1)]
theorem mDo_b {far one oth op : Nat → Int} {i : Nat} : ∀ k, -1 ≤ mDo far one oth op i k ∧ mDo far one oth op i k < k := by
  intro k
  induction k with
  | zero => show (-1 : Int) ≤ -1 ∧ (-1 : Int) < ((0 : Nat) : Int); omega
  | succ k ih =>
    show -1 ≤ (if mDo far one oth op i k = -1 then (if 0 < far i ∧ op k ≠ 0 ∧ mBy one oth k (i : Int) ≠ -1 ∧ far (mBy one oth k (i : Int)).toNat = far i - 1 then (k : Int) else -1) else mDo far one oth op i k) ∧ (if mDo far one oth op i k = -1 then (if 0 < far i ∧ op k ≠ 0 ∧ mBy one oth k (i : Int) ≠ -1 ∧ far (mBy one oth k (i : Int)).toNat = far i - 1 then (k : Int) else -1) else mDo far one oth op i k) < ((k + 1 : Nat) : Int)
    split
    · split
      · omega
      · omega
    · omega
/-- wishes and goals, of the places 1 .. i - 1 -/
def mW1 (far one oth op pe re fl : Nat → Int) (t : Int) (Dn i : Nat) (T : (Nat → Int) × (Nat → Int)) : (Nat → Int) × (Nat → Int) :=
  if mDo far one oth op i Dn ≠ -1 ∧ re i ≤ t then (gu T.1 (mDo far one oth op i Dn).toNat (mMin (pe i) (fl (mDo far one oth op i Dn).toNat)), gu T.2 (mDo far one oth op i Dn).toNat (mBy one oth (mDo far one oth op i Dn).toNat (i : Int))) else T
def mW (far one oth op pe re fl : Nat → Int) (t : Int) (Dn : Nat) (T : (Nat → Int) × (Nat → Int)) : Nat → (Nat → Int) × (Nat → Int)
  | 0 => T
  | 1 => T
  | i + 2 => mW1 far one oth op pe re fl t Dn (i + 1) (mW far one oth op pe re fl t Dn T (i + 1))
theorem mW_s {far one oth op pe re fl : Nat → Int} {t : Int} {Dn : Nat} {T : (Nat → Int) × (Nat → Int)} {i : Nat} (h : 1 ≤ i) : mW far one oth op pe re fl t Dn T (i + 1) = mW1 far one oth op pe re fl t Dn i (mW far one oth op pe re fl t Dn T i) := by
  cases i with
  | zero => omega
  | succ i => rfl
def mRoom (rm pe : Nat → Int) (p : Nat) : Int := if p = 0 then 1000 else rm p - pe p
def mA (w sh tg rm pe : Nat → Int) (Dn : Nat) (G : Nat → Int) : Nat → Nat → Int
  | 0 => G
  | p + 1 => (pR w sh tg (p : Int) Dn (mA w sh tg rm pe Dn G p) (mRoom rm pe p) 9).1
def mMove (one oth go G : Nat → Int) (f : Nat → Int) : Nat → Nat → Int
  | 0 => f
  | k + 1 => if 0 < G k then gu (gu (mMove one oth go G f k) (mBy one oth k (go k)).toNat (mMove one oth go G f k (mBy one oth k (go k)).toNat - G k)) (go k).toNat (gu (mMove one oth go G f k) (mBy one oth k (go k)).toNat (mMove one oth go G f k (mBy one oth k (go k)).toNat - G k) (go k).toNat + G k) else mMove one oth go G f k
def mPass (G : Nat → Int) (f : Nat → Int) : Nat → Nat → Int
  | 0 => f
  | k + 1 => if 0 < G k then gu (mPass G f k) k (mPass G f k k + G k) else mPass G f k
def mMoved (G : Nat → Int) : Nat → Int
  | 0 => 0
  | k + 1 => if 0 < G k then mMoved G k + G k else mMoved G k
def mLast (go G : Nat → Int) (t lo : Int) : Nat → Int
  | 0 => lo
  | k + 1 => if 0 < G k then (if go k = 0 then t + 1 else mLast go G t lo k) else mLast go G t lo k
def mFl (far one oth op fl : Nat → Int) (d : Int) (k : Nat) : Int :=
  if op k ≠ 0 ∧ mMin (far (one k).toNat) (far (oth k).toNat) = d - 1 ∧ far (one k).toNat + far (oth k).toNat - mMin (far (one k).toNat) (far (oth k).toNat) = d then fl k else 0
def mNeed (cr fl d : Int) : Int := if cr = 0 then 0 else d - 1 + (cr + fl - 1) / fl
def mBound (far one oth op fl pe : Nat → Int) (P Dn : Nat) : Nat → Int
  | 0 => 0
  | 1 => 0
  | d + 2 => if mBound far one oth op fl pe P Dn (d + 1) < mNeed (pCrowd far pe ((d + 1 : Nat) : Int) P) (qSum (mFl far one oth op fl ((d + 1 : Nat) : Int)) Dn) ((d + 1 : Nat) : Int) then mNeed (pCrowd far pe ((d + 1 : Nat) : Int) P) (qSum (mFl far one oth op fl ((d + 1 : Nat) : Int)) Dn) ((d + 1 : Nat) : Int) else mBound far one oth op fl pe P Dn (d + 1)
theorem mBound_s {far one oth op fl pe : Nat → Int} {P Dn d : Nat} (h : 1 ≤ d) : mBound far one oth op fl pe P Dn (d + 1) = (if mBound far one oth op fl pe P Dn d < mNeed (pCrowd far pe (d : Int) P) (qSum (mFl far one oth op fl (d : Int)) Dn) (d : Int) then mNeed (pCrowd far pe (d : Int) P) (qSum (mFl far one oth op fl (d : Int)) Dn) (d : Int) else mBound far one oth op fl pe P Dn d) := by
  cases d with
  | zero => omega
  | succ d => rfl
theorem mNeed_b {cr fl d : Int} (h1 : 0 ≤ cr ∧ cr ≤ 10000) (h2 : 0 ≤ fl ∧ fl ≤ 1000) (h0 : cr ≠ 0 → 1 ≤ fl) (h3 : 1 ≤ d ∧ d ≤ 11) : 0 ≤ mNeed cr fl d ∧ mNeed cr fl d ≤ 20000 := by
  unfold mNeed
  split
  · omega
  · rename_i h
    have h0' := h0 h
    have h4 : (cr + fl - 1) / fl ≤ cr + fl - 1 := Int.ediv_le_self _ (by omega)
    have h5 : 0 ≤ (cr + fl - 1) / fl := Int.ediv_nonneg (by omega) (by omega)
    omega
theorem mBound_b {far one oth op fl pe : Nat → Int} {P Dn : Nat} (h : ∀ d : Nat, 1 ≤ d → d < P → (0 ≤ pCrowd far pe (d : Int) P ∧ pCrowd far pe (d : Int) P ≤ 10000) ∧ (0 ≤ qSum (mFl far one oth op fl (d : Int)) Dn ∧ qSum (mFl far one oth op fl (d : Int)) Dn ≤ 1000) ∧ (pCrowd far pe (d : Int) P ≠ 0 → 1 ≤ qSum (mFl far one oth op fl (d : Int)) Dn)) (hP : P ≤ 11) : ∀ d, d ≤ P → 0 ≤ mBound far one oth op fl pe P Dn d ∧ mBound far one oth op fl pe P Dn d ≤ 20000 := by
  intro d
  induction d with
  | zero => intro _; show (0 : Int) ≤ 0 ∧ (0 : Int) ≤ 20000; omega
  | succ d ih =>
    intro hd
    rcases Nat.eq_zero_or_pos d with rfl | h1
    · show (0 : Int) ≤ 0 ∧ (0 : Int) ≤ 20000
      omega
    · rw [mBound_s h1]
      obtain ⟨h2, h3, h0⟩ := h d h1 (by omega)
      have h4 := mNeed_b h2 h3 h0 (d := (d : Int)) (by omega)
      have h5 := ih (by omega)
      split
      · exact h4
      · exact h5
/-- after nine rounds nothing more is granted -/
theorem pG_full {w sh tg : Nat → Int} {p : Int} {G : Nat → Int} {L : Int} {Dn : Nat} (h : gGI w sh G L Dn) {n : Int} (hn : 0 ≤ n) (hG : ∀ j, j < Dn → tg j = p → n ≤ G j ∨ w j ≤ G j) : ∀ k, k ≤ Dn → (pG w sh tg p G L k).2 = 0 ∨ ((∀ j, j < k → tg j = p → n + 1 ≤ (pG w sh tg p G L k).1 j ∨ w j ≤ (pG w sh tg p G L k).1 j) ∧ ∀ j, k ≤ j → (pG w sh tg p G L k).1 j = G j) := by
  intro k
  induction k with
  | zero => intro _; exact Or.inr ⟨fun j hj => absurd hj (Nat.not_lt_zero j), fun j _ => rfl⟩
  | succ k ih =>
    intro hk
    obtain ⟨⟨h1, h2, h3⟩, h4⟩ := pG_inv (tg := tg) (p := p) h k (by omega)
    obtain ⟨⟨g1, g2⟩, g3, g4, g5⟩ := h1 k (by omega)
    have ih' := ih (by omega)
    unfold pG
    split
    · rename_i ht
      have c1 := pMin_c (sh k) (w k - (pG w sh tg p G L k).1 k)
      have c2 := pMin_c (pMin (sh k) (w k - (pG w sh tg p G L k).1 k)) (pG w sh tg p G L k).2
      rcases ih' with e | ⟨e1, e2⟩
      · left
        simp only
        omega
      · by_cases hz : (pG w sh tg p G L k).2 - pMin (pMin (sh k) (w k - (pG w sh tg p G L k).1 k)) (pG w sh tg p G L k).2 = 0
        · left; exact hz
        · right
          have e3 := e2 k (Nat.le_refl _)
          have e4 := hG k (by omega) ht
          refine ⟨fun j hj htj => ?_, fun j hj => ?_⟩
          · simp only [gu]
            split
            · rename_i ej
              subst ej
              omega
            · exact e1 j (by omega) htj
          · simp only [gu]
            rw [if_neg (by omega)]
            exact e2 j (by omega)
    · rename_i ht
      rcases ih' with e | ⟨e1, e2⟩
      · left; exact e
      · right
        refine ⟨fun j hj htj => ?_, fun j hj => e2 j (by omega)⟩
        rcases Nat.lt_or_ge j k with h9 | h9
        · exact e1 j h9 htj
        · have : j = k := by omega
          subst this
          exact absurd htj ht
theorem pG_0 {w sh tg : Nat → Int} {p : Int} {G : Nat → Int} {L : Int} {Dn : Nat} (h : gGI w sh G L Dn) (hG : L = 0 ∨ ∀ j, j < Dn → tg j = p → w j ≤ G j) : ∀ k, k ≤ Dn → pG w sh tg p G L k = (G, L) := by
  intro k
  induction k with
  | zero => intro _; rfl
  | succ k ih =>
    intro hk
    have ih' := ih (by omega)
    obtain ⟨h1, h2, h3⟩ := h
    obtain ⟨⟨g1, g2⟩, g3, g4, g5⟩ := h1 k (by omega)
    unfold pG
    rw [ih']
    split
    · rename_i ht
      have c1 := pMin_c (sh k) (w k - G k)
      have c2 := pMin_c (pMin (sh k) (w k - G k)) L
      have hz : pMin (pMin (sh k) (w k - G k)) L = 0 := by
        rcases hG with e | e
        · omega
        · have := e k (by omega) ht
          omega
      simp only
      rw [hz, gu_self (by omega)]
      simp
    · rfl
theorem pR_full {w sh tg : Nat → Int} {p : Int} {G : Nat → Int} {L : Int} {Dn : Nat} (h : gGI w sh G L Dn) : ∀ n : Nat, (pR w sh tg p Dn G L n).2 = 0 ∨ ∀ j, j < Dn → tg j = p → (n : Int) ≤ (pR w sh tg p Dn G L n).1 j ∨ w j ≤ (pR w sh tg p Dn G L n).1 j := by
  intro n
  induction n with
  | zero => right; intro j hj _; have := (h.1 j hj).1.1; left; exact this
  | succ n ih =>
    have inv := pR_inv (tg := tg) (p := p) h n
    rcases ih with e | e
    · left
      show (pG w sh tg p (pR w sh tg p Dn G L n).1 (pR w sh tg p Dn G L n).2 Dn).2 = 0
      rw [pG_0 inv (Or.inl e) Dn (Nat.le_refl _)]
      exact e
    · rcases pG_full inv (n := (n : Int)) (by omega) e Dn (Nat.le_refl _) with e2 | ⟨e2, -⟩
      · left; exact e2
      · right
        intro j hj ht
        have := e2 j hj ht
        show ((n + 1 : Nat) : Int) ≤ (pG w sh tg p (pR w sh tg p Dn G L n).1 (pR w sh tg p Dn G L n).2 Dn).1 j ∨ w j ≤ (pG w sh tg p (pR w sh tg p Dn G L n).1 (pR w sh tg p Dn G L n).2 Dn).1 j
        omega
theorem pR_fix9 {w sh tg : Nat → Int} {p : Int} {G : Nat → Int} {L : Int} {Dn : Nat} (h : gGI w sh G L Dn) : pR w sh tg p Dn G L 10 = pR w sh tg p Dn G L 9 := by
  have inv := pR_inv (tg := tg) (p := p) h 9
  show pG w sh tg p (pR w sh tg p Dn G L 9).1 (pR w sh tg p Dn G L 9).2 Dn = _
  rw [pG_0 inv ?_ Dn (Nat.le_refl _)]
  rcases pR_full (tg := tg) (p := p) h 9 with e | e
  · exact Or.inl e
  · right
    intro j hj ht
    have h1 := e j hj ht
    have h2 := inv.1 j hj
    omega
/-- the first round that changes nothing -/
theorem pR_first {w sh tg : Nat → Int} {p : Int} {G : Nat → Int} {L : Int} {Dn : Nat} (h : gGI w sh G L Dn) : ∃ N : Nat, N ≤ 9 ∧ (∀ n, n < N → (pR w sh tg p Dn G L (n + 1)).2 < (pR w sh tg p Dn G L n).2) ∧ pR w sh tg p Dn G L (N + 1) = pR w sh tg p Dn G L 9 ∧ (pR w sh tg p Dn G L (N + 1)).2 = (pR w sh tg p Dn G L N).2 := by
  obtain ⟨N, h1, h2⟩ := pk_least (fun n => (pR w sh tg p Dn G L (n + 1)).2 = (pR w sh tg p Dn G L n).2) ⟨9, by rw [pR_fix9 h]⟩
  have hN : N ≤ 9 := by
    rcases Nat.lt_or_ge 9 N with h9 | h9
    · exact absurd (by rw [pR_fix9 h]) (h2 9 h9)
    · exact h9
  refine ⟨N, hN, fun n hn => ?_, ?_, h1⟩
  · have h3 := h2 n hn
    have h4 := (pG_inv (tg := tg) (p := p) (pR_inv (tg := tg) (p := p) h n) Dn (Nat.le_refl _)).2
    have h5 : (pR w sh tg p Dn G L (n + 1)).2 ≤ (pR w sh tg p Dn G L n).2 := h4
    have h6 : ¬ (pR w sh tg p Dn G L (n + 1)).2 = (pR w sh tg p Dn G L n).2 := h3
    omega
  · have h3 := pR_stop h h1 1
    have h4 := pR_stop h h1 (9 - N)
    rw [show N + (9 - N) = 9 by omega] at h4
    rw [h3, h4]
