/-! ===== many steps; new ways; the bound ===== -/
theorem gSS_up {P : Nat} {rm : Nat → Int} {n1 n2 m1 m2 : Int} {SX : xS} {SM : mS} (h : gSS P rm n1 n2 SX SM) (h1 : n1 ≤ m1) (h2 : n2 ≤ m2) : gSS P rm m1 m2 SX SM := by
  obtain ⟨a1, a2, a3, a4, a5, a6, a7, a8, a9, a10, a11⟩ := h
  exact ⟨a1, a2, a3, a4, a5, a6, a7, by omega, by omega, by omega, a11⟩
theorem it_rel {P Dn : Nat} {rm re one oth fl sh op f3 f4 f11 f12 : Nat → Int} (hs : gSt P Dn rm re one oth fl sh op) (hw : gXw P Dn one oth op f3 f4 f11 f12) {n1 n2 : Int} (hn : n1 ≤ 900000000 ∧ n2 ≤ 900000000) {SX : xS} {SM : mS} (h : gSS P rm n1 n2 SX SM) : ∀ k : Nat, k ≤ 300 → gSS P rm (n1 + 144 * (k : Int)) (n2 + (k : Int)) (xIt P Dn rm re fl sh f11 f12 SX k) (mIt P Dn rm re one oth fl sh op SM k) := by
  intro k
  induction k with
  | zero => intro _; exact gSS_up h (by omega) (by omega)
  | succ k ih =>
    intro hk
    have := (step_rel hs hw (by omega) (ih (by omega))).1
    exact gSS_up this (by omega) (by omega)
theorem pOf_B2 {di : Nat → Int} {op : Int} {k a b : Nat} {T : (Nat → Int) × (Nat → Int) × (Nat → Int)} (h : gB T.2.1 ∧ gB T.2.2) (ha : a ≤ 100) (hb : b ≤ 100) : gB (pOf di op k a b T).2.1 ∧ gB (pOf di op k a b T).2.2 := by
  unfold pOf
  split
  · exact ⟨gu_B h.1 (by omega), gu_B h.2 (by omega)⟩
  · exact h
theorem pOff_B2 {one oth op di : Nat → Int} {T : (Nat → Int) × (Nat → Int) × (Nat → Int)} {Dn : Nat} (h1 : ∀ j, j < Dn → one j < 11) (h2 : ∀ j, j < Dn → oth j < 11) (h : gB T.2.1 ∧ gB T.2.2) : ∀ k, k ≤ Dn → gB (pOff one oth op di T k).2.1 ∧ gB (pOff one oth op di T k).2.2 := by
  intro k
  induction k with
  | zero => intro _; exact h
  | succ k ih =>
    intro hk
    have i := ih (by omega)
    have q1 := h1 k (by omega)
    have q2 := h2 k (by omega)
    exact pOf_B2 (pOf_B2 ⟨gu_B i.1 (by omega), gu_B i.2 (by omega)⟩ (by omega) (by omega)) (by omega) (by omega)
theorem xw_new {P Dn : Nat} {rm re one oth fl sh op f3 f4 f11 f12 : Nat → Int} (hs : gSt P Dn rm re one oth fl sh op) (h : gB f3 ∧ gB f4 ∧ gB f11 ∧ gB f12) : gXw P Dn one oth op (pDist one oth op P Dn f3) (pWays one oth op (pDist one oth op P Dn f3) P Dn (f4, f11, f12)).1 (pWays one oth op (pDist one oth op P Dn f3) P Dn (f4, f11, f12)).2.1 (pWays one oth op (pDist one oth op P Dn f3) P Dn (f4, f11, f12)).2.2 := by
  obtain ⟨s1, s2, s3, s4, s5, s6, s7, s8, s9, s10⟩ := hs
  obtain ⟨b1, b2, b3, b4⟩ := h
  have b5 := pOff_B2 (one := one) (oth := oth) (op := op) (di := pDist one oth op P Dn f3) (T := (pM1 f4 P, f11, f12)) (fun j hj => by have := s5 j hj; omega) (fun j hj => by have := s6 j hj; omega) ⟨b3, b4⟩ Dn (Nat.le_refl _)
  refine ⟨⟨pDist_B b1 s1.2, pOff_B (T := (pM1 f4 P, f11, f12)) (pM1_B b2 P) Dn (by omega), b5.1, b5.2⟩, fun j hj => dist_eq s5 s6 s1.1 f3 _ j hj, ways_eq s5 s6 s8 _⟩
theorem op_B {op : Nat → Int} (h : ∀ j, op j = 0 ∨ op j = 1) : gB op := fun j => by have := h j; omega
/-- the bound of both -/
theorem qSum_le {f : Nat → Int} : ∀ {n : Nat}, (∀ k, k < n → 0 ≤ f k) → ∀ i, i < n → f i ≤ qSum f n := by
  intro n
  induction n with
  | zero => intro _ i hi; omega
  | succ n ih =>
    intro h i hi
    show f i ≤ qSum f n + f n
    rcases Nat.lt_or_ge i n with h9 | h9
    · have := ih (fun k hk => h k (by omega)) i h9
      have := h n (by omega)
      omega
    · have : i = n := by omega
      subst this
      have : 0 ≤ qSum f i := by
        clear ih hi h9
        have key : ∀ m, m ≤ i → 0 ≤ qSum f m := by
          intro m
          induction m with
          | zero => intro _; exact Int.le_refl _
          | succ m ih =>
            intro hm
            have := ih (by omega)
            have := h m (by omega)
            show 0 ≤ qSum f m + f m
            omega
        exact key i (Nat.le_refl _)
      omega
theorem pSum_ne {f : Nat → Int} : ∀ {n : Nat}, pSum f n ≠ 0 → ∃ k, 1 ≤ k ∧ k < n ∧ f k ≠ 0 := by
  intro n
  induction n with
  | zero => intro h; exact absurd rfl h
  | succ n ih =>
    intro h
    rcases Nat.eq_zero_or_pos n with rfl | h1
    · exact absurd rfl h
    · rw [pSum_s _ h1] at h
      by_cases hz : f n = 0
      · obtain ⟨k, k1, k2, k3⟩ := ih (by omega)
        exact ⟨k, k1, by omega, k3⟩
      · exact ⟨n, h1, by omega, hz⟩
theorem flow_eq {di far one oth op fl : Nat → Int} {P Dn : Nat} (he : ∀ j : Nat, j < Dn → 0 ≤ one j ∧ one j < P) (he2 : ∀ j : Nat, j < Dn → 0 ≤ oth j ∧ oth j < P) (hd : ∀ j, j < P → di j = far j) (d : Int) : pFlow di one oth op fl d Dn = qSum (mFl far one oth op fl d) Dn := by
  refine qSum_c (fun k hk => ?_)
  have q1 := he k hk
  have q2 := he2 k hk
  rw [hd _ (by omega), hd _ (by omega)]
  unfold mFl
  have c := mMin_c (far (one k).toNat) (far (oth k).toNat)
  by_cases h : ((far (one k).toNat = d ∧ far (oth k).toNat = d - 1) ∨ (far (oth k).toNat = d ∧ far (one k).toNat = d - 1)) ∧ op k ≠ 0
  · rw [if_pos h, if_pos ⟨h.2, by omega, by omega⟩]
  · rw [if_neg h, if_neg (fun h9 => h ⟨by omega, h9.1⟩)]
theorem crowd_b {far pe rm : Nat → Int} {P : Nat} (h : ∀ j, 1 ≤ j → j < P → 0 ≤ pe j ∧ pe j ≤ rm j) (hr : ∀ j, 1 ≤ j → j < P → 1 ≤ rm j ∧ rm j ≤ 30) (hP : P ≤ 11) (d : Int) : 0 ≤ pCrowd far pe d P ∧ pCrowd far pe d P ≤ 330 := by
  have := pSum_b (f := fun j => if d ≤ far j then pe j else 0) (B := 30) (by omega) (n := P) (fun k h1 h2 => by
    have a1 := h k h1 h2
    have a2 := hr k h1 h2
    split <;> omega)
  unfold pCrowd
  omega
theorem flow_b {far one oth op fl : Nat → Int} {Dn : Nat} (hf : ∀ j, j < Dn → 1 ≤ fl j ∧ fl j ≤ 9) (hD : Dn ≤ 16) (d : Int) : 0 ≤ qSum (mFl far one oth op fl d) Dn ∧ qSum (mFl far one oth op fl d) Dn ≤ 144 := by
  have := qSum_b (f := mFl far one oth op fl d) (B := 9) (n := Dn) (fun k hk => by
    have := hf k hk
    unfold mFl
    split <;> omega)
  omega
theorem flow_1 {far one oth op fl pe : Nat → Int} {P Dn : Nat} {r : Int} (he : ∀ j : Nat, j < Dn → 0 ≤ one j ∧ one j < P) (he2 : ∀ j : Nat, j < Dn → 0 ≤ oth j ∧ oth j < P) (hb : gBf one oth op P Dn r far) (hf : ∀ j, j < Dn → 1 ≤ fl j ∧ fl j ≤ 9) {d : Nat} (hd : 1 ≤ d) (hc : pCrowd far pe (d : Int) P ≠ 0) : 1 ≤ qSum (mFl far one oth op fl (d : Int)) Dn := by
  obtain ⟨k, k1, k2, k3⟩ := pSum_ne hc
  have hk : (d : Int) ≤ far k := by
    by_cases h : (d : Int) ≤ far k
    · exact h
    · simp only [if_neg h] at k3; exact absurd rfl k3
  obtain ⟨j, j1, j2⟩ := gBf_chain hb (far k).toNat k k2 (by omega) d (by omega)
  obtain ⟨j', i1, i2, e, e1, e2, e3⟩ := hb.2.2.2 j j1 (by omega)
  have hfe := hf e e1
  have ht : mFl far one oth op fl (d : Int) e = fl e := by
    unfold mFl
    have c := mMin_c (far (one e).toNat) (far (oth e).toNat)
    rcases e3 with ⟨x1, x2⟩ | ⟨x1, x2⟩
    · rw [x1, x2, Int.toNat_natCast, Int.toNat_natCast] at c ⊢
      rw [if_pos ⟨e2, by omega, by omega⟩]
    · rw [x1, x2, Int.toNat_natCast, Int.toNat_natCast] at c ⊢
      rw [if_pos ⟨e2, by omega, by omega⟩]
  have := qSum_le (f := mFl far one oth op fl (d : Int)) (n := Dn) (fun k hk => by
    have := hf k hk
    unfold mFl
    split <;> omega) e e1
  omega
theorem bound_eq {di far one oth op fl pe : Nat → Int} {P Dn : Nat} {r : Int} (he : ∀ j : Nat, j < Dn → 0 ≤ one j ∧ one j < P) (he2 : ∀ j : Nat, j < Dn → 0 ≤ oth j ∧ oth j < P) (hb : gBf one oth op P Dn r far) (hf : ∀ j, j < Dn → 1 ≤ fl j ∧ fl j ≤ 9) (hd : ∀ j, j < P → di j = far j) : ∀ d, d ≤ P → pBound di one oth op fl pe P Dn d = mBound far one oth op fl pe P Dn d := by
  intro d
  induction d with
  | zero => intro _; rfl
  | succ d ih =>
    intro hdP
    rcases Nat.eq_zero_or_pos d with rfl | h1
    · rfl
    · have e1 : pCrowd di pe (d : Int) P = pCrowd far pe (d : Int) P := pSum_c (fun k _ hk => by rw [hd k hk])
      have e2 := flow_eq (op := op) (fl := fl) he he2 hd (d : Int)
      have e3 : pBd (pCrowd far pe (d : Int) P) (qSum (mFl far one oth op fl (d : Int)) Dn) (d : Int) = mNeed (pCrowd far pe (d : Int) P) (qSum (mFl far one oth op fl (d : Int)) Dn) (d : Int) := by
        unfold pBd mNeed
        by_cases hc : pCrowd far pe (d : Int) P = 0
        · rw [if_pos (Or.inl hc), if_pos hc]
        · have := flow_1 he he2 hb hf h1 hc
          rw [if_neg (by omega), if_neg hc]
      rw [pBound_s h1, mBound_s h1, ih (by omega), e1, e2, e3]
