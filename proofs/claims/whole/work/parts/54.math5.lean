/-! ===== a step of both ===== -/
theorem mBy_B {one oth : Nat → Int} (h1 : gB one) (h2 : gB oth) (e : Nat) (x : Int) : -2147483648 ≤ mBy one oth e x ∧ mBy one oth e x < 2147483648 := by
  unfold mBy
  split
  · exact h2 e
  · split
    · exact h1 e
    · omega
theorem mW_B {far one oth op pe re fl : Nat → Int} {t : Int} {Dn : Nat} {T : (Nat → Int) × (Nat → Int)} (h1 : gB one) (h2 : gB oth) (hT : gB T.2) : ∀ i, gB (mW far one oth op pe re fl t Dn T i).2 := by
  intro i
  induction i with
  | zero => exact hT
  | succ i ih =>
    rcases Nat.eq_zero_or_pos i with rfl | h
    · exact hT
    · rw [mW_s h]
      unfold mW1
      split
      · exact gu_B ih (mBy_B h1 h2 _ _)
      · exact ih
theorem pG_out {w sh tg : Nat → Int} {p : Int} {G : Nat → Int} {L : Int} : ∀ k j, k ≤ j → (pG w sh tg p G L k).1 j = G j := by
  intro k
  induction k with
  | zero => intro j _; rfl
  | succ k ih =>
    intro j hj
    unfold pG
    split
    · show gu _ k _ j = _
      rw [gu_n _ _ (by omega)]
      exact ih j (by omega)
    · exact ih j (by omega)
theorem pR_o {w sh tg : Nat → Int} {p : Int} {Dn : Nat} {G : Nat → Int} {L : Int} : ∀ n j, Dn ≤ j → (pR w sh tg p Dn G L n).1 j = G j := by
  intro n
  induction n with
  | zero => intro j _; rfl
  | succ n ih => intro j hj; exact (pG_out Dn j hj).trans (ih j hj)
theorem mA_o {w sh tg rm pe : Nat → Int} {Dn : Nat} {G : Nat → Int} : ∀ p j, Dn ≤ j → mA w sh tg rm pe Dn G p j = G j := by
  intro p
  induction p with
  | zero => intro j _; rfl
  | succ p ih => intro j hj; exact (pR_o 9 j hj).trans (ih j hj)
theorem pZ_o {G : Nat → Int} : ∀ k j, k ≤ j → pZ G k j = G j := by
  intro k
  induction k with
  | zero => intro j _; rfl
  | succ k ih =>
    intro j hj
    show gu (pZ G k) k 0 j = G j
    rw [gu_n _ _ (by omega)]
    exact ih j (by omega)
/-- what is built -/
def gSt (P Dn : Nat) (rm re one oth fl sh op : Nat → Int) : Prop :=
  (1 ≤ P ∧ P ≤ 11) ∧ Dn ≤ 16 ∧ (∀ j, 1 ≤ j → j < P → 1 ≤ rm j ∧ rm j ≤ 30) ∧ (∀ j, 0 ≤ re j ∧ re j ≤ 1000) ∧ (∀ j, j < Dn → 0 ≤ one j ∧ one j < P) ∧ (∀ j, j < Dn → 0 ≤ oth j ∧ oth j < P) ∧ (gB one ∧ gB oth ∧ gB fl) ∧
    (∀ j, j < Dn → one j ≠ oth j) ∧ (∀ j, j < Dn → (1 ≤ fl j ∧ fl j ≤ 9) ∧ 1 ≤ sh j ∧ sh j ≤ 5) ∧ ∀ j, op j = 0 ∨ op j = 1
/-- the ways that the class keeps -/
def gXw (P Dn : Nat) (one oth op f3 f4 f11 f12 : Nat → Int) : Prop :=
  (gB f3 ∧ gB f4 ∧ gB f11 ∧ gB f12) ∧ (∀ j, j < P → f3 j = mDist one oth op P Dn (fun _ => 0) j) ∧ gWy f3 one oth op P Dn (f4, f11, f12)
/-- the two states, side by side -/
def gSS (P : Nat) (rm : Nat → Int) (n1 n2 : Int) (SX : xS) (SM : mS) : Prop :=
  SX.1 = SM.1 ∧ SX.2.1 = SM.2.1 ∧ SX.2.2.2.1 = SM.2.2.2.2.2.2.1 ∧ SX.2.2.2.2.1 = SM.2.2.2.2.2.2.2.1 ∧ SX.2.2.2.2.2 = SM.2.2.2.2.2.2.2.2 ∧ (gB SM.2.2.1 ∧ gB SM.2.2.2.2.1 ∧ gB SM.2.2.2.2.2.1) ∧
    (∀ j, 1 ≤ j → j < P → 0 ≤ SX.1 j ∧ SX.1 j ≤ rm j) ∧ (0 ≤ SX.1 0 ∧ SX.1 0 ≤ n1) ∧ (0 ≤ SX.2.2.2.1 ∧ SX.2.2.2.1 ≤ n2 ∧ 0 ≤ SX.2.2.2.2.2 ∧ SX.2.2.2.2.2 ≤ 330 * SX.2.2.2.1) ∧ (-1 ≤ SX.2.2.2.2.1 ∧ SX.2.2.2.2.1 ≤ n2) ∧ ∀ j, P ≤ j → SX.1 j = 0
set_option maxHeartbeats 4000000 in
theorem step_rel {P Dn : Nat} {rm re one oth fl sh op f3 f4 f11 f12 : Nat → Int} (hs : gSt P Dn rm re one oth fl sh op) (hw : gXw P Dn one oth op f3 f4 f11 f12) {n1 n2 : Int} (hn : n1 ≤ 1000000000 ∧ n2 ≤ 1000000000) {SX : xS} {SM : mS} (h : gSS P rm n1 n2 SX SM) :
    gSS P rm (n1 + 144) (n2 + 1) (xStep P Dn rm re fl sh f11 f12 SX) (mStep P Dn rm re one oth fl sh op SM) ∧ xOk P Dn rm re fl sh f11 f12 SX ∧ mOk P Dn rm re one oth fl sh op SM ∧ xMv P Dn rm re fl sh f11 f12 SX = mMv P Dn rm re one oth fl sh op SM ∧ (0 ≤ mMv P Dn rm re one oth fl sh op SM ∧ mMv P Dn rm re one oth fl sh op SM ≤ 144) ∧ (∀ e, e < Dn → xGS P Dn rm re fl sh f11 f12 SX e = mGS P Dn rm re one oth fl sh op SM e ∧ 0 ≤ mGS P Dn rm re one oth fl sh op SM e ∧ mGS P Dn rm re one oth fl sh op SM e ≤ 9) := by
  obtain ⟨pe, pa, g13, t, la, wa⟩ := SX
  obtain ⟨pe', pa', far, wi, gr, go0, t', lo, wa'⟩ := SM
  obtain ⟨e1, e2, e3, e4, e5, ⟨b1, b2, b3⟩, h1, h2, h3, h4, h5⟩ := h
  dsimp only at e1 e2 e3 e4 e5 b1 b2 b3 h1 h2 h3 h4 h5
  subst e1 e2 e3 e4 e5
  obtain ⟨s1, s2, s3, s4, s5, s6, ⟨s7, s7b, s7c⟩, s8, s9, s10⟩ := hs
  obtain ⟨⟨w1, w2, w3, w4⟩, w5, w6⟩ := hw
  -- names
  generalize hfar1 : mDist one oth op P Dn far = far1
  have hfe : ∀ j, j < P → f3 j = far1 j := fun j hj => by rw [w5 j hj, ← hfar1]; exact mdist_eq s5 s6 _ _ j hj
  have hf0 : far1 0 = 0 := by rw [← hfar1]; exact (mdist_bf (op := op) s5 s6 s1.1 far).1
  have hg := wish_eq (pe := pe) (re := re) (fl := fl) (t := t) s5 s6 s8 hfe hf0 s1.1 w6 wi go0
  have hwb := pWish_B (P := (P : Int)) (t := t) (pe := pe) (re := re) (fl := fl) (sr := f11) (Dn := Dn) (fun j hj h9 => (h1 j h9 (by omega)).1) h2.1 (fun j hj => (s9 j hj).1)
  have hgoB : gB (mW far1 one oth op pe re fl t Dn (pZ wi Dn, pM1 go0 Dn) P).2 := mW_B s7 s7b (pM1_B b3 Dn) P
  change gWG far1 one oth op pe re fl f11 f12 (pWish (P : Int) t pe re fl f11) _ _ t P Dn at hg
  generalize hw' : (mW far1 one oth op pe re fl t Dn (pZ wi Dn, pM1 go0 Dn) P).1 = w' at hg
  generalize hgo : (mW far1 one oth op pe re fl t Dn (pZ wi Dn, pM1 go0 Dn) P).2 = go at hg hgoB
  have hww : ∀ e, e < Dn → pWish (P : Int) t pe re fl f11 e = w' e := fun e he => (hg e he).1
  have hw9 : ∀ e, e < Dn → 0 ≤ w' e ∧ w' e ≤ 9 := fun e he => by rw [← hww e he]; exact hwb e he
  have htg : ∀ e, e < Dn → (w' e = 0 ∧ go e = -1) ∨ f12 e = go e := fun e he => by
    rcases (hg e he).2 with z | ⟨a, b, x1, x2, x3, x4, x5, x6, x7, -⟩
    · exact Or.inl z
    · exact Or.inr (by rw [x6, x7])
  have hrX : ∀ p : Nat, p < P → 0 ≤ pRoom rm pe p ∧ pRoom rm pe p < 2147483648 := fun p hp => by
    unfold pRoom
    split
    · omega
    · have a1 := h1 p (by omega) hp
      have a2 := s3 p (by omega) hp
      omega
  have hrM : ∀ p : Nat, p < P → 0 ≤ mRoom rm pe p ∧ mRoom rm pe p < 2147483648 := fun p hp => by
    unfold mRoom
    split
    · omega
    · have a1 := h1 p (by omega) hp
      have a2 := s3 p (by omega) hp
      omega
  have hzX : ∀ j, j < Dn → (0 ≤ pZ g13 Dn j ∧ pZ g13 Dn j ≤ pWish (P : Int) t pe re fl f11 j) ∧ pWish (P : Int) t pe re fl f11 j ≤ 9 ∧ 1 ≤ sh j ∧ sh j ≤ 5 := fun j hj => by
    have a1 := hwb j hj
    have a2 := s9 j hj
    rw [pZ_0 Dn j hj]
    omega
  have hzM : ∀ j, j < Dn → (0 ≤ pZ gr Dn j ∧ pZ gr Dn j ≤ w' j) ∧ w' j ≤ 9 ∧ 1 ≤ sh j ∧ sh j ≤ 5 := fun j hj => by
    have a1 := hw9 j hj
    have a2 := s9 j hj
    rw [pZ_0 Dn j hj]
    omega
  have hGG := pA_rel (tg := f12) (G := pZ g13 Dn) (G' := pZ gr Dn) s2 hww htg (fun e he => by rw [pZ_0 Dn e he, pZ_0 Dn e he]) hzX hzM hrX hrM P (Nat.le_refl _)
  have hGb := mA_inv (tg := go) hzM hrM P (Nat.le_refl _)
  have hTS := (gTS_mA (go := go) (w := w') (sh := sh) (rm := rm) (pe := pe) (fun e he => pZ_0 (G := gr) Dn e he) hzM hrM P (Nat.le_refl _)).1
  have hgGI : ∀ pl : Nat, pl < P → gGI w' sh (mA w' sh go rm pe Dn (pZ gr Dn) pl) (mRoom rm pe pl) Dn := fun pl hpl => mA_gGI (tg := go) hzM hrM hpl
  have hGo : ∀ j, Dn ≤ j → mA w' sh go rm pe Dn (pZ gr Dn) P j = gr j := fun j hj => (mA_o P j hj).trans (pZ_o Dn j hj)
  generalize hGM : mA w' sh go rm pe Dn (pZ gr Dn) P = G at hGG hGb hTS hGo
  generalize hGX : pA (pWish (P : Int) t pe re fl f11) sh f12 rm pe Dn (pZ g13 Dn) P = GX at hGG
  have hGb2 : ∀ e, e < Dn → 0 ≤ G e ∧ G e ≤ w' e := fun e he => (hGb e he).1
  have hGB : gB G := fun j => by
    rcases Nat.lt_or_ge j Dn with h9 | h9
    · have a1 := hGb2 j h9
      have a2 := hw9 j h9
      omega
    · rw [hGo j h9]
      exact b2 j
  have hact : ∀ e, e < Dn → 0 < G e → ∃ a b : Nat, 1 ≤ a ∧ a < P ∧ b < P ∧ a ≠ b ∧ go e = (b : Int) ∧ mDo far1 one oth op a Dn = (e : Int) ∧ mBy one oth e (go e) = (a : Int) ∧ G e ≤ pe a := fun e he h9 => by
    have a1 := hGb2 e he
    rcases (hg e he).2 with ⟨z1, z2⟩ | ⟨a, b, x1, x2, x3, x4, x5, x6, x7, x8, x9, x10⟩
    · omega
    · have c1 := pMin_c (pe a) (fl e)
      exact ⟨a, b, x1, x2, x3, x4, x7, x8, by rw [x7]; exact x9, by omega⟩
  have hmv := move_eq hg hGG hGb2 pe Dn (Nat.le_refl _)
  have hps := pass_eq hg hGG hGb2 pa Dn (Nat.le_refl _)
  have hmd := moved_eq hg hGG hGb2 (fun e he => (hw9 e he).2) Dn (Nat.le_refl _)
  have hio := move_io (one := one) (oth := oth) (go := go) (G := G) (f := pe) Dn (fun e he => ⟨(hGb2 e he).1, fun h9 => by
    obtain ⟨a, b, x1, x2, x3, x4, x5, x6, x7, x8⟩ := hact e he h9
    omega⟩)
  have hla := last_io (go := go) (G := G) (t := t) (lo := la) Dn (fun e he => (hGb2 e he).1)
  have hin0 := qSum_b (f := fun e => if go e = 0 then G e else 0) (B := 9) (n := Dn) (fun e he => by
    have a1 := hGb2 e he
    have a2 := hw9 e he
    split <;> omega)
  have hout0 : qSum (fun e => if 0 < G e ∧ mBy one oth e (go e) = ((0 : Nat) : Int) then G e else 0) Dn = 0 := qSum_0 (fun e he => by
    split
    · rename_i h9
      obtain ⟨a, b, x1, x2, x3, x4, x5, x6, x7, x8⟩ := hact e he h9.1
      omega
    · rfl)
  have hm0 : mMove one oth go G pe Dn 0 = pe 0 + qSum (fun e => if go e = 0 then G e else 0) Dn := by
    have a1 := hio 0
    rw [hout0] at a1
    have a2 : qSum (fun e => if go e = ((0 : Nat) : Int) then G e else 0) Dn = qSum (fun e => if go e = 0 then G e else 0) Dn := rfl
    omega
  have hnew : ∀ j, 1 ≤ j → j < P → 0 ≤ mMove one oth go G pe Dn j ∧ mMove one oth go G pe Dn j ≤ rm j := fun j hj1 hjP => by
    have a1 := hio j
    have a2 := hTS j hjP
    have a3 : mRoom rm pe j = rm j - pe j := if_neg (by omega)
    have a4 := h1 j hj1 hjP
    have a5 := qSum_b (f := fun e => if go e = (j : Int) then G e else 0) (B := 9) (n := Dn) (fun e he => by
      have c1 := hGb2 e he
      have c2 := hw9 e he
      split <;> omega)
    have a6 : qSum (fun e => if 0 < G e ∧ mBy one oth e (go e) = (j : Int) then G e else 0) Dn ≤ pe j := qSum_1 a4.1 (fun e he => by
      have c1 := hGb2 e he
      split
      · rename_i h9
        obtain ⟨a, b, x1, x2, x3, x4, x5, x6, x7, x8⟩ := hact e he h9.1
        have : a = j := by omega
        subst this
        omega
      · omega) (fun e k he hk p1 p2 => by
      have q1 : 0 < G e ∧ mBy one oth e (go e) = (j : Int) := by
        by_cases c : 0 < G e ∧ mBy one oth e (go e) = (j : Int)
        · exact c
        · simp only [if_neg c] at p1; omega
      have q2 : 0 < G k ∧ mBy one oth k (go k) = (j : Int) := by
        by_cases c : 0 < G k ∧ mBy one oth k (go k) = (j : Int)
        · exact c
        · simp only [if_neg c] at p2; omega
      obtain ⟨a, b, x1, x2, x3, x4, x5, x6, x7, x8⟩ := hact e he q1.1
      obtain ⟨a', b', y1, y2, y3, y4, y5, y6, y7, y8⟩ := hact k hk q2.1
      have e1 : a = j := by omega
      have e2 : a' = j := by omega
      subst e1
      subst e2
      omega)
    have a7 : 0 ≤ qSum (fun e => if 0 < G e ∧ mBy one oth e (go e) = (j : Int) then G e else 0) Dn := (qSum_b (B := 9) (fun e he => by
      have c1 := hGb2 e he
      have c2 := hw9 e he
      split <;> omega)).1
    have a8 : gTS go (j : Int) Dn G = qSum (fun e => if go e = (j : Int) then G e else 0) Dn := rfl
    omega
  have hbeyond : ∀ j, P ≤ j → mMove one oth go G pe Dn j = 0 := fun j hj => by
    have a1 := hio j
    have a2 : qSum (fun e => if go e = (j : Int) then G e else 0) Dn = 0 := qSum_0 (fun e he => by
      split
      · rename_i h9
        rcases (hg e he).2 with ⟨z1, z2⟩ | ⟨a, b, x1, x2, x3, x4, x5, x6, x7, x8⟩
        · omega
        · omega
      · rfl)
    have a3 : qSum (fun e => if 0 < G e ∧ mBy one oth e (go e) = (j : Int) then G e else 0) Dn = 0 := qSum_0 (fun e he => by
      split
      · rename_i h9
        obtain ⟨a, b, x1, x2, x3, x4, x5, x6, x7, x8⟩ := hact e he h9.1
        omega
      · rfl)
    have a4 := h5 j hj
    omega
  have hps0 := pSum_b (f := pe) (B := 30) (by omega) (n := P) (fun k hk1 hk2 => by
    have a1 := h1 k hk1 hk2
    have a2 := s3 k hk1 hk2
    omega)
  have hD16 : (Dn : Int) ≤ 16 := by omega
  have eFS : mFS P Dn rm re one oth fl sh op (pe, pa, far, wi, gr, go0, t, la, wa) = far1 := hfar1
  have eW1 : (mWS P Dn rm re one oth fl sh op (pe, pa, far, wi, gr, go0, t, la, wa)).1 = w' := by unfold mWS; rw [eFS]; exact hw'
  have eW2 : (mWS P Dn rm re one oth fl sh op (pe, pa, far, wi, gr, go0, t, la, wa)).2 = go := by unfold mWS; rw [eFS]; exact hgo
  have eG : mGS P Dn rm re one oth fl sh op (pe, pa, far, wi, gr, go0, t, la, wa) = G := by unfold mGS; rw [eW1, eW2]; exact hGM
  have eGX : xGS P Dn rm re fl sh f11 f12 (pe, pa, g13, t, la, wa) = GX := hGX
  have ePe : mPe P Dn rm re one oth fl sh op (pe, pa, far, wi, gr, go0, t, la, wa) = mMove one oth go G pe Dn := by unfold mPe; rw [eW2, eG]
  refine ⟨⟨?_, ?_, rfl, ?_, ?_, ⟨?_, ?_, ?_⟩, ?_, ?_, ?_, ?_, ?_⟩, ⟨⟨?_, ?_⟩, ?_, ?_, ?_, ?_, ?_⟩, ⟨⟨⟨?_, ?_⟩, ?_, b1, ?_, ?_⟩, ?_, ?_, ?_, ?_⟩, ?_, ?_, ?_⟩
  · show pMove (P : Int) f11 f12 (xGS P Dn rm re fl sh f11 f12 (pe, pa, g13, t, la, wa)) pe Dn = mPe P Dn rm re one oth fl sh op (pe, pa, far, wi, gr, go0, t, la, wa)
    rw [eGX, ePe]; exact hmv
  · show pPass (P : Int) f11 f12 (xGS P Dn rm re fl sh f11 f12 (pe, pa, g13, t, la, wa)) pa Dn = mPass (mGS P Dn rm re one oth fl sh op (pe, pa, far, wi, gr, go0, t, la, wa)) pa Dn
    rw [eGX, eG]; exact hps
  · show (if pe 0 < pMove (P : Int) f11 f12 (xGS P Dn rm re fl sh f11 f12 (pe, pa, g13, t, la, wa)) pe Dn 0 then t + 1 else la) = mLast (mWS P Dn rm re one oth fl sh op (pe, pa, far, wi, gr, go0, t, la, wa)).2 (mGS P Dn rm re one oth fl sh op (pe, pa, far, wi, gr, go0, t, la, wa)) t la Dn
    rw [eGX, eW2, eG, hmv, hm0]
    rcases hla with ⟨a1, a2⟩ | ⟨a1, a2⟩
    · rw [a1, if_pos (by omega)]
    · rw [a1, if_neg (by omega)]
  · show wa + pSum (pMove (P : Int) f11 f12 (xGS P Dn rm re fl sh f11 f12 (pe, pa, g13, t, la, wa)) pe Dn) P = wa + pSum (mPe P Dn rm re one oth fl sh op (pe, pa, far, wi, gr, go0, t, la, wa)) P
    rw [eGX, ePe, hmv]
  · show gB (mFS P Dn rm re one oth fl sh op (pe, pa, far, wi, gr, go0, t, la, wa))
    unfold mFS
    exact mDist_B b1 s1.2
  · show gB (mGS P Dn rm re one oth fl sh op (pe, pa, far, wi, gr, go0, t, la, wa))
    rw [eG]; exact hGB
  · show gB (mWS P Dn rm re one oth fl sh op (pe, pa, far, wi, gr, go0, t, la, wa)).2
    rw [eW2]; exact hgoB
  · show ∀ j, 1 ≤ j → j < P → 0 ≤ pMove (P : Int) f11 f12 (xGS P Dn rm re fl sh f11 f12 (pe, pa, g13, t, la, wa)) pe Dn j ∧ pMove (P : Int) f11 f12 (xGS P Dn rm re fl sh f11 f12 (pe, pa, g13, t, la, wa)) pe Dn j ≤ rm j
    rw [eGX, hmv]; exact hnew
  · show 0 ≤ pMove (P : Int) f11 f12 (xGS P Dn rm re fl sh f11 f12 (pe, pa, g13, t, la, wa)) pe Dn 0 ∧ pMove (P : Int) f11 f12 (xGS P Dn rm re fl sh f11 f12 (pe, pa, g13, t, la, wa)) pe Dn 0 ≤ n1 + 144
    rw [eGX, hmv, hm0]; omega
  · show 0 ≤ t + 1 ∧ t + 1 ≤ n2 + 1 ∧ 0 ≤ wa + pSum (pMove (P : Int) f11 f12 (xGS P Dn rm re fl sh f11 f12 (pe, pa, g13, t, la, wa)) pe Dn) P ∧ wa + pSum (pMove (P : Int) f11 f12 (xGS P Dn rm re fl sh f11 f12 (pe, pa, g13, t, la, wa)) pe Dn) P ≤ 330 * (t + 1)
    rw [eGX, hmv]
    have hps1 := pSum_b (f := mMove one oth go G pe Dn) (B := 30) (by omega) (n := P) (fun k hk1 hk2 => by
      have a1 := hnew k hk1 hk2
      have a2 := s3 k hk1 hk2
      omega)
    omega
  · show -1 ≤ (if pe 0 < pMove (P : Int) f11 f12 (xGS P Dn rm re fl sh f11 f12 (pe, pa, g13, t, la, wa)) pe Dn 0 then t + 1 else la) ∧ (if pe 0 < pMove (P : Int) f11 f12 (xGS P Dn rm re fl sh f11 f12 (pe, pa, g13, t, la, wa)) pe Dn 0 then t + 1 else la) ≤ n2 + 1
    split <;> omega
  · show ∀ j, P ≤ j → pMove (P : Int) f11 f12 (xGS P Dn rm re fl sh f11 f12 (pe, pa, g13, t, la, wa)) pe Dn j = 0
    rw [eGX, hmv]; exact hbeyond
  · show -2147483648 ≤ t; omega
  · show t < 2147483647; omega
  · intro j hj1 hj2
    have a1 := h1 j hj1 hj2
    have a2 := s3 j hj1 hj2
    exact ⟨a1.1, a1.2, a2.2⟩
  · show 0 ≤ pe 0 ∧ pe 0 < 1073741824; omega
  · show -2147483648 ≤ pMove (P : Int) f11 f12 (xGS P Dn rm re fl sh f11 f12 (pe, pa, g13, t, la, wa)) pe Dn 0 ∧ pMove (P : Int) f11 f12 (xGS P Dn rm re fl sh f11 f12 (pe, pa, g13, t, la, wa)) pe Dn 0 < 2147483648
    rw [eGX, hmv, hm0]; omega
  · show -2147483648 ≤ pMoved (P : Int) f11 f12 (xGS P Dn rm re fl sh f11 f12 (pe, pa, g13, t, la, wa)) Dn ∧ pMoved (P : Int) f11 f12 (xGS P Dn rm re fl sh f11 f12 (pe, pa, g13, t, la, wa)) Dn < 2147483648
    rw [eGX, hmd.1]; omega
  · show -2147483648 ≤ pSum pe P ∧ pSum pe P < 2147483648
    omega
  · show -2147483648 ≤ t; omega
  · show t < 2147483647; omega
  · intro j hj1 hj2
    have a1 := h1 j hj1 hj2
    have a2 := s3 j hj1 hj2
    exact ⟨a1.1, a1.2, a2.2⟩
  · rw [eW1, eW2]; exact hgGI
  · rw [eW2]; exact hgoB
  · rw [eG]; exact hGB
  · rw [eG, eW2]
    intro k hk h9
    obtain ⟨a, b, x1, x2, x3, x4, x5, x6, x7, x8⟩ := hact k hk h9
    omega
  · show -2147483648 ≤ mMoved (mGS P Dn rm re one oth fl sh op (pe, pa, far, wi, gr, go0, t, la, wa)) Dn ∧ mMoved (mGS P Dn rm re one oth fl sh op (pe, pa, far, wi, gr, go0, t, la, wa)) Dn < 2147483648
    rw [eG]; omega
  · show -2147483648 ≤ pSum pe P ∧ pSum pe P < 2147483648
    omega
  · show pMoved (P : Int) f11 f12 (xGS P Dn rm re fl sh f11 f12 (pe, pa, g13, t, la, wa)) Dn = mMoved (mGS P Dn rm re one oth fl sh op (pe, pa, far, wi, gr, go0, t, la, wa)) Dn
    rw [eGX, eG]; exact hmd.1
  · show 0 ≤ mMoved (mGS P Dn rm re one oth fl sh op (pe, pa, far, wi, gr, go0, t, la, wa)) Dn ∧ mMoved (mGS P Dn rm re one oth fl sh op (pe, pa, far, wi, gr, go0, t, la, wa)) Dn ≤ 144
    rw [eG]; omega
  · rw [eGX, eG]
    intro e he
    have a1 := hGb2 e he
    have a2 := hw9 e he
    exact ⟨hGG e he, a1.1, by omega⟩
