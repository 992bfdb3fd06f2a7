/-! ===== the two worlds, related; each call keeps them so ===== -/
def gRW (cI cZ : ClassId) (q qm : Nat) (r rm' : Nat → Nat) (n : Nat) (wX wM : va_W) : Prop :=
  ∃ (P Dn : Nat) (rm re one oth fl sh op f3 f4 f11 f12 : Nat → Int) (SX : xS) (SM : mS) (th : Int), gSt P Dn rm re one oth fl sh op ∧ gXw P Dn one oth op f3 f4 f11 f12 ∧ gSS P rm (43200 * (n : Int)) (300 * (n : Int)) SX SM ∧
    wX = gX cI cZ q r [(P : Int), (Dn : Int), SX.2.2.2.1, SX.2.2.2.2.1, SX.2.2.2.2.2] [rm, SX.1, re, f3, f4, one, oth, fl, sh, op, SX.2.1, f11, f12, SX.2.2.1] ∧
    wM = gM cI cZ qm rm' [th, (P : Int), (Dn : Int), SM.2.2.2.2.2.2.1, SM.2.2.2.2.2.2.2.1, SM.2.2.2.2.2.2.2.2] [rm, SM.1, re, one, oth, fl, sh, op, SM.2.1, SM.2.2.1, SM.2.2.2.1, SM.2.2.2.2.1, SM.2.2.2.2.2.1]
/-- a call through a wrapper -/
def gOpW (l : Launch) (D : va_G) (cI cZ cL : ClassId) (o q qm : Nat) (r rm' : Nat → Nat) (fL : Nat → Int64) (yL : MethodName) (wsL : List Cond) (yM : MethodName) (wsM : List Cond) (av : List Value) (n : Nat) (wX wM : va_W) (pr : Int → Prop) : Prop :=
  ∃ (k9 bv : Int) (fL' : Nat → Int64) (wX' wM' : va_W), (0 ≤ k9 ∧ k9 ≤ 3) ∧ (k9 = 0 → fL' 0 = (iI bv).toInt64) ∧ pr bv ∧ gMW l yL wsL D (gTyL cI cZ cL) (gO cL o fL :: wX) (.ref q :: (av ++ [.ref o])) k9 (gO cL o fL' :: wX') ∧ gMI l yM wsM 6 D (gTy cI cZ) wM (.ref qm :: av) bv wM' ∧ gMI l yX1_thrown wsX1_thrown 6 D (gTy cI cZ) wM' [.ref qm] k9 wM' ∧ gRW cI cZ q qm r rm' (n + 1) wX' wM'
/-- a call of both -/
def gOpD (l : Launch) (D : va_G) (cI cZ : ClassId) (q qm : Nat) (r rm' : Nat → Nat) (yX : MethodName) (wsX : List Cond) (lam : Nat) (yM : MethodName) (wsM : List Cond) (n : Nat) (wX wM : va_W) : Prop :=
  ∃ (v : Int) (wX' wM' : va_W), (-2147483648 ≤ v ∧ v < 2147483648) ∧ gMI l yX wsX lam D (gTy cI cZ) wX [.ref q] v wX' ∧ gMI l yM wsM 6 D (gTy cI cZ) wM [.ref qm] v wM' ∧ gRW cI cZ q qm r rm' (n + 1) wX' wM'
section OPS
variable {l : Launch} {D : va_G} {cI cZ cL : ClassId} {o q qm : Nat} {r rm' : Nat → Nat} {fL : Nat → Int64} {n : Nat} {wX wM : va_W}
theorem gUpd (fL : Nat → Int64) (x : Int64) : vp_updL fL 0 x 0 = x := if_pos rfl
theorem gRW_he (h : gRW cI cZ q qm r rm' n wX wM) : ∃ fs, wX[0]? = some (q, .inr (0, fs)) := by
  obtain ⟨P, Dn, rm, re, one, oth, fl, sh, op, f3, f4, f11, f12, SX, SM, th, -, -, -, rfl, -⟩ := h
  exact ⟨_, rfl⟩
theorem gRW_hm (h : gRW cI cZ q qm r rm' n wX wM) : ∃ fs, wM[0]? = some (qm, .inr (1, fs)) := by
  obtain ⟨P, Dn, rm, re, one, oth, fl, sh, op, f3, f4, f11, f12, SX, SM, th, -, -, -, -, rfl⟩ := h
  exact ⟨_, rfl⟩
theorem gSS_n {P : Nat} {rm : Nat → Int} {SX : xS} {SM : mS} (h : gSS P rm (43200 * (n : Int)) (300 * (n : Int)) SX SM) : gSS P rm (43200 * ((n + 1 : Nat) : Int)) (300 * ((n + 1 : Nat) : Int)) SX SM := gSS_up h (by omega) (by omega)
set_option maxHeartbeats 4000000 in
theorem op_addPlace (hfl : l.stackTraces = false) (h : gRW cI cZ q qm r rm' n wX wM) {x : Int} (hg : -2147483648 ≤ x ∧ x < 2147483648) : gOpW l D cI cZ cL o q qm r rm' fL yL_addPlace wsL_addPlace yX1_addPlace wsX1_addPlace [.int (iI x)] n wX wM (fun _ => True) := by
  obtain ⟨P, Dn, rm, re, one, oth, fl, sh, op, f3, f4, f11, f12, ⟨pe, pa, g13, t, la, wa⟩, ⟨pe', pa', far, wi, gr, go, t', lo, wa'⟩, th, hs, hw, hS, rfl, rfl⟩ := h
  obtain ⟨e1, e2, e3, e4, e5, eB, h1, h2, h3, h4, h5⟩ := id hS
  dsimp only at e1 e2 e3 e4 e5 eB h1 h2 h3 h4 h5
  subst e1 e2 e3 e4 e5
  have hs' := hs
  obtain ⟨s1, s2, s3, s4, s5, s6, ⟨s7, s7b, s7c⟩, s8, s9, s10⟩ := hs'
  by_cases hx : 1 ≤ x ∧ x ≤ 30
  · by_cases hP : P = 11
    · exact ⟨2, 0, _, _, _, by omega, fun h9 => by omega, trivial, wL_addPlace2 rfl (tX_addPlace2 hfl hx s1 hP), cM_addPlace2 hx hP, cM_thrown, ⟨P, Dn, rm, re, one, oth, fl, sh, op, f3, f4, f11, f12, _, _, _, hs, hw, gSS_n hS, rfl, rfl⟩⟩
    · have hs2 : gSt (P + 1) Dn (gu rm P x) re one oth fl sh op := by
        refine ⟨by omega, s2, fun j hj1 hj2 => ?_, s4, fun j hj => by have := s5 j hj; omega, fun j hj => by have := s6 j hj; omega, ⟨s7, s7b, s7c⟩, s8, s9, s10⟩
        unfold gu
        split
        · omega
        · exact s3 j hj1 (by omega)
      refine ⟨0, (P : Int), _, _, _, by omega, fun _ => gUpd _ _, trivial, wL_addPlace0 rfl (cX_addPlace s1 s2 (by omega) hx hw.1.1 hw.1.2.1 (op_B s10) s5 s6), cM_addPlace0 s1 (by omega) hx, cM_thrown, ⟨P + 1, Dn, gu rm P x, re, one, oth, fl, sh, op, _, _, _, _, (pe, pa, g13, t, la, wa), (pe, pa, far, wi, gr, go, t, la, wa), 0, hs2, xw_new hs2 ⟨hw.1.1, hw.1.2.1, hw.1.2.2.1, hw.1.2.2.2⟩, ?_, rfl, rfl⟩⟩
      refine gSS_n ⟨rfl, rfl, rfl, rfl, rfl, eB, fun j hj1 hj2 => ?_, h2, h3, h4, fun j hj => h5 j (by omega)⟩
      show 0 ≤ pe j ∧ pe j ≤ gu rm P x j
      unfold gu
      split
      · rename_i e
        rw [e, h5 P (Nat.le_refl _)]
        omega
      · exact h1 j hj1 (by omega)
  · exact ⟨1, 0, _, _, _, by omega, fun h9 => by omega, trivial, wL_addPlace1 rfl (tX_addPlace1 hfl hg (by omega)), cM_addPlace1 hg (by omega), cM_thrown, ⟨P, Dn, rm, re, one, oth, fl, sh, op, f3, f4, f11, f12, _, _, _, hs, hw, gSS_n hS, rfl, rfl⟩⟩
set_option maxHeartbeats 4000000 in
theorem op_addDoor (hfl : l.stackTraces = false) (h : gRW cI cZ q qm r rm' n wX wM) {x y z v : Int} (hgx : -2147483648 ≤ x ∧ x < 2147483648) (hgy : -2147483648 ≤ y ∧ y < 2147483648) (hgz : -2147483648 ≤ z ∧ z < 2147483648) (hgv : -2147483648 ≤ v ∧ v < 2147483648) : gOpW l D cI cZ cL o q qm r rm' fL yL_addDoor wsL_addDoor yX1_addDoor wsX1_addDoor [.int (iI x), .int (iI y), .int (iI z), .int (iI v)] n wX wM (fun _ => True) := by
  obtain ⟨P, Dn, rm, re, one, oth, fl, sh, op, f3, f4, f11, f12, ⟨pe, pa, g13, t, la, wa⟩, ⟨pe', pa', far, wi, gr, go, t', lo, wa'⟩, th, hs, hw, hS, rfl, rfl⟩ := h
  obtain ⟨e1, e2, e3, e4, e5, eB, h1, h2, h3, h4, h5⟩ := id hS
  dsimp only at e1 e2 e3 e4 e5 eB h1 h2 h3 h4 h5
  subst e1 e2 e3 e4 e5
  have hs' := hs
  obtain ⟨s1, s2, s3, s4, s5, s6, ⟨s7, s7b, s7c⟩, s8, s9, s10⟩ := hs'
  by_cases hxy : 0 ≤ x ∧ x < P ∧ 0 ≤ y ∧ y < P
  · by_cases hz : x ≠ y ∧ 1 ≤ z ∧ z ≤ 9 ∧ 1 ≤ v ∧ v ≤ 5
    · by_cases hD : Dn = 16
      · exact ⟨3, 0, _, _, _, by omega, fun h9 => by omega, trivial, wL_addDoor3 rfl (tX_addDoor3 hfl hgx hgy hgz hgv s1 s2 (by omega) (by omega) hz hD), cM_addDoor3 hgx hgy hgz hgv s1 s2 (by omega) (by omega) hz hD, cM_thrown, ⟨P, Dn, rm, re, one, oth, fl, sh, op, f3, f4, f11, f12, _, _, _, hs, hw, gSS_n hS, rfl, rfl⟩⟩
      · have hs2 : gSt P (Dn + 1) rm re (gu one Dn x) (gu oth Dn y) (gu fl Dn z) (gu sh Dn v) (gu op Dn 1) := by
          refine ⟨s1, by omega, s3, s4, fun j hj => ?_, fun j hj => ?_, ⟨gu_B s7 hgx, gu_B s7b hgy, gu_B s7c hgz⟩, fun j hj => ?_, fun j hj => ?_, fun j => ?_⟩
          · unfold gu
            split
            · omega
            · exact s5 j (by omega)
          · unfold gu
            split
            · omega
            · exact s6 j (by omega)
          · unfold gu
            split
            · omega
            · exact s8 j (by omega)
          · unfold gu
            split
            · omega
            · exact s9 j (by omega)
          · unfold gu
            split
            · omega
            · exact s10 j
        exact ⟨0, (Dn : Int), _, _, _, by omega, fun _ => gUpd _ _, trivial, wL_addDoor0 rfl (cX_addDoor s1 (by omega) (by omega) (by omega) hz.1 (by omega) (by omega) hw.1.1 hw.1.2.1 (op_B s10) s5 s6), cM_addDoor0 s1 (by omega) (by omega) (by omega) hz.1 (by omega) (by omega), cM_thrown, ⟨P, Dn + 1, rm, re, gu one Dn x, gu oth Dn y, gu fl Dn z, gu sh Dn v, gu op Dn 1, _, _, _, _, (pe, pa, g13, t, la, wa), (pe, pa, far, wi, gr, go, t, la, wa), 0, hs2, xw_new hs2 ⟨hw.1.1, hw.1.2.1, hw.1.2.2.1, hw.1.2.2.2⟩, gSS_n hS, rfl, rfl⟩⟩
    · exact ⟨2, 0, _, _, _, by omega, fun h9 => by omega, trivial, wL_addDoor2 rfl (tX_addDoor2 hfl hgx hgy hgz hgv s1 s2 (by omega) (by omega) (by omega)), cM_addDoor2 hgx hgy hgz hgv s1 s2 (by omega) (by omega) (by omega), cM_thrown, ⟨P, Dn, rm, re, one, oth, fl, sh, op, f3, f4, f11, f12, _, _, _, hs, hw, gSS_n hS, rfl, rfl⟩⟩
  · exact ⟨1, 0, _, _, _, by omega, fun h9 => by omega, trivial, wL_addDoor1 rfl (tX_addDoor1 hfl hgx hgy hgz hgv s1 s2 (by omega)), cM_addDoor1 hgx hgy hgz hgv s1 s2 (by omega), cM_thrown, ⟨P, Dn, rm, re, one, oth, fl, sh, op, f3, f4, f11, f12, _, _, _, hs, hw, gSS_n hS, rfl, rfl⟩⟩
set_option maxHeartbeats 4000000 in
theorem op_setDoor (hfl : l.stackTraces = false) (h : gRW cI cZ q qm r rm' n wX wM) {x o9 : Int} (hg : -2147483648 ≤ x ∧ x < 2147483648) (ho : o9 = 0 ∨ o9 = 1) : gOpW l D cI cZ cL o q qm r rm' fL yL_setDoor wsL_setDoor yX1_setDoor wsX1_setDoor [.int (iI x), .int (iI o9)] n wX wM (fun bv => bv = 0 ∨ bv = 1) := by
  obtain ⟨P, Dn, rm, re, one, oth, fl, sh, op, f3, f4, f11, f12, ⟨pe, pa, g13, t, la, wa⟩, ⟨pe', pa', far, wi, gr, go, t', lo, wa'⟩, th, hs, hw, hS, rfl, rfl⟩ := h
  obtain ⟨e1, e2, e3, e4, e5, eB, h1, h2, h3, h4, h5⟩ := id hS
  dsimp only at e1 e2 e3 e4 e5 eB h1 h2 h3 h4 h5
  subst e1 e2 e3 e4 e5
  have hs' := hs
  obtain ⟨s1, s2, s3, s4, s5, s6, ⟨s7, s7b, s7c⟩, s8, s9, s10⟩ := hs'
  by_cases hx : 0 ≤ x ∧ x < Dn
  · obtain ⟨i, rfl⟩ : ∃ i : Nat, x = (i : Int) := ⟨x.toNat, by omega⟩
    have hs2 : gSt P Dn rm re one oth fl sh (gu op i o9) := by
      refine ⟨s1, s2, s3, s4, s5, s6, ⟨s7, s7b, s7c⟩, s8, s9, fun j => ?_⟩
      unfold gu
      split
      · exact ho
      · exact s10 j
    exact ⟨0, op i, _, _, _, by omega, fun _ => gUpd _ _, s10 i, wL_setDoor0 rfl (s10 i) (cX_setDoor s1 s2 (by omega) ho (s10 i) hw.1.1 hw.1.2.1 (op_B s10) s5 s6), cM_setDoor0 s2 (by omega) ho (s10 i), cM_thrown, ⟨P, Dn, rm, re, one, oth, fl, sh, gu op i o9, _, _, _, _, (pe, pa, g13, t, la, wa), (pe, pa, far, wi, gr, go, t, la, wa), 0, hs2, xw_new hs2 ⟨hw.1.1, hw.1.2.1, hw.1.2.2.1, hw.1.2.2.2⟩, gSS_n hS, rfl, rfl⟩⟩
  · exact ⟨1, 0, _, _, _, by omega, fun h9 => by omega, Or.inl rfl, wL_setDoor1 rfl (tX_setDoor1 hfl hg s2 (by omega)), cM_setDoor1 hg s2 (by omega), cM_thrown, ⟨P, Dn, rm, re, one, oth, fl, sh, op, f3, f4, f11, f12, _, _, _, hs, hw, gSS_n hS, rfl, rfl⟩⟩
set_option maxHeartbeats 4000000 in
theorem op_come (hfl : l.stackTraces = false) (h : gRW cI cZ q qm r rm' n wX wM) {x v : Int} (hg : -2147483648 ≤ x ∧ x < 2147483648) (hgv : -2147483648 ≤ v ∧ v < 2147483648) : gOpW l D cI cZ cL o q qm r rm' fL yL_come wsL_come yX1_come wsX1_come [.int (iI x), .int (iI v)] n wX wM (fun _ => True) := by
  obtain ⟨P, Dn, rm, re, one, oth, fl, sh, op, f3, f4, f11, f12, ⟨pe, pa, g13, t, la, wa⟩, ⟨pe', pa', far, wi, gr, go, t', lo, wa'⟩, th, hs, hw, hS, rfl, rfl⟩ := h
  obtain ⟨e1, e2, e3, e4, e5, eB, h1, h2, h3, h4, h5⟩ := id hS
  dsimp only at e1 e2 e3 e4 e5 eB h1 h2 h3 h4 h5
  subst e1 e2 e3 e4 e5
  have hs' := hs
  obtain ⟨s1, s2, s3, s4, s5, s6, ⟨s7, s7b, s7c⟩, s8, s9, s10⟩ := hs'
  by_cases hx : 0 ≤ x ∧ x < P
  · by_cases hv : x ≠ 0 ∧ 1 ≤ v ∧ v ≤ 30
    · obtain ⟨i, rfl⟩ : ∃ i : Nat, x = (i : Int) := ⟨x.toNat, by omega⟩
      have a1 := h1 i (by omega) (by omega)
      have a2 := s3 i (by omega) (by omega)
      by_cases hle : pe i + v ≤ rm i
      · refine ⟨0, pe i + v, _, _, _, by omega, fun _ => gUpd _ _, trivial, wL_come0 rfl (cX_come s1 (by omega) (by omega) ⟨a1.1, a1.2, a2.2⟩ hle), cM_come0 s1 (by omega) (by omega) ⟨a1.1, a1.2, a2.2⟩ hle, cM_thrown, ⟨P, Dn, rm, re, one, oth, fl, sh, op, f3, f4, f11, f12, (gu pe i (pe i + v), pa, g13, t, la, wa), (gu pe i (pe i + v), pa, far, wi, gr, go, t, la, wa), 0, hs, hw, ?_, rfl, rfl⟩⟩
        refine gSS_n ⟨rfl, rfl, rfl, rfl, rfl, eB, fun j hj1 hj2 => ?_, ?_, h3, h4, fun j hj => ?_⟩
        · show 0 ≤ gu pe i (pe i + v) j ∧ gu pe i (pe i + v) j ≤ rm j
          unfold gu
          split
          · rename_i e; rw [e]; omega
          · exact h1 j hj1 hj2
        · show 0 ≤ gu pe i (pe i + v) 0 ∧ gu pe i (pe i + v) 0 ≤ _
          rw [gu_n _ _ (by omega)]
          exact h2
        · show gu pe i (pe i + v) j = 0
          rw [gu_n _ _ (by omega)]
          exact h5 j hj
      · exact ⟨3, 0, _, _, _, by omega, fun h9 => by omega, trivial, wL_come3 rfl (tX_come3 hfl s1 (by omega) (by omega) ⟨a1.1, a1.2, a2.2⟩ (Int.not_le.mp hle)), cM_come3 s1 (by omega) (by omega) ⟨a1.1, a1.2, a2.2⟩ (Int.not_le.mp hle), cM_thrown, ⟨P, Dn, rm, re, one, oth, fl, sh, op, f3, f4, f11, f12, _, _, _, hs, hw, gSS_n hS, rfl, rfl⟩⟩
    · exact ⟨2, 0, _, _, _, by omega, fun h9 => by omega, trivial, wL_come2 rfl (tX_come2 hfl hgv s1 hx (by omega)), cM_come2 hgv s1 hx (by omega), cM_thrown, ⟨P, Dn, rm, re, one, oth, fl, sh, op, f3, f4, f11, f12, _, _, _, hs, hw, gSS_n hS, rfl, rfl⟩⟩
  · exact ⟨1, 0, _, _, _, by omega, fun h9 => by omega, trivial, wL_come1 rfl (tX_come1 hfl hg s1 (by omega)), cM_come1 hg hgv s1 (by omega), cM_thrown, ⟨P, Dn, rm, re, one, oth, fl, sh, op, f3, f4, f11, f12, _, _, _, hs, hw, gSS_n hS, rfl, rfl⟩⟩
set_option maxHeartbeats 4000000 in
theorem op_setRelease (hfl : l.stackTraces = false) (h : gRW cI cZ q qm r rm' n wX wM) {x v : Int} (hg : -2147483648 ≤ x ∧ x < 2147483648) (hgv : -2147483648 ≤ v ∧ v < 2147483648) : gOpW l D cI cZ cL o q qm r rm' fL yL_setRelease wsL_setRelease yX1_setRelease wsX1_setRelease [.int (iI x), .int (iI v)] n wX wM (fun _ => True) := by
  obtain ⟨P, Dn, rm, re, one, oth, fl, sh, op, f3, f4, f11, f12, ⟨pe, pa, g13, t, la, wa⟩, ⟨pe', pa', far, wi, gr, go, t', lo, wa'⟩, th, hs, hw, hS, rfl, rfl⟩ := h
  obtain ⟨e1, e2, e3, e4, e5, eB, h1, h2, h3, h4, h5⟩ := id hS
  dsimp only at e1 e2 e3 e4 e5 eB h1 h2 h3 h4 h5
  subst e1 e2 e3 e4 e5
  have hs' := hs
  obtain ⟨s1, s2, s3, s4, s5, s6, ⟨s7, s7b, s7c⟩, s8, s9, s10⟩ := hs'
  by_cases hx : 0 ≤ x ∧ x < P
  · by_cases hv : 0 ≤ v ∧ v ≤ 1000
    · obtain ⟨i, rfl⟩ : ∃ i : Nat, x = (i : Int) := ⟨x.toNat, by omega⟩
      refine ⟨0, re i, _, _, _, by omega, fun _ => gUpd _ _, trivial, wL_setRelease0 rfl (cX_setRelease s1 (by omega) hv), cM_setRelease0 s1 (by omega) hv, cM_thrown, ⟨P, Dn, rm, gu re i v, one, oth, fl, sh, op, f3, f4, f11, f12, (pe, pa, g13, t, la, wa), (pe, pa, far, wi, gr, go, t, la, wa), 0, ⟨s1, s2, s3, fun j => ?_, s5, s6, ⟨s7, s7b, s7c⟩, s8, s9, s10⟩, hw, gSS_n hS, rfl, rfl⟩⟩
      unfold gu
      split
      · exact hv
      · exact s4 j
    · exact ⟨2, 0, _, _, _, by omega, fun h9 => by omega, trivial, wL_setRelease2 rfl (tX_setRelease2 hfl hgv s1 hx (by omega)), cM_setRelease2 hgv s1 hx (by omega), cM_thrown, ⟨P, Dn, rm, re, one, oth, fl, sh, op, f3, f4, f11, f12, _, _, _, hs, hw, gSS_n hS, rfl, rfl⟩⟩
  · exact ⟨1, 0, _, _, _, by omega, fun h9 => by omega, trivial, wL_setRelease1 rfl (tX_setRelease1 hfl hg s1 (by omega)), cM_setRelease1 hg s1 (by omega), cM_thrown, ⟨P, Dn, rm, re, one, oth, fl, sh, op, f3, f4, f11, f12, _, _, _, hs, hw, gSS_n hS, rfl, rfl⟩⟩
end OPS
