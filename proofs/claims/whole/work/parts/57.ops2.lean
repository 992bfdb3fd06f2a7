/-! ===== the other calls ===== -/
theorem gMI_rv {l : Launch} {y : MethodName} {ws : List Cond} {n : Nat} {D : va_G} {tys : List (ClassId × FieldType)} {W0 W1 : va_W} {av : List Value} {rv rv' : Int} (e : rv = rv') (h : gMI l y ws n D tys W0 av rv W1) : gMI l y ws n D tys W0 av rv' W1 := e ▸ h
section OPS2
variable {l : Launch} {D : va_G} {cI cZ cL : ClassId} {o q qm : Nat} {r rm' : Nat → Nat} {fL : Nat → Int64} {n : Nat} {wX wM : va_W}
set_option maxHeartbeats 4000000 in
theorem op_step (hfl : l.stackTraces = false) (h : gRW cI cZ q qm r rm' n wX wM) (hn : n ≤ 512) {x : Int} (hg : -2147483648 ≤ x ∧ x < 2147483648) : gOpW l D cI cZ cL o q qm r rm' fL yL_step wsL_step yX1_step wsX1_step [.int (iI x)] n wX wM (fun _ => True) := by
  obtain ⟨P, Dn, rm, re, one, oth, fl, sh, op, f3, f4, f11, f12, ⟨pe, pa, g13, t, la, wa⟩, ⟨pe', pa', far, wi, gr, go, t', lo, wa'⟩, th, hs, hw, hS, rfl, rfl⟩ := h
  obtain ⟨e1, e2, e3, e4, e5, eB, h1, h2, h3, h4, h5⟩ := id hS
  dsimp only at e1 e2 e3 e4 e5 eB h1 h2 h3 h4 h5
  subst e1 e2 e3 e4 e5
  have hs' := hs
  obtain ⟨s1, s2, s3, s4, s5, s6, ⟨s7, s7b, s7c⟩, s8, s9, s10⟩ := hs'
  dsimp only
  have hreB : gB re := fun j => by have := s4 j; omega
  have hrX : ∀ (v : Int), v = v := fun _ => rfl
  by_cases hx : 1 ≤ x ∧ x ≤ 50
  · obtain ⟨k, rfl⟩ : ∃ k : Nat, x = (k : Int) := ⟨x.toNat, by omega⟩
    have it := it_rel hs hw (n1 := 43200 * (n : Int)) (n2 := 300 * (n : Int)) (by omega) hS
    have st := fun (j : Nat) (hj : j ≤ 300) => step_rel hs hw (n1 := 43200 * (n : Int) + 144 * (j : Int)) (n2 := 300 * (n : Int) + (j : Int)) (by omega) (it j hj)
    have e0 : (mIt P Dn rm re one oth fl sh op (pe, pa, far, wi, gr, go, t, la, wa) k).1 0 - pe 0 = (xIt P Dn rm re fl sh f11 f12 (pe, pa, g13, t, la, wa) k).1 0 - pe 0 := by rw [(it k (by omega)).1]
    exact ⟨0, (xIt P Dn rm re fl sh f11 f12 (pe, pa, g13, t, la, wa) k).1 0 - pe 0, _, _, _, by omega, fun _ => gUpd _ _, trivial, wL_step0 rfl (cX_step (by omega) s1 s2 hreB hw.1.2.2.1 hw.1.2.2.2 s9 (fun j hj => (st j (by omega)).2.1)), gMI_rv e0 (cM_step (by omega) s1 s2 hreB s7 s7b s7c (op_B s10) s5 s6 (fun j hj => (st j (by omega)).2.2.1)), cM_thrown, ⟨P, Dn, rm, re, one, oth, fl, sh, op, f3, f4, f11, f12, xIt P Dn rm re fl sh f11 f12 (pe, pa, g13, t, la, wa) k, mIt P Dn rm re one oth fl sh op (pe, pa, far, wi, gr, go, t, la, wa) k, 0, hs, hw, gSS_up (it k (by omega)) (by omega) (by omega), rfl, rfl⟩⟩
  · exact ⟨1, 0, _, _, _, by omega, fun h9 => by omega, trivial, wL_step1 rfl (tX_step1 hfl hg (by omega)), cM_step1 hg (by omega), cM_thrown, ⟨P, Dn, rm, re, one, oth, fl, sh, op, f3, f4, f11, f12, (pe, pa, g13, t, la, wa), (pe, pa, far, wi, gr, go, t, la, wa), _, hs, hw, gSS_n hS, rfl, rfl⟩⟩
set_option maxHeartbeats 4000000 in
theorem op_people (hfl : l.stackTraces = false) (h : gRW cI cZ q qm r rm' n wX wM) (hn : n ≤ 512) {x : Int} (hg : -2147483648 ≤ x ∧ x < 2147483648) : gOpW l D cI cZ cL o q qm r rm' fL yL_people wsL_people yX1_people wsX1_people [.int (iI x)] n wX wM (fun _ => True) := by
  obtain ⟨P, Dn, rm, re, one, oth, fl, sh, op, f3, f4, f11, f12, ⟨pe, pa, g13, t, la, wa⟩, ⟨pe', pa', far, wi, gr, go, t', lo, wa'⟩, th, hs, hw, hS, rfl, rfl⟩ := h
  obtain ⟨e1, e2, e3, e4, e5, eB, h1, h2, h3, h4, h5⟩ := id hS
  dsimp only at e1 e2 e3 e4 e5 eB h1 h2 h3 h4 h5
  subst e1 e2 e3 e4 e5
  have hs' := hs
  obtain ⟨s1, s2, s3, s4, s5, s6, ⟨s7, s7b, s7c⟩, s8, s9, s10⟩ := hs'
  dsimp only
  have hreB : gB re := fun j => by have := s4 j; omega
  have hrX : ∀ (v : Int), v = v := fun _ => rfl
  by_cases hx : 0 ≤ x ∧ x < P
  · obtain ⟨i, rfl⟩ : ∃ i : Nat, x = (i : Int) := ⟨x.toNat, by omega⟩
    exact ⟨0, pe i, _, _, _, by omega, fun _ => gUpd _ _, trivial, wL_people0 rfl (cX_people s1 (by omega)), cM_people0 s1 (by omega), cM_thrown, ⟨P, Dn, rm, re, one, oth, fl, sh, op, f3, f4, f11, f12, (pe, pa, g13, t, la, wa), (pe, pa, far, wi, gr, go, t, la, wa), _, hs, hw, gSS_n hS, rfl, rfl⟩⟩
  · exact ⟨1, 0, _, _, _, by omega, fun h9 => by omega, trivial, wL_people1 rfl (tX_people1 hfl hg s1 (by omega)), cM_people1 hg s1 (by omega), cM_thrown, ⟨P, Dn, rm, re, one, oth, fl, sh, op, f3, f4, f11, f12, (pe, pa, g13, t, la, wa), (pe, pa, far, wi, gr, go, t, la, wa), _, hs, hw, gSS_n hS, rfl, rfl⟩⟩
set_option maxHeartbeats 4000000 in
theorem op_passed (hfl : l.stackTraces = false) (h : gRW cI cZ q qm r rm' n wX wM) (hn : n ≤ 512) {x : Int} (hg : -2147483648 ≤ x ∧ x < 2147483648) : gOpW l D cI cZ cL o q qm r rm' fL yL_passed wsL_passed yX1_passed wsX1_passed [.int (iI x)] n wX wM (fun _ => True) := by
  obtain ⟨P, Dn, rm, re, one, oth, fl, sh, op, f3, f4, f11, f12, ⟨pe, pa, g13, t, la, wa⟩, ⟨pe', pa', far, wi, gr, go, t', lo, wa'⟩, th, hs, hw, hS, rfl, rfl⟩ := h
  obtain ⟨e1, e2, e3, e4, e5, eB, h1, h2, h3, h4, h5⟩ := id hS
  dsimp only at e1 e2 e3 e4 e5 eB h1 h2 h3 h4 h5
  subst e1 e2 e3 e4 e5
  have hs' := hs
  obtain ⟨s1, s2, s3, s4, s5, s6, ⟨s7, s7b, s7c⟩, s8, s9, s10⟩ := hs'
  dsimp only
  have hreB : gB re := fun j => by have := s4 j; omega
  have hrX : ∀ (v : Int), v = v := fun _ => rfl
  by_cases hx : 0 ≤ x ∧ x < Dn
  · obtain ⟨i, rfl⟩ : ∃ i : Nat, x = (i : Int) := ⟨x.toNat, by omega⟩
    exact ⟨0, pa i, _, _, _, by omega, fun _ => gUpd _ _, trivial, wL_passed0 rfl (cX_passed s2 (by omega)), cM_passed0 s2 (by omega), cM_thrown, ⟨P, Dn, rm, re, one, oth, fl, sh, op, f3, f4, f11, f12, (pe, pa, g13, t, la, wa), (pe, pa, far, wi, gr, go, t, la, wa), _, hs, hw, gSS_n hS, rfl, rfl⟩⟩
  · exact ⟨1, 0, _, _, _, by omega, fun h9 => by omega, trivial, wL_passed1 rfl (tX_passed1 hfl hg s2 (by omega)), cM_passed1 hg s2 (by omega), cM_thrown, ⟨P, Dn, rm, re, one, oth, fl, sh, op, f3, f4, f11, f12, (pe, pa, g13, t, la, wa), (pe, pa, far, wi, gr, go, t, la, wa), _, hs, hw, gSS_n hS, rfl, rfl⟩⟩
set_option maxHeartbeats 4000000 in
theorem op_latest (hfl : l.stackTraces = false) (h : gRW cI cZ q qm r rm' n wX wM) (hn : n ≤ 512)  : gOpW l D cI cZ cL o q qm r rm' fL yL_latest wsL_latest yX1_latest wsX1_latest [] n wX wM (fun _ => True) := by
  obtain ⟨P, Dn, rm, re, one, oth, fl, sh, op, f3, f4, f11, f12, ⟨pe, pa, g13, t, la, wa⟩, ⟨pe', pa', far, wi, gr, go, t', lo, wa'⟩, th, hs, hw, hS, rfl, rfl⟩ := h
  obtain ⟨e1, e2, e3, e4, e5, eB, h1, h2, h3, h4, h5⟩ := id hS
  dsimp only at e1 e2 e3 e4 e5 eB h1 h2 h3 h4 h5
  subst e1 e2 e3 e4 e5
  have hs' := hs
  obtain ⟨s1, s2, s3, s4, s5, s6, ⟨s7, s7b, s7c⟩, s8, s9, s10⟩ := hs'
  dsimp only
  have hreB : gB re := fun j => by have := s4 j; omega
  have hrX : ∀ (v : Int), v = v := fun _ => rfl
  by_cases hx : la = -1
  · exact ⟨1, 0, _, _, _, by omega, fun h9 => by omega, trivial, wL_latest1 rfl (tX_latest1 hfl hx), cM_latest1 hx, cM_thrown, ⟨P, Dn, rm, re, one, oth, fl, sh, op, f3, f4, f11, f12, (pe, pa, g13, t, la, wa), (pe, pa, far, wi, gr, go, t, la, wa), _, hs, hw, gSS_n hS, rfl, rfl⟩⟩
  · exact ⟨0, la, _, _, _, by omega, fun _ => gUpd _ _, trivial, wL_latest0 rfl (cX_latest (by omega) hx), cM_latest0 (by omega) hx, cM_thrown, ⟨P, Dn, rm, re, one, oth, fl, sh, op, f3, f4, f11, f12, (pe, pa, g13, t, la, wa), (pe, pa, far, wi, gr, go, t, la, wa), _, hs, hw, gSS_n hS, rfl, rfl⟩⟩
set_option maxHeartbeats 4000000 in
theorem op_distance (hfl : l.stackTraces = false) (h : gRW cI cZ q qm r rm' n wX wM) (hn : n ≤ 512) {x : Int} (hg : -2147483648 ≤ x ∧ x < 2147483648) : gOpW l D cI cZ cL o q qm r rm' fL yL_distance wsL_distance yX1_distance wsX1_distance [.int (iI x)] n wX wM (fun _ => True) := by
  obtain ⟨P, Dn, rm, re, one, oth, fl, sh, op, f3, f4, f11, f12, ⟨pe, pa, g13, t, la, wa⟩, ⟨pe', pa', far, wi, gr, go, t', lo, wa'⟩, th, hs, hw, hS, rfl, rfl⟩ := h
  obtain ⟨e1, e2, e3, e4, e5, eB, h1, h2, h3, h4, h5⟩ := id hS
  dsimp only at e1 e2 e3 e4 e5 eB h1 h2 h3 h4 h5
  subst e1 e2 e3 e4 e5
  have hs' := hs
  obtain ⟨s1, s2, s3, s4, s5, s6, ⟨s7, s7b, s7c⟩, s8, s9, s10⟩ := hs'
  dsimp only
  have hreB : gB re := fun j => by have := s4 j; omega
  have hrX : ∀ (v : Int), v = v := fun _ => rfl
  have hd : ∀ i, i < P → f3 i = mDist one oth op P Dn far i := fun i hi => (hw.2.1 i hi).trans (mdist_eq s5 s6 _ _ i hi)
  by_cases hx : 0 ≤ x ∧ x < P
  · obtain ⟨i, rfl⟩ : ∃ i : Nat, x = (i : Int) := ⟨x.toNat, by omega⟩
    have hi : i < P := by omega
    have hdi := hd i hi
    by_cases hne : f3 i = -1
    · exact ⟨2, 0, _, _, _, by omega, fun h9 => by omega, trivial, wL_distance2 rfl (tX_distance2 hfl s1 hi hne), cM_distance2 s1 s2 (op_B s10) eB.1 s5 s6 hi (hdi.symm.trans hne), cM_thrown, ⟨P, Dn, rm, re, one, oth, fl, sh, op, f3, f4, f11, f12, (pe, pa, g13, t, la, wa), (pe, pa, mDist one oth op P Dn far, wi, gr, go, t, la, wa), _, hs, hw, gSS_n ⟨rfl, rfl, rfl, rfl, rfl, ⟨mDist_B eB.1 s1.2, eB.2.1, eB.2.2⟩, h1, h2, h3, h4, h5⟩, rfl, rfl⟩⟩
    · exact ⟨0, f3 i, _, _, _, by omega, fun _ => gUpd _ _, trivial, wL_distance0 rfl (cX_distance s1 hi hw.1.1 hne), gMI_rv hdi.symm (cM_distance0 s1 s2 (op_B s10) eB.1 s5 s6 hi (fun h9 => hne (hdi.trans h9))), cM_thrown, ⟨P, Dn, rm, re, one, oth, fl, sh, op, f3, f4, f11, f12, (pe, pa, g13, t, la, wa), (pe, pa, mDist one oth op P Dn far, wi, gr, go, t, la, wa), _, hs, hw, gSS_n ⟨rfl, rfl, rfl, rfl, rfl, ⟨mDist_B eB.1 s1.2, eB.2.1, eB.2.2⟩, h1, h2, h3, h4, h5⟩, rfl, rfl⟩⟩
  · exact ⟨1, 0, _, _, _, by omega, fun h9 => by omega, trivial, wL_distance1 rfl (tX_distance1 hfl hg s1 (by omega)), cM_distance1 hg s1 s2 (op_B s10) eB.1 s5 s6 (by omega), cM_thrown, ⟨P, Dn, rm, re, one, oth, fl, sh, op, f3, f4, f11, f12, (pe, pa, g13, t, la, wa), (pe, pa, mDist one oth op P Dn far, wi, gr, go, t, la, wa), _, hs, hw, gSS_n ⟨rfl, rfl, rfl, rfl, rfl, ⟨mDist_B eB.1 s1.2, eB.2.1, eB.2.2⟩, h1, h2, h3, h4, h5⟩, rfl, rfl⟩⟩
set_option maxHeartbeats 4000000 in
theorem op_door (hfl : l.stackTraces = false) (h : gRW cI cZ q qm r rm' n wX wM) (hn : n ≤ 512) {x : Int} (hg : -2147483648 ≤ x ∧ x < 2147483648) : gOpW l D cI cZ cL o q qm r rm' fL yL_door wsL_door yX1_door wsX1_door [.int (iI x)] n wX wM (fun _ => True) := by
  obtain ⟨P, Dn, rm, re, one, oth, fl, sh, op, f3, f4, f11, f12, ⟨pe, pa, g13, t, la, wa⟩, ⟨pe', pa', far, wi, gr, go, t', lo, wa'⟩, th, hs, hw, hS, rfl, rfl⟩ := h
  obtain ⟨e1, e2, e3, e4, e5, eB, h1, h2, h3, h4, h5⟩ := id hS
  dsimp only at e1 e2 e3 e4 e5 eB h1 h2 h3 h4 h5
  subst e1 e2 e3 e4 e5
  have hs' := hs
  obtain ⟨s1, s2, s3, s4, s5, s6, ⟨s7, s7b, s7c⟩, s8, s9, s10⟩ := hs'
  dsimp only
  have hreB : gB re := fun j => by have := s4 j; omega
  have hrX : ∀ (v : Int), v = v := fun _ => rfl
  have hd : ∀ i, i < P → f3 i = mDist one oth op P Dn far i := fun i hi => (hw.2.1 i hi).trans (mdist_eq s5 s6 _ _ i hi)
  have hdo : ∀ i, i < P → f4 i = mDo (mDist one oth op P Dn far) one oth op i Dn := fun i hi => (hw.2.2.1 i hi).trans (mDo_c s5 s6 hd hi Dn (Nat.le_refl _))
  by_cases hx : 0 ≤ x ∧ x < P
  · obtain ⟨i, rfl⟩ : ∃ i : Nat, x = (i : Int) := ⟨x.toNat, by omega⟩
    have hi : i < P := by omega
    have hdi := hdo i hi
    by_cases hne : f4 i = -1
    · exact ⟨2, 0, _, _, _, by omega, fun h9 => by omega, trivial, wL_door2 rfl (tX_door2 hfl s1 hi hne), cM_door2 s1 s2 s7 s7b (op_B s10) eB.1 s5 s6 hi (hdi.symm.trans hne), cM_thrown, ⟨P, Dn, rm, re, one, oth, fl, sh, op, f3, f4, f11, f12, (pe, pa, g13, t, la, wa), (pe, pa, mDist one oth op P Dn far, wi, gr, go, t, la, wa), _, hs, hw, gSS_n ⟨rfl, rfl, rfl, rfl, rfl, ⟨mDist_B eB.1 s1.2, eB.2.1, eB.2.2⟩, h1, h2, h3, h4, h5⟩, rfl, rfl⟩⟩
    · exact ⟨0, f4 i, _, _, _, by omega, fun _ => gUpd _ _, trivial, wL_door0 rfl (cX_door s1 hi hw.1.2.1 hne), gMI_rv hdi.symm (cM_door0 s1 s2 s7 s7b (op_B s10) eB.1 s5 s6 hi (fun h9 => hne (hdi.trans h9))), cM_thrown, ⟨P, Dn, rm, re, one, oth, fl, sh, op, f3, f4, f11, f12, (pe, pa, g13, t, la, wa), (pe, pa, mDist one oth op P Dn far, wi, gr, go, t, la, wa), _, hs, hw, gSS_n ⟨rfl, rfl, rfl, rfl, rfl, ⟨mDist_B eB.1 s1.2, eB.2.1, eB.2.2⟩, h1, h2, h3, h4, h5⟩, rfl, rfl⟩⟩
  · exact ⟨1, 0, _, _, _, by omega, fun h9 => by omega, trivial, wL_door1 rfl (tX_door1 hfl hg s1 (by omega)), cM_door1 hg s1 s2 s7 s7b (op_B s10) eB.1 s5 s6 (by omega), cM_thrown, ⟨P, Dn, rm, re, one, oth, fl, sh, op, f3, f4, f11, f12, (pe, pa, g13, t, la, wa), (pe, pa, mDist one oth op P Dn far, wi, gr, go, t, la, wa), _, hs, hw, gSS_n ⟨rfl, rfl, rfl, rfl, rfl, ⟨mDist_B eB.1 s1.2, eB.2.1, eB.2.2⟩, h1, h2, h3, h4, h5⟩, rfl, rfl⟩⟩
set_option maxHeartbeats 4000000 in
theorem op_wouldMove (hfl : l.stackTraces = false) (h : gRW cI cZ q qm r rm' n wX wM) (hn : n ≤ 512) {x : Int} (hg : -2147483648 ≤ x ∧ x < 2147483648) : gOpW l D cI cZ cL o q qm r rm' fL yL_wouldMove wsL_wouldMove yX1_wouldMove wsX1_wouldMove [.int (iI x)] n wX wM (fun _ => True) := by
  obtain ⟨P, Dn, rm, re, one, oth, fl, sh, op, f3, f4, f11, f12, ⟨pe, pa, g13, t, la, wa⟩, ⟨pe', pa', far, wi, gr, go, t', lo, wa'⟩, th, hs, hw, hS, rfl, rfl⟩ := h
  obtain ⟨e1, e2, e3, e4, e5, eB, h1, h2, h3, h4, h5⟩ := id hS
  dsimp only at e1 e2 e3 e4 e5 eB h1 h2 h3 h4 h5
  subst e1 e2 e3 e4 e5
  have hs' := hs
  obtain ⟨s1, s2, s3, s4, s5, s6, ⟨s7, s7b, s7c⟩, s8, s9, s10⟩ := hs'
  dsimp only
  have hreB : gB re := fun j => by have := s4 j; omega
  have hrX : ∀ (v : Int), v = v := fun _ => rfl
  have hd : ∀ i, i < P → f3 i = mDist one oth op P Dn far i := fun i hi => (hw.2.1 i hi).trans (mdist_eq s5 s6 _ _ i hi)
  have hdo : ∀ i, i < P → f4 i = mDo (mDist one oth op P Dn far) one oth op i Dn := fun i hi => (hw.2.2.1 i hi).trans (mDo_c s5 s6 hd hi Dn (Nat.le_refl _))
  have st := step_rel hs hw (n1 := 43200 * (n : Int)) (n2 := 300 * (n : Int)) (by omega) hS
  by_cases hx : 0 ≤ x ∧ x < P
  · obtain ⟨i, rfl⟩ : ∃ i : Nat, x = (i : Int) := ⟨x.toNat, by omega⟩
    have hi : i < P := by omega
    have hdi := hdo i hi
    have hb := mDo_b (far := mDist one oth op P Dn far) (one := one) (oth := oth) (op := op) (i := i) Dn
    by_cases hne : f4 i = -1
    · exact ⟨0, 0, _, _, _, by omega, fun _ => gUpd _ _, trivial, wL_wouldMove0 rfl (cX_wouldMove0 s1 s2 hi hw.1.2.1 (by omega)), cM_wouldMove0 s1 s2 hreB s7 s7b s7c (op_B s10) s5 s6 st.2.2.1.1 hi (hdi.symm.trans hne), cM_thrown, ⟨P, Dn, rm, re, one, oth, fl, sh, op, f3, f4, f11, f12, (pe, pa, g13, t, la, wa), (pe, pa, mFS P Dn rm re one oth fl sh op (pe, pa, far, wi, gr, go, t, la, wa), (mWS P Dn rm re one oth fl sh op (pe, pa, far, wi, gr, go, t, la, wa)).1, mGS P Dn rm re one oth fl sh op (pe, pa, far, wi, gr, go, t, la, wa), (mWS P Dn rm re one oth fl sh op (pe, pa, far, wi, gr, go, t, la, wa)).2, t, la, wa), _, hs, hw, gSS_n ⟨rfl, rfl, rfl, rfl, rfl, st.1.2.2.2.2.2.1, h1, h2, h3, h4, h5⟩, rfl, rfl⟩⟩
    · have hfe : 0 ≤ f4 i ∧ f4 i < Dn := by omega
      have hG := (st.2.2.2.2.2 (f4 i).toNat (by omega)).1
      have hv : mGS P Dn rm re one oth fl sh op (pe, pa, far, wi, gr, go, t, la, wa) (mDo (mFS P Dn rm re one oth fl sh op (pe, pa, far, wi, gr, go, t, la, wa)) one oth op i Dn).toNat = xG P Dn t rm pe re fl sh f11 f12 g13 (f4 i).toNat := by
        have h9 : mDo (mFS P Dn rm re one oth fl sh op (pe, pa, far, wi, gr, go, t, la, wa)) one oth op i Dn = f4 i := hdi.symm
        rw [h9]
        exact hG.symm
      exact ⟨0, xG P Dn t rm pe re fl sh f11 f12 g13 (f4 i).toNat, _, _, _, by omega, fun _ => gUpd _ _, trivial, wL_wouldMove0 rfl (cX_wouldMove1 s1 s2 hi (by omega) hreB hw.1.2.1 hw.1.2.2.1 hw.1.2.2.2 st.2.1.2.1 (by omega) s9 hfe), gMI_rv hv (cM_wouldMove1 s1 s2 hreB s7 s7b s7c (op_B s10) s5 s6 st.2.2.1.1 hi (fun h9 => hne (hdi.trans h9))), cM_thrown, ⟨P, Dn, rm, re, one, oth, fl, sh, op, f3, f4, f11, f12, (pe, pa, xG P Dn t rm pe re fl sh f11 f12 g13, t, la, wa), (pe, pa, mFS P Dn rm re one oth fl sh op (pe, pa, far, wi, gr, go, t, la, wa), (mWS P Dn rm re one oth fl sh op (pe, pa, far, wi, gr, go, t, la, wa)).1, mGS P Dn rm re one oth fl sh op (pe, pa, far, wi, gr, go, t, la, wa), (mWS P Dn rm re one oth fl sh op (pe, pa, far, wi, gr, go, t, la, wa)).2, t, la, wa), _, hs, hw, gSS_n ⟨rfl, rfl, rfl, rfl, rfl, st.1.2.2.2.2.2.1, h1, h2, h3, h4, h5⟩, rfl, rfl⟩⟩
  · exact ⟨1, 0, _, _, _, by omega, fun h9 => by omega, trivial, wL_wouldMove1 rfl (tX_wouldMove1 hfl hg s1 (by omega)), cM_wouldMove2 hg s1 (by omega), cM_thrown, ⟨P, Dn, rm, re, one, oth, fl, sh, op, f3, f4, f11, f12, (pe, pa, g13, t, la, wa), (pe, pa, far, wi, gr, go, t, la, wa), _, hs, hw, gSS_n hS, rfl, rfl⟩⟩
set_option maxHeartbeats 4000000 in
theorem op_bound (hfl : l.stackTraces = false) (h : gRW cI cZ q qm r rm' n wX wM) (hn : n ≤ 512)  : gOpW l D cI cZ cL o q qm r rm' fL yL_bound wsL_bound yX1_bound wsX1_bound [] n wX wM (fun _ => True) := by
  obtain ⟨P, Dn, rm, re, one, oth, fl, sh, op, f3, f4, f11, f12, ⟨pe, pa, g13, t, la, wa⟩, ⟨pe', pa', far, wi, gr, go, t', lo, wa'⟩, th, hs, hw, hS, rfl, rfl⟩ := h
  obtain ⟨e1, e2, e3, e4, e5, eB, h1, h2, h3, h4, h5⟩ := id hS
  dsimp only at e1 e2 e3 e4 e5 eB h1 h2 h3 h4 h5
  subst e1 e2 e3 e4 e5
  have hs' := hs
  obtain ⟨s1, s2, s3, s4, s5, s6, ⟨s7, s7b, s7c⟩, s8, s9, s10⟩ := hs'
  dsimp only
  have hreB : gB re := fun j => by have := s4 j; omega
  have hrX : ∀ (v : Int), v = v := fun _ => rfl
  have hd : ∀ i, i < P → f3 i = mDist one oth op P Dn far i := fun i hi => (hw.2.1 i hi).trans (mdist_eq s5 s6 _ _ i hi)
  have htr : (pSum (fun j => if f3 j = -1 then pe j else 0) P) = (pSum (fun j => if (mDist one oth op P Dn far) j = -1 then pe j else 0) P) := pSum_c (fun k _ hk => by rw [hd k hk])
  have htb := pSum_b (f := fun j => if f3 j = -1 then pe j else 0) (B := 30) (by omega) (n := P) (fun k hk1 hk2 => by
    have a1 := h1 k hk1 hk2
    have a2 := s3 k hk1 hk2
    split <;> omega)
  have hbf := mdist_bf (op := op) s5 s6 s1.1 far
  have hfl9 : ∀ j, j < Dn → 1 ≤ fl j ∧ fl j ≤ 9 := fun j hj => (s9 j hj).1
  by_cases hz : (pSum (fun j => if f3 j = -1 then pe j else 0) P) = 0
  · have hcX : ∀ d : Nat, 1 ≤ d → d < P → (0 ≤ pCrowd f3 pe (d : Int) P ∧ pCrowd f3 pe (d : Int) P ≤ 10000) ∧ 0 ≤ pFlow f3 one oth op fl (d : Int) Dn ∧ pFlow f3 one oth op fl (d : Int) Dn ≤ 1000 := fun d _ _ => by
      have a1 := crowd_b (far := f3) h1 s3 s1.2 (d : Int)
      have a2 := flow_b (far := (mDist one oth op P Dn far)) (one := one) (oth := oth) (op := op) hfl9 s2 (d : Int)
      rw [flow_eq (op := op) (fl := fl) s5 s6 hd (d : Int)]
      omega
    have hcM : ∀ d : Nat, 1 ≤ d → d < P → (0 ≤ pCrowd (mDist one oth op P Dn far) pe (d : Int) P ∧ pCrowd (mDist one oth op P Dn far) pe (d : Int) P ≤ 10000) ∧ (0 ≤ qSum (mFl (mDist one oth op P Dn far) one oth op fl (d : Int)) Dn ∧ qSum (mFl (mDist one oth op P Dn far) one oth op fl (d : Int)) Dn ≤ 1000) ∧ (pCrowd (mDist one oth op P Dn far) pe (d : Int) P ≠ 0 → 1 ≤ qSum (mFl (mDist one oth op P Dn far) one oth op fl (d : Int)) Dn) := fun d h9 _ => by
      have a1 := crowd_b (far := (mDist one oth op P Dn far)) h1 s3 s1.2 (d : Int)
      have a2 := flow_b (far := (mDist one oth op P Dn far)) (one := one) (oth := oth) (op := op) hfl9 s2 (d : Int)
      exact ⟨by omega, by omega, fun hc => flow_1 s5 s6 hbf hfl9 h9 hc⟩
    have hfb : ∀ j : Nat, j < P → -1 ≤ (mDist one oth op P Dn far) j ∧ (mDist one oth op P Dn far) j ≤ 100 := fun j hj => by
      have a1 := hbf.2.1 j hj
      omega
    have hbe := bound_eq (pe := pe) s5 s6 hbf hfl9 hd P (Nat.le_refl _)
    exact ⟨0, pBound f3 one oth op fl pe P Dn P, _, _, _, by omega, fun _ => gUpd _ _, trivial, wL_bound0 rfl (cX_bound s1 s2 hw.1.1 (op_B s10) s5 s6 hcX hz), gMI_rv hbe.symm (cM_bound0 s1 s2 (op_B s10) eB.1 s5 s6 hcM hfb (htr.symm.trans hz)), cM_thrown, ⟨P, Dn, rm, re, one, oth, fl, sh, op, f3, f4, f11, f12, (pe, pa, g13, t, la, wa), (pe, pa, mDist one oth op P Dn far, wi, gr, go, t, la, wa), _, hs, hw, gSS_n ⟨rfl, rfl, rfl, rfl, rfl, ⟨mDist_B eB.1 s1.2, eB.2.1, eB.2.2⟩, h1, h2, h3, h4, h5⟩, rfl, rfl⟩⟩
  · have hpos : 0 < (pSum (fun j => if (mDist one oth op P Dn far) j = -1 then pe j else 0) P) ∧ (pSum (fun j => if (mDist one oth op P Dn far) j = -1 then pe j else 0) P) < 2147483648 := by rw [← htr]; omega
    exact ⟨1, 0, _, _, _, by omega, fun h9 => by omega, trivial, wL_bound1 rfl (tX_bound1 hfl s1 hw.1.1 (by omega) hz), cM_bound1 s1 s2 (op_B s10) eB.1 s5 s6 hpos, cM_thrown, ⟨P, Dn, rm, re, one, oth, fl, sh, op, f3, f4, f11, f12, (pe, pa, g13, t, la, wa), (pe, pa, mDist one oth op P Dn far, wi, gr, go, t, la, wa), _, hs, hw, gSS_n ⟨rfl, rfl, rfl, rfl, rfl, ⟨mDist_B eB.1 s1.2, eB.2.1, eB.2.2⟩, h1, h2, h3, h4, h5⟩, rfl, rfl⟩⟩
set_option maxHeartbeats 4000000 in
theorem op_places (h : gRW cI cZ q qm r rm' n wX wM) (hn : n ≤ 512) : gOpD l D cI cZ q qm r rm' yX0_places wsX0_places 6 yX1_places wsX1_places n wX wM := by
  obtain ⟨P, Dn, rm, re, one, oth, fl, sh, op, f3, f4, f11, f12, ⟨pe, pa, g13, t, la, wa⟩, ⟨pe', pa', far, wi, gr, go, t', lo, wa'⟩, th, hs, hw, hS, rfl, rfl⟩ := h
  obtain ⟨e1, e2, e3, e4, e5, eB, h1, h2, h3, h4, h5⟩ := id hS
  dsimp only at e1 e2 e3 e4 e5 eB h1 h2 h3 h4 h5
  subst e1 e2 e3 e4 e5
  have hs' := hs
  obtain ⟨s1, s2, s3, s4, s5, s6, ⟨s7, s7b, s7c⟩, s8, s9, s10⟩ := hs'
  dsimp only
  have hreB : gB re := fun j => by have := s4 j; omega
  have hrX : ∀ (v : Int), v = v := fun _ => rfl
  exact ⟨(P : Int), _, _, by omega, cX_places, cM_places, ⟨P, Dn, rm, re, one, oth, fl, sh, op, f3, f4, f11, f12, (pe, pa, g13, t, la, wa), (pe, pa, far, wi, gr, go, t, la, wa), _, hs, hw, gSS_n hS, rfl, rfl⟩⟩
set_option maxHeartbeats 4000000 in
theorem op_doors (h : gRW cI cZ q qm r rm' n wX wM) (hn : n ≤ 512) : gOpD l D cI cZ q qm r rm' yX0_doors wsX0_doors 6 yX1_doors wsX1_doors n wX wM := by
  obtain ⟨P, Dn, rm, re, one, oth, fl, sh, op, f3, f4, f11, f12, ⟨pe, pa, g13, t, la, wa⟩, ⟨pe', pa', far, wi, gr, go, t', lo, wa'⟩, th, hs, hw, hS, rfl, rfl⟩ := h
  obtain ⟨e1, e2, e3, e4, e5, eB, h1, h2, h3, h4, h5⟩ := id hS
  dsimp only at e1 e2 e3 e4 e5 eB h1 h2 h3 h4 h5
  subst e1 e2 e3 e4 e5
  have hs' := hs
  obtain ⟨s1, s2, s3, s4, s5, s6, ⟨s7, s7b, s7c⟩, s8, s9, s10⟩ := hs'
  dsimp only
  have hreB : gB re := fun j => by have := s4 j; omega
  have hrX : ∀ (v : Int), v = v := fun _ => rfl
  exact ⟨(Dn : Int), _, _, by omega, cX_doors, cM_doors, ⟨P, Dn, rm, re, one, oth, fl, sh, op, f3, f4, f11, f12, (pe, pa, g13, t, la, wa), (pe, pa, far, wi, gr, go, t, la, wa), _, hs, hw, gSS_n hS, rfl, rfl⟩⟩
set_option maxHeartbeats 4000000 in
theorem op_now (h : gRW cI cZ q qm r rm' n wX wM) (hn : n ≤ 512) : gOpD l D cI cZ q qm r rm' yX0_now wsX0_now 6 yX1_now wsX1_now n wX wM := by
  obtain ⟨P, Dn, rm, re, one, oth, fl, sh, op, f3, f4, f11, f12, ⟨pe, pa, g13, t, la, wa⟩, ⟨pe', pa', far, wi, gr, go, t', lo, wa'⟩, th, hs, hw, hS, rfl, rfl⟩ := h
  obtain ⟨e1, e2, e3, e4, e5, eB, h1, h2, h3, h4, h5⟩ := id hS
  dsimp only at e1 e2 e3 e4 e5 eB h1 h2 h3 h4 h5
  subst e1 e2 e3 e4 e5
  have hs' := hs
  obtain ⟨s1, s2, s3, s4, s5, s6, ⟨s7, s7b, s7c⟩, s8, s9, s10⟩ := hs'
  dsimp only
  have hreB : gB re := fun j => by have := s4 j; omega
  have hrX : ∀ (v : Int), v = v := fun _ => rfl
  exact ⟨t, _, _, by omega, cX_now, cM_now, ⟨P, Dn, rm, re, one, oth, fl, sh, op, f3, f4, f11, f12, (pe, pa, g13, t, la, wa), (pe, pa, far, wi, gr, go, t, la, wa), _, hs, hw, gSS_n hS, rfl, rfl⟩⟩
set_option maxHeartbeats 4000000 in
theorem op_waited (h : gRW cI cZ q qm r rm' n wX wM) (hn : n ≤ 512) : gOpD l D cI cZ q qm r rm' yX0_waited wsX0_waited 6 yX1_waited wsX1_waited n wX wM := by
  obtain ⟨P, Dn, rm, re, one, oth, fl, sh, op, f3, f4, f11, f12, ⟨pe, pa, g13, t, la, wa⟩, ⟨pe', pa', far, wi, gr, go, t', lo, wa'⟩, th, hs, hw, hS, rfl, rfl⟩ := h
  obtain ⟨e1, e2, e3, e4, e5, eB, h1, h2, h3, h4, h5⟩ := id hS
  dsimp only at e1 e2 e3 e4 e5 eB h1 h2 h3 h4 h5
  subst e1 e2 e3 e4 e5
  have hs' := hs
  obtain ⟨s1, s2, s3, s4, s5, s6, ⟨s7, s7b, s7c⟩, s8, s9, s10⟩ := hs'
  dsimp only
  have hreB : gB re := fun j => by have := s4 j; omega
  have hrX : ∀ (v : Int), v = v := fun _ => rfl
  exact ⟨wa, _, _, by omega, cX_waited, cM_waited, ⟨P, Dn, rm, re, one, oth, fl, sh, op, f3, f4, f11, f12, (pe, pa, g13, t, la, wa), (pe, pa, far, wi, gr, go, t, la, wa), _, hs, hw, gSS_n hS, rfl, rfl⟩⟩
set_option maxHeartbeats 4000000 in
theorem op_inside (h : gRW cI cZ q qm r rm' n wX wM) (hn : n ≤ 512) : gOpD l D cI cZ q qm r rm' yX0_inside wsX0_inside 0 yX1_inside wsX1_inside n wX wM := by
  obtain ⟨P, Dn, rm, re, one, oth, fl, sh, op, f3, f4, f11, f12, ⟨pe, pa, g13, t, la, wa⟩, ⟨pe', pa', far, wi, gr, go, t', lo, wa'⟩, th, hs, hw, hS, rfl, rfl⟩ := h
  obtain ⟨e1, e2, e3, e4, e5, eB, h1, h2, h3, h4, h5⟩ := id hS
  dsimp only at e1 e2 e3 e4 e5 eB h1 h2 h3 h4 h5
  subst e1 e2 e3 e4 e5
  have hs' := hs
  obtain ⟨s1, s2, s3, s4, s5, s6, ⟨s7, s7b, s7c⟩, s8, s9, s10⟩ := hs'
  dsimp only
  have hreB : gB re := fun j => by have := s4 j; omega
  have hrX : ∀ (v : Int), v = v := fun _ => rfl
  have hpb := pSum_b (f := pe) (B := 30) (by omega) (n := P) (fun k hk1 hk2 => by
    have a1 := h1 k hk1 hk2
    have a2 := s3 k hk1 hk2
    omega)
  exact ⟨pSum pe P, _, _, by omega, cX_inside s1, cM_inside s1, ⟨P, Dn, rm, re, one, oth, fl, sh, op, f3, f4, f11, f12, (pe, pa, g13, t, la, wa), (pe, pa, far, wi, gr, go, t, la, wa), _, hs, hw, gSS_n hS, rfl, rfl⟩⟩
set_option maxHeartbeats 4000000 in
theorem op_trapped (h : gRW cI cZ q qm r rm' n wX wM) (hn : n ≤ 512) : gOpD l D cI cZ q qm r rm' yX0_trapped wsX0_trapped 0 yX1_trapped wsX1_trapped n wX wM := by
  obtain ⟨P, Dn, rm, re, one, oth, fl, sh, op, f3, f4, f11, f12, ⟨pe, pa, g13, t, la, wa⟩, ⟨pe', pa', far, wi, gr, go, t', lo, wa'⟩, th, hs, hw, hS, rfl, rfl⟩ := h
  obtain ⟨e1, e2, e3, e4, e5, eB, h1, h2, h3, h4, h5⟩ := id hS
  dsimp only at e1 e2 e3 e4 e5 eB h1 h2 h3 h4 h5
  subst e1 e2 e3 e4 e5
  have hs' := hs
  obtain ⟨s1, s2, s3, s4, s5, s6, ⟨s7, s7b, s7c⟩, s8, s9, s10⟩ := hs'
  dsimp only
  have hreB : gB re := fun j => by have := s4 j; omega
  have hrX : ∀ (v : Int), v = v := fun _ => rfl
  have hd : ∀ i, i < P → f3 i = mDist one oth op P Dn far i := fun i hi => (hw.2.1 i hi).trans (mdist_eq s5 s6 _ _ i hi)
  have htr : (pSum (fun j => if f3 j = -1 then pe j else 0) P) = (pSum (fun j => if (mDist one oth op P Dn far) j = -1 then pe j else 0) P) := pSum_c (fun k _ hk => by rw [hd k hk])
  have htb := pSum_b (f := fun j => if f3 j = -1 then pe j else 0) (B := 30) (by omega) (n := P) (fun k hk1 hk2 => by
    have a1 := h1 k hk1 hk2
    have a2 := s3 k hk1 hk2
    split <;> omega)
  exact ⟨(pSum (fun j => if f3 j = -1 then pe j else 0) P), _, _, by omega, cX_trapped s1 hw.1.1, gMI_rv htr.symm (cM_trapped s1 s2 (op_B s10) eB.1 s5 s6), ⟨P, Dn, rm, re, one, oth, fl, sh, op, f3, f4, f11, f12, (pe, pa, g13, t, la, wa), (pe, pa, mDist one oth op P Dn far, wi, gr, go, t, la, wa), _, hs, hw, gSS_n ⟨rfl, rfl, rfl, rfl, rfl, ⟨mDist_B eB.1 s1.2, eB.2.1, eB.2.2⟩, h1, h2, h3, h4, h5⟩, rfl, rfl⟩⟩
set_option maxHeartbeats 4000000 in
theorem op_clear (h : gRW cI cZ q qm r rm' n wX wM) (hn : n ≤ 512) : gOpD l D cI cZ q qm r rm' yX0_clear wsX0_clear 6 yX1_clear wsX1_clear n wX wM := by
  obtain ⟨P, Dn, rm, re, one, oth, fl, sh, op, f3, f4, f11, f12, ⟨pe, pa, g13, t, la, wa⟩, ⟨pe', pa', far, wi, gr, go, t', lo, wa'⟩, th, hs, hw, hS, rfl, rfl⟩ := h
  obtain ⟨e1, e2, e3, e4, e5, eB, h1, h2, h3, h4, h5⟩ := id hS
  dsimp only at e1 e2 e3 e4 e5 eB h1 h2 h3 h4 h5
  subst e1 e2 e3 e4 e5
  have hs' := hs
  obtain ⟨s1, s2, s3, s4, s5, s6, ⟨s7, s7b, s7c⟩, s8, s9, s10⟩ := hs'
  dsimp only
  have hreB : gB re := fun j => by have := s4 j; omega
  have hrX : ∀ (v : Int), v = v := fun _ => rfl
  have it := it_rel hs hw (n1 := 43200 * (n : Int)) (n2 := 300 * (n : Int)) (by omega) hS
  have st := fun (j : Nat) (hj : j ≤ 300) => step_rel hs hw (n1 := 43200 * (n : Int) + 144 * (j : Int)) (n2 := 300 * (n : Int) + (j : Int)) (by omega) (it j hj)
  obtain ⟨m, hm1, hm2⟩ := pk_least (fun m => m = 300 ∨ pSum (xIt P Dn rm re fl sh f11 f12 (pe, pa, g13, t, la, wa) m).1 P ≤ 0 ∨ ∃ k, m = k + 1 ∧ xMv P Dn rm re fl sh f11 f12 (xIt P Dn rm re fl sh f11 f12 (pe, pa, g13, t, la, wa) k) = 0 ∧ (∀ j : Nat, j < P → re j ≤ (xIt P Dn rm re fl sh f11 f12 (pe, pa, g13, t, la, wa) k).2.2.2.1)) ⟨300, Or.inl rfl⟩
  have hm : m ≤ 300 := by
    rcases Nat.lt_or_ge 300 m with h9 | h9
    · exact absurd (Or.inl rfl) (hm2 300 h9)
    · exact h9
  have hpe : ∀ k, k ≤ 300 → pSum (xIt P Dn rm re fl sh f11 f12 (pe, pa, g13, t, la, wa) k).1 P = pSum (mIt P Dn rm re one oth fl sh op (pe, pa, far, wi, gr, go, t, la, wa) k).1 P := fun k hk => by rw [(it k hk).1]
  have htm : ∀ k, k ≤ 300 → (xIt P Dn rm re fl sh f11 f12 (pe, pa, g13, t, la, wa) k).2.2.2.1 = (mIt P Dn rm re one oth fl sh op (pe, pa, far, wi, gr, go, t, la, wa) k).2.2.2.2.2.2.1 := fun k hk => (it k hk).2.2.1
  have hmv : ∀ k, k ≤ 300 → xMv P Dn rm re fl sh f11 f12 (xIt P Dn rm re fl sh f11 f12 (pe, pa, g13, t, la, wa) k) = mMv P Dn rm re one oth fl sh op (mIt P Dn rm re one oth fl sh op (pe, pa, far, wi, gr, go, t, la, wa) k) ∧ 0 ≤ mMv P Dn rm re one oth fl sh op (mIt P Dn rm re one oth fl sh op (pe, pa, far, wi, gr, go, t, la, wa) k) := fun k hk => ⟨(st k hk).2.2.2.1, (st k hk).2.2.2.2.1.1⟩
  have hinX : ∀ k, k < m → 0 < pSum (xIt P Dn rm re fl sh f11 f12 (pe, pa, g13, t, la, wa) k).1 P := fun k hk => by
    rcases Int.lt_or_le 0 (pSum (xIt P Dn rm re fl sh f11 f12 (pe, pa, g13, t, la, wa) k).1 P) with h9 | h9
    · exact h9
    · exact absurd (Or.inr (Or.inl h9)) (hm2 k hk)
  have hgoX : ∀ k, k + 1 < m → ¬ (xMv P Dn rm re fl sh f11 f12 (xIt P Dn rm re fl sh f11 f12 (pe, pa, g13, t, la, wa) k) = 0 ∧ (∀ j : Nat, j < P → re j ≤ (xIt P Dn rm re fl sh f11 f12 (pe, pa, g13, t, la, wa) k).2.2.2.1)) := fun k hk h9 => hm2 (k + 1) hk (Or.inr (Or.inr ⟨k, rfl, h9.1, h9.2⟩))
  have hinM : ∀ k, k < m → 0 < pSum (mIt P Dn rm re one oth fl sh op (pe, pa, far, wi, gr, go, t, la, wa) k).1 P := fun k hk => by rw [← hpe k (by omega)]; exact hinX k hk
  have hgoM : ∀ k, k + 1 < m → ¬ (mMv P Dn rm re one oth fl sh op (mIt P Dn rm re one oth fl sh op (pe, pa, far, wi, gr, go, t, la, wa) k) ≤ 0 ∧ (∀ j : Nat, j < P → re j ≤ (mIt P Dn rm re one oth fl sh op (pe, pa, far, wi, gr, go, t, la, wa) k).2.2.2.2.2.2.1)) := fun k hk h9 => hgoX k hk ⟨by
    have := hmv k (by omega)
    omega, fun j hj => by rw [htm k (by omega)]; exact h9.2 j hj⟩
  have hstM : m = 300 ∨ pSum (mIt P Dn rm re one oth fl sh op (pe, pa, far, wi, gr, go, t, la, wa) m).1 P ≤ 0 ∨ ∃ k, m = k + 1 ∧ mMv P Dn rm re one oth fl sh op (mIt P Dn rm re one oth fl sh op (pe, pa, far, wi, gr, go, t, la, wa) k) ≤ 0 ∧ (∀ j : Nat, j < P → re j ≤ (mIt P Dn rm re one oth fl sh op (pe, pa, far, wi, gr, go, t, la, wa) k).2.2.2.2.2.2.1) := by
    rcases hm1 with h9 | h9 | ⟨k, h9, h8, h7⟩
    · exact Or.inl h9
    · exact Or.inr (Or.inl (by rw [← hpe m hm]; exact h9))
    · refine Or.inr (Or.inr ⟨k, h9, ?_, fun j hj => ?_⟩)
      · have := hmv k (by omega)
        omega
      · rw [← htm k (by omega)]
        exact h7 j hj
  exact ⟨(m : Int), _, _, by omega, cX_clear s1 s2 hreB hw.1.2.2.1 hw.1.2.2.2 s9 (fun j hj => (st j (by omega)).2.1) hm hinX hgoX hm1, cM_clear s1 s2 hreB s7 s7b s7c (op_B s10) s5 s6 (fun j hj => (st j (by omega)).2.2.1) hm hinM hgoM hstM, ⟨P, Dn, rm, re, one, oth, fl, sh, op, f3, f4, f11, f12, xIt P Dn rm re fl sh f11 f12 (pe, pa, g13, t, la, wa) m, mIt P Dn rm re one oth fl sh op (pe, pa, far, wi, gr, go, t, la, wa) m, 0, hs, hw, gSS_up (it m hm) (by omega) (by omega), rfl, rfl⟩⟩
end OPS2
