/-! ===== the law's loop ===== -/
theorem gRW_up {cI cZ : ClassId} {q qm : Nat} {r rm' : Nat → Nat} {n : Nat} {wX wM : va_W} (h : gRW cI cZ q qm r rm' n wX wM) : gRW cI cZ q qm r rm' (n + 1) wX wM := by
  obtain ⟨P, Dn, rm, re, one, oth, fl, sh, op, f3, f4, f11, f12, SX, SM, th, h1, h2, h3, h4, h5⟩ := h
  exact ⟨P, Dn, rm, re, one, oth, fl, sh, op, f3, f4, f11, f12, SX, SM, th, h1, h2, gSS_n h3, h4, h5⟩
section GTB
variable {p : Program} {l : Launch} {e : Env} {R : Room} {s : State} {m : MethodId} {args : Array Value} {below : List Frame} {meth : Method} {c : Code} {cells slots : Nat} {Q : State → Prop} {A0 : Nat → Prop} {D : va_G}
variable {own : String} {cc : ByteArray} {nL : Nat} {Ts : List Cond} {tys : List (ClassId × FieldType)} {ws : va_W} {lv : List (Option Value)} {pc : Nat} {st : List Value}
theorem g_tableIn (E : gE p s m args c own cc nL Ts D tys A0) {dflt lo hi : Int} {offs : Array Int} {len : Nat} {x off : Int} {tgt : Nat} (hdg : decode cc pc = .ok (.tableswitch dflt lo hi offs, len)) (hr : gsm x) (h1 : lo ≤ x ∧ x ≤ hi) (ho : offs[(x - lo).toNat]? = some off) (ht : (pc : Int) + off = (tgt : Int)) (K : gJ p l e R s m args below meth c cells slots Q A0 D ws lv tgt st) : gJ p l e R s m args below meth c cells slots Q A0 D ws lv pc (.int (iI x) :: st) := by
  obtain ⟨⟨hx, hb, hml, hown, hts⟩, hK, hA⟩ := E
  intro H locs ls hP hD hS hL
  have e := iI_toInt hr
  exact lv_tableIn hx hb hdg (by rw [e]; omega) (by rw [e]; omega) (by rw [e]; exact ho) ht (K H locs ls hP hD hS hL)
theorem g_tableOut (E : gE p s m args c own cc nL Ts D tys A0) {dflt lo hi : Int} {offs : Array Int} {len : Nat} {x : Int} {tgt : Nat} (hdg : decode cc pc = .ok (.tableswitch dflt lo hi offs, len)) (hr : gsm x) (h1 : x < lo ∨ hi < x) (ht : (pc : Int) + dflt = (tgt : Int)) (K : gJ p l e R s m args below meth c cells slots Q A0 D ws lv tgt st) : gJ p l e R s m args below meth c cells slots Q A0 D ws lv pc (.int (iI x) :: st) := by
  obtain ⟨⟨hx, hb, hml, hown, hts⟩, hK, hA⟩ := E
  intro H locs ls hP hD hS hL
  have e := iI_toInt hr
  exact lv_tableOut hx hb hdg (by rw [e]; omega) ht (K H locs ls hP hD hS hL)
end GTB
theorem g_and31 (x : Int32) : ∃ w : Nat, w < 32 ∧ iI x.toInt &&& iI 31 = iI (w : Int) := by
  obtain ⟨j, h1, h2⟩ := pk_andE x (m := iI 31) 5 (by decide)
  exact ⟨j, h1, by rw [iI_of, h2, iI_nat]; rfl⟩
section GLP
variable {p : Program} {l : Launch} {e : Env} {s : State} {m : MethodId} {args : Array Value} {below : List Frame} {meth : Method} {c : Code} {Q : State → Prop} {A0 : Nat → Prop} {D : va_G} {cI cZ cL : ClassId} {b L o q qm : Nat} {r rm' : Nat → Nat} {xs : Nat → Int32}
/-- the relation at the head of the loop, n records read -/
def gHd (p : Program) (l : Launch) (e : Env) (s : State) (m : MethodId) (args : Array Value) (below : List Frame) (meth : Method) (c : Code) (Q : State → Prop) (A0 : Nat → Prop) (D : va_G) (cI cZ cL : ClassId) (b o q qm : Nat) (r rm' : Nat → Nat) (n : Nat) : Prop :=
  ∀ (wX wM : va_W) (fL : Nat → Int64) (a5 a6 : Option Value), gRW cI cZ q qm r rm' n wX wM → gJ p l e room_1 s m args below meth c (30 + n) (426 + 6 * n) Q A0 D (wM ++ (gO cL o fL :: wX)) [some (.ref b), some (.ref q), some (.ref qm), some (.ref o), some (.int (iI ((5 * n : Nat) : Int))), a5, a6] 23 []
theorem gHd_next (E : gE p s m args c RL cL_law 7 wsL_law D (gTyL cI cZ cL) A0) {n : Nat} (hh : gHd p l e s m args below meth c Q A0 D cI cZ cL b o q qm r rm' (n + 1)) {wX wM : va_W} {fL : Nat → Int64} (h : gRW cI cZ q qm r rm' (n + 1) wX wM) (a5 a6 : Option Value) : gJ p l e room_1 s m args below meth c (30 + n + 1) (426 + 6 * n + 6) Q A0 D (wM ++ (gO cL o fL :: wX)) [some (.ref b), some (.ref q), some (.ref qm), some (.ref o), some (.int (iI ((5 * n : Nat) : Int))), a5, a6] 1022 [] := by
  have h9 := hh wX wM fL a5 a6 h
  rw [show 30 + (n + 1) = 30 + n + 1 by omega, show 426 + 6 * (n + 1) = 426 + 6 * n + 6 by omega] at h9
  refine g_iinc E (lv' := [some (.ref b), some (.ref q), some (.ref qm), some (.ref o), some (.int (iI ((5 * (n + 1) : Nat) : Int))), a5, a6]) dL_law_1022 rfl ?_ ?_
  · rw [show ((5 * (n + 1) : Nat) : Int) = ((5 * n : Nat) : Int) + 5 by omega]
    rfl
  · exact g_goto E dL_law_1025 (tgt := 23) (by decide) h9
set_option maxHeartbeats 4000000 in
theorem law_k0 (hfl : l.stackTraces = false) (E : gE p s m args c RL cL_law 7 wsL_law D (gTyL cI cZ cL) A0) (hT : gKT A0 s s.heap) (hX : va_X b L xs s s.heap) (hbl : b < s.heap.size) (hbA : ¬ A0 b) {n : Nat} (hi : 5 * n + 5 ≤ L ∧ L ≤ 2560) (hh : gHd p l e s m args below meth c Q A0 D cI cZ cL b o q qm r rm' (n + 1)) {wX wM : va_W} {fL : Nat → Int64} (h : gRW cI cZ q qm r rm' n wX wM) (a5 a6 : Option Value) : gJ p l e room_1 s m args below meth c (30 + n) (426 + 6 * n) Q A0 D (wM ++ (gO cL o fL :: wX)) [some (.ref b), some (.ref q), some (.ref qm), some (.ref o), some (.int (iI ((5 * n : Nat) : Int))), a5, a6] 132 [] := by
  obtain ⟨fs, heX⟩ := gRW_he h
  obtain ⟨fs2, heM⟩ := gRW_hm h
  obtain ⟨k9, bv, fL', wX', wM', h1, h2, -, h3, h4, h5, h6⟩ := op_addPlace (l := l) (D := D) (cL := cL) (o := o) (fL := fL) hfl h (gsm_of (xs (5 * n + 1)))
  obtain ⟨fs3, heM'⟩ := gRW_hm h6
  exact law_c0 E hT hX hbl hbA hi (by omega) heX heM heM' h1 h2 h3 h4 h5 (gHd_next E hh h6) a5 a6
set_option maxHeartbeats 4000000 in
theorem law_k1 (hfl : l.stackTraces = false) (E : gE p s m args c RL cL_law 7 wsL_law D (gTyL cI cZ cL) A0) (hT : gKT A0 s s.heap) (hX : va_X b L xs s s.heap) (hbl : b < s.heap.size) (hbA : ¬ A0 b) {n : Nat} (hi : 5 * n + 5 ≤ L ∧ L ≤ 2560) (hh : gHd p l e s m args below meth c Q A0 D cI cZ cL b o q qm r rm' (n + 1)) {wX wM : va_W} {fL : Nat → Int64} (h : gRW cI cZ q qm r rm' n wX wM) (a5 a6 : Option Value) : gJ p l e room_1 s m args below meth c (30 + n) (426 + 6 * n) Q A0 D (wM ++ (gO cL o fL :: wX)) [some (.ref b), some (.ref q), some (.ref qm), some (.ref o), some (.int (iI ((5 * n : Nat) : Int))), a5, a6] 188 [] := by
  obtain ⟨fs, heX⟩ := gRW_he h
  obtain ⟨fs2, heM⟩ := gRW_hm h
  obtain ⟨k9, bv, fL', wX', wM', h1, h2, -, h3, h4, h5, h6⟩ := op_addDoor (l := l) (D := D) (cL := cL) (o := o) (fL := fL) hfl h (gsm_of (xs (5 * n + 1))) (gsm_of (xs (5 * n + 2))) (gsm_of (xs (5 * n + 3))) (gsm_of (xs (5 * n + 4)))
  obtain ⟨fs3, heM'⟩ := gRW_hm h6
  exact law_c1 E hT hX hbl hbA hi (by omega) heX heM heM' h1 h2 h3 h4 h5 (gHd_next E hh h6) a5 a6
set_option maxHeartbeats 4000000 in
theorem law_k2 (hfl : l.stackTraces = false) (E : gE p s m args c RL cL_law 7 wsL_law D (gTyL cI cZ cL) A0) (hT : gKT A0 s s.heap) (hX : va_X b L xs s s.heap) (hbl : b < s.heap.size) (hbA : ¬ A0 b) {n : Nat} (hi : 5 * n + 5 ≤ L ∧ L ≤ 2560) (hh : gHd p l e s m args below meth c Q A0 D cI cZ cL b o q qm r rm' (n + 1)) {wX wM : va_W} {fL : Nat → Int64} (h : gRW cI cZ q qm r rm' n wX wM) (a5 a6 : Option Value) : gJ p l e room_1 s m args below meth c (30 + n) (426 + 6 * n) Q A0 D (wM ++ (gO cL o fL :: wX)) [some (.ref b), some (.ref q), some (.ref qm), some (.ref o), some (.int (iI ((5 * n : Nat) : Int))), a5, a6] 280 [] := by
  obtain ⟨fs, heX⟩ := gRW_he h
  obtain ⟨fs2, heM⟩ := gRW_hm h
  obtain ⟨k9, bv, fL', wX', wM', h1, h2, hb, h3, h4, h5, h6⟩ := op_setDoor (l := l) (D := D) (cL := cL) (o := o) (fL := fL) hfl h (gsm_of (xs (5 * n + 1))) (o9 := if (xs (5 * n + 2)).toInt = 0 then 0 else 1) (by split; exact Or.inl rfl; exact Or.inr rfl)
  obtain ⟨fs3, heM'⟩ := gRW_hm h6
  exact law_c2 E hT hX hbl hbA hi (by omega) heX heM heM' rfl hb h1 h2 h3 h4 h5 (gHd_next E hh h6) a5 a6
set_option maxHeartbeats 4000000 in
theorem law_k3 (hfl : l.stackTraces = false) (E : gE p s m args c RL cL_law 7 wsL_law D (gTyL cI cZ cL) A0) (hT : gKT A0 s s.heap) (hX : va_X b L xs s s.heap) (hbl : b < s.heap.size) (hbA : ¬ A0 b) {n : Nat} (hi : 5 * n + 5 ≤ L ∧ L ≤ 2560) (hh : gHd p l e s m args below meth c Q A0 D cI cZ cL b o q qm r rm' (n + 1)) {wX wM : va_W} {fL : Nat → Int64} (h : gRW cI cZ q qm r rm' n wX wM) (a5 a6 : Option Value) : gJ p l e room_1 s m args below meth c (30 + n) (426 + 6 * n) Q A0 D (wM ++ (gO cL o fL :: wX)) [some (.ref b), some (.ref q), some (.ref qm), some (.ref o), some (.int (iI ((5 * n : Nat) : Int))), a5, a6] 371 [] := by
  obtain ⟨fs, heX⟩ := gRW_he h
  obtain ⟨fs2, heM⟩ := gRW_hm h
  obtain ⟨k9, bv, fL', wX', wM', h1, h2, -, h3, h4, h5, h6⟩ := op_come (l := l) (D := D) (cL := cL) (o := o) (fL := fL) hfl h (gsm_of (xs (5 * n + 1))) (gsm_of (xs (5 * n + 2)))
  obtain ⟨fs3, heM'⟩ := gRW_hm h6
  exact law_c3 E hT hX hbl hbA hi (by omega) heX heM heM' h1 h2 h3 h4 h5 (gHd_next E hh h6) a5 a6
set_option maxHeartbeats 4000000 in
theorem law_k4 (hfl : l.stackTraces = false) (E : gE p s m args c RL cL_law 7 wsL_law D (gTyL cI cZ cL) A0) (hT : gKT A0 s s.heap) (hX : va_X b L xs s s.heap) (hbl : b < s.heap.size) (hbA : ¬ A0 b) {n : Nat} (hi : 5 * n + 5 ≤ L ∧ L ≤ 2560) (hh : gHd p l e s m args below meth c Q A0 D cI cZ cL b o q qm r rm' (n + 1)) {wX wM : va_W} {fL : Nat → Int64} (h : gRW cI cZ q qm r rm' n wX wM) (a5 a6 : Option Value) : gJ p l e room_1 s m args below meth c (30 + n) (426 + 6 * n) Q A0 D (wM ++ (gO cL o fL :: wX)) [some (.ref b), some (.ref q), some (.ref qm), some (.ref o), some (.int (iI ((5 * n : Nat) : Int))), a5, a6] 439 [] := by
  obtain ⟨fs, heX⟩ := gRW_he h
  obtain ⟨fs2, heM⟩ := gRW_hm h
  obtain ⟨k9, bv, fL', wX', wM', h1, h2, -, h3, h4, h5, h6⟩ := op_setRelease (l := l) (D := D) (cL := cL) (o := o) (fL := fL) hfl h (gsm_of (xs (5 * n + 1))) (gsm_of (xs (5 * n + 2)))
  obtain ⟨fs3, heM'⟩ := gRW_hm h6
  exact law_c4 E hT hX hbl hbA hi (by omega) heX heM heM' h1 h2 h3 h4 h5 (gHd_next E hh h6) a5 a6
set_option maxHeartbeats 4000000 in
theorem law_k5 (hfl : l.stackTraces = false) (E : gE p s m args c RL cL_law 7 wsL_law D (gTyL cI cZ cL) A0) (hT : gKT A0 s s.heap) (hX : va_X b L xs s s.heap) (hbl : b < s.heap.size) (hbA : ¬ A0 b) {n : Nat} (hi : 5 * n + 5 ≤ L ∧ L ≤ 2560) (hh : gHd p l e s m args below meth c Q A0 D cI cZ cL b o q qm r rm' (n + 1)) {wX wM : va_W} {fL : Nat → Int64} (h : gRW cI cZ q qm r rm' n wX wM) (a5 a6 : Option Value) : gJ p l e room_1 s m args below meth c (30 + n) (426 + 6 * n) Q A0 D (wM ++ (gO cL o fL :: wX)) [some (.ref b), some (.ref q), some (.ref qm), some (.ref o), some (.int (iI ((5 * n : Nat) : Int))), a5, a6] 507 [] := by
  obtain ⟨fs, heX⟩ := gRW_he h
  obtain ⟨fs2, heM⟩ := gRW_hm h
  obtain ⟨v, wX', wM', h1, h3, h4, h6⟩ := op_places (l := l) (D := D) h (by omega)
  obtain ⟨fs3, heM'⟩ := gRW_hm h6
  exact law_c5 E hT hX hbl hbA hi (by omega) heX heM heM' h1 h3 h4 (gHd_next E hh h6) a5 a6
set_option maxHeartbeats 4000000 in
theorem law_k6 (hfl : l.stackTraces = false) (E : gE p s m args c RL cL_law 7 wsL_law D (gTyL cI cZ cL) A0) (hT : gKT A0 s s.heap) (hX : va_X b L xs s s.heap) (hbl : b < s.heap.size) (hbA : ¬ A0 b) {n : Nat} (hi : 5 * n + 5 ≤ L ∧ L ≤ 2560) (hh : gHd p l e s m args below meth c Q A0 D cI cZ cL b o q qm r rm' (n + 1)) {wX wM : va_W} {fL : Nat → Int64} (h : gRW cI cZ q qm r rm' n wX wM) (a5 a6 : Option Value) : gJ p l e room_1 s m args below meth c (30 + n) (426 + 6 * n) Q A0 D (wM ++ (gO cL o fL :: wX)) [some (.ref b), some (.ref q), some (.ref qm), some (.ref o), some (.int (iI ((5 * n : Nat) : Int))), a5, a6] 520 [] := by
  obtain ⟨fs, heX⟩ := gRW_he h
  obtain ⟨fs2, heM⟩ := gRW_hm h
  obtain ⟨v, wX', wM', h1, h3, h4, h6⟩ := op_doors (l := l) (D := D) h (by omega)
  obtain ⟨fs3, heM'⟩ := gRW_hm h6
  exact law_c6 E hT hX hbl hbA hi (by omega) heX heM heM' h1 h3 h4 (gHd_next E hh h6) a5 a6
set_option maxHeartbeats 4000000 in
theorem law_k7 (hfl : l.stackTraces = false) (E : gE p s m args c RL cL_law 7 wsL_law D (gTyL cI cZ cL) A0) (hT : gKT A0 s s.heap) (hX : va_X b L xs s s.heap) (hbl : b < s.heap.size) (hbA : ¬ A0 b) {n : Nat} (hi : 5 * n + 5 ≤ L ∧ L ≤ 2560) (hh : gHd p l e s m args below meth c Q A0 D cI cZ cL b o q qm r rm' (n + 1)) {wX wM : va_W} {fL : Nat → Int64} (h : gRW cI cZ q qm r rm' n wX wM) (a5 a6 : Option Value) : gJ p l e room_1 s m args below meth c (30 + n) (426 + 6 * n) Q A0 D (wM ++ (gO cL o fL :: wX)) [some (.ref b), some (.ref q), some (.ref qm), some (.ref o), some (.int (iI ((5 * n : Nat) : Int))), a5, a6] 533 [] := by
  obtain ⟨fs, heX⟩ := gRW_he h
  obtain ⟨fs2, heM⟩ := gRW_hm h
  obtain ⟨k9, bv, fL', wX', wM', h1, h2, -, h3, h4, h5, h6⟩ := op_step (l := l) (D := D) (cL := cL) (o := o) (fL := fL) hfl h (by omega) (gsm_of (xs (5 * n + 1)))
  obtain ⟨fs3, heM'⟩ := gRW_hm h6
  exact law_c7 E hT hX hbl hbA hi (by omega) heX heM heM' h1 h2 h3 h4 h5 (gHd_next E hh h6) a5 a6
set_option maxHeartbeats 4000000 in
theorem law_k8 (hfl : l.stackTraces = false) (E : gE p s m args c RL cL_law 7 wsL_law D (gTyL cI cZ cL) A0) (hT : gKT A0 s s.heap) (hX : va_X b L xs s s.heap) (hbl : b < s.heap.size) (hbA : ¬ A0 b) {n : Nat} (hi : 5 * n + 5 ≤ L ∧ L ≤ 2560) (hh : gHd p l e s m args below meth c Q A0 D cI cZ cL b o q qm r rm' (n + 1)) {wX wM : va_W} {fL : Nat → Int64} (h : gRW cI cZ q qm r rm' n wX wM) (a5 a6 : Option Value) : gJ p l e room_1 s m args below meth c (30 + n) (426 + 6 * n) Q A0 D (wM ++ (gO cL o fL :: wX)) [some (.ref b), some (.ref q), some (.ref qm), some (.ref o), some (.int (iI ((5 * n : Nat) : Int))), a5, a6] 589 [] := by
  obtain ⟨fs, heX⟩ := gRW_he h
  obtain ⟨fs2, heM⟩ := gRW_hm h
  obtain ⟨v, wX', wM', h1, h3, h4, h6⟩ := op_clear (l := l) (D := D) h (by omega)
  obtain ⟨fs3, heM'⟩ := gRW_hm h6
  exact law_c8 E hT hX hbl hbA hi (by omega) heX heM heM' h1 h3 h4 (gHd_next E hh h6) a5 a6
set_option maxHeartbeats 4000000 in
theorem law_k9 (hfl : l.stackTraces = false) (E : gE p s m args c RL cL_law 7 wsL_law D (gTyL cI cZ cL) A0) (hT : gKT A0 s s.heap) (hX : va_X b L xs s s.heap) (hbl : b < s.heap.size) (hbA : ¬ A0 b) {n : Nat} (hi : 5 * n + 5 ≤ L ∧ L ≤ 2560) (hh : gHd p l e s m args below meth c Q A0 D cI cZ cL b o q qm r rm' (n + 1)) {wX wM : va_W} {fL : Nat → Int64} (h : gRW cI cZ q qm r rm' n wX wM) (a5 a6 : Option Value) : gJ p l e room_1 s m args below meth c (30 + n) (426 + 6 * n) Q A0 D (wM ++ (gO cL o fL :: wX)) [some (.ref b), some (.ref q), some (.ref qm), some (.ref o), some (.int (iI ((5 * n : Nat) : Int))), a5, a6] 602 [] := by
  obtain ⟨fs, heX⟩ := gRW_he h
  obtain ⟨fs2, heM⟩ := gRW_hm h
  obtain ⟨v, wX', wM', h1, h3, h4, h6⟩ := op_now (l := l) (D := D) h (by omega)
  obtain ⟨fs3, heM'⟩ := gRW_hm h6
  exact law_c9 E hT hX hbl hbA hi (by omega) heX heM heM' h1 h3 h4 (gHd_next E hh h6) a5 a6
set_option maxHeartbeats 4000000 in
theorem law_k10 (hfl : l.stackTraces = false) (E : gE p s m args c RL cL_law 7 wsL_law D (gTyL cI cZ cL) A0) (hT : gKT A0 s s.heap) (hX : va_X b L xs s s.heap) (hbl : b < s.heap.size) (hbA : ¬ A0 b) {n : Nat} (hi : 5 * n + 5 ≤ L ∧ L ≤ 2560) (hh : gHd p l e s m args below meth c Q A0 D cI cZ cL b o q qm r rm' (n + 1)) {wX wM : va_W} {fL : Nat → Int64} (h : gRW cI cZ q qm r rm' n wX wM) (a5 a6 : Option Value) : gJ p l e room_1 s m args below meth c (30 + n) (426 + 6 * n) Q A0 D (wM ++ (gO cL o fL :: wX)) [some (.ref b), some (.ref q), some (.ref qm), some (.ref o), some (.int (iI ((5 * n : Nat) : Int))), a5, a6] 615 [] := by
  obtain ⟨fs, heX⟩ := gRW_he h
  obtain ⟨fs2, heM⟩ := gRW_hm h
  obtain ⟨k9, bv, fL', wX', wM', h1, h2, -, h3, h4, h5, h6⟩ := op_people (l := l) (D := D) (cL := cL) (o := o) (fL := fL) hfl h (by omega) (gsm_of (xs (5 * n + 1)))
  obtain ⟨fs3, heM'⟩ := gRW_hm h6
  exact law_c10 E hT hX hbl hbA hi (by omega) heX heM heM' h1 h2 h3 h4 h5 (gHd_next E hh h6) a5 a6
set_option maxHeartbeats 4000000 in
theorem law_k11 (hfl : l.stackTraces = false) (E : gE p s m args c RL cL_law 7 wsL_law D (gTyL cI cZ cL) A0) (hT : gKT A0 s s.heap) (hX : va_X b L xs s s.heap) (hbl : b < s.heap.size) (hbA : ¬ A0 b) {n : Nat} (hi : 5 * n + 5 ≤ L ∧ L ≤ 2560) (hh : gHd p l e s m args below meth c Q A0 D cI cZ cL b o q qm r rm' (n + 1)) {wX wM : va_W} {fL : Nat → Int64} (h : gRW cI cZ q qm r rm' n wX wM) (a5 a6 : Option Value) : gJ p l e room_1 s m args below meth c (30 + n) (426 + 6 * n) Q A0 D (wM ++ (gO cL o fL :: wX)) [some (.ref b), some (.ref q), some (.ref qm), some (.ref o), some (.int (iI ((5 * n : Nat) : Int))), a5, a6] 671 [] := by
  obtain ⟨fs, heX⟩ := gRW_he h
  obtain ⟨fs2, heM⟩ := gRW_hm h
  obtain ⟨v, wX', wM', h1, h3, h4, h6⟩ := op_inside (l := l) (D := D) h (by omega)
  obtain ⟨fs3, heM'⟩ := gRW_hm h6
  exact law_c11 E hT hX hbl hbA hi (by omega) heX heM heM' h1 h3 h4 (gHd_next E hh h6) a5 a6
set_option maxHeartbeats 4000000 in
theorem law_k12 (hfl : l.stackTraces = false) (E : gE p s m args c RL cL_law 7 wsL_law D (gTyL cI cZ cL) A0) (hT : gKT A0 s s.heap) (hX : va_X b L xs s s.heap) (hbl : b < s.heap.size) (hbA : ¬ A0 b) {n : Nat} (hi : 5 * n + 5 ≤ L ∧ L ≤ 2560) (hh : gHd p l e s m args below meth c Q A0 D cI cZ cL b o q qm r rm' (n + 1)) {wX wM : va_W} {fL : Nat → Int64} (h : gRW cI cZ q qm r rm' n wX wM) (a5 a6 : Option Value) : gJ p l e room_1 s m args below meth c (30 + n) (426 + 6 * n) Q A0 D (wM ++ (gO cL o fL :: wX)) [some (.ref b), some (.ref q), some (.ref qm), some (.ref o), some (.int (iI ((5 * n : Nat) : Int))), a5, a6] 684 [] := by
  obtain ⟨fs, heX⟩ := gRW_he h
  obtain ⟨fs2, heM⟩ := gRW_hm h
  obtain ⟨k9, bv, fL', wX', wM', h1, h2, -, h3, h4, h5, h6⟩ := op_latest (l := l) (D := D) (cL := cL) (o := o) (fL := fL) hfl h (by omega) 
  obtain ⟨fs3, heM'⟩ := gRW_hm h6
  exact law_c12 E hT hX hbl hbA hi (by omega) heX heM heM' h1 h2 h3 h4 h5 (gHd_next E hh h6) a5 a6
set_option maxHeartbeats 4000000 in
theorem law_k13 (hfl : l.stackTraces = false) (E : gE p s m args c RL cL_law 7 wsL_law D (gTyL cI cZ cL) A0) (hT : gKT A0 s s.heap) (hX : va_X b L xs s s.heap) (hbl : b < s.heap.size) (hbA : ¬ A0 b) {n : Nat} (hi : 5 * n + 5 ≤ L ∧ L ≤ 2560) (hh : gHd p l e s m args below meth c Q A0 D cI cZ cL b o q qm r rm' (n + 1)) {wX wM : va_W} {fL : Nat → Int64} (h : gRW cI cZ q qm r rm' n wX wM) (a5 a6 : Option Value) : gJ p l e room_1 s m args below meth c (30 + n) (426 + 6 * n) Q A0 D (wM ++ (gO cL o fL :: wX)) [some (.ref b), some (.ref q), some (.ref qm), some (.ref o), some (.int (iI ((5 * n : Nat) : Int))), a5, a6] 728 [] := by
  obtain ⟨fs, heX⟩ := gRW_he h
  obtain ⟨fs2, heM⟩ := gRW_hm h
  obtain ⟨k9, bv, fL', wX', wM', h1, h2, -, h3, h4, h5, h6⟩ := op_passed (l := l) (D := D) (cL := cL) (o := o) (fL := fL) hfl h (by omega) (gsm_of (xs (5 * n + 1)))
  obtain ⟨fs3, heM'⟩ := gRW_hm h6
  exact law_c13 E hT hX hbl hbA hi (by omega) heX heM heM' h1 h2 h3 h4 h5 (gHd_next E hh h6) a5 a6
set_option maxHeartbeats 4000000 in
theorem law_k14 (hfl : l.stackTraces = false) (E : gE p s m args c RL cL_law 7 wsL_law D (gTyL cI cZ cL) A0) (hT : gKT A0 s s.heap) (hX : va_X b L xs s s.heap) (hbl : b < s.heap.size) (hbA : ¬ A0 b) {n : Nat} (hi : 5 * n + 5 ≤ L ∧ L ≤ 2560) (hh : gHd p l e s m args below meth c Q A0 D cI cZ cL b o q qm r rm' (n + 1)) {wX wM : va_W} {fL : Nat → Int64} (h : gRW cI cZ q qm r rm' n wX wM) (a5 a6 : Option Value) : gJ p l e room_1 s m args below meth c (30 + n) (426 + 6 * n) Q A0 D (wM ++ (gO cL o fL :: wX)) [some (.ref b), some (.ref q), some (.ref qm), some (.ref o), some (.int (iI ((5 * n : Nat) : Int))), a5, a6] 784 [] := by
  obtain ⟨fs, heX⟩ := gRW_he h
  obtain ⟨fs2, heM⟩ := gRW_hm h
  obtain ⟨v, wX', wM', h1, h3, h4, h6⟩ := op_waited (l := l) (D := D) h (by omega)
  obtain ⟨fs3, heM'⟩ := gRW_hm h6
  exact law_c14 E hT hX hbl hbA hi (by omega) heX heM heM' h1 h3 h4 (gHd_next E hh h6) a5 a6
set_option maxHeartbeats 4000000 in
theorem law_k15 (hfl : l.stackTraces = false) (E : gE p s m args c RL cL_law 7 wsL_law D (gTyL cI cZ cL) A0) (hT : gKT A0 s s.heap) (hX : va_X b L xs s s.heap) (hbl : b < s.heap.size) (hbA : ¬ A0 b) {n : Nat} (hi : 5 * n + 5 ≤ L ∧ L ≤ 2560) (hh : gHd p l e s m args below meth c Q A0 D cI cZ cL b o q qm r rm' (n + 1)) {wX wM : va_W} {fL : Nat → Int64} (h : gRW cI cZ q qm r rm' n wX wM) (a5 a6 : Option Value) : gJ p l e room_1 s m args below meth c (30 + n) (426 + 6 * n) Q A0 D (wM ++ (gO cL o fL :: wX)) [some (.ref b), some (.ref q), some (.ref qm), some (.ref o), some (.int (iI ((5 * n : Nat) : Int))), a5, a6] 797 [] := by
  obtain ⟨fs, heX⟩ := gRW_he h
  obtain ⟨fs2, heM⟩ := gRW_hm h
  obtain ⟨k9, bv, fL', wX', wM', h1, h2, -, h3, h4, h5, h6⟩ := op_distance (l := l) (D := D) (cL := cL) (o := o) (fL := fL) hfl h (by omega) (gsm_of (xs (5 * n + 1)))
  obtain ⟨fs3, heM'⟩ := gRW_hm h6
  exact law_c15 E hT hX hbl hbA hi (by omega) heX heM heM' h1 h2 h3 h4 h5 (gHd_next E hh h6) a5 a6
set_option maxHeartbeats 4000000 in
theorem law_k16 (hfl : l.stackTraces = false) (E : gE p s m args c RL cL_law 7 wsL_law D (gTyL cI cZ cL) A0) (hT : gKT A0 s s.heap) (hX : va_X b L xs s s.heap) (hbl : b < s.heap.size) (hbA : ¬ A0 b) {n : Nat} (hi : 5 * n + 5 ≤ L ∧ L ≤ 2560) (hh : gHd p l e s m args below meth c Q A0 D cI cZ cL b o q qm r rm' (n + 1)) {wX wM : va_W} {fL : Nat → Int64} (h : gRW cI cZ q qm r rm' n wX wM) (a5 a6 : Option Value) : gJ p l e room_1 s m args below meth c (30 + n) (426 + 6 * n) Q A0 D (wM ++ (gO cL o fL :: wX)) [some (.ref b), some (.ref q), some (.ref qm), some (.ref o), some (.int (iI ((5 * n : Nat) : Int))), a5, a6] 853 [] := by
  obtain ⟨fs, heX⟩ := gRW_he h
  obtain ⟨fs2, heM⟩ := gRW_hm h
  obtain ⟨k9, bv, fL', wX', wM', h1, h2, -, h3, h4, h5, h6⟩ := op_door (l := l) (D := D) (cL := cL) (o := o) (fL := fL) hfl h (by omega) (gsm_of (xs (5 * n + 1)))
  obtain ⟨fs3, heM'⟩ := gRW_hm h6
  exact law_c16 E hT hX hbl hbA hi (by omega) heX heM heM' h1 h2 h3 h4 h5 (gHd_next E hh h6) a5 a6
set_option maxHeartbeats 4000000 in
theorem law_k17 (hfl : l.stackTraces = false) (E : gE p s m args c RL cL_law 7 wsL_law D (gTyL cI cZ cL) A0) (hT : gKT A0 s s.heap) (hX : va_X b L xs s s.heap) (hbl : b < s.heap.size) (hbA : ¬ A0 b) {n : Nat} (hi : 5 * n + 5 ≤ L ∧ L ≤ 2560) (hh : gHd p l e s m args below meth c Q A0 D cI cZ cL b o q qm r rm' (n + 1)) {wX wM : va_W} {fL : Nat → Int64} (h : gRW cI cZ q qm r rm' n wX wM) (a5 a6 : Option Value) : gJ p l e room_1 s m args below meth c (30 + n) (426 + 6 * n) Q A0 D (wM ++ (gO cL o fL :: wX)) [some (.ref b), some (.ref q), some (.ref qm), some (.ref o), some (.int (iI ((5 * n : Nat) : Int))), a5, a6] 909 [] := by
  obtain ⟨fs, heX⟩ := gRW_he h
  obtain ⟨fs2, heM⟩ := gRW_hm h
  obtain ⟨v, wX', wM', h1, h3, h4, h6⟩ := op_trapped (l := l) (D := D) h (by omega)
  obtain ⟨fs3, heM'⟩ := gRW_hm h6
  exact law_c17 E hT hX hbl hbA hi (by omega) heX heM heM' h1 h3 h4 (gHd_next E hh h6) a5 a6
set_option maxHeartbeats 4000000 in
theorem law_k18 (hfl : l.stackTraces = false) (E : gE p s m args c RL cL_law 7 wsL_law D (gTyL cI cZ cL) A0) (hT : gKT A0 s s.heap) (hX : va_X b L xs s s.heap) (hbl : b < s.heap.size) (hbA : ¬ A0 b) {n : Nat} (hi : 5 * n + 5 ≤ L ∧ L ≤ 2560) (hh : gHd p l e s m args below meth c Q A0 D cI cZ cL b o q qm r rm' (n + 1)) {wX wM : va_W} {fL : Nat → Int64} (h : gRW cI cZ q qm r rm' n wX wM) (a5 a6 : Option Value) : gJ p l e room_1 s m args below meth c (30 + n) (426 + 6 * n) Q A0 D (wM ++ (gO cL o fL :: wX)) [some (.ref b), some (.ref q), some (.ref qm), some (.ref o), some (.int (iI ((5 * n : Nat) : Int))), a5, a6] 922 [] := by
  obtain ⟨fs, heX⟩ := gRW_he h
  obtain ⟨fs2, heM⟩ := gRW_hm h
  obtain ⟨k9, bv, fL', wX', wM', h1, h2, -, h3, h4, h5, h6⟩ := op_wouldMove (l := l) (D := D) (cL := cL) (o := o) (fL := fL) hfl h (by omega) (gsm_of (xs (5 * n + 1)))
  obtain ⟨fs3, heM'⟩ := gRW_hm h6
  exact law_c18 E hT hX hbl hbA hi (by omega) heX heM heM' h1 h2 h3 h4 h5 (gHd_next E hh h6) a5 a6
set_option maxHeartbeats 4000000 in
theorem law_k19 (hfl : l.stackTraces = false) (E : gE p s m args c RL cL_law 7 wsL_law D (gTyL cI cZ cL) A0) (hT : gKT A0 s s.heap) (hX : va_X b L xs s s.heap) (hbl : b < s.heap.size) (hbA : ¬ A0 b) {n : Nat} (hi : 5 * n + 5 ≤ L ∧ L ≤ 2560) (hh : gHd p l e s m args below meth c Q A0 D cI cZ cL b o q qm r rm' (n + 1)) {wX wM : va_W} {fL : Nat → Int64} (h : gRW cI cZ q qm r rm' n wX wM) (a5 a6 : Option Value) : gJ p l e room_1 s m args below meth c (30 + n) (426 + 6 * n) Q A0 D (wM ++ (gO cL o fL :: wX)) [some (.ref b), some (.ref q), some (.ref qm), some (.ref o), some (.int (iI ((5 * n : Nat) : Int))), a5, a6] 978 [] := by
  obtain ⟨fs, heX⟩ := gRW_he h
  obtain ⟨fs2, heM⟩ := gRW_hm h
  obtain ⟨k9, bv, fL', wX', wM', h1, h2, -, h3, h4, h5, h6⟩ := op_bound (l := l) (D := D) (cL := cL) (o := o) (fL := fL) hfl h (by omega) 
  obtain ⟨fs3, heM'⟩ := gRW_hm h6
  exact law_c19 E hT hX hbl hbA hi (by omega) heX heM heM' h1 h2 h3 h4 h5 (gHd_next E hh h6) a5 a6
set_option maxHeartbeats 4000000 in
theorem law_body (hfl : l.stackTraces = false) (E : gE p s m args c RL cL_law 7 wsL_law D (gTyL cI cZ cL) A0) (hT : gKT A0 s s.heap) (hX : va_X b L xs s s.heap) (hbl : b < s.heap.size) (hbA : ¬ A0 b) (hL : L ≤ 2560)
    (hEnd : ∀ (cells slots : Nat) (ws : va_W) (lv : List (Option Value)), cells ≤ 1059 → slots ≤ 8648 → gJ p l e room_1 s m args below meth c cells slots Q A0 D ws lv 1028 []) {n : Nat} (hn : n ≤ 512) (hh : n < 512 → gHd p l e s m args below meth c Q A0 D cI cZ cL b o q qm r rm' (n + 1)) : gHd p l e s m args below meth c Q A0 D cI cZ cL b o q qm r rm' n := by
  intro wX wM fL a5 a6 h
  refine g_iload E dL_law_23 rfl ?_
  refine g_aload_n E dL_law_25 rfl rfl ?_
  refine g_scl E hX hbl hbA dL_law_26 ?_
  refine g_iconst E dL_law_27 ?_
  refine g_isub E dL_law_28 ?_
  refine g_icmp_gt E dL_law_29 (tgt := 1028) (by decide) (by omega) (fun _ => hEnd _ _ _ _ (by omega) (by omega)) (fun hlt => ?_)
  have hi : 5 * n + 5 ≤ L ∧ L ≤ 2560 := by omega
  have hh' := hh (by omega)
  refine g_aload_n E dL_law_32 rfl rfl ?_
  refine g_iload E dL_law_33 rfl ?_
  refine g_sld E hX hbl hbA dL_law_35 (j := 5 * n) rfl (by omega) ?_
  refine g_bipush E dL_law_36 rfl ?_
  obtain ⟨w, hw, hand⟩ := g_and31 (xs (5 * n))
  refine g_iandZ E dL_law_38 (v := (w : Int)) hand ?_
  by_cases c0 : w = 0
  · subst c0
    exact g_tableIn E dL_law_39 ⟨by decide, by decide⟩ (by decide) (off := 93) (tgt := 132) rfl (by decide) (law_k0 hfl E hT hX hbl hbA hi hh' h a5 a6)
  by_cases c1 : w = 1
  · subst c1
    exact g_tableIn E dL_law_39 ⟨by decide, by decide⟩ (by decide) (off := 149) (tgt := 188) rfl (by decide) (law_k1 hfl E hT hX hbl hbA hi hh' h a5 a6)
  by_cases c2 : w = 2
  · subst c2
    exact g_tableIn E dL_law_39 ⟨by decide, by decide⟩ (by decide) (off := 241) (tgt := 280) rfl (by decide) (law_k2 hfl E hT hX hbl hbA hi hh' h a5 a6)
  by_cases c3 : w = 3
  · subst c3
    exact g_tableIn E dL_law_39 ⟨by decide, by decide⟩ (by decide) (off := 332) (tgt := 371) rfl (by decide) (law_k3 hfl E hT hX hbl hbA hi hh' h a5 a6)
  by_cases c4 : w = 4
  · subst c4
    exact g_tableIn E dL_law_39 ⟨by decide, by decide⟩ (by decide) (off := 400) (tgt := 439) rfl (by decide) (law_k4 hfl E hT hX hbl hbA hi hh' h a5 a6)
  by_cases c5 : w = 5
  · subst c5
    exact g_tableIn E dL_law_39 ⟨by decide, by decide⟩ (by decide) (off := 468) (tgt := 507) rfl (by decide) (law_k5 hfl E hT hX hbl hbA hi hh' h a5 a6)
  by_cases c6 : w = 6
  · subst c6
    exact g_tableIn E dL_law_39 ⟨by decide, by decide⟩ (by decide) (off := 481) (tgt := 520) rfl (by decide) (law_k6 hfl E hT hX hbl hbA hi hh' h a5 a6)
  by_cases c7 : w = 7
  · subst c7
    exact g_tableIn E dL_law_39 ⟨by decide, by decide⟩ (by decide) (off := 494) (tgt := 533) rfl (by decide) (law_k7 hfl E hT hX hbl hbA hi hh' h a5 a6)
  by_cases c8 : w = 8
  · subst c8
    exact g_tableIn E dL_law_39 ⟨by decide, by decide⟩ (by decide) (off := 550) (tgt := 589) rfl (by decide) (law_k8 hfl E hT hX hbl hbA hi hh' h a5 a6)
  by_cases c9 : w = 9
  · subst c9
    exact g_tableIn E dL_law_39 ⟨by decide, by decide⟩ (by decide) (off := 563) (tgt := 602) rfl (by decide) (law_k9 hfl E hT hX hbl hbA hi hh' h a5 a6)
  by_cases c10 : w = 10
  · subst c10
    exact g_tableIn E dL_law_39 ⟨by decide, by decide⟩ (by decide) (off := 576) (tgt := 615) rfl (by decide) (law_k10 hfl E hT hX hbl hbA hi hh' h a5 a6)
  by_cases c11 : w = 11
  · subst c11
    exact g_tableIn E dL_law_39 ⟨by decide, by decide⟩ (by decide) (off := 632) (tgt := 671) rfl (by decide) (law_k11 hfl E hT hX hbl hbA hi hh' h a5 a6)
  by_cases c12 : w = 12
  · subst c12
    exact g_tableIn E dL_law_39 ⟨by decide, by decide⟩ (by decide) (off := 645) (tgt := 684) rfl (by decide) (law_k12 hfl E hT hX hbl hbA hi hh' h a5 a6)
  by_cases c13 : w = 13
  · subst c13
    exact g_tableIn E dL_law_39 ⟨by decide, by decide⟩ (by decide) (off := 689) (tgt := 728) rfl (by decide) (law_k13 hfl E hT hX hbl hbA hi hh' h a5 a6)
  by_cases c14 : w = 14
  · subst c14
    exact g_tableIn E dL_law_39 ⟨by decide, by decide⟩ (by decide) (off := 745) (tgt := 784) rfl (by decide) (law_k14 hfl E hT hX hbl hbA hi hh' h a5 a6)
  by_cases c15 : w = 15
  · subst c15
    exact g_tableIn E dL_law_39 ⟨by decide, by decide⟩ (by decide) (off := 758) (tgt := 797) rfl (by decide) (law_k15 hfl E hT hX hbl hbA hi hh' h a5 a6)
  by_cases c16 : w = 16
  · subst c16
    exact g_tableIn E dL_law_39 ⟨by decide, by decide⟩ (by decide) (off := 814) (tgt := 853) rfl (by decide) (law_k16 hfl E hT hX hbl hbA hi hh' h a5 a6)
  by_cases c17 : w = 17
  · subst c17
    exact g_tableIn E dL_law_39 ⟨by decide, by decide⟩ (by decide) (off := 870) (tgt := 909) rfl (by decide) (law_k17 hfl E hT hX hbl hbA hi hh' h a5 a6)
  by_cases c18 : w = 18
  · subst c18
    exact g_tableIn E dL_law_39 ⟨by decide, by decide⟩ (by decide) (off := 883) (tgt := 922) rfl (by decide) (law_k18 hfl E hT hX hbl hbA hi hh' h a5 a6)
  by_cases c19 : w = 19
  · subst c19
    exact g_tableIn E dL_law_39 ⟨by decide, by decide⟩ (by decide) (off := 939) (tgt := 978) rfl (by decide) (law_k19 hfl E hT hX hbl hbA hi hh' h a5 a6)
  refine g_tableOut E dL_law_39 ⟨by omega, by omega⟩ (by omega) (tgt := 1022) (by decide) ?_
  exact g_wid (by omega) (by omega) (gHd_next E hh' (gRW_up h) a5 a6)
theorem law_loop (hfl : l.stackTraces = false) (E : gE p s m args c RL cL_law 7 wsL_law D (gTyL cI cZ cL) A0) (hT : gKT A0 s s.heap) (hX : va_X b L xs s s.heap) (hbl : b < s.heap.size) (hbA : ¬ A0 b) (hL : L ≤ 2560)
    (hEnd : ∀ (cells slots : Nat) (ws : va_W) (lv : List (Option Value)), cells ≤ 1059 → slots ≤ 8648 → gJ p l e room_1 s m args below meth c cells slots Q A0 D ws lv 1028 []) : gHd p l e s m args below meth c Q A0 D cI cZ cL b o q qm r rm' 0 := by
  have key : ∀ k n : Nat, n + k = 512 → gHd p l e s m args below meth c Q A0 D cI cZ cL b o q qm r rm' n := by
    intro k
    induction k with
    | zero => intro n hn; exact law_body hfl E hT hX hbl hbA hL hEnd (by omega) (fun h9 => absurd h9 (by omega))
    | succ k ih => intro n hn; exact law_body hfl E hT hX hbl hbA hL hEnd (by omega) (fun _ => ih (n + 1) (by omega))
  exact key 512 0 (by omega)
end GLP
