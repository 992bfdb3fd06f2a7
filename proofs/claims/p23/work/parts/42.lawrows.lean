/-! ===== rows for the law: calls that make cells, the heap's growth counted ===== -/
def gTyL (cI cZ cL : ClassId) : List (ClassId × FieldType) := [(cI, .int), (cZ, .boolean), (cL, .long)]
abbrev gO (cL : ClassId) (o : Nat) (fL : Nat → Int64) : Nat × va_E := (o, .inl (cL, 40, .inr (.inl fL)))
def rK (lam k : Nat) : Room := { frames := lam, cells := k, slots := 6 * k, locals := 27 * lam }
/-- the heap Hb, k cells behind the start's at least; nothing old is touched -/
def hC (A0 : Nat → Prop) (s : State) (Hb : Heap) (k : Nat) : Prop := va_S A0 s.heap Hb [] ∧ gKT A0 s Hb ∧ s.heap.size + k ≤ Hb.size
theorem gKT.heap {A0 : Nat → Prop} {s : State} {Hb H : Heap} {locs : List Loc} (h : gKT A0 s Hb) (hS : va_S A0 Hb H locs) : gKT A0 s H := ⟨h.1.kept hS.2.1, h.2.1.kept hS.2.1, h.2.2⟩
theorem hC.next {A0 : Nat → Prop} {s : State} {Hb H1 : Heap} {locs1 : List Loc} {k j : Nat} (C : hC A0 s Hb k) (hS : va_S A0 Hb H1 locs1) (hz : Hb.size + j ≤ H1.size) : hC A0 s H1 (k + j) := ⟨⟨Nat.le_trans C.1.1 hS.1, fun q h1 h2 => (hS.2.1 q (Nat.lt_of_lt_of_le h1 C.1.1) h2).trans (C.1.2.1 q h1 h2), fun _ h => nomatch h⟩, C.2.1.heap hS, by have := C.2.2; omega⟩
theorem hC.mono {A0 : Nat → Prop} {s : State} {Hb : Heap} {k j : Nat} (C : hC A0 s Hb k) (h : j ≤ k) : hC A0 s Hb j := ⟨C.1, C.2.1, by have := C.2.2; omega⟩
/-- returns rv; k cells more in the heap at least, at most the room's -/
def gMN (l : Launch) (y : MethodName) (ws : List Cond) (rm : Room) (k : Nat) (D : va_G) (tys : List (ClassId × FieldType)) (W0 : va_W) (av : List Value) (rv : Int) (W1 : va_W) : Prop :=
  ∀ sz : Nat, Met l y ws rm (va_Pc av (fun U => gB0 D tys W0 sz U ∧ gKT (va_A W0 sz) U U.heap)) (va_Qi (fun (r : Int32) (_ : Unit) => r = iI rv) (fun _ t => sz + k ≤ t.heap.size ∧ gB1 D tys (va_A W0 sz) W1 t) (va_A W0 sz)) rm.cells rm.slots (va_A W0 sz)
theorem g_Pm {D : va_G} {cl : List vw_C} {w1 w2 : va_W} {H : Heap} (p : w1.Perm w2) (h : va_P D cl w1 H) : va_P D cl w2 H := fun k q hk => by
  obtain ⟨j, hj⟩ := List.getElem?_of_mem (p.mem_iff.mpr (List.mem_of_getElem? hk))
  exact h j q hj
theorem g_Dn {A : Nat → Prop} {w : va_W} : va_D A w ↔ (w.map (fun q => q.1)).Nodup ∧ ∀ q ∈ w, A q.1 := by
  constructor
  · intro h
    refine ⟨?_, fun q hq => ?_⟩
    · unfold List.Nodup
      rw [List.pairwise_iff_getElem]
      intro i j hi hj hij e
      have hi' : i < w.length := by simpa using hi
      have hj' : j < w.length := by simpa using hj
      have := h.1 i j w[i] w[j] (List.getElem?_eq_getElem hi') (List.getElem?_eq_getElem hj') (by simpa using e)
      omega
    · obtain ⟨j, hj⟩ := List.getElem?_of_mem hq
      exact h.2 j q hj
  · rintro ⟨h1, h2⟩
    unfold List.Nodup at h1
    rw [List.pairwise_iff_getElem] at h1
    refine ⟨fun i j p q hi hj e => ?_, fun k q hk => h2 q (List.mem_of_getElem? hk)⟩
    obtain ⟨li, ei⟩ := List.getElem?_eq_some_iff.mp hi
    obtain ⟨lj, ej⟩ := List.getElem?_eq_some_iff.mp hj
    have li' : i < (w.map (fun q => q.1)).length := by simpa using li
    have lj' : j < (w.map (fun q => q.1)).length := by simpa using lj
    have e2 : (w.map (fun q => q.1))[i] = (w.map (fun q => q.1))[j] := by
      rw [List.getElem_map, List.getElem_map, ei, ej]
      exact e
    rcases Nat.lt_trichotomy i j with h | h | h
    · exact absurd e2 (h1 i j li' lj' h)
    · exact h
    · exact absurd e2.symm (h1 j i lj' li' h)
theorem g_Dm {A : Nat → Prop} {w1 w2 : va_W} (p : w1.Perm w2) (h : va_D A w1) : va_D A w2 := by
  obtain ⟨h1, h2⟩ := g_Dn.mp h
  exact g_Dn.mpr ⟨(p.map _).nodup_iff.mp h1, fun q hq => h2 q (p.mem_iff.mpr hq)⟩
section GLW
variable {Hb : Heap} {p : Program} {l : Launch} {e : Env} {R : Room} {s : State} {m : MethodId} {args : Array Value} {below : List Frame} {meth : Method} {c : Code} {cells slots : Nat} {Q : State → Prop} {A0 : Nat → Prop} {D : va_G}
variable {own : String} {cc : ByteArray} {nL : Nat} {Ts : List Cond} {tys : List (ClassId × FieldType)} {ws : va_W} {lv : List (Option Value)} {pc : Nat} {st st0 : List Value}
theorem h_perm {ws' : va_W} (hp : ws'.Perm ws) (K : hJ Hb p l e R s m args below meth c cells slots Q A0 D ws' lv pc st) : hJ Hb p l e R s m args below meth c cells slots Q A0 D ws lv pc st := fun H locs ls hP hD hS hL => K H locs ls (g_Pm hp.symm hP) (g_Dm hp.symm hD) hS hL
theorem h_wid {k n : Nat} (h1 : cells ≤ k) (h2 : slots ≤ n) (K : hJ Hb p l e R s m args below meth c k n Q A0 D ws lv pc st) : hJ Hb p l e R s m args below meth c cells slots Q A0 D ws lv pc st := fun H locs ls hP hD hS hL => W.widen h1 h2 (K H locs ls hP hD hS hL)
theorem g_Pl {D : va_G} {cl : List vw_C} {w1 w2 : va_W} {H : Heap} (h : va_P D cl (w1 ++ w2) H) : va_P D cl w1 H := fun k q hk => h k q (by rw [List.getElem?_append_left (List.getElem?_eq_some_iff.mp hk).1]; exact hk)
theorem g_Dl {A : Nat → Prop} {w1 w2 : va_W} (h : va_D A (w1 ++ w2)) : va_D A w1 := by
  have key : ∀ (k : Nat) (q : Nat × va_E), w1[k]? = some q → (w1 ++ w2)[k]? = some q := fun k q hk => by rw [List.getElem?_append_left (List.getElem?_eq_some_iff.mp hk).1]; exact hk
  exact ⟨fun i j p q hi hj hpq => h.1 _ _ p q (key i p hi) (key j q hj) hpq, fun k q hk => h.2 _ q (key k q hk)⟩
theorem g_Dx {A : Nat → Prop} {w1 w2 : va_W} (h : va_D A (w1 ++ w2)) : ∀ (i j : Nat) (p q : Nat × va_E), w2[i]? = some p → w1[j]? = some q → p.1 ≠ q.1 := by
  intro i j p q hi hj hpq
  have h1 := (List.getElem?_eq_some_iff.mp hj).1
  have := h.1 (w1.length + i) j p q (by rw [List.getElem?_append_right (by omega)]; simpa using hi) (by rw [List.getElem?_append_left h1]; exact hj) hpq
  omega
theorem g_swap {a b : va_W} (K : hJ Hb p l e R s m args below meth c cells slots Q A0 D (b ++ a) lv pc st) : hJ Hb p l e R s m args below meth c cells slots Q A0 D (a ++ b) lv pc st := fun H locs ls hP hD hS hL => K H locs ls ((g_Pr hP).app (g_Pl hP)) ((g_Dr hD).app (g_Dl hD) (g_Dx hD)) hS hL
theorem g_callIW (E : hE Hb p s m args c own cc nL Ts D tys A0) {tysC : List (ClassId × FieldType)} (is : List Nat) (his : is.filterMap (fun i => tys[i]?) = tysC) {C : String} {y : MethodName} {bytes : ByteArray} {maxL index lam n q ci N : Nat} {T : u_T} {fs : List Value} {ret : Option FieldType} {wsY : List Cond} {wr wc wc' : va_W} {As : List Value} {rv : Int}
    (hM : gMI l y wsY lam D tysC wc (.ref q :: As) rv wc') (cw : CallW R s args own C index y bytes maxL ret wsY (gR lam) 0 0 n) (hn : As.length = n) (hlv : lv.length = nL) (hst : st0 = As.reverse ++ .ref q :: st) (hcat : (st.map fun v => v.category).sum ≤ 8) (he : wc[0]? = some (q, .inr (ci, fs))) (hc : vwCl[ci]? = some (C, T, N))
    (hdg : decode cc pc = .ok (.invokevirtual index, 3)) (hcs : cells ≤ R.cells ∧ slots ≤ R.slots) (K : hJ Hb p l e R s m args below meth c cells slots Q A0 D (wr ++ wc') lv (pc + 3) (.int (iI rv) :: st)) : hJ Hb p l e R s m args below meth c cells slots Q A0 D (wr ++ wc) lv pc st0 := by
  obtain ⟨⟨hx, hb, hml, hown, hts⟩, hK, hA⟩ := E
  intro H locs ls hP hD hS hL
  subst hst
  have hKc := hK.sub is his
  have hPc := g_Pr hP
  have hDc := g_Dr hD
  have hFc := va_free (wc := wc) hD hS hA _ (g_isC wr wc)
  refine va_calli (va_runV (As := As) (rest := st) ⟨hx, hb, hml, hown, hts⟩ (hM H.size) cw ⟨fun a U g mk q => by obtain ⟨q0, q1, qP, qK, qD⟩ := q; exact ⟨q0, q1, qP, va_K.moved (u := U) (U := U.calling g mk a) (Vm.Alike.refl U.vm) qK, qD⟩, va_recv hK hPc hc he, fun U hU hW => ⟨rfl, by rw [hU], by rw [hU]; exact hPc, va_K.moved hW.alike hKc, hDc.weaken (fun _ _ _ _ => trivial)⟩⟩ rfl hn (hL.1.trans hlv) rfl (lv_room hcat) hdg hcs) hS (fun q _ h => hFc q h) hFc (fun r u t H1 locs1 ht hvm hw hB hz1 hk1 hS1 => ?_)
  obtain ⟨hP1, hK1, hD1⟩ := hB
  rw [ht] at hP1
  obtain ⟨hP2, hD2⟩ := va_join hP hD _ _ (g_isC wr wc) (g_isR wr wc) (g_nd _ List.nodup_range) (g_dis _ _) hk1 hFc hP1 hD1
  rw [hw]
  exact K H1 locs1 ls hP2 hD2 hS1 hL
theorem g_callM (E : hE Hb p s m args c own cc nL Ts D tys A0) {tysC : List (ClassId × FieldType)} (is : List Nat) (his : is.filterMap (fun i => tys[i]?) = tysC) {C : String} {y : MethodName} {bytes : ByteArray} {maxL index lam n q ci N : Nat} {T : u_T} {fs : List Value} {ret : Option FieldType} {wsY : List Cond} {wr wc wc' : va_W} {As : List Value} {rv : Int}
    (hM : gMI l y wsY lam D tysC wc (.ref q :: As) rv wc') (cw : CallW R s args own C index y bytes maxL ret wsY (gR lam) 0 0 n) (hn : As.length = n) (hlv : lv.length = nL) (hst : st0 = As.reverse ++ .ref q :: st) (hcat : (st.map fun v => v.category).sum ≤ 8) (he : wc[0]? = some (q, .inr (ci, fs))) (hc : vwCl[ci]? = some (C, T, N))
    (hdg : decode cc pc = .ok (.invokevirtual index, 3)) (hcs : cells ≤ R.cells ∧ slots ≤ R.slots) (K : hJ Hb p l e R s m args below meth c cells slots Q A0 D (wc' ++ wr) lv (pc + 3) (.int (iI rv) :: st)) : hJ Hb p l e R s m args below meth c cells slots Q A0 D (wc ++ wr) lv pc st0 :=
  g_swap (g_callIW E is his hM cw hn hlv hst hcat he hc hdg hcs (g_swap K))
theorem g_callCW (E : hE Hb p s m args c own cc nL Ts D tys A0) {tysC : List (ClassId × FieldType)} (is : List Nat) (his : is.filterMap (fun i => tys[i]?) = tysC) {CN : String} {y : MethodName} {bytes : ByteArray} {maxL index lam n q ci N : Nat} {T : u_T} {fs : List Value} {ret : Option FieldType} {wsY : List Cond} {wr wc : va_W} {As : List Value} {EX : String} {hh : List (Nat × Nat × Nat × Nat)}
    (hM : gMT l y wsY lam D tysC wc (.ref q :: As) EX) {k0 : Nat} (C : hC A0 s Hb k0) (htab : c.exceptionTable.toList = tableOf hh) (pre : List ExceptionTableEntry) (x : ExceptionTableEntry) (suf : List ExceptionTableEntry) (hsplit : tableOf hh = pre ++ x :: suf)
    (hpass : ∀ z ∈ pre, z.catchType ≠ 0 ∧ ∃ nm : String, Cond.classLink own z.catchType nm ∈ Ts ∧ (EX, nm) ∈ gNcs) (hcov : covers x pc = true) (hct : x.catchType ≠ 0) (hlink : Cond.classLink own x.catchType EX ∈ Ts) (hEx : EX ∈ gEx)
    (cw : CallW R s args own CN index y bytes maxL ret wsY (gRx lam) 1 6 n) (hn : As.length = n) (hlv : lv.length = nL) (hst : st0 = As.reverse ++ .ref q :: st) (hcat : (st.map fun v => v.category).sum ≤ 8) (he : wc[0]? = some (q, .inr (ci, fs))) (hc : vwCl[ci]? = some (CN, T, N))
    (hdg : decode cc pc = .ok (.invokevirtual index, 3)) (hcs : cells + 1 ≤ R.cells ∧ slots + 6 ≤ R.slots) (K : ∀ (a : Nat) (Hb' : Heap), hC A0 s Hb' (k0 + 1) → hE Hb' p s m args c own cc nL Ts D tys A0 → hJ Hb' p l e R s m args below meth c (cells + 1) (slots + 6) Q A0 D (wr ++ wc) lv x.handlerPc [.ref a]) : hJ Hb p l e R s m args below meth c cells slots Q A0 D (wr ++ wc) lv pc st0 := by
  obtain ⟨⟨hx, hb, hml, hown, hts⟩, hK, hA⟩ := E
  intro H locs ls hP hD hS hL
  subst hst
  have hKc := hK.sub is his
  have hPc := g_Pr hP
  have hDc := g_Dr hD
  have hFc := va_free (wc := wc) hD hS hA _ (g_isC wr wc)
  refine vx_callv (vx_runV (As := As) (rest := st) ⟨hx, hb, hml, hown, hts⟩ (hM H.size) cw ⟨fun a U g mk q => by obtain ⟨q0, ⟨q1, qP, qK, qD⟩, qT⟩ := q; exact ⟨q0, ⟨q1, qP, va_K.moved (u := U) (U := U.calling g mk a) (Vm.Alike.refl U.vm) qK, qD⟩, qT⟩, va_recv hK hPc hc he, fun U hU hW => ⟨rfl, ⟨by rw [hU], by rw [hU]; exact hPc, va_K.moved hW.alike hKc, hDc.weaken (fun _ _ _ _ => trivial)⟩, gKT.call C.2.1 hS hFc hU hW⟩⟩ rfl hn (hL.1.trans hlv) rfl (lv_room hcat) hdg hcs) hS (fun q _ h => hFc q h) hFc (fun q _ h => hFc q h) (fun E9 ce q9 u t H1 locs1 ht hvm hp hB hz hk hS1 hce hcv hcl => ?_) (fun u t H1 locs1 ht hvm hw hB hz1 hk1 hS1 => hw.elim)
  obtain ⟨rfl, hz9, hP1, hK1, hD1⟩ := hB
  rw [ht] at hP1 hz9
  have hzz : Hb.size + 1 ≤ H1.size := by have := hS.1; omega
  obtain ⟨hP2, hD2⟩ := va_join hP hD _ _ (g_isC wr wc) (g_isR wr wc) (g_nd _ List.nodup_range) (g_dis _ _) hk hFc hP1 hD1
  exact vx_catch hown pre x suf (htab.trans hsplit) (fun z hz9 => Or.inr ⟨(hpass z hz9).1, by obtain ⟨nm, h1, h2⟩ := (hpass z hz9).2; exact ⟨nm, hts _ h1, C.2.1.2.2.2.2.1 _ h2⟩⟩) hcov hct (hts _ hlink) (va_Nw.use rfl (C.2.1.2.2.2.1 _ hEx)) hce hcv hcl (K q9 H1 (C.next hS1 hzz) ⟨⟨hx, hb, hml, hown, hts⟩, hK, fun q h => hA q (by omega)⟩ H1 locs1 ls hP2 hD2 ⟨Nat.le_refl _, fun _ _ _ => rfl, hS1.2.2⟩ hL)
theorem h_callN (E : hE Hb p s m args c own cc nL Ts D tys A0) {k0 k : Nat} (C : hC A0 s Hb k0) {y : MethodName} {bytes : ByteArray} {maxL index n : Nat} {rm : Room} {ret : Option FieldType} {wsY : List Cond} {wr wc wc' : va_W} {As : List Value} {rv : Int}
    (hM : gMN l y wsY rm k D tys wc As rv wc') (cw : CallB R s args own index y bytes maxL ret wsY rm rm.cells rm.slots n ∧ (Cond.static y).before args s = true) (hn : As.length = n) (hlv : lv.length = nL) (hst : st0 = As.reverse ++ st) (hcat : (st.map fun v => v.category).sum ≤ 8)
    (hdg : decode cc pc = .ok (.invokestatic index, 3)) (hcs : cells + rm.cells ≤ R.cells ∧ slots + rm.slots ≤ R.slots) (K : ∀ Hb' : Heap, hC A0 s Hb' (k0 + k) → hE Hb' p s m args c own cc nL Ts D tys A0 → hJ Hb' p l e R s m args below meth c (cells + rm.cells) (slots + rm.slots) Q A0 D (wr ++ wc') lv (pc + 3) (.int (iI rv) :: st)) : hJ Hb p l e R s m args below meth c cells slots Q A0 D (wr ++ wc) lv pc st0 := by
  obtain ⟨⟨hx, hb, hml, hown, hts⟩, hK, hA⟩ := E
  intro H locs ls hP hD hS hL
  subst hst
  have hPc := g_Pr hP
  have hDc := g_Dr hD
  have hFc := va_free (wc := wc) hD hS hA _ (g_isC wr wc)
  refine va_calli (va_runS (As := As) (rest := st) ⟨hx, hb, hml, hown, hts⟩ (hM H.size) cw ⟨fun a U g mk q => by obtain ⟨q0, ⟨q1, qP, qK, qD⟩, qT⟩ := q; exact ⟨q0, ⟨q1, qP, va_K.moved (u := U) (U := U.calling g mk a) (Vm.Alike.refl U.vm) qK, qD⟩, qT⟩, fun U hU hW => ⟨rfl, ⟨by rw [hU], by rw [hU]; exact hPc, va_K.moved hW.alike hK, hDc.weaken (fun _ _ _ _ => trivial)⟩, gKT.call C.2.1 hS hFc hU hW⟩⟩ rfl hn (hL.1.trans hlv) rfl (lv_room hcat) hdg hcs) hS (fun q _ h => hFc q h) hFc (fun r u t H1 locs1 ht hvm hw hB hz1 hk1 hS1 => ?_)
  obtain ⟨hz9, hP1, hK1, hD1⟩ := hB
  rw [ht] at hP1 hz9
  obtain ⟨hP2, hD2⟩ := va_join hP hD _ _ (g_isC wr wc) (g_isR wr wc) (g_nd _ List.nodup_range) (g_dis _ _) hk1 hFc hP1 hD1
  rw [hw]
  have hzz : Hb.size + k ≤ H1.size := by have := hS.1; omega
  exact K H1 (C.next hS1 hzz) ⟨⟨hx, hb, hml, hown, hts⟩, hK, fun q h => hA q (by omega)⟩ H1 locs1 ls hP2 hD2 ⟨Nat.le_refl _, fun _ _ _ => rfl, hS1.2.2⟩ hL
theorem h_callNW (E : hE Hb p s m args c own cc nL Ts D tys A0) {k0 k : Nat} (C : hC A0 s Hb k0) {y : MethodName} {bytes : ByteArray} {maxL index n : Nat} {rm : Room} {ret : Option FieldType} {hh : List (Nat × Nat × Nat × Nat)} {wsY : List Cond} {wr wc wc' : va_W} {As : List Value} {rv : Int}
    (hM : gMN l y wsY rm k D tys wc As rv wc') (cw : vx_CSW R s args own index y bytes maxL ret hh wsY rm rm.cells rm.slots n) (hn : As.length = n) (hlv : lv.length = nL) (hst : st0 = As.reverse ++ st) (hcat : (st.map fun v => v.category).sum ≤ 8)
    (hdg : decode cc pc = .ok (.invokestatic index, 3)) (hcs : cells + rm.cells ≤ R.cells ∧ slots + rm.slots ≤ R.slots) (K : ∀ Hb' : Heap, hC A0 s Hb' (k0 + k) → hE Hb' p s m args c own cc nL Ts D tys A0 → hJ Hb' p l e R s m args below meth c (cells + rm.cells) (slots + rm.slots) Q A0 D (wr ++ wc') lv (pc + 3) (.int (iI rv) :: st)) : hJ Hb p l e R s m args below meth c cells slots Q A0 D (wr ++ wc) lv pc st0 := by
  obtain ⟨⟨hx, hb, hml, hown, hts⟩, hK, hA⟩ := E
  intro H locs ls hP hD hS hL
  subst hst
  have hPc := g_Pr hP
  have hDc := g_Dr hD
  have hFc := va_free (wc := wc) hD hS hA _ (g_isC wr wc)
  refine va_calli (vx_runSW (As := As) (rest := st) ⟨hx, hb, hml, hown, hts⟩ (hM H.size) cw ⟨fun a U g mk q => by obtain ⟨q0, ⟨q1, qP, qK, qD⟩, qT⟩ := q; exact ⟨q0, ⟨q1, qP, va_K.moved (u := U) (U := U.calling g mk a) (Vm.Alike.refl U.vm) qK, qD⟩, qT⟩, fun U hU hW => ⟨rfl, ⟨by rw [hU], by rw [hU]; exact hPc, va_K.moved hW.alike hK, hDc.weaken (fun _ _ _ _ => trivial)⟩, gKT.call C.2.1 hS hFc hU hW⟩⟩ rfl hn (hL.1.trans hlv) rfl (lv_room hcat) hdg hcs) hS (fun q _ h => hFc q h) hFc (fun r u t H1 locs1 ht hvm hw hB hz1 hk1 hS1 => ?_)
  obtain ⟨hz9, hP1, hK1, hD1⟩ := hB
  rw [ht] at hP1 hz9
  obtain ⟨hP2, hD2⟩ := va_join hP hD _ _ (g_isC wr wc) (g_isR wr wc) (g_nd _ List.nodup_range) (g_dis _ _) hk1 hFc hP1 hD1
  rw [hw]
  have hzz : Hb.size + k ≤ H1.size := by have := hS.1; omega
  exact K H1 (C.next hS1 hzz) ⟨⟨hx, hb, hml, hown, hts⟩, hK, fun q h => hA q (by omega)⟩ H1 locs1 ls hP2 hD2 ⟨Nat.le_refl _, fun _ _ _ => rfl, hS1.2.2⟩ hL
theorem h_callSIW (E : hE Hb p s m args c own cc nL Ts D tys A0) {y : MethodName} {bytes : ByteArray} {maxL index lam n : Nat} {ret : Option FieldType} {wsY : List Cond} {wr wc wc' : va_W} {As : List Value} {rv : Int}
    (hM : gMI l y wsY lam D tys wc As rv wc') (cw : CallB R s args own index y bytes maxL ret wsY (gR lam) 0 0 n ∧ (Cond.static y).before args s = true) (hn : As.length = n) (hlv : lv.length = nL) (hst : st0 = As.reverse ++ st) (hcat : (st.map fun v => v.category).sum ≤ 8)
    (hdg : decode cc pc = .ok (.invokestatic index, 3)) (hcs : cells ≤ R.cells ∧ slots ≤ R.slots) (K : hJ Hb p l e R s m args below meth c cells slots Q A0 D (wr ++ wc') lv (pc + 3) (.int (iI rv) :: st)) : hJ Hb p l e R s m args below meth c cells slots Q A0 D (wr ++ wc) lv pc st0 := by
  obtain ⟨⟨hx, hb, hml, hown, hts⟩, hK, hA⟩ := E
  intro H locs ls hP hD hS hL
  subst hst
  have hPc := g_Pr hP
  have hDc := g_Dr hD
  have hFc := va_free (wc := wc) hD hS hA _ (g_isC wr wc)
  refine va_calli (va_runS (As := As) (rest := st) ⟨hx, hb, hml, hown, hts⟩ (hM H.size) cw ⟨fun a U g mk q => by obtain ⟨q0, q1, qP, qK, qD⟩ := q; exact ⟨q0, q1, qP, va_K.moved (u := U) (U := U.calling g mk a) (Vm.Alike.refl U.vm) qK, qD⟩, fun U hU hW => ⟨rfl, by rw [hU], by rw [hU]; exact hPc, va_K.moved hW.alike hK, hDc.weaken (fun _ _ _ _ => trivial)⟩⟩ rfl hn (hL.1.trans hlv) rfl (lv_room hcat) hdg hcs) hS (fun q _ h => hFc q h) hFc (fun r u t H1 locs1 ht hvm hw hB hz1 hk1 hS1 => ?_)
  obtain ⟨hP1, hK1, hD1⟩ := hB
  rw [ht] at hP1
  obtain ⟨hP2, hD2⟩ := va_join hP hD _ _ (g_isC wr wc) (g_isR wr wc) (g_nd _ List.nodup_range) (g_dis _ _) hk1 hFc hP1 hD1
  rw [hw]
  exact K H1 locs1 ls hP2 hD2 hS1 hL
theorem g_i2l (E : hE Hb p s m args c own cc nL Ts D tys A0) {x : Int32} (hdg : decode cc pc = .ok (.i2l, 1)) (K : hJ Hb p l e R s m args below meth c cells slots Q A0 D ws lv (pc + 1) (.long x.toInt64 :: st)) : hJ Hb p l e R s m args below meth c cells slots Q A0 D ws lv pc (.int x :: st) := by
  obtain ⟨⟨hx, hb, hml, hown, hts⟩, hK, hA⟩ := E
  intro H locs ls hP hD hS hL
  exact lv_i2l hx hb hdg rfl (K H locs ls hP hD hS hL)
theorem g_lconst (E : hE Hb p s m args c own cc nL Ts D tys A0) {n : Fin 2} {v : Int64} (hdg : decode cc pc = .ok (.lconst n, 1)) (hv : Int64.ofNat n = v) (K : hJ Hb p l e R s m args below meth c cells slots Q A0 D ws lv (pc + 1) (.long v :: st)) : hJ Hb p l e R s m args below meth c cells slots Q A0 D ws lv pc st := by
  obtain ⟨⟨hx, hb, hml, hown, hts⟩, hK, hA⟩ := E
  intro H locs ls hP hD hS hL
  exact lv_lconst hx hb hdg hv (K H locs ls hP hD hS hL)
theorem g_last0 {cI cZ cL : ClassId} (E : hE Hb p s m args c own cc nL Ts D (gTyL cI cZ cL) A0) {o : Nat} {wr : va_W} {x : Int} (hx0 : 0 ≤ x ∧ x < 40) (hdg : decode cc pc = .ok (.lastore, 1)) (K : hJ Hb p l e R s m args below meth c cells slots Q A0 D (gO cL o (fun _ => 0) :: wr) lv (pc + 1) st) : hJ Hb p l e R s m args below meth c cells slots Q A0 D (gO cL o (fun _ => 0) :: wr) lv pc (.long 0 :: .int (iI x) :: .ref o :: st) := by
  obtain ⟨⟨hx, hb, hml, hown, hts⟩, hK, hA⟩ := E
  intro H locs ls hP hD hS hL
  refine va_last (D := D) (cl := vwCl) hx hb hK hP hD hS 0 2 rfl rfl (iI_in (a := x) (n := 40) hx0.1 hx0.2 (by omega)) hdg (fun H1 locs1 hP1 hD1 hS1 => ?_)
  have e2 : ∀ i : Nat, vp_updL (fun _ => (0 : Int64)) i 0 = fun _ => 0 := fun i => by
    funext j
    unfold vp_updL
    split <;> rfl
  rw [e2] at hP1 hD1
  exact K H1 locs1 ls hP1 hD1 hS1 hL
theorem g_lald0 {cI cZ cL : ClassId} (E : hE Hb p s m args c own cc nL Ts D (gTyL cI cZ cL) A0) {o : Nat} {wr : va_W} {x : Int} (hx0 : 0 ≤ x ∧ x < 40) (hdg : decode cc pc = .ok (.laload, 1)) (K : hJ Hb p l e R s m args below meth c cells slots Q A0 D (gO cL o (fun _ => 0) :: wr) lv (pc + 1) (.long 0 :: st)) : hJ Hb p l e R s m args below meth c cells slots Q A0 D (gO cL o (fun _ => 0) :: wr) lv pc (.int (iI x) :: .ref o :: st) := by
  obtain ⟨⟨hx, hb, hml, hown, hts⟩, hK, hA⟩ := E
  intro H locs ls hP hD hS hL
  exact va_lald (D := D) (cl := vwCl) hx hb hK hP 0 2 rfl rfl (iI_in (a := x) (n := 40) hx0.1 hx0.2 (by omega)) hdg (K H locs ls hP hD hS hL)
theorem g_lsub0 (E : hE Hb p s m args c own cc nL Ts D tys A0) (hdg : decode cc pc = .ok (.lsub, 1)) (K : hJ Hb p l e R s m args below meth c cells slots Q A0 D ws lv (pc + 1) (.long 0 :: st)) : hJ Hb p l e R s m args below meth c cells slots Q A0 D ws lv pc (.long 0 :: .long 0 :: st) := by
  obtain ⟨⟨hx, hb, hml, hown, hts⟩, hK, hA⟩ := E
  intro H locs ls hP hD hS hL
  exact lv_lsub hx hb hdg (K H locs ls hP hD hS hL)
theorem lg_cmp_s (x : Int64) : lg_cmp x x = iI 0 := by
  simp [lg_cmp]
  rfl
theorem g_lcmp0 (E : hE Hb p s m args c own cc nL Ts D tys A0) {x y : Int64} (h : x = y) (hdg : decode cc pc = .ok (.lcmp, 1)) (K : hJ Hb p l e R s m args below meth c cells slots Q A0 D ws lv (pc + 1) (.int (iI 0) :: st)) : hJ Hb p l e R s m args below meth c cells slots Q A0 D ws lv pc (.long y :: .long x :: st) := by
  obtain ⟨⟨hx, hb, hml, hown, hts⟩, hK, hA⟩ := E
  intro H locs ls hP hD hS hL
  subst h
  refine W.lcmp hx hb hdg ?_
  rw [lg_cmp_s]
  exact K H locs ls hP hD hS hL
theorem g_irem (E : hE Hb p s m args c own cc nL Ts D tys A0) {a b : Int} (hdg : decode cc pc = .ok (.irem, 1)) (hr : 0 ≤ a ∧ a < 2147483648 ∧ 0 < b ∧ b < 2147483648) (K : hJ Hb p l e R s m args below meth c cells slots Q A0 D ws lv (pc + 1) (.int (iI (a % b)) :: st)) : hJ Hb p l e R s m args below meth c cells slots Q A0 D ws lv pc (.int (iI b) :: .int (iI a) :: st) := by
  obtain ⟨⟨hx, hb, hml, hown, hts⟩, hK, hA⟩ := E
  intro H locs ls hP hD hS hL
  refine lv_irem hx hb hdg (by rw [iI_0, iI_eq ⟨by omega, by omega⟩ ⟨by omega, by omega⟩]; omega) ?_
  have h1 : iI a = nI a.toNat := by rw [show nI a.toNat = Int32.ofNat a.toNat from rfl, ← iI_nat]; rw [Int.toNat_of_nonneg hr.1]
  have h2 : iI b = nI b.toNat := by rw [show nI b.toNat = Int32.ofNat b.toNat from rfl, ← iI_nat]; rw [Int.toNat_of_nonneg (by omega)]
  have h3 : iI a - iI a / iI b * iI b = iI (a % b) := by
    rw [h1, h2, pk_rem (by omega) (by omega) (by omega), show nI (a.toNat % b.toNat) = Int32.ofNat (a.toNat % b.toNat) from rfl, ← iI_nat]
    congr 1
    rw [Int.natCast_emod, Int.toNat_of_nonneg hr.1, Int.toNat_of_nonneg (by omega)]
  rw [h3]
  exact K H locs ls hP hD hS hL
theorem g_ishrZ (E : hE Hb p s m args c own cc nL Ts D tys A0) {a b v : Int} (hdg : decode cc pc = .ok (.ishr, 1)) (hv : iI a >>> (iI b &&& 31) = iI v) (K : hJ Hb p l e R s m args below meth c cells slots Q A0 D ws lv (pc + 1) (.int (iI v) :: st)) : hJ Hb p l e R s m args below meth c cells slots Q A0 D ws lv pc (.int (iI b) :: .int (iI a) :: st) := by
  obtain ⟨⟨hx, hb, hml, hown, hts⟩, hK, hA⟩ := E
  intro H locs ls hP hD hS hL
  refine lv_ishr hx hb hdg ?_
  rw [hv]
  exact K H locs ls hP hD hS hL
theorem g_tab (E : hE Hb p s m args c own cc nL Ts D tys A0) {dflt lo hi : Int} {offs : Array Int} {len : Nat} {x off : Int} {tgt : Nat} (hdg : decode cc pc = .ok (.tableswitch dflt lo hi offs, len)) (h1 : ¬ (iI x).toInt < lo) (h2 : ¬ hi < (iI x).toInt) (ho : offs[((iI x).toInt - lo).toNat]? = some off) (ht : (pc : Int) + off = (tgt : Int)) (K : hJ Hb p l e R s m args below meth c cells slots Q A0 D ws lv tgt st) : hJ Hb p l e R s m args below meth c cells slots Q A0 D ws lv pc (.int (iI x) :: st) := by
  obtain ⟨⟨hx, hb, hml, hown, hts⟩, hK, hA⟩ := E
  intro H locs ls hP hD hS hL
  exact lv_tableIn hx hb hdg h1 h2 ho ht (K H locs ls hP hD hS hL)
theorem g_ald0 {cI cZ cL : ClassId} (E : hE Hb p s m args c own cc nL Ts D (gTyL cI cZ cL) A0) {b n i : Nat} {f : Nat → Int32} {x : Int} {wr : va_W} (hx0 : x = (i : Int)) (hi : i < n ∧ n ≤ 2147483648) (hdg : decode cc pc = .ok (.iaload, 1)) (K : hJ Hb p l e R s m args below meth c cells slots Q A0 D ((b, .inl (cI, n, .inl f)) :: wr) lv (pc + 1) (.int (f i) :: st)) : hJ Hb p l e R s m args below meth c cells slots Q A0 D ((b, .inl (cI, n, .inl f)) :: wr) lv pc (.int (iI x) :: .ref b :: st) := by
  subst hx0
  obtain ⟨⟨hx, hb, hml, hown, hts⟩, hK, hA⟩ := E
  intro H locs ls hP hD hS hL
  have hcl : (iI (i : Int)).toNatClampNeg = i := by rw [iI_cl (by omega) (by omega), Int.toNat_natCast]
  refine va_iald (D := D) (cl := vwCl) hx hb hK hP 0 0 rfl rfl (iI_in (a := (i : Int)) (n := n) (by omega) (by omega) hi.2) hdg ?_
  rw [hcl]
  exact K H locs ls hP hD hS hL
theorem g_alen0 {cI cZ cL : ClassId} (E : hE Hb p s m args c own cc nL Ts D (gTyL cI cZ cL) A0) {b n : Nat} {f : Nat → Int32} {wr : va_W} (hdg : decode cc pc = .ok (.arraylength, 1)) (K : hJ Hb p l e R s m args below meth c cells slots Q A0 D ((b, .inl (cI, n, .inl f)) :: wr) lv (pc + 1) (.int (iI (n : Int)) :: st)) : hJ Hb p l e R s m args below meth c cells slots Q A0 D ((b, .inl (cI, n, .inl f)) :: wr) lv pc (.ref b :: st) := by
  obtain ⟨⟨hx, hb, hml, hown, hts⟩, hK, hA⟩ := E
  intro H locs ls hP hD hS hL
  exact va_alen (D := D) (cl := vwCl) hx hb hK hP 0 0 rfl rfl (v := iI (n : Int)) (iI_nat n).symm hdg (K H locs ls hP hD hS hL)
theorem g_newO (E : hE Hb p s m args c own cc nL Ts D tys A0) {C : String} {T : u_T} {N ci index : Nat} (hin : ∀ w ∈ u_ws C T N, w ∈ Ts) (ty : Nat → FieldType) (hty : ∀ k, k < N → parseFieldDescriptor (T k).2.2.1 = some (ty k)) (h1 : Cond.classLink own index C ∈ Ts) (h2 : Cond.instantiable C N ∈ Ts) (h3 : Cond.initialized C ∈ Ts) (hc : vwCl[ci]? = some (C, T, N)) {fs : List Value} (hfs : ∀ j, j < N → defaultValue (ty j) = vp_V fs j) (hcs : cells + 1 ≤ R.cells ∧ slots + N ≤ R.slots) (hdg : decode cc pc = .ok (.new index, 3))
    (K : ∀ q : Nat, hJ Hb p l e R s m args below meth c (cells + 1) (slots + N) Q A0 D (ws ++ [(q, .inr (ci, fs))]) lv (pc + 3) (.ref q :: st)) : hJ Hb p l e R s m args below meth c cells slots Q A0 D ws lv pc st := by
  obtain ⟨⟨hx, hb, hml, hown, hts⟩, hK, hA⟩ := E
  intro H locs ls hP hD hS hL
  exact va_new hx hb hts hin ty hty hown (hts _ h1) (hts _ h2) (hts _ h3) hK hP hD hS hA hc hfs hcs.1 hcs.2 hdg (fun q H1 hP1 hD1 hS1 => K q H1 locs ls hP1 hD1 hS1 hL)
theorem g_newL {cI cZ cL : ClassId} (E : hE Hb p s m args c own cc nL Ts D (gTyL cI cZ cL) A0) (harr : Cond.arrayClass .long ∈ Ts) (hdg : decode cc pc = .ok (.newarray .long, 2)) (hcs : cells + 1 ≤ R.cells ∧ slots + 40 ≤ R.slots)
    (K : ∀ a : Nat, hJ Hb p l e R s m args below meth c (cells + 1) (slots + 40) Q A0 D (ws ++ [gO cL a (fun _ => 0)]) lv (pc + 2) (.ref a :: st)) : hJ Hb p l e R s m args below meth c cells slots Q A0 D ws lv pc (.int (iI 40) :: st) := by
  obtain ⟨⟨hx, hb, hml, hown, hts⟩, hK, hA⟩ := E
  intro H locs ls hP hD hS hL
  have h0 : ¬ iI (40 : Int) < 0 := by rw [iI_0, iI_lt ⟨by omega, by omega⟩ ⟨by omega, by omega⟩]; omega
  refine va_newa (D := D) (cl := vwCl) (atype := .long) (a0 := (40, .inr (.inl (fun _ => 0)))) hx hb (hts _ harr) rfl hK hP hD hS hA (fun _ => rfl) h0 (N' := 40) (by rw [iI_cl (by omega) (by omega)]; rfl) (by decide) hcs.1 hcs.2 hdg (fun a cA H1 hK1 hP1 hD1 hS1 => ?_)
  have e1 : s.vm.findClass ("[" ++ FieldType.long.toString) = some cA := (hK1.2 3 _ rfl).2
  have e2 : s.vm.findClass ("[" ++ FieldType.long.toString) = some cL := (hK.2 2 _ rfl).2
  cases Option.some.inj (e1.symm.trans e2)
  exact K a H1 locs ls hP1 hD1 hS1 hL
theorem g_callK (E : hE Hb p s m args c own cc nL Ts D tys A0) {tysC : List (ClassId × FieldType)} (is : List Nat) (his : is.filterMap (fun i => tys[i]?) = tysC) {y : MethodName} {bytes : ByteArray} {maxL index q ci : Nat} {rm : Room} {fs : List Value} {wsY : List Cond} {wr : va_W} {W1 : (Nat → Nat) → va_W}
    (hM : gMK l y wsY rm D tysC q ci fs W1) (cw : CallB R s args own index y bytes maxL none wsY rm rm.cells rm.slots 0 ∧ y.name = "<init>" ∧ (Cond.instanceMethod y).before args s = true) (hlv : lv.length = nL) (hcat : (st.map fun v => v.category).sum ≤ 8)
    (hdg : decode cc pc = .ok (.invokespecial index, 3)) (hcs : cells + rm.cells ≤ R.cells ∧ slots + rm.slots ≤ R.slots) (K : ∀ r : Nat → Nat, hJ Hb p l e R s m args below meth c (cells + rm.cells) (slots + rm.slots) Q A0 D (wr ++ W1 r) lv (pc + 3) st) : hJ Hb p l e R s m args below meth c cells slots Q A0 D (wr ++ [(q, .inr (ci, fs))]) lv pc (.ref q :: st) := by
  obtain ⟨⟨hx, hb, hml, hown, hts⟩, hK, hA⟩ := E
  intro H locs ls hP hD hS hL
  have hKc := hK.sub is his
  have hPc := g_Pr hP
  have hDc := g_Dr hD
  have hFc := va_free (wc := [(q, .inr (ci, fs))]) hD hS hA _ (g_isC wr [(q, .inr (ci, fs))])
  refine va_callv (va_runI (As := []) (rest := st) ⟨hx, hb, hml, hown, hts⟩ (hM H.size) cw ⟨fun a U g mk q => by obtain ⟨q0, q1, qP, qK, qD⟩ := q; exact ⟨q0, q1, qP, va_K.moved (u := U) (U := U.calling g mk a) (Vm.Alike.refl U.vm) qK, qD⟩, fun U hU hW => ⟨rfl, by rw [hU], by rw [hU]; exact hPc, va_K.moved hW.alike hKc, hDc.weaken (fun _ _ _ _ => trivial)⟩⟩ rfl rfl (hL.1.trans hlv) rfl (lv_room hcat) hdg hcs) hS (fun q _ h => hFc q h) hFc (fun r t H1 locs1 ht hvm hw hB hz1 hk1 hS1 => ?_)
  obtain ⟨hP1, hK1, hD1⟩ := hB
  rw [ht] at hP1
  obtain ⟨hP2, hD2⟩ := va_join hP hD _ _ (g_isC wr [(q, .inr (ci, fs))]) (g_isR wr [(q, .inr (ci, fs))]) (g_nd _ List.nodup_range) (g_dis _ _) hk1 hFc hP1 hD1
  exact K r H1 locs1 ls hP2 hD2 hS1 hL
end GLW
theorem g_arr {t : FieldType} {args : Array Value} {s : State} (h : (Cond.arrayClass t).before args s = true) : ∃ cA : ClassId, ArrOfT s cA t ∧ s.vm.findClass ("[" ++ t.toString) = some cA := by
  obtain ⟨cA, kA, comp, h1, h2, h3⟩ := Cond.arrayClass_spec h
  exact ⟨cA, fun n z => ⟨fun k h => (by cases h), kA, h2, comp, h3⟩, h1⟩
theorem gS_str1 : ∀ x ∈ gStr, Cond.stringRef RX0 x.1 x.2 ∈ lw_tbl := by decide +kernel
theorem gS_str2 : ∀ x ∈ gStr, Cond.exactly (.string RX0 x.1) "java/lang/String" ∈ flatC (Jvm.Cond.and given_1 narrow_1) := by decide +kernel
theorem gS_ex : ∀ x ∈ gEx, Cond.castable x x ∈ lw_tbl := by decide +kernel
theorem gS_nc : ∀ x ∈ gNcs, Cond.not (.castable x.1 x.2) ∈ flatC (Jvm.Cond.and given_1 narrow_1) := by decide +kernel
theorem gS_de : ∀ x ∈ gDe, Cond.declares x ∈ lw_tbl := by decide +kernel
theorem gKT_start {args : Array Value} {s : State} (hts : ∀ w ∈ lw_tbl, w.before args s = true) (hgv : (Jvm.Cond.and given_1 narrow_1).before args s = true) : gKT (fun q => s.heap.size ≤ q) s s.heap := by
  have hq := flat_of_before _ hgv
  have hA : ∀ a : Nat, a < s.heap.size → ¬ (s.heap.size ≤ a) := fun a h => Nat.not_le.mpr h
  refine ⟨vx_Zqof (hts _ (by decide +kernel)) (hts _ (by decide +kernel)) (hq _ (by decide +kernel)) hA, vx_Zqof (hts _ (by decide +kernel)) (hts _ (by decide +kernel)) (hq _ (by decide +kernel)) hA, fun x hx => ?_, fun x hx => ?_, fun x hx => ?_, fun x hx => ?_⟩
  · obtain ⟨a, cA, lc, kA, ha, -⟩ := Cond.exactly_spec (hq _ (gS_str2 x hx))
    exact ⟨a, vk_R.of (hts _ (gS_str1 x hx)) ha⟩
  · exact va_Nw.of rfl (hts _ (gS_ex x hx))
  · exact va_Nc.of (hq _ (gS_nc x hx))
  · exact va_Nw.of rfl (hts _ (gS_de x hx))
theorem g_ofNW {l : Launch} {rm : Room} {k : Nat} {y : MethodName} {ws ws' : List Cond} {D : va_G} {tys : List (ClassId × FieldType)} {W0 W1 : va_W} {av : List Value} {rv : Int} {own : String} {cc : ByteArray} {maxL : Nat} {hh : List (Nat × Nat × Nat × Nat)}
    (hy : plainName y.cls = true) (hcls : y.cls = own) (hw : ws = Cond.codeWith y cc maxL (some .int) hh :: ws') (hlen : av.length ≤ maxL) (hcat : ∀ v ∈ av, v.category = 1)
    (body : ∀ (p : Program) (e : Env) (s : State) (m : MethodId) (args : Array Value) (below : List Frame) (meth : Method) (c : Code) (Q : State → Prop) (A0 : Nat → Prop), gE p s m args c own cc maxL ws D tys A0 → hC A0 s s.heap 0 → c.exceptionTable.toList = tableOf hh → (∀ (Hb : Heap) (lv : List (Option Value)) (pc : Nat), hC A0 s Hb k → decode cc pc = .ok (.ireturn, 1) → hJ Hb p l e rm s m args below meth c rm.cells rm.slots Q A0 D W1 lv pc [.int (iI rv)]) →
      gJ p l e rm s m args below meth c 0 0 Q A0 D W0 (av.map some ++ List.replicate (maxL - av.length) none) 0 []) : gMN l y ws rm k D tys W0 av rv W1 := by
  intro sz
  refine va_MetW (cc := cc) (maxL := maxL) (ret := some .int) (hh := hh) hy hw ?_
  intro p e s m args below meth c s₁ B hml hv
  obtain ⟨rfl, ⟨hsz, hP, hK, hD0⟩, hT⟩ := hv
  have hts := atoms_spec (ws := ws) B.pre
  have htab := vx_table (x := y) B (hts (Cond.codeWith y cc maxL (some .int) hh) (by rw [hw]; exact List.mem_cons_self))
  have hown : s.vm.findClass own = some m.cls := by rw [← hcls]; exact findClass_of_methodNamed B.named
  subst hsz
  have hD := hD0.self (sz := s.heap.size)
  have hl := lv_entry av (n := maxL) (by rw [g_slen hcat]; exact hlen)
  rw [lg_entry_eq]
  refine body p e s m _ below meth c _ (va_A W0 s.heap.size) ⟨⟨B.exec, B.bytes, hml, hown, hts⟩, hK, fun q h => Or.inr h⟩ ⟨va_S.rf, hT, Nat.le_refl _⟩ htab ?_ s.heap [] _ hP hD va_S.rf (gL_entry hlen hcat hl)
  intro Hb lv pc C hdg H locs ls hP9 hD9 hS9 hL9
  refine W.iret (v := iI rv) B.exec B.bytes B.returns (fun t ht hW => ⟨⟨iI rv, (), rfl, rfl, by rw [ht]; have := C.2.2; have := hS9.1; omega, by rw [ht]; exact hP9, va_K.moved hW.alike hK, hD9⟩, by rw [ht]; exact Nat.le_trans C.1.1 hS9.1, fun q h1 h2 => ?_⟩) hS9.2.2 hdg
  rw [ht]
  exact (hS9.2.1 q (Nat.lt_of_lt_of_le h1 C.1.1) h2).trans (C.1.2.1 q h1 h2)
theorem g_ofN {l : Launch} {rm : Room} {k : Nat} {y : MethodName} {ws ws' : List Cond} {D : va_G} {tys : List (ClassId × FieldType)} {W0 W1 : va_W} {av : List Value} {rv : Int} {own : String} {cc : ByteArray} {maxL : Nat} {ty : FieldType}
    (hy : plainName y.cls = true) (hcls : y.cls = own) (hw : ws = Cond.code y cc maxL (some ty) :: ws') (hlen : av.length ≤ maxL) (hcat : ∀ v ∈ av, v.category = 1) (hnar : narrow ty (.int (iI rv)) = .int (iI rv))
    (body : ∀ (p : Program) (e : Env) (s : State) (m : MethodId) (args : Array Value) (below : List Frame) (meth : Method) (c : Code) (Q : State → Prop) (A0 : Nat → Prop), gE p s m args c own cc maxL ws D tys A0 → hC A0 s s.heap 0 → (∀ (Hb : Heap) (lv : List (Option Value)) (pc : Nat), hC A0 s Hb k → decode cc pc = .ok (.ireturn, 1) → hJ Hb p l e rm s m args below meth c rm.cells rm.slots Q A0 D W1 lv pc [.int (iI rv)]) →
      gJ p l e rm s m args below meth c 0 0 Q A0 D W0 (av.map some ++ List.replicate (maxL - av.length) none) 0 []) : gMN l y ws rm k D tys W0 av rv W1 := by
  intro sz
  refine Met.ofW (cc := cc) (maxL := maxL) (ret := some ty) hy hw ?_
  intro p e s m args below meth c s₁ B hml hv
  obtain ⟨rfl, ⟨hsz, hP, hK, hD0⟩, hT⟩ := hv
  have hts := atoms_spec (ws := ws) B.pre
  have hown : s.vm.findClass own = some m.cls := by rw [← hcls]; exact findClass_of_methodNamed B.named
  subst hsz
  have hD := hD0.self (sz := s.heap.size)
  have hl := lv_entry av (n := maxL) (by rw [g_slen hcat]; exact hlen)
  rw [lg_entry_eq]
  refine body p e s m _ below meth c _ (va_A W0 s.heap.size) ⟨⟨B.exec, B.bytes, hml, hown, hts⟩, hK, fun q h => Or.inr h⟩ ⟨va_S.rf, hT, Nat.le_refl _⟩ ?_ s.heap [] _ hP hD va_S.rf (gL_entry hlen hcat hl)
  intro Hb lv pc C hdg H locs ls hP9 hD9 hS9 hL9
  refine W.zret (v := iI rv) B.exec B.bytes B.returns hnar (fun t ht hW => ⟨⟨iI rv, (), rfl, rfl, by rw [ht]; have := C.2.2; have := hS9.1; omega, by rw [ht]; exact hP9, va_K.moved hW.alike hK, hD9⟩, by rw [ht]; exact Nat.le_trans C.1.1 hS9.1, fun q h1 h2 => ?_⟩) hS9.2.2 hdg
  rw [ht]
  exact (hS9.2.1 q (Nat.lt_of_lt_of_le h1 C.1.1) h2).trans (C.1.2.1 q h1 h2)
