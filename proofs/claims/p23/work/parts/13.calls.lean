/-! ===== contracts and calls ===== -/
def gR (n : Nat) : Room := { frames := n, cells := 0, slots := 0, locals := 27 * n }
def gRx (n : Nat) : Room := { frames := n, cells := 1, slots := 6, locals := 27 * n }
def gB0 (D : va_G) (tys : List (ClassId × FieldType)) (W0 : va_W) (sz : Nat) (U : State) : Prop := U.heap.size = sz ∧ va_P D vwCl W0 U.heap ∧ va_K D vwCl tys U ∧ va_D (fun _ => True) W0
def gB1 (D : va_G) (tys : List (ClassId × FieldType)) (A : Nat → Prop) (W1 : va_W) (t : State) : Prop := va_P D vwCl W1 t.heap ∧ va_K D vwCl tys t ∧ va_D A W1
/-- returns the int rv, the world W0 becomes W1, nothing is made -/
def gMI (l : Launch) (y : MethodName) (ws : List Cond) (n : Nat) (D : va_G) (tys : List (ClassId × FieldType)) (W0 : va_W) (av : List Value) (rv : Int) (W1 : va_W) : Prop :=
  ∀ sz : Nat, Met l y ws (gR n) (va_Pc av (gB0 D tys W0 sz)) (va_Qi (fun (r : Int32) (_ : Unit) => r = iI rv) (fun _ t => gB1 D tys (va_A W0 sz) W1 t) (va_A W0 sz)) 0 0 (va_A W0 sz)
/-- returns nothing -/
def gMV (l : Launch) (y : MethodName) (ws : List Cond) (n : Nat) (D : va_G) (tys : List (ClassId × FieldType)) (W0 : va_W) (av : List Value) (W1 : va_W) : Prop :=
  ∀ sz : Nat, Met l y ws (gR n) (va_Pc av (gB0 D tys W0 sz)) (va_Qv (fun (_ : Unit) => True) (fun _ t => gB1 D tys (va_A W0 sz) W1 t) (va_A W0 sz)) 0 0 (va_A W0 sz)
def gStr : List (Nat × String) := [(164, "no such place"), (169, "no such door"), (173, "an argument is out of range"), (178, "the bench does not allow this now"), (183, "there is none")]
def gIX : String := "java/lang/IndexOutOfBoundsException"
def gIA : String := "java/lang/IllegalArgumentException"
def gIS : String := "java/lang/IllegalStateException"
def gEx : List String := [gIX, gIA, gIS, gNS]
def gNcs : List (String × String) := [(gIX, gIA), (gIX, gIS), (gIX, gNS), (gIA, gIX), (gIA, gIS), (gIA, gNS), (gIS, gIX), (gIS, gIA), (gIS, gNS), (gNS, gIX), (gNS, gIA), (gNS, gIS)]
def gDe : List MethodName := [Bundle.initS gRE, Bundle.initS "java/lang/Exception", Bundle.initS Bundle.tN]
def gBad (cls : String) : List Cond := [.castable cls cls, .declares (Bundle.initS gRE), .declares (Bundle.initS "java/lang/Exception"), .declares (Bundle.initS Bundle.tN)]
/-- what a throw needs of the launch's statics and tables -/
def gKT (A : Nat → Prop) (U : State) (H : Heap) : Prop :=
  vx_Zq Bundle.tN "UNASSIGNED_STACK" Bundle.steD A U H ∧ vx_Zq Bundle.tN "SUPPRESSED_SENTINEL" Bundle.listD A U H ∧ (∀ x ∈ gStr, ∃ a, vk_R RX0 x.1 x.2 a U) ∧ (∀ x ∈ gEx, va_Nw (.castable x x) U) ∧ (∀ x ∈ gNcs, va_Nc x.1 x.2 U) ∧ ∀ x ∈ gDe, va_Nw (.declares x) U
theorem gKT.bad {A : Nat → Prop} {U : State} {H : Heap} (h : gKT A U H) {cls : String} (hc : cls ∈ gEx) {args : Array Value} : ∀ w ∈ gBad cls, w.before args U = true := by
  obtain ⟨h1, h2, h3, h4, h5, h6⟩ := h
  exact vx_c (va_Nw.use rfl (h4 _ hc)) (vx_c (va_Nw.use rfl (h6 _ (by decide +kernel))) (vx_c (va_Nw.use rfl (h6 _ (by decide +kernel))) (vx_c (va_Nw.use rfl (h6 _ (by decide +kernel))) vx_n)))
theorem gKT.call {A0 A1 : Nat → Prop} {s U : State} {Hb H : Heap} {locs : List Loc} (h : gKT A0 s Hb) (hS : va_S A0 Hb H locs) (hF : ∀ q, A1 q → A0 q) (hU : U.heap = H) (hW : s.WarmedH U.vm) : gKT A1 U U.heap := by
  obtain ⟨h1, h2, h3, h4, h5, h6⟩ := h
  have hk : ∀ a : Nat, a < Hb.size → ¬ A0 a → U.heap[a]? = Hb[a]? := fun a ha hn => by rw [hU]; exact hS.2.1 a ha hn
  refine ⟨((h1.moved hW.alike).kept hk).narrow hF, ((h2.moved hW.alike).kept hk).narrow hF, fun x hx => ?_, fun x hx => va_Nw.warmC hW (h4 x hx), fun x hx => va_Nc.moved hW.alike (h5 x hx), fun x hx => va_Nw.warmD hW (h6 x hx)⟩
  obtain ⟨a, ha⟩ := h3 x hx
  exact ⟨a, vk_R.warm hW ha⟩
/-- throws E, the world stays -/
def gMT (l : Launch) (y : MethodName) (ws : List Cond) (n : Nat) (D : va_G) (tys : List (ClassId × FieldType)) (W0 : va_W) (av : List Value) (E : String) : Prop :=
  ∀ sz : Nat, vx_Met l y ws (gRx n) (va_Pc av (fun U => gB0 D tys W0 sz U ∧ gKT (va_A W0 sz) U U.heap)) (va_Qv (fun (_ : Unit) => False) (fun _ _ => True) (va_A W0 sz)) (vx_X (fun (_ : Unit) => True) (fun E' _ t => E' = E ∧ sz + 1 ≤ t.heap.size ∧ gB1 D tys (va_A W0 sz) W0 t) (va_A W0 sz)) 1 6 (va_A W0 sz)
def gQT (below : List Frame) (args : Array Value) (s : State) (D : va_G) (tys : List (ClassId × FieldType)) (W0 : va_W) (E : String) (A0 : Nat → Prop) : State → Prop :=
  vx_MQ below (va_Qv (fun (_ : Unit) => False) (fun _ _ => True) A0) (vx_X (fun (_ : Unit) => True) (fun E' _ t => E' = E ∧ s.heap.size + 1 ≤ t.heap.size ∧ gB1 D tys A0 W0 t) A0) args s 1 6 A0
theorem g_slen : ∀ {l : List Value}, (∀ v ∈ l, v.category = 1) → (lg_sl l).length = l.length := by
  intro l
  induction l with
  | nil => intro _; rfl
  | cons v l ih =>
    intro h
    have hv := h v List.mem_cons_self
    have := ih (fun w hw => h w (List.mem_cons_of_mem _ hw))
    unfold lg_sl at this ⊢
    rw [List.flatMap_cons, List.length_append, this, hv]
    simp
    omega
theorem g_isC (wr wc : va_W) : (List.range' wr.length wc.length).map (fun i => (wr ++ wc)[i]?) = wc.map some := by
  apply List.ext_getElem?
  intro i
  rw [List.getElem?_map, List.getElem?_map]
  by_cases hi : i < wc.length
  · rw [List.getElem?_range' hi, Option.map_some, List.getElem?_append_right (by omega), List.getElem?_eq_getElem (by omega)]
    simp [List.getElem?_eq_getElem hi]
  · rw [List.getElem?_eq_none (by simp; omega), List.getElem?_eq_none (by omega)]
    rfl
theorem g_isR (wr wc : va_W) : (List.range wr.length).map (fun i => (wr ++ wc)[i]?) = wr.map some := by
  apply List.ext_getElem?
  intro i
  rw [List.getElem?_map, List.getElem?_map]
  by_cases hi : i < wr.length
  · rw [List.getElem?_range hi, Option.map_some, List.getElem?_append_left hi, List.getElem?_eq_getElem hi]
    rfl
  · rw [List.getElem?_eq_none (by simp; omega), List.getElem?_eq_none (by omega)]
    rfl
theorem g_nd : ∀ l : List Nat, l.Nodup → va_nd l = true := by
  intro l
  induction l with
  | nil => intro _; rfl
  | cons a l ih =>
    intro h
    rw [List.nodup_cons] at h
    simp [va_nd, h.1, ih h.2]
theorem g_dis (a b : Nat) : ∀ i ∈ List.range a, i ∉ List.range' a b := by
  intro i hi h
  rw [List.mem_range] at hi
  rw [List.mem_range'_1] at h
  omega
theorem g_Pr {D : va_G} {cl : List vw_C} {w1 w2 : va_W} {H : Heap} (h : va_P D cl (w1 ++ w2) H) : va_P D cl w2 H := fun k q hk => h (w1.length + k) q (by rw [List.getElem?_append_right (by omega)]; simpa using hk)
theorem g_Dr {A : Nat → Prop} {w1 w2 : va_W} (h : va_D A (w1 ++ w2)) : va_D A w2 := by
  have key : ∀ (k : Nat) (q : Nat × va_E), w2[k]? = some q → (w1 ++ w2)[w1.length + k]? = some q := fun k q hk => by rw [List.getElem?_append_right (by omega)]; simpa using hk
  exact ⟨fun i j p q hi hj hpq => by have := h.1 _ _ p q (key i p hi) (key j q hj) hpq; omega, fun k q hk => h.2 _ q (key k q hk)⟩
section GC
variable {Hb : Heap} {p : Program} {l : Launch} {e : Env} {R : Room} {s : State} {m : MethodId} {args : Array Value} {below : List Frame} {meth : Method} {c : Code} {cells slots : Nat} {Q : State → Prop} {A0 : Nat → Prop} {D : va_G}
variable {own : String} {cc : ByteArray} {nL : Nat} {Ts : List Cond} {tys : List (ClassId × FieldType)} {lv : List (Option Value)} {pc : Nat} {st st0 : List Value}
/-- a call of an instance method whose world lies last -/
theorem g_callI (E : hE Hb p s m args c own cc nL Ts D tys A0) {C : String} {y : MethodName} {bytes : ByteArray} {maxL index lam n q ci N : Nat} {T : u_T} {fs : List Value} {ret : Option FieldType} {wsY : List Cond} {wr wc wc' : va_W} {As : List Value} {rv : Int}
    (hM : gMI l y wsY lam D tys wc (.ref q :: As) rv wc') (cw : CallW R s args own C index y bytes maxL ret wsY (gR lam) 0 0 n) (hn : As.length = n) (hlv : lv.length = nL) (hst : st0 = As.reverse ++ .ref q :: st) (hcat : (st.map fun v => v.category).sum ≤ 8) (he : wc[0]? = some (q, .inr (ci, fs))) (hc : vwCl[ci]? = some (C, T, N))
    (hdg : decode cc pc = .ok (.invokevirtual index, 3)) (hcs : cells ≤ R.cells ∧ slots ≤ R.slots) (K : hJ Hb p l e R s m args below meth c cells slots Q A0 D (wr ++ wc') lv (pc + 3) (.int (iI rv) :: st)) : hJ Hb p l e R s m args below meth c cells slots Q A0 D (wr ++ wc) lv pc st0 := by
  obtain ⟨⟨hx, hb, hml, hown, hts⟩, hK, hA⟩ := E
  intro H locs ls hP hD hS hL
  subst hst
  have hPc := g_Pr hP
  have hDc := g_Dr hD
  have hFc := va_free (wc := wc) hD hS hA _ (g_isC wr wc)
  refine va_calli (va_runV (As := As) (rest := st) ⟨hx, hb, hml, hown, hts⟩ (hM H.size) cw ⟨fun a U g mk q => by obtain ⟨q0, q1, qP, qK, qD⟩ := q; exact ⟨q0, q1, qP, va_K.moved (u := U) (U := U.calling g mk a) (Vm.Alike.refl U.vm) qK, qD⟩, va_recv hK hPc hc he, fun U hU hW => ⟨rfl, by rw [hU], by rw [hU]; exact hPc, va_K.moved hW.alike hK, hDc.weaken (fun _ _ _ _ => trivial)⟩⟩ rfl hn (hL.1.trans hlv) rfl (lv_room hcat) hdg hcs) hS (fun q _ h => hFc q h) hFc (fun r u t H1 locs1 ht hvm hw hB hz1 hk1 hS1 => ?_)
  obtain ⟨hP1, hK1, hD1⟩ := hB
  rw [ht] at hP1
  obtain ⟨hP2, hD2⟩ := va_join hP hD _ _ (g_isC wr wc) (g_isR wr wc) (g_nd _ List.nodup_range) (g_dis _ _) hk1 hFc hP1 hD1
  rw [hw]
  exact K H1 locs1 ls hP2 hD2 hS1 hL
theorem g_callV (E : hE Hb p s m args c own cc nL Ts D tys A0) {C : String} {y : MethodName} {bytes : ByteArray} {maxL index lam n q ci N : Nat} {T : u_T} {fs : List Value} {ret : Option FieldType} {wsY : List Cond} {wr wc wc' : va_W} {As : List Value}
    (hM : gMV l y wsY lam D tys wc (.ref q :: As) wc') (cw : CallW R s args own C index y bytes maxL ret wsY (gR lam) 0 0 n) (hn : As.length = n) (hlv : lv.length = nL) (hst : st0 = As.reverse ++ .ref q :: st) (hcat : (st.map fun v => v.category).sum ≤ 8) (he : wc[0]? = some (q, .inr (ci, fs))) (hc : vwCl[ci]? = some (C, T, N))
    (hdg : decode cc pc = .ok (.invokevirtual index, 3)) (hcs : cells ≤ R.cells ∧ slots ≤ R.slots) (K : hJ Hb p l e R s m args below meth c cells slots Q A0 D (wr ++ wc') lv (pc + 3) st) : hJ Hb p l e R s m args below meth c cells slots Q A0 D (wr ++ wc) lv pc st0 := by
  obtain ⟨⟨hx, hb, hml, hown, hts⟩, hK, hA⟩ := E
  intro H locs ls hP hD hS hL
  subst hst
  have hPc := g_Pr hP
  have hDc := g_Dr hD
  have hFc := va_free (wc := wc) hD hS hA _ (g_isC wr wc)
  refine va_callv (va_runV (As := As) (rest := st) ⟨hx, hb, hml, hown, hts⟩ (hM H.size) cw ⟨fun a U g mk q => by obtain ⟨q0, q1, qP, qK, qD⟩ := q; exact ⟨q0, q1, qP, va_K.moved (u := U) (U := U.calling g mk a) (Vm.Alike.refl U.vm) qK, qD⟩, va_recv hK hPc hc he, fun U hU hW => ⟨rfl, by rw [hU], by rw [hU]; exact hPc, va_K.moved hW.alike hK, hDc.weaken (fun _ _ _ _ => trivial)⟩⟩ rfl hn (hL.1.trans hlv) rfl (lv_room hcat) hdg hcs) hS (fun q _ h => hFc q h) hFc (fun u t H1 locs1 ht hvm hw hB hz1 hk1 hS1 => ?_)
  obtain ⟨hP1, hK1, hD1⟩ := hB
  rw [ht] at hP1
  obtain ⟨hP2, hD2⟩ := va_join hP hD _ _ (g_isC wr wc) (g_isR wr wc) (g_nd _ List.nodup_range) (g_dis _ _) hk1 hFc hP1 hD1
  exact K H1 locs1 ls hP2 hD2 hS1 hL
/-- static calls that touch no cell -/
theorem g_callSI (E : hE Hb p s m args c own cc nL Ts D tys A0) {y : MethodName} {bytes : ByteArray} {maxL index lam n : Nat} {ret : Option FieldType} {wsY : List Cond} {ws : va_W} {As : List Value} {rv : Int}
    (hM : gMI l y wsY lam D tys [] As rv []) (cw : CallB R s args own index y bytes maxL ret wsY (gR lam) 0 0 n ∧ (Cond.static y).before args s = true) (hn : As.length = n) (hlv : lv.length = nL) (hst : st0 = As.reverse ++ st) (hcat : (st.map fun v => v.category).sum ≤ 8)
    (hdg : decode cc pc = .ok (.invokestatic index, 3)) (hcs : cells ≤ R.cells ∧ slots ≤ R.slots) (K : hJ Hb p l e R s m args below meth c cells slots Q A0 D ws lv (pc + 3) (.int (iI rv) :: st)) : hJ Hb p l e R s m args below meth c cells slots Q A0 D ws lv pc st0 := by
  obtain ⟨⟨hx, hb, hml, hown, hts⟩, hK, hA⟩ := E
  intro H locs ls hP hD hS hL
  subst hst
  have hP0 : va_P D vwCl [] H := fun k q h => by simp at h
  have hD0 : ∀ A : Nat → Prop, va_D A [] := fun A => ⟨fun i j p q h => by simp at h, fun k q h => by simp at h⟩
  have hFc : ∀ q, va_A [] H.size q → A0 q := fun q h => by
    rcases h with ⟨k, e, h⟩ | h
    · simp at h
    · exact hA q (Nat.le_trans hS.1 h)
  refine va_calli (va_runS (As := As) (rest := st) ⟨hx, hb, hml, hown, hts⟩ (hM H.size) cw ⟨fun a U g mk q => by obtain ⟨q0, q1, qP, qK, qD⟩ := q; exact ⟨q0, q1, qP, va_K.moved (u := U) (U := U.calling g mk a) (Vm.Alike.refl U.vm) qK, qD⟩, fun U hU hW => ⟨rfl, by rw [hU], by rw [hU]; exact hP0, va_K.moved hW.alike hK, hD0 _⟩⟩ rfl hn (hL.1.trans hlv) rfl (lv_room hcat) hdg hcs) hS (fun q _ h => hFc q h) hFc (fun r u t H1 locs1 ht hvm hw hB hz1 hk1 hS1 => ?_)
  rw [hw]
  exact K H1 locs1 ls (hP.kept (fun k q hk => hk1 q.1 (hP k q hk).lt (fun h => by
    rcases h with ⟨k, e, h⟩ | h
    · simp at h
    · exact absurd (hP k q hk).lt (by omega)))) hD hS1 hL
theorem g_callSV (E : hE Hb p s m args c own cc nL Ts D tys A0) {y : MethodName} {bytes : ByteArray} {maxL index lam n : Nat} {ret : Option FieldType} {wsY : List Cond} {ws : va_W} {As : List Value}
    (hM : gMV l y wsY lam D tys [] As []) (cw : CallB R s args own index y bytes maxL ret wsY (gR lam) 0 0 n ∧ (Cond.static y).before args s = true) (hn : As.length = n) (hlv : lv.length = nL) (hst : st0 = As.reverse ++ st) (hcat : (st.map fun v => v.category).sum ≤ 8)
    (hdg : decode cc pc = .ok (.invokestatic index, 3)) (hcs : cells ≤ R.cells ∧ slots ≤ R.slots) (K : hJ Hb p l e R s m args below meth c cells slots Q A0 D ws lv (pc + 3) st) : hJ Hb p l e R s m args below meth c cells slots Q A0 D ws lv pc st0 := by
  obtain ⟨⟨hx, hb, hml, hown, hts⟩, hK, hA⟩ := E
  intro H locs ls hP hD hS hL
  subst hst
  have hP0 : va_P D vwCl [] H := fun k q h => by simp at h
  have hD0 : ∀ A : Nat → Prop, va_D A [] := fun A => ⟨fun i j p q h => by simp at h, fun k q h => by simp at h⟩
  have hFc : ∀ q, va_A [] H.size q → A0 q := fun q h => by
    rcases h with ⟨k, e, h⟩ | h
    · simp at h
    · exact hA q (Nat.le_trans hS.1 h)
  refine va_callv (va_runS (As := As) (rest := st) ⟨hx, hb, hml, hown, hts⟩ (hM H.size) cw ⟨fun a U g mk q => by obtain ⟨q0, q1, qP, qK, qD⟩ := q; exact ⟨q0, q1, qP, va_K.moved (u := U) (U := U.calling g mk a) (Vm.Alike.refl U.vm) qK, qD⟩, fun U hU hW => ⟨rfl, by rw [hU], by rw [hU]; exact hP0, va_K.moved hW.alike hK, hD0 _⟩⟩ rfl hn (hL.1.trans hlv) rfl (lv_room hcat) hdg hcs) hS (fun q _ h => hFc q h) hFc (fun u t H1 locs1 ht hvm hw hB hz1 hk1 hS1 => ?_)
  exact K H1 locs1 ls (hP.kept (fun k q hk => hk1 q.1 (hP k q hk).lt (fun h => by
    rcases h with ⟨k, e, h⟩ | h
    · simp at h
    · exact absurd (hP k q hk).lt (by omega)))) hD hS1 hL
/-- a callee that throws E, in a method that owes the throw of E -/
theorem g_callT (E : gE p s m args c own cc nL Ts D tys A0) {C : String} {y : MethodName} {bytes : ByteArray} {maxL index lam n q ci N : Nat} {T : u_T} {fs : List Value} {ret : Option FieldType} {wsY : List Cond} {wc : va_W} {As : List Value} {EX : String}
    (hM : gMT l y wsY lam D tys wc (.ref q :: As) EX) (hT : gKT A0 s s.heap) (hlk : meth.locks = false) (htb : ∀ x ∈ c.exceptionTable.toList, False) (cw : CallW R s args own C index y bytes maxL ret wsY (gRx lam) 1 6 n) (hn : As.length = n) (hlv : lv.length = nL) (hst : st0 = As.reverse ++ .ref q :: st) (hcat : (st.map fun v => v.category).sum ≤ 8) (he : wc[0]? = some (q, .inr (ci, fs))) (hc : vwCl[ci]? = some (C, T, N))
    (hdg : decode cc pc = .ok (.invokevirtual index, 3)) (hcs : 1 ≤ R.cells ∧ 6 ≤ R.slots) : gJ p l e R s m args below meth c 0 0 (gQT below args s D tys wc EX A0) A0 D wc lv pc st0 := by
  obtain ⟨⟨hx, hb, hml, hown, hts⟩, hK, hA⟩ := E
  intro H locs ls hP hD hS hL
  subst hst
  have hFc := va_free (wc := wc) hD hS hA _ (g_isC [] wc)
  refine vx_callv (vx_runV (As := As) (rest := st) (cells := 0) (slots := 0) ⟨hx, hb, hml, hown, hts⟩ (hM H.size) cw ⟨fun a U g mk q => by obtain ⟨q0, ⟨q1, qP, qK, qD⟩, qT⟩ := q; exact ⟨q0, ⟨q1, qP, va_K.moved (u := U) (U := U.calling g mk a) (Vm.Alike.refl U.vm) qK, qD⟩, qT⟩, va_recv hK hP hc he, fun U hU hW => ⟨rfl, ⟨by rw [hU], by rw [hU]; exact hP, va_K.moved hW.alike hK, hD.weaken (fun _ _ _ _ => trivial)⟩, gKT.call hT hS hFc hU hW⟩⟩ rfl hn (hL.1.trans hlv) rfl (lv_room hcat) hdg (by simpa using hcs)) hS (fun q _ h => hFc q h) hFc (fun q _ h => hFc q h) (fun E9 ce q9 u t H1 locs1 ht hvm hp hB hz hk hS1 hce hcv hcl => ?_) (fun u t H1 locs1 ht hvm hw hB hz1 hk1 hS1 => hw.elim)
  obtain ⟨rfl, hz9, hP1, hK1, hD1⟩ := hB
  rw [ht] at hP1 hz9
  exact vx_out (fun x hx => (htb x hx).elim) hlk hce hcv hcl (fun t' ht' hvm' => ⟨(), trivial, ⟨rfl, by rw [ht']; exact Nat.le_trans (Nat.succ_le_succ hS.1) hz9, by rw [ht']; exact hP1, va_K.moved hvm' hK, hD1.weaken (fun k q _ h => hFc q.1 h)⟩, hS1.F ht'⟩) hS1.2.2 (by simp) (by simp)
theorem g_callTS (E : gE p s m args c own cc nL Ts D tys A0) {y : MethodName} {bytes : ByteArray} {maxL index lam n : Nat} {ret : Option FieldType} {wsY : List Cond} {wc : va_W} {As : List Value} {EX : String}
    (hM : gMT l y wsY lam D tys [] As EX) (hT : gKT A0 s s.heap) (hlk : meth.locks = false) (htb : ∀ x ∈ c.exceptionTable.toList, False) (cw : CallB R s args own index y bytes maxL ret wsY (gRx lam) 1 6 n ∧ (Cond.static y).before args s = true) (hn : As.length = n) (hlv : lv.length = nL) (hst : st0 = As.reverse ++ st) (hcat : (st.map fun v => v.category).sum ≤ 8)
    (hdg : decode cc pc = .ok (.invokestatic index, 3)) (hcs : 1 ≤ R.cells ∧ 6 ≤ R.slots) : gJ p l e R s m args below meth c 0 0 (gQT below args s D tys wc EX A0) A0 D wc lv pc st0 := by
  obtain ⟨⟨hx, hb, hml, hown, hts⟩, hK, hA⟩ := E
  intro H locs ls hP hD hS hL
  subst hst
  have hP0 : va_P D vwCl [] H := fun k q h => by simp at h
  have hD0 : ∀ A : Nat → Prop, va_D A [] := fun A => ⟨fun i j p q h => by simp at h, fun k q h => by simp at h⟩
  have hFc : ∀ q, va_A [] H.size q → A0 q := fun q h => by
    rcases h with ⟨k, e, h⟩ | h
    · simp at h
    · exact hA q (Nat.le_trans hS.1 h)
  refine vx_callv (vx_runS (As := As) (rest := st) (cells := 0) (slots := 0) ⟨hx, hb, hml, hown, hts⟩ (hM H.size) cw ⟨fun a U g mk q => by obtain ⟨q0, ⟨q1, qP, qK, qD⟩, qT⟩ := q; exact ⟨q0, ⟨q1, qP, va_K.moved (u := U) (U := U.calling g mk a) (Vm.Alike.refl U.vm) qK, qD⟩, qT⟩, fun U hU hW => ⟨rfl, ⟨by rw [hU], by rw [hU]; exact hP0, va_K.moved hW.alike hK, hD0 _⟩, gKT.call hT hS hFc hU hW⟩⟩ rfl hn (hL.1.trans hlv) rfl (lv_room hcat) hdg (by simpa using hcs)) hS (fun q _ h => hFc q h) hFc (fun q _ h => hFc q h) (fun E9 ce q9 u t H1 locs1 ht hvm hp hB hz hk hS1 hce hcv hcl => ?_) (fun u t H1 locs1 ht hvm hw hB hz1 hk1 hS1 => hw.elim)
  obtain ⟨rfl, hz9, -, hK1, -⟩ := hB
  rw [ht] at hz9
  have hP1 : va_P D vwCl wc H1 := hP.kept (fun k q hk9 => hk q.1 (hP k q hk9).lt (fun h => by
    rcases h with ⟨k, e, h⟩ | h
    · simp at h
    · exact absurd (hP k q hk9).lt (by omega)))
  exact vx_out (fun x hx => (htb x hx).elim) hlk hce hcv hcl (fun t' ht' hvm' => ⟨(), trivial, ⟨rfl, by rw [ht']; exact Nat.le_trans (Nat.succ_le_succ hS.1) hz9, by rw [ht']; exact hP1, va_K.moved hvm' hK, hD⟩, hS1.F ht'⟩) hS1.2.2 (by simp) (by simp)
/-- 'throw new E("..")' in a method that owes it -/
theorem g_throw (E : gE p s m args c own cc nL Ts D tys A0) {cls text : String} {names : List String} {ik is ic : Nat} {wc : va_W}
    (hfl : l.stackTraces = false) (hT : gKT A0 s s.heap) (hlk : meth.locks = false) (htb : ∀ x ∈ c.exceptionTable.toList, False) (hlv : lv.length = nL)
    (hcls : Bundle.fit cls = true) (hnames : ∀ n ∈ names, Bundle.fit n = true) (hk : Cond.classLink own ik cls ∈ Ts) (hini : Cond.initialized cls ∈ Ts) (hown9 : own = RX0) (hstr : (is, text) ∈ gStr) (hcx : cls ∈ gEx)
    (hw : ∀ w ∈ (vx_atS own ic cls names).filter goodWord, w ∈ Ts) (hw2 : ∀ w ∈ (vx_atS own ic cls names).filter (fun w => !goodWord w), w ∈ gBad cls)
    (hgood : ∀ w ∈ Cond.classLink own ik cls :: Cond.initialized cls :: vx_atS own ic cls names, vx_ot w = true)
    (d0 : decode cc pc = .ok (.new ik, 3)) (d3 : decode cc (pc + 3) = .ok (.dup, 1)) (d4 : decode cc (pc + 4) = .ok (.ldc is, 2)) (d6 : decode cc (pc + 6) = .ok (.invokespecial ic, 3)) (d9 : decode cc (pc + 9) = .ok (.athrow, 1))
    (hRf : names.length + 3 < R.frames) (hRl : (st.map fun v => v.category).sum + (13 * (names.length + 1) + 43) ≤ R.locals) (hcs : 1 ≤ R.cells ∧ 6 ≤ R.slots) : gJ p l e R s m args below meth c 0 0 (gQT below args s D tys wc cls A0) A0 D wc lv pc st := by
  obtain ⟨⟨hx, hb, hml, hown, hts⟩, hK, hA⟩ := E
  intro H locs ls hP hD hS hL
  have hbad := hT.bad (args := args) hcx
  obtain ⟨t1, t2, t3, t4, t5, t6⟩ := hT
  obtain ⟨sa, hsa⟩ := t3 _ hstr
  subst hown9
  refine vx_throwS hx hb hfl (names := names) hown hcls hnames (hts _ hk) (hts _ hini) hsa (vx_hat (fun w h => hts w (hw w h)) hw2 hbad) hgood t1 t2 hS ((hL.1.trans hlv).trans hml.symm) d0 d3 d4 d6 d9 (fun x hx => (htb x hx).elim) hRf hRl (by simpa using hcs.1) (by simpa using hcs.2) hlk (fun t hvm hz hk9 => ⟨(), trivial, ⟨rfl, Nat.le_trans (Nat.succ_le_succ hS.1) hz, hP.kept (fun k q hk0 => hk9 q.1 (hP k q hk0).lt), va_K.moved hvm hK, hD⟩, ⟨Nat.le_trans hS.1 (Nat.le_of_succ_le hz), fun q h1 h2 => by rw [hk9 q (Nat.lt_of_lt_of_le h1 hS.1)]; exact hS.2.1 q h1 h2⟩⟩) hS.2.2 (by simp) (by simp)
end GC
/-! ===== a contract out of a walk ===== -/
theorem g_ofI {l : Launch} {y : MethodName} {ws ws' : List Cond} {lam : Nat} {D : va_G} {tys : List (ClassId × FieldType)} {W0 W1 : va_W} {av : List Value} {rv : Int} {own : String} {cc : ByteArray} {maxL : Nat} {ty : FieldType}
    (hy : plainName y.cls = true) (hcls : y.cls = own) (hw : ws = Cond.code y cc maxL (some ty) :: ws') (hlen : av.length ≤ maxL) (hcat : ∀ v ∈ av, v.category = 1) (hnar : narrow ty (.int (iI rv)) = .int (iI rv))
    (body : ∀ (p : Program) (e : Env) (s : State) (m : MethodId) (args : Array Value) (below : List Frame) (meth : Method) (c : Code) (Q : State → Prop) (A0 : Nat → Prop), gE p s m args c own cc maxL ws D tys A0 → (∀ (lv : List (Option Value)) (pc : Nat), decode cc pc = .ok (.ireturn, 1) → gJ p l e (gR lam) s m args below meth c 0 0 Q A0 D W1 lv pc [.int (iI rv)]) →
      gJ p l e (gR lam) s m args below meth c 0 0 Q A0 D W0 (av.map some ++ List.replicate (maxL - av.length) none) 0 []) : gMI l y ws lam D tys W0 av rv W1 := by
  intro sz
  refine Met.ofW (cc := cc) (maxL := maxL) (ret := some ty) hy hw ?_
  intro p e s m args below meth c s₁ B hml hv
  obtain ⟨rfl, hsz, hP, hK, hD0⟩ := hv
  have hts := atoms_spec (ws := ws) B.pre
  have hown : s.vm.findClass own = some m.cls := by rw [← hcls]; exact findClass_of_methodNamed B.named
  subst hsz
  have hD := hD0.self (sz := s.heap.size)
  have hl := lv_entry av (n := maxL) (by rw [g_slen hcat]; exact hlen)
  rw [lg_entry_eq]
  refine body p e s m _ below meth c _ (va_A W0 s.heap.size) ⟨⟨B.exec, B.bytes, hml, hown, hts⟩, hK, fun q h => Or.inr h⟩ ?_ s.heap [] _ hP hD va_S.rf (gL_entry hlen hcat hl)
  intro lv pc hdg H locs ls hP9 hD9 hS9 hL9
  exact W.zret (v := iI rv) B.exec B.bytes B.returns hnar (fun t ht hW => ⟨⟨iI rv, (), rfl, rfl, by rw [ht]; exact hP9, va_K.moved hW.alike hK, hD9⟩, hS9.F ht⟩) hS9.2.2 hdg
theorem g_ofV {l : Launch} {y : MethodName} {ws ws' : List Cond} {lam : Nat} {D : va_G} {tys : List (ClassId × FieldType)} {W0 W1 : va_W} {av : List Value} {own : String} {cc : ByteArray} {maxL : Nat}
    (hy : plainName y.cls = true) (hcls : y.cls = own) (hw : ws = Cond.code y cc maxL none :: ws') (hlen : av.length ≤ maxL) (hcat : ∀ v ∈ av, v.category = 1)
    (body : ∀ (p : Program) (e : Env) (s : State) (m : MethodId) (args : Array Value) (below : List Frame) (meth : Method) (c : Code) (Q : State → Prop) (A0 : Nat → Prop), gE p s m args c own cc maxL ws D tys A0 → (∀ (lv : List (Option Value)) (pc : Nat), decode cc pc = .ok (.return_, 1) → gJ p l e (gR lam) s m args below meth c 0 0 Q A0 D W1 lv pc []) →
      gJ p l e (gR lam) s m args below meth c 0 0 Q A0 D W0 (av.map some ++ List.replicate (maxL - av.length) none) 0 []) : gMV l y ws lam D tys W0 av W1 := by
  intro sz
  refine Met.ofW (cc := cc) (maxL := maxL) (ret := none) hy hw ?_
  intro p e s m args below meth c s₁ B hml hv
  obtain ⟨rfl, hsz, hP, hK, hD0⟩ := hv
  have hts := atoms_spec (ws := ws) B.pre
  have hown : s.vm.findClass own = some m.cls := by rw [← hcls]; exact findClass_of_methodNamed B.named
  subst hsz
  have hD := hD0.self (sz := s.heap.size)
  have hl := lv_entry av (n := maxL) (by rw [g_slen hcat]; exact hlen)
  rw [lg_entry_eq]
  refine body p e s m _ below meth c _ (va_A W0 s.heap.size) ⟨⟨B.exec, B.bytes, hml, hown, hts⟩, hK, fun q h => Or.inr h⟩ ?_ s.heap [] _ hP hD va_S.rf (gL_entry hlen hcat hl)
  intro lv pc hdg H locs ls hP9 hD9 hS9 hL9
  exact W.vret B.exec B.bytes B.returns (fun t ht hW => ⟨⟨(), rfl, trivial, by rw [ht]; exact hP9, va_K.moved hW.alike hK, hD9⟩, hS9.F ht⟩) hS9.2.2 hdg
theorem g_ofT {l : Launch} {y : MethodName} {ws ws' : List Cond} {lam : Nat} {D : va_G} {tys : List (ClassId × FieldType)} {W0 : va_W} {av : List Value} {EX own : String} {cc : ByteArray} {maxL : Nat} {ret : Option FieldType}
    (hy : plainName y.cls = true) (hcls : y.cls = own) (hw : ws = Cond.code y cc maxL ret :: ws') (hlen : av.length ≤ maxL) (hcat : ∀ v ∈ av, v.category = 1)
    (body : ∀ (p : Program) (e : Env) (s : State) (m : MethodId) (args : Array Value) (below : List Frame) (meth : Method) (c : Code) (A0 : Nat → Prop), gE p s m args c own cc maxL ws D tys A0 → gKT A0 s s.heap → meth.locks = false → (∀ x ∈ c.exceptionTable.toList, False) →
      gJ p l e (gRx lam) s m args below meth c 0 0 (gQT below args s D tys W0 EX A0) A0 D W0 (av.map some ++ List.replicate (maxL - av.length) none) 0 []) : gMT l y ws lam D tys W0 av EX := by
  intro sz
  refine vx_ofW (cc := cc) (maxL := maxL) (ret := ret) hy hw ?_
  intro p e s m args below meth c s₁ B hml htb hv
  obtain ⟨rfl, ⟨hsz, hP, hK, hD0⟩, hT⟩ := hv
  have hts := atoms_spec (ws := ws) B.pre
  have hown : s.vm.findClass own = some m.cls := by rw [← hcls]; exact findClass_of_methodNamed B.named
  subst hsz
  have hD := hD0.self (sz := s.heap.size)
  have hl := lv_entry av (n := maxL) (by rw [g_slen hcat]; exact hlen)
  rw [lg_entry_eq]
  exact body p e s m _ below meth c (va_A W0 s.heap.size) ⟨⟨B.exec, B.bytes, hml, hown, hts⟩, hK, fun q h => Or.inr h⟩ hT B.notSynchronized htb s.heap [] _ hP hD va_S.rf (gL_entry hlen hcat hl)
section GC2
variable {Hb : Heap} {p : Program} {l : Launch} {e : Env} {R : Room} {s : State} {m : MethodId} {args : Array Value} {below : List Frame} {meth : Method} {c : Code} {cells slots : Nat} {Q : State → Prop} {A0 : Nat → Prop} {D : va_G}
variable {own : String} {cc : ByteArray} {nL : Nat} {Ts : List Cond} {tys : List (ClassId × FieldType)} {lv : List (Option Value)} {pc : Nat} {st st0 : List Value}
/-- .. the callee's world is the caller's -/
theorem g_callI0 (E : hE Hb p s m args c own cc nL Ts D tys A0) {C : String} {y : MethodName} {bytes : ByteArray} {maxL index lam n q ci N : Nat} {T : u_T} {fs : List Value} {ret : Option FieldType} {wsY : List Cond} {wc wc' : va_W} {As : List Value} {rv : Int}
    (hM : gMI l y wsY lam D tys wc (.ref q :: As) rv wc') (cw : CallW R s args own C index y bytes maxL ret wsY (gR lam) 0 0 n) (hn : As.length = n) (hlv : lv.length = nL) (hst : st0 = As.reverse ++ .ref q :: st) (hcat : (st.map fun v => v.category).sum ≤ 8) (he : wc[0]? = some (q, .inr (ci, fs))) (hc : vwCl[ci]? = some (C, T, N))
    (hdg : decode cc pc = .ok (.invokevirtual index, 3)) (hcs : cells ≤ R.cells ∧ slots ≤ R.slots) (K : hJ Hb p l e R s m args below meth c cells slots Q A0 D wc' lv (pc + 3) (.int (iI rv) :: st)) : hJ Hb p l e R s m args below meth c cells slots Q A0 D wc lv pc st0 := g_callI E (wr := []) hM cw hn hlv hst hcat he hc hdg hcs K
theorem g_callV0 (E : hE Hb p s m args c own cc nL Ts D tys A0) {C : String} {y : MethodName} {bytes : ByteArray} {maxL index lam n q ci N : Nat} {T : u_T} {fs : List Value} {ret : Option FieldType} {wsY : List Cond} {wc wc' : va_W} {As : List Value}
    (hM : gMV l y wsY lam D tys wc (.ref q :: As) wc') (cw : CallW R s args own C index y bytes maxL ret wsY (gR lam) 0 0 n) (hn : As.length = n) (hlv : lv.length = nL) (hst : st0 = As.reverse ++ .ref q :: st) (hcat : (st.map fun v => v.category).sum ≤ 8) (he : wc[0]? = some (q, .inr (ci, fs))) (hc : vwCl[ci]? = some (C, T, N))
    (hdg : decode cc pc = .ok (.invokevirtual index, 3)) (hcs : cells ≤ R.cells ∧ slots ≤ R.slots) (K : hJ Hb p l e R s m args below meth c cells slots Q A0 D wc' lv (pc + 3) st) : hJ Hb p l e R s m args below meth c cells slots Q A0 D wc lv pc st0 := g_callV E (wr := []) hM cw hn hlv hst hcat he hc hdg hcs K
theorem g_ri {cc : ByteArray} {rv v : Int} {W1 : va_W} (h : v = rv) (hret : ∀ (lv : List (Option Value)) (pc : Nat), decode cc pc = .ok (.ireturn, 1) → hJ Hb p l e R s m args below meth c cells slots Q A0 D W1 lv pc [.int (iI rv)]) {lv : List (Option Value)} {pc : Nat} (hdg : decode cc pc = .ok (.ireturn, 1)) : hJ Hb p l e R s m args below meth c cells slots Q A0 D W1 lv pc [.int (iI v)] := by
  subst h
  exact hret lv pc hdg
theorem g_mmin (E : hE Hb p s m args c own cc nL Ts D tys A0) {index : Nat} {a b v : Int} {ws : va_W} (h1 : Cond.methodLink own index Lib.Math.min.name ∈ Ts) (h2 : Cond.static Lib.Math.min.name ∈ Ts) (h3 : Cond.initialized "java/lang/Math" ∈ Ts) (h4 : Cond.code Lib.Math.min.name Lib.Math.min.code 2 (some .int) ∈ Ts) (hdg : decode cc pc = .ok (.invokestatic index, 3)) (hlv : lv.length = nL)
    (hR : 1 ≤ R.frames ∧ (st.map fun v => v.category).sum + 13 ≤ R.locals ∧ cells ≤ R.cells ∧ slots ≤ R.slots) (hr : (-2147483648 ≤ a ∧ a < 2147483648) ∧ (-2147483648 ≤ b ∧ b < 2147483648)) (hv : (if b < a then b else a) = v)
    (K : hJ Hb p l e R s m args below meth c cells slots Q A0 D ws lv (pc + 3) (.int (iI v) :: st)) : hJ Hb p l e R s m args below meth c cells slots Q A0 D ws lv pc (.int (iI b) :: .int (iI a) :: st) := by
  obtain ⟨⟨hx, hb, hml, hown, hts⟩, hK, hA⟩ := E
  intro H locs ls hP hD hS hL
  subst hv
  refine va_mmin hx hb (hml.trans (hL.1.trans hlv).symm) hown (hts _ h1) (hts _ h2) (hts _ h3) (hts _ h4) hR.1 hR.2.1 hR.2.2.1 hR.2.2.2 hdg ?_
  have e9 : (if iI b < iI a then iI b else iI a) = iI (if b < a then b else a) := by
    by_cases h : b < a
    · rw [if_pos h, if_pos ((iI_lt hr.2 hr.1).mpr h)]
    · rw [if_neg h, if_neg (fun h2 => h ((iI_lt hr.2 hr.1).mp h2))]
  rw [e9]
  exact K H locs ls hP hD hS hL
theorem g_mmax (E : hE Hb p s m args c own cc nL Ts D tys A0) {index : Nat} {a b v : Int} {ws : va_W} (h1 : Cond.methodLink own index Lib.Math.max.name ∈ Ts) (h2 : Cond.static Lib.Math.max.name ∈ Ts) (h3 : Cond.initialized "java/lang/Math" ∈ Ts) (h4 : Cond.code Lib.Math.max.name Lib.Math.max.code 2 (some .int) ∈ Ts) (hdg : decode cc pc = .ok (.invokestatic index, 3)) (hlv : lv.length = nL)
    (hR : 1 ≤ R.frames ∧ (st.map fun v => v.category).sum + 13 ≤ R.locals ∧ cells ≤ R.cells ∧ slots ≤ R.slots) (hr : (-2147483648 ≤ a ∧ a < 2147483648) ∧ (-2147483648 ≤ b ∧ b < 2147483648)) (hv : (if a < b then b else a) = v)
    (K : hJ Hb p l e R s m args below meth c cells slots Q A0 D ws lv (pc + 3) (.int (iI v) :: st)) : hJ Hb p l e R s m args below meth c cells slots Q A0 D ws lv pc (.int (iI b) :: .int (iI a) :: st) := by
  obtain ⟨⟨hx, hb, hml, hown, hts⟩, hK, hA⟩ := E
  intro H locs ls hP hD hS hL
  subst hv
  refine va_mmax hx hb (hml.trans (hL.1.trans hlv).symm) hown (hts _ h1) (hts _ h2) (hts _ h3) (hts _ h4) hR.1 hR.2.1 hR.2.2.1 hR.2.2.2 hdg ?_
  have e9 : (if iI a < iI b then iI b else iI a) = iI (if a < b then b else a) := by
    by_cases h : a < b
    · rw [if_pos h, if_pos ((iI_lt hr.1 hr.2).mpr h)]
    · rw [if_neg h, if_neg (fun h2 => h ((iI_lt hr.1 hr.2).mp h2))]
  rw [e9]
  exact K H locs ls hP hD hS hL
theorem g_ldcI (E : hE Hb p s m args c own cc nL Ts D tys A0) {index : Nat} {v : Int} {ws : va_W} (hc : Cond.constant own index (iI v) ∈ Ts) (hdg : decode cc pc = .ok (.ldc index, 2)) (K : hJ Hb p l e R s m args below meth c cells slots Q A0 D ws lv (pc + 2) (.int (iI v) :: st)) : hJ Hb p l e R s m args below meth c cells slots Q A0 D ws lv pc st := by
  obtain ⟨⟨hx, hb, hml, hown, hts⟩, hK, hA⟩ := E
  intro H locs ls hP hD hS hL
  exact lv_ldc hx hb hown (hts _ hc) hdg (K H locs ls hP hD hS hL)
/-- another view of the same world or stack -/
theorem g_eq {ws ws' : va_W} {lv lv' : List (Option Value)} {st st' : List Value} (h : hJ Hb p l e R s m args below meth c cells slots Q A0 D ws' lv' pc st') (hw : ws = ws') (hl : lv = lv') (hs : st = st') : hJ Hb p l e R s m args below meth c cells slots Q A0 D ws lv pc st := by
  subst hw hl hs
  exact h
end GC2
