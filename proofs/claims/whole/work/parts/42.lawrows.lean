/-! ===== rows for the law and its wrappers ===== -/
def gTyL (cI cZ cL : ClassId) : List (ClassId × FieldType) := [(cI, .int), (cZ, .boolean), (cL, .long)]
abbrev gO (cL : ClassId) (o : Nat) (fL : Nat → Int64) : Nat × va_E := (o, .inl (cL, 1, .inr (.inl fL)))
/-- a wrapper: returns k; may make an exception -/
def gMW (l : Launch) (y : MethodName) (ws : List Cond) (D : va_G) (tys : List (ClassId × FieldType)) (W0 : va_W) (av : List Value) (rv : Int) (W1 : va_W) : Prop :=
  ∀ sz : Nat, Met l y ws (gRx 8) (va_Pc av (fun U => gB0 D tys W0 sz U ∧ gKT (va_A W0 sz) U U.heap)) (va_Qi (fun (r : Int32) (_ : Unit) => r = iI rv) (fun _ t => gB1 D tys (va_A W0 sz) W1 t) (va_A W0 sz)) 1 6 (va_A W0 sz)
section GLW
variable {p : Program} {l : Launch} {e : Env} {R : Room} {s : State} {m : MethodId} {args : Array Value} {below : List Frame} {meth : Method} {c : Code} {cells slots : Nat} {Q : State → Prop} {A0 : Nat → Prop} {D : va_G}
variable {own : String} {cc : ByteArray} {nL : Nat} {Ts : List Cond} {tys : List (ClassId × FieldType)} {ws : va_W} {lv : List (Option Value)} {pc : Nat} {st st0 : List Value}
theorem g_Pl {D : va_G} {cl : List vw_C} {w1 w2 : va_W} {H : Heap} (h : va_P D cl (w1 ++ w2) H) : va_P D cl w1 H := fun k q hk => h k q (by rw [List.getElem?_append_left (List.getElem?_eq_some_iff.mp hk).1]; exact hk)
theorem g_Dl {A : Nat → Prop} {w1 w2 : va_W} (h : va_D A (w1 ++ w2)) : va_D A w1 := by
  have key : ∀ (k : Nat) (q : Nat × va_E), w1[k]? = some q → (w1 ++ w2)[k]? = some q := fun k q hk => by rw [List.getElem?_append_left (List.getElem?_eq_some_iff.mp hk).1]; exact hk
  exact ⟨fun i j p q hi hj hpq => h.1 _ _ p q (key i p hi) (key j q hj) hpq, fun k q hk => h.2 _ q (key k q hk)⟩
theorem g_Dx {A : Nat → Prop} {w1 w2 : va_W} (h : va_D A (w1 ++ w2)) : ∀ (i j : Nat) (p q : Nat × va_E), w2[i]? = some p → w1[j]? = some q → p.1 ≠ q.1 := by
  intro i j p q hi hj hpq
  have h1 := (List.getElem?_eq_some_iff.mp hj).1
  have := h.1 (w1.length + i) j p q (by rw [List.getElem?_append_right (by omega)]; simpa using hi) (by rw [List.getElem?_append_left h1]; exact hj) hpq
  omega
theorem g_swap {a b : va_W} (K : gJ p l e R s m args below meth c cells slots Q A0 D (b ++ a) lv pc st) : gJ p l e R s m args below meth c cells slots Q A0 D (a ++ b) lv pc st := fun H locs ls hP hD hS hL => K H locs ls ((g_Pr hP).app (g_Pl hP)) ((g_Dr hD).app (g_Dl hD) (g_Dx hD)) hS hL
theorem g_callIW (E : gE p s m args c own cc nL Ts D tys A0) {tysC : List (ClassId × FieldType)} (is : List Nat) (his : is.filterMap (fun i => tys[i]?) = tysC) {C : String} {y : MethodName} {bytes : ByteArray} {maxL index lam n q ci N : Nat} {T : u_T} {fs : List Value} {ret : Option FieldType} {wsY : List Cond} {wr wc wc' : va_W} {As : List Value} {rv : Int}
    (hM : gMI l y wsY lam D tysC wc (.ref q :: As) rv wc') (cw : CallW R s args own C index y bytes maxL ret wsY (gR lam) 0 0 n) (hn : As.length = n) (hlv : lv.length = nL) (hst : st0 = As.reverse ++ .ref q :: st) (hcat : (st.map fun v => v.category).sum ≤ 8) (he : wc[0]? = some (q, .inr (ci, fs))) (hc : vwCl[ci]? = some (C, T, N))
    (hdg : decode cc pc = .ok (.invokevirtual index, 3)) (hcs : cells ≤ R.cells ∧ slots ≤ R.slots) (K : gJ p l e R s m args below meth c cells slots Q A0 D (wr ++ wc') lv (pc + 3) (.int (iI rv) :: st)) : gJ p l e R s m args below meth c cells slots Q A0 D (wr ++ wc) lv pc st0 := by
  obtain ⟨⟨hx, hb, hml, hown, hts⟩, hK, hA⟩ := E
  intro H locs ls hP hD hS hL
  subst hst
  have hKc := hK.sub is his
  have hPc := g_Pr hP
  have hDc := g_Dr hD
  have hFc := va_free (wc := wc) hD hS hA _ (g_isC wr wc)
  refine va_calli (va_runV (As := As) (rest := st) ⟨hx, hb, hml, hown, hts⟩ (hM H.size) cw ⟨fun a U g mk q => by obtain ⟨q0, q1, qP, qK, qD⟩ := q; exact ⟨q0, q1, qP, va_K.moved (u := U) (U := U.calling g mk a) (Vm.Alike.refl U.vm) qK, qD⟩, va_recv hK hPc hc he, fun U hU hW => ⟨rfl, by rw [hU], by rw [hU]; exact hPc, va_K.moved hW.alike hKc, hDc.weaken (fun _ _ _ _ => trivial)⟩⟩ rfl hn (hL.1.trans hlv) rfl (lv_room hcat) hdg hcs) hS (fun q _ h => hFc q h) hFc (fun r u t H1 locs1 ht hvm hw hB hz1 hk1 hS1 => ?_)
  obtain ⟨hP1, hK1, hD1⟩ := hB
  rw [ht] at hP1
  obtain ⟨hP2, hD2⟩ := va_join hP hD _ _ (g_isC wr wc) (g_isR wr wc) (g_nd _ List.nodup_range) (g_dis _ _) hk1 hFc hP1 hD1
  rw [hw]
  exact K H1 locs1 ls hP2 hD2 hS1 hL
/-- the callee throws, the caller catches -/
theorem g_callCW (E : gE p s m args c own cc nL Ts D tys A0) {tysC : List (ClassId × FieldType)} (is : List Nat) (his : is.filterMap (fun i => tys[i]?) = tysC) {C : String} {y : MethodName} {bytes : ByteArray} {maxL index lam n q ci N : Nat} {T : u_T} {fs : List Value} {ret : Option FieldType} {wsY : List Cond} {wr wc : va_W} {As : List Value} {EX : String} {hh : List (Nat × Nat × Nat × Nat)}
    (hM : gMT l y wsY lam D tysC wc (.ref q :: As) EX) (hT : gKT A0 s s.heap) (htab : c.exceptionTable.toList = tableOf hh) (pre : List ExceptionTableEntry) (x : ExceptionTableEntry) (suf : List ExceptionTableEntry) (hsplit : tableOf hh = pre ++ x :: suf)
    (hpass : ∀ z ∈ pre, z.catchType ≠ 0 ∧ ∃ nm : String, Cond.classLink own z.catchType nm ∈ Ts ∧ (EX, nm) ∈ gNcs) (hcov : covers x pc = true) (hct : x.catchType ≠ 0) (hlink : Cond.classLink own x.catchType EX ∈ Ts) (hEx : EX ∈ gEx)
    (cw : CallW R s args own C index y bytes maxL ret wsY (gRx lam) 1 6 n) (hn : As.length = n) (hlv : lv.length = nL) (hst : st0 = As.reverse ++ .ref q :: st) (hcat : (st.map fun v => v.category).sum ≤ 8) (he : wc[0]? = some (q, .inr (ci, fs))) (hc : vwCl[ci]? = some (C, T, N))
    (hdg : decode cc pc = .ok (.invokevirtual index, 3)) (hcs : 1 ≤ R.cells ∧ 6 ≤ R.slots) (K : ∀ a : Nat, gJ p l e R s m args below meth c 1 6 Q A0 D (wr ++ wc) lv x.handlerPc [.ref a]) : gJ p l e R s m args below meth c 0 0 Q A0 D (wr ++ wc) lv pc st0 := by
  obtain ⟨⟨hx, hb, hml, hown, hts⟩, hK, hA⟩ := E
  intro H locs ls hP hD hS hL
  subst hst
  have hKc := hK.sub is his
  have hPc := g_Pr hP
  have hDc := g_Dr hD
  have hFc := va_free (wc := wc) hD hS hA _ (g_isC wr wc)
  refine vx_callv (vx_runV (As := As) (rest := st) (cells := 0) (slots := 0) ⟨hx, hb, hml, hown, hts⟩ (hM H.size) cw ⟨fun a U g mk q => by obtain ⟨q0, ⟨q1, qP, qK, qD⟩, qT⟩ := q; exact ⟨q0, ⟨q1, qP, va_K.moved (u := U) (U := U.calling g mk a) (Vm.Alike.refl U.vm) qK, qD⟩, qT⟩, va_recv hK hPc hc he, fun U hU hW => ⟨rfl, ⟨by rw [hU], by rw [hU]; exact hPc, va_K.moved hW.alike hKc, hDc.weaken (fun _ _ _ _ => trivial)⟩, gKT.call hT hS hFc hU hW⟩⟩ rfl hn (hL.1.trans hlv) rfl (lv_room hcat) hdg (by simpa using hcs)) hS (fun q _ h => hFc q h) hFc (fun q _ h => hFc q h) (fun E9 ce q9 u t H1 locs1 ht hvm hp hB hz hk hS1 hce hcv hcl => ?_) (fun u t H1 locs1 ht hvm hw hB hz1 hk1 hS1 => hw.elim)
  obtain ⟨rfl, hP1, hK1, hD1⟩ := hB
  rw [ht] at hP1
  obtain ⟨hP2, hD2⟩ := va_join hP hD _ _ (g_isC wr wc) (g_isR wr wc) (g_nd _ List.nodup_range) (g_dis _ _) hk hFc hP1 hD1
  exact vx_catch hown pre x suf (htab.trans hsplit) (fun z hz9 => Or.inr ⟨(hpass z hz9).1, by obtain ⟨nm, h1, h2⟩ := (hpass z hz9).2; exact ⟨nm, hts _ h1, hT.2.2.2.2.1 _ h2⟩⟩) hcov hct (hts _ hlink) (va_Nw.use rfl (hT.2.2.2.1 _ hEx)) hce hcv hcl (K q9 H1 locs1 ls hP2 hD2 hS1 hL)
theorem g_i2l (E : gE p s m args c own cc nL Ts D tys A0) {x : Int32} (hdg : decode cc pc = .ok (.i2l, 1)) (K : gJ p l e R s m args below meth c cells slots Q A0 D ws lv (pc + 1) (.long x.toInt64 :: st)) : gJ p l e R s m args below meth c cells slots Q A0 D ws lv pc (.int x :: st) := by
  obtain ⟨⟨hx, hb, hml, hown, hts⟩, hK, hA⟩ := E
  intro H locs ls hP hD hS hL
  exact lv_i2l hx hb hdg rfl (K H locs ls hP hD hS hL)
theorem g_lconst (E : gE p s m args c own cc nL Ts D tys A0) {n : Fin 2} {v : Int64} (hdg : decode cc pc = .ok (.lconst n, 1)) (hv : Int64.ofNat n = v) (K : gJ p l e R s m args below meth c cells slots Q A0 D ws lv (pc + 1) (.long v :: st)) : gJ p l e R s m args below meth c cells slots Q A0 D ws lv pc st := by
  obtain ⟨⟨hx, hb, hml, hown, hts⟩, hK, hA⟩ := E
  intro H locs ls hP hD hS hL
  exact lv_lconst hx hb hdg hv (K H locs ls hP hD hS hL)
theorem g_last {cI cZ cL : ClassId} (E : gE p s m args c own cc nL Ts D (gTyL cI cZ cL) A0) (q0 : Nat) {o : Nat} {fL : Nat → Int64} {x : Int64} {ws' : va_W} (ho : ws[q0]? = some (gO cL o fL)) (hw : ws.set q0 (gO cL o (vp_updL fL 0 x)) = ws') (hdg : decode cc pc = .ok (.lastore, 1)) (K : gJ p l e R s m args below meth c cells slots Q A0 D ws' lv (pc + 1) st) : gJ p l e R s m args below meth c cells slots Q A0 D ws lv pc (.long x :: .int (iI 0) :: .ref o :: st) := by
  obtain ⟨⟨hx, hb, hml, hown, hts⟩, hK, hA⟩ := E
  intro H locs ls hP hD hS hL
  refine va_last (D := D) (cl := vwCl) hx hb hK hP hD hS q0 2 ho rfl (iI_in (a := 0) (n := 1) (by omega) (by omega) (by omega)) hdg (fun H1 locs1 hP1 hD1 hS1 => ?_)
  have e : (iI 0).toNatClampNeg = 0 := iI_cl (by omega) (by omega)
  rw [e] at hP1 hD1
  have hw' : ws.set q0 (o, .inl (cL, 1, .inr (.inl (vp_updL fL 0 x)))) = ws' := hw
  rw [hw'] at hP1 hD1
  exact K H1 locs1 ls hP1 hD1 hS1 hL
theorem g_lald {cI cZ cL : ClassId} (E : gE p s m args c own cc nL Ts D (gTyL cI cZ cL) A0) (q0 : Nat) {o : Nat} {fL : Nat → Int64} (ho : ws[q0]? = some (gO cL o fL)) (hdg : decode cc pc = .ok (.laload, 1)) (K : gJ p l e R s m args below meth c cells slots Q A0 D ws lv (pc + 1) (.long (fL 0) :: st)) : gJ p l e R s m args below meth c cells slots Q A0 D ws lv pc (.int (iI 0) :: .ref o :: st) := by
  obtain ⟨⟨hx, hb, hml, hown, hts⟩, hK, hA⟩ := E
  intro H locs ls hP hD hS hL
  have e : (iI 0).toNatClampNeg = 0 := iI_cl (by omega) (by omega)
  refine va_lald (D := D) (cl := vwCl) hx hb hK hP q0 2 ho rfl (iI_in (a := 0) (n := 1) (by omega) (by omega) (by omega)) hdg ?_
  rw [e]
  exact K H locs ls hP hD hS hL
end GLW
theorem g_ofW {l : Launch} {y : MethodName} {ws ws' : List Cond} {D : va_G} {tys : List (ClassId × FieldType)} {W0 W1 : va_W} {av : List Value} {rv : Int} {own : String} {cc : ByteArray} {maxL : Nat} {hh : List (Nat × Nat × Nat × Nat)}
    (hy : plainName y.cls = true) (hcls : y.cls = own) (hw : ws = Cond.codeWith y cc maxL (some .int) hh :: ws') (hlen : av.length ≤ maxL) (hcat : ∀ v ∈ av, v.category = 1)
    (body : ∀ (p : Program) (e : Env) (s : State) (m : MethodId) (args : Array Value) (below : List Frame) (meth : Method) (c : Code) (Q : State → Prop) (A0 : Nat → Prop), gE p s m args c own cc maxL ws D tys A0 → gKT A0 s s.heap → c.exceptionTable.toList = tableOf hh → (∀ (lv : List (Option Value)) (pc : Nat), decode cc pc = .ok (.ireturn, 1) → gJ p l e (gRx 8) s m args below meth c 1 6 Q A0 D W1 lv pc [.int (iI rv)]) →
      gJ p l e (gRx 8) s m args below meth c 0 0 Q A0 D W0 (av.map some ++ List.replicate (maxL - av.length) none) 0 []) : gMW l y ws D tys W0 av rv W1 := by
  intro sz
  refine va_MetW (cc := cc) (maxL := maxL) (ret := some .int) (hh := hh) hy hw ?_
  intro p e s m args below meth c s₁ B hml hv
  obtain ⟨rfl, ⟨hsz, hP, hK, hD0⟩, hT⟩ := hv
  have hts := atoms_spec (ws := ws) B.pre
  have htab := vx_table (x := y) B (hts (Cond.codeWith y cc maxL (some .int) hh) (by rw [hw]; exact List.mem_cons_self))
  have hown : s.vm.findClass own = some m.cls := by rw [← hcls]; exact findClass_of_methodNamed B.named
  subst hsz
  have hD := hD0.self (sz := s.heap.size)
  have hl := lv_entry av (n := maxL) (by rw [g_slen hcat]; exact hlen)
  rw [lg_entry_eq]
  refine body p e s m _ below meth c _ (va_A W0 s.heap.size) ⟨⟨B.exec, B.bytes, hml, hown, hts⟩, hK, fun q h => Or.inr h⟩ hT htab ?_ s.heap [] _ hP hD va_S.rf (gL_entry hlen hcat hl)
  intro lv pc hdg H locs ls hP9 hD9 hS9 hL9
  exact W.iret (v := iI rv) B.exec B.bytes B.returns (fun t ht hW => ⟨⟨iI rv, (), rfl, rfl, by rw [ht]; exact hP9, va_K.moved hW.alike hK, hD9⟩, hS9.F ht⟩) hS9.2.2 hdg
