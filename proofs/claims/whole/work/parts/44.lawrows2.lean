section GL2
variable {p : Program} {l : Launch} {e : Env} {R : Room} {s : State} {m : MethodId} {args : Array Value} {below : List Frame} {meth : Method} {c : Code} {cells slots : Nat} {Q : State → Prop} {A0 : Nat → Prop} {D : va_G}
variable {own : String} {cc : ByteArray} {nL : Nat} {Ts : List Cond} {tys : List (ClassId × FieldType)} {ws : va_W} {lv : List (Option Value)} {pc : Nat} {st st0 : List Value}
theorem g_callSW (E : gE p s m args c own cc nL Ts D tys A0) (hT : gKT A0 s s.heap) {y : MethodName} {bytes : ByteArray} {maxL index n : Nat} {ret : Option FieldType} {hh : List (Nat × Nat × Nat × Nat)} {wsY : List Cond} {wr wc wc' : va_W} {As : List Value} {rv : Int}
    (hM : gMW l y wsY D tys wc As rv wc') (cw : vx_CSW R s args own index y bytes maxL ret hh wsY (gRx 8) 1 6 n) (hn : As.length = n) (hlv : lv.length = nL) (hst : st0 = As.reverse ++ st) (hcat : (st.map fun v => v.category).sum ≤ 8)
    (hdg : decode cc pc = .ok (.invokestatic index, 3)) (hcs : cells + 1 ≤ R.cells ∧ slots + 6 ≤ R.slots) (K : gJ p l e R s m args below meth c (cells + 1) (slots + 6) Q A0 D (wr ++ wc') lv (pc + 3) (.int (iI rv) :: st)) : gJ p l e R s m args below meth c cells slots Q A0 D (wr ++ wc) lv pc st0 := by
  obtain ⟨⟨hx, hb, hml, hown, hts⟩, hK, hA⟩ := E
  intro H locs ls hP hD hS hL
  subst hst
  have hPc := g_Pr hP
  have hDc := g_Dr hD
  have hFc := va_free (wc := wc) hD hS hA _ (g_isC wr wc)
  refine va_calli (vx_runSW (As := As) (rest := st) ⟨hx, hb, hml, hown, hts⟩ (hM H.size) cw ⟨fun a U g mk q => by obtain ⟨q0, ⟨q1, qP, qK, qD⟩, qT⟩ := q; exact ⟨q0, ⟨q1, qP, va_K.moved (u := U) (U := U.calling g mk a) (Vm.Alike.refl U.vm) qK, qD⟩, qT⟩, fun U hU hW => ⟨rfl, ⟨by rw [hU], by rw [hU]; exact hPc, va_K.moved hW.alike hK, hDc.weaken (fun _ _ _ _ => trivial)⟩, gKT.call hT hS hFc hU hW⟩⟩ rfl hn (hL.1.trans hlv) rfl (lv_room hcat) hdg hcs) hS (fun q _ h => hFc q h) hFc (fun r u t H1 locs1 ht hvm hw hB hz1 hk1 hS1 => ?_)
  obtain ⟨hP1, hK1, hD1⟩ := hB
  rw [ht] at hP1
  obtain ⟨hP2, hD2⟩ := va_join hP hD _ _ (g_isC wr wc) (g_isR wr wc) (g_nd _ List.nodup_range) (g_dis _ _) hk1 hFc hP1 hD1
  rw [hw]
  exact K H1 locs1 ls hP2 hD2 hS1 hL
/-- the model's world lies first: a call of the model -/
theorem g_callM (E : gE p s m args c own cc nL Ts D tys A0) {tysC : List (ClassId × FieldType)} (is : List Nat) (his : is.filterMap (fun i => tys[i]?) = tysC) {C : String} {y : MethodName} {bytes : ByteArray} {maxL index lam n q ci N : Nat} {T : u_T} {fs : List Value} {ret : Option FieldType} {wsY : List Cond} {wr wc wc' : va_W} {As : List Value} {rv : Int}
    (hM : gMI l y wsY lam D tysC wc (.ref q :: As) rv wc') (cw : CallW R s args own C index y bytes maxL ret wsY (gR lam) 0 0 n) (hn : As.length = n) (hlv : lv.length = nL) (hst : st0 = As.reverse ++ .ref q :: st) (hcat : (st.map fun v => v.category).sum ≤ 8) (he : wc[0]? = some (q, .inr (ci, fs))) (hc : vwCl[ci]? = some (C, T, N))
    (hdg : decode cc pc = .ok (.invokevirtual index, 3)) (hcs : cells ≤ R.cells ∧ slots ≤ R.slots) (K : gJ p l e R s m args below meth c cells slots Q A0 D (wc' ++ wr) lv (pc + 3) (.int (iI rv) :: st)) : gJ p l e R s m args below meth c cells slots Q A0 D (wc ++ wr) lv pc st0 :=
  g_swap (g_callIW E is his hM cw hn hlv hst hcat he hc hdg hcs (g_swap K))
/-- .. the class's world lies last, behind the model's and the row of answers: a call of the class -/
theorem g_callX (E : gE p s m args c own cc nL Ts D tys A0) {tysC : List (ClassId × FieldType)} (is : List Nat) (his : is.filterMap (fun i => tys[i]?) = tysC) {C : String} {y : MethodName} {bytes : ByteArray} {maxL index lam n q ci N : Nat} {T : u_T} {fs : List Value} {ret : Option FieldType} {wsY : List Cond} {wr wc wc' : va_W} {o0 : Nat × va_E} {As : List Value} {rv : Int}
    (hM : gMI l y wsY lam D tysC wc (.ref q :: As) rv wc') (cw : CallW R s args own C index y bytes maxL ret wsY (gR lam) 0 0 n) (hn : As.length = n) (hlv : lv.length = nL) (hst : st0 = As.reverse ++ .ref q :: st) (hcat : (st.map fun v => v.category).sum ≤ 8) (he : wc[0]? = some (q, .inr (ci, fs))) (hc : vwCl[ci]? = some (C, T, N))
    (hdg : decode cc pc = .ok (.invokevirtual index, 3)) (hcs : cells ≤ R.cells ∧ slots ≤ R.slots) (K : gJ p l e R s m args below meth c cells slots Q A0 D (wr ++ (o0 :: wc')) lv (pc + 3) (.int (iI rv) :: st)) : gJ p l e R s m args below meth c cells slots Q A0 D (wr ++ (o0 :: wc)) lv pc st0 := by
  have e1 : ∀ w : va_W, wr ++ (o0 :: w) = (wr ++ [o0]) ++ w := fun w => by simp
  rw [e1] at K ⊢
  exact g_callIW E is his hM cw hn hlv hst hcat he hc hdg hcs K
theorem g_sld (E : gE p s m args c own cc nL Ts D tys A0) {b L : Nat} {xs : Nat → Int32} (hX : va_X b L xs s s.heap) (hbl : b < s.heap.size) (hbA : ¬ A0 b) {j : Nat} {x : Int} (hdg : decode cc pc = .ok (.iaload, 1)) (hx0 : x = (j : Int)) (hj : j < L ∧ L ≤ 2147483648) (K : gJ p l e R s m args below meth c cells slots Q A0 D ws lv (pc + 1) (.int (iI (xs j).toInt) :: st)) : gJ p l e R s m args below meth c cells slots Q A0 D ws lv pc (.int (iI x) :: .ref b :: st) := by
  subst hx0
  obtain ⟨⟨hx, hb, hml, hown, hts⟩, hK, hA⟩ := E
  intro H locs ls hP hD hS hL
  have hcl : (iI (j : Int)).toNatClampNeg = j := by rw [iI_cl (by omega) (by omega), Int.toNat_natCast]
  refine va_sld hx hb hX hbl hbA hS (iI_in (a := (j : Int)) (n := L) (by omega) (by omega) hj.2) hdg ?_
  rw [hcl, ← iI_of (xs j)]
  exact K H locs ls hP hD hS hL
theorem g_scl (E : gE p s m args c own cc nL Ts D tys A0) {b L : Nat} {xs : Nat → Int32} (hX : va_X b L xs s s.heap) (hbl : b < s.heap.size) (hbA : ¬ A0 b) (hdg : decode cc pc = .ok (.arraylength, 1)) (K : gJ p l e R s m args below meth c cells slots Q A0 D ws lv (pc + 1) (.int (iI (L : Int)) :: st)) : gJ p l e R s m args below meth c cells slots Q A0 D ws lv pc (.ref b :: st) := by
  obtain ⟨⟨hx, hb, hml, hown, hts⟩, hK, hA⟩ := E
  intro H locs ls hP hD hS hL
  refine va_slen hx hb hX hbl hbA hS hdg ?_
  rw [← iI_nat]
  exact K H locs ls hP hD hS hL
theorem lg_cmp_s (x : Int64) : lg_cmp x x = iI 0 := by
  simp [lg_cmp]
  rfl
theorem g_lcmp0 (E : gE p s m args c own cc nL Ts D tys A0) {x y : Int64} (h : x = y) (hdg : decode cc pc = .ok (.lcmp, 1)) (K : gJ p l e R s m args below meth c cells slots Q A0 D ws lv (pc + 1) (.int (iI 0) :: st)) : gJ p l e R s m args below meth c cells slots Q A0 D ws lv pc (.long y :: .long x :: st) := by
  obtain ⟨⟨hx, hb, hml, hown, hts⟩, hK, hA⟩ := E
  intro H locs ls hP hD hS hL
  subst h
  refine W.lcmp hx hb hdg ?_
  rw [lg_cmp_s]
  exact K H locs ls hP hD hS hL
end GL2
