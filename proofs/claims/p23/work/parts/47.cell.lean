/-! ===== the script: sixty zeros, read and never written ===== -/
section GCE
variable {Hb : Heap} {p : Program} {l : Launch} {e : Env} {R : Room} {s : State} {m : MethodId} {args : Array Value} {below : List Frame} {meth : Method} {c : Code} {cells slots : Nat} {Q : State → Prop} {A0 : Nat → Prop} {D : va_G}
variable {own : String} {cc : ByteArray} {nL : Nat} {Ts : List Cond} {tys : List (ClassId × FieldType)} {ws : va_W} {lv : List (Option Value)} {pc : Nat} {st st0 : List Value}
theorem g_sld (E : hE Hb p s m args c own cc nL Ts D tys A0) {b L : Nat} {xs : Nat → Int32} (hX : va_X b L xs s Hb) (hbl : b < Hb.size) (hbA : ¬ A0 b) {j : Nat} {x : Int} (hdg : decode cc pc = .ok (.iaload, 1)) (hx0 : x = (j : Int)) (hj : j < L ∧ L ≤ 2147483648) (K : hJ Hb p l e R s m args below meth c cells slots Q A0 D ws lv (pc + 1) (.int (iI (xs j).toInt) :: st)) : hJ Hb p l e R s m args below meth c cells slots Q A0 D ws lv pc (.int (iI x) :: .ref b :: st) := by
  subst hx0
  obtain ⟨⟨hx, hb, hml, hown, hts⟩, hK, hA⟩ := E
  intro H locs ls hP hD hS hL
  have hcl : (iI (j : Int)).toNatClampNeg = j := by rw [iI_cl (by omega) (by omega), Int.toNat_natCast]
  refine va_sld hx hb hX hbl hbA hS (iI_in (a := (j : Int)) (n := L) (by omega) (by omega) hj.2) hdg ?_
  rw [hcl, ← iI_of (xs j)]
  exact K H locs ls hP hD hS hL
theorem g_scl (E : hE Hb p s m args c own cc nL Ts D tys A0) {b L : Nat} {xs : Nat → Int32} (hX : va_X b L xs s Hb) (hbl : b < Hb.size) (hbA : ¬ A0 b) (hdg : decode cc pc = .ok (.arraylength, 1)) (K : hJ Hb p l e R s m args below meth c cells slots Q A0 D ws lv (pc + 1) (.int (iI (L : Int)) :: st)) : hJ Hb p l e R s m args below meth c cells slots Q A0 D ws lv pc (.ref b :: st) := by
  obtain ⟨⟨hx, hb, hml, hown, hts⟩, hK, hA⟩ := E
  intro H locs ls hP hD hS hL
  refine va_slen hx hb hX hbl hbA hS hdg ?_
  rw [← iI_nat]
  exact K H locs ls hP hD hS hL
end GCE
def zCell (l : Launch) (D : va_G) (tys : List (ClassId × FieldType)) (b n : Nat) : Prop :=
  ∀ sz : Nat, Met l yL_cell wsL_cell (gR 0) (va_Pc [.ref b, .int (iI (n : Int))] (fun U => gB0 D tys [] sz U ∧ b < sz ∧ va_X b 60 (fun _ => 0) U U.heap)) (va_Qi (fun (r : Int32) (_ : Unit) => r = iI 0) (fun _ t => gB1 D tys (va_A [] sz) [] t) (va_A [] sz)) 0 0 (va_A [] sz)
set_option maxHeartbeats 4000000 in
set_option maxRecDepth 100000 in
theorem zL_cell {l : Launch} {D : va_G} {tys : List (ClassId × FieldType)} {b n : Nat} (hn : n < 60) : zCell l D tys b n := by
  intro sz
  refine Met.ofW (cc := cL_cell) (maxL := 2) (ret := some .int) (by decide +kernel) rfl ?_
  intro p e s m args below meth c s₁ B hml hv
  obtain ⟨rfl, ⟨hsz, hP, hK, hD0⟩, hbs, hX⟩ := hv
  have hts := atoms_spec (ws := wsL_cell) B.pre
  have hown : s.vm.findClass RL = some m.cls := findClass_of_methodNamed (x := yL_cell) B.named
  subst hsz
  have hD := hD0.self (sz := s.heap.size)
  have hl := lv_entry ([.ref b, .int (iI (n : Int))]) (n := 2) (Nat.le_of_ble_eq_true rfl)
  rw [lg_entry_eq]
  have hbA : ¬ va_A [] s.heap.size b := fun h => by
    rcases h with ⟨k, e, h⟩ | h
    · simp at h
    · omega
  have E : gE p s m #[.ref b, .int (iI (n : Int))] c RL cL_cell 2 wsL_cell D tys (va_A [] s.heap.size) := ⟨⟨B.exec, B.bytes, hml, hown, hts⟩, hK, fun q h => Or.inr h⟩
  have main : gJ p l e (gR 0) s m #[.ref b, .int (iI (n : Int))] below meth c 0 0 (MQ below (va_Qi (fun (r : Int32) (_ : Unit) => r = iI 0) (fun _ t => gB1 D tys (va_A [] s.heap.size) [] t) (va_A [] s.heap.size)) #[.ref b, .int (iI (n : Int))] s 0 0 (va_A [] s.heap.size)) (va_A [] s.heap.size) D [] [some (.ref b), some (.int (iI (n : Int)))] 0 [] := by
    refine g_iload_n E dL_cell_0 rfl rfl ?_
    refine g_aload_n E dL_cell_1 rfl rfl ?_
    refine g_scl E hX hbs hbA dL_cell_2 ?_
    refine g_icmp_ge_f E dL_cell_3 (tgt := 12) (by decide) ⟨by omega, by omega⟩ (by omega) ?_
    refine g_aload_n E dL_cell_6 rfl rfl ?_
    refine g_iload_n E dL_cell_7 rfl rfl ?_
    refine g_sld E hX hbs hbA (j := n) dL_cell_8 rfl ⟨hn, by omega⟩ ?_
    refine g_goto E dL_cell_9 (tgt := 27) (by decide) ?_
    intro H locs ls hP9 hD9 hS9 hL9
    exact W.iret (v := iI 0) B.exec B.bytes B.returns (fun t ht hW => ⟨⟨iI 0, (), rfl, rfl, by rw [ht]; exact hP9, va_K.moved hW.alike hK, hD9⟩, hS9.F ht⟩) hS9.2.2 dL_cell_27
  exact main s.heap [] _ hP hD va_S.rf (gL_entry (l := [.ref b, .int (iI (n : Int))]) (n := 2) (Nat.le_of_ble_eq_true rfl) (g_cat1 rfl) hl)
section GCE2
variable {Hb : Heap} {p : Program} {l : Launch} {e : Env} {R : Room} {s : State} {m : MethodId} {args : Array Value} {below : List Frame} {meth : Method} {c : Code} {cells slots : Nat} {Q : State → Prop} {A0 : Nat → Prop} {D : va_G}
variable {own : String} {cc : ByteArray} {nL : Nat} {Ts : List Cond} {tys : List (ClassId × FieldType)} {ws : va_W} {lv : List (Option Value)} {pc : Nat} {st st0 : List Value}
theorem h_callCell (E : hE Hb p s m args c own cc nL Ts D tys A0) {k0 : Nat} (C : hC A0 s Hb k0) {b k index n : Nat} (hX : va_X b 60 (fun _ => 0) s s.heap) (hbl : b < s.heap.size) (hbA : ¬ A0 b)
    (hM : zCell l D tys b k) (cw : CallB R s args own index yL_cell cL_cell 2 (some .int) wsL_cell (gR 0) 0 0 n ∧ (Cond.static yL_cell).before args s = true) (hn : ([.ref b, .int (iI (k : Int))] : List Value).length = n) (hlv : lv.length = nL) (hst : st0 = ([.ref b, .int (iI (k : Int))] : List Value).reverse ++ st) (hcat : (st.map fun v => v.category).sum ≤ 8)
    (hdg : decode cc pc = .ok (.invokestatic index, 3)) (hcs : cells ≤ R.cells ∧ slots ≤ R.slots) (K : hJ Hb p l e R s m args below meth c cells slots Q A0 D ws lv (pc + 3) (.int (iI 0) :: st)) : hJ Hb p l e R s m args below meth c cells slots Q A0 D ws lv pc st0 := by
  obtain ⟨⟨hx, hb, hml, hown, hts⟩, hK, hA⟩ := E
  intro H locs ls hP hD hS hL
  subst hst
  have hP0 : va_P D vwCl [] H := fun k q h => by simp at h
  have hD0 : ∀ A : Nat → Prop, va_D A [] := fun A => ⟨fun i j p q h => by simp at h, fun k q h => by simp at h⟩
  have hFc : ∀ q, va_A [] H.size q → A0 q := fun q h => by
    rcases h with ⟨k, e, h⟩ | h
    · simp at h
    · exact hA q (Nat.le_trans hS.1 h)
  have hbH : b < Hb.size := Nat.lt_of_lt_of_le hbl C.1.1
  have hXH : va_X b 60 (fun _ => 0) s H := (hX.kept (C.1.2.1 b hbl hbA)).kept (hS.2.1 b hbH hbA)
  refine va_calli (va_runS (As := [.ref b, .int (iI (k : Int))]) (rest := st) ⟨hx, hb, hml, hown, hts⟩ (hM H.size) cw ⟨fun a U g mk q => by obtain ⟨q0, ⟨q1, qP, qK, qD⟩, qb, qX⟩ := q; exact ⟨q0, ⟨q1, qP, va_K.moved (u := U) (U := U.calling g mk a) (Vm.Alike.refl U.vm) qK, qD⟩, qb, va_X.moved (u := U) (U := U.calling g mk a) (Vm.Alike.refl U.vm) qX⟩, fun U hU hW => ⟨rfl, ⟨by rw [hU], by rw [hU]; exact hP0, va_K.moved hW.alike hK, hD0 _⟩, Nat.lt_of_lt_of_le hbH hS.1, by rw [hU]; exact va_X.moved hW.alike hXH⟩⟩ rfl hn (hL.1.trans hlv) rfl (lv_room hcat) hdg hcs) hS (fun q _ h => hFc q h) hFc (fun r u t H1 locs1 ht hvm hw hB hz1 hk1 hS1 => ?_)
  rw [hw]
  exact K H1 locs1 ls (hP.kept (fun k q hk => hk1 q.1 (hP k q hk).lt (fun h => by
    rcases h with ⟨k, e, h⟩ | h
    · simp at h
    · exact absurd (hP k q hk).lt (by omega)))) hD hS1 hL
end GCE2
