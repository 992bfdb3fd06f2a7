/-! ===== the start ===== -/
theorem g_arr {t : FieldType} {args : Array Value} {s : State} (h : (Cond.arrayClass t).before args s = true) : ∃ cA : ClassId, ArrOfT s cA t ∧ s.vm.findClass ("[" ++ t.toString) = some cA := by
  obtain ⟨cA, kA, comp, h1, h2, h3⟩ := Cond.arrayClass_spec h
  exact ⟨cA, fun n z => ⟨fun k h => (by cases h), kA, h2, comp, h3⟩, h1⟩
theorem gS_str1 : ∀ x ∈ gStr, Cond.stringRef RX0 x.1 x.2 ∈ lw_tbl := by decide +kernel
theorem gS_str2 : ∀ x ∈ gStr, Cond.exactly (.string RX0 x.1) "java/lang/String" ∈ flatC (Jvm.Cond.and given_1 narrow_1) := by decide +kernel
theorem gS_ex : ∀ x ∈ gEx, Cond.castable x x ∈ lw_tbl := by decide +kernel
theorem gS_nc : ∀ x ∈ gNcs, Cond.not (.castable x.1 x.2) ∈ flatC (Jvm.Cond.and given_1 narrow_1) := by decide +kernel
theorem gS_de : ∀ x ∈ gDe, Cond.declares x ∈ lw_tbl := by decide +kernel
theorem gKT_start {args : Array Value} {s : State} (hts : ∀ w ∈ lw_tbl, w.before args s = true) (hgv : (Jvm.Cond.and given_1 narrow_1).before args s = true) : gKT (fun q => s.heap.size ≤ q) s s.heap := by
  have hq := flat_of_before _ hgv
  have hA : ∀ a : Nat, a < s.heap.size → ¬ (s.heap.size ≤ a) := fun a h => Nat.not_le.mpr h
  refine ⟨vx_Zqof (hts _ (by decide +kernel)) (hts _ (by decide +kernel)) (hq _ (by decide +kernel)) hA, vx_Zqof (hts _ (by decide +kernel)) (hts _ (by decide +kernel)) (hq _ (by decide +kernel)) hA, fun x hx => ?_, fun x hx => ?_, fun x hx => ?_, fun x hx => ?_⟩
  · obtain ⟨a, cA, lc, kA, ha, -⟩ := Cond.exactly_spec (hq _ (gS_str2 x hx))
    exact ⟨a, vk_R.of (hts _ (gS_str1 x hx)) ha⟩
  · exact va_Nw.of rfl (hts _ (gS_ex x hx))
  · exact va_Nc.of (hq _ (gS_nc x hx))
  · exact va_Nw.of rfl (hts _ (gS_de x hx))
theorem gRW_start {cI cZ : ClassId} {q qm : Nat} {r rm' : Nat → Nat} : gRW cI cZ q qm r rm' 0 (gX cI cZ q r [((1 : Nat) : Int), ((0 : Nat) : Int), 0, -1, 0] [fun _ => 0, fun _ => 0, fun _ => 0, fun _ => 0, gu (fun _ => 0) 0 (-1), fun _ => 0, fun _ => 0, fun _ => 0, fun _ => 0, fun _ => 0, fun _ => 0, fun _ => 0, fun _ => 0, fun _ => 0]) (gM cI cZ qm rm' [0, ((1 : Nat) : Int), ((0 : Nat) : Int), 0, -1, 0] [fun _ => 0, fun _ => 0, fun _ => 0, fun _ => 0, fun _ => 0, fun _ => 0, fun _ => 0, fun _ => 0, fun _ => 0, fun _ => 0, fun _ => 0, fun _ => 0, fun _ => 0]) := by
  have hB : gB (fun _ => 0) := fun j => by show -2147483648 ≤ (0 : Int) ∧ (0 : Int) < 2147483648; omega
  refine ⟨1, 0, fun _ => 0, fun _ => 0, fun _ => 0, fun _ => 0, fun _ => 0, fun _ => 0, fun _ => 0, fun _ => 0, gu (fun _ => 0) 0 (-1), fun _ => 0, fun _ => 0, (fun _ => 0, fun _ => 0, fun _ => 0, 0, -1, 0), (fun _ => 0, fun _ => 0, fun _ => 0, fun _ => 0, fun _ => 0, fun _ => 0, 0, -1, 0), 0, ?_, ?_, ?_, rfl, rfl⟩
  · exact ⟨by omega, by omega, fun j h1 h2 => absurd h2 (by omega), fun j => by show 0 ≤ (0 : Int) ∧ (0 : Int) ≤ 1000; omega, fun j h => absurd h (by omega), fun j h => absurd h (by omega), ⟨hB, hB, hB⟩, fun j h => absurd h (by omega), fun j h => absurd h (by omega), fun j => Or.inl rfl⟩
  · refine ⟨⟨hB, gu_B hB (by omega), hB, hB⟩, fun j hj => ?_, fun i hi => ?_, fun e he => absurd he (by omega)⟩
    · have : j = 0 := by omega
      subst this
      rfl
    · have : i = 0 := by omega
      subst this
      rfl
  · refine ⟨rfl, rfl, rfl, rfl, rfl, ⟨hB, hB, hB⟩, fun j h1 h2 => absurd h2 (by omega), ?_, ?_, ?_, fun j _ => rfl⟩
    · show 0 ≤ (0 : Int) ∧ (0 : Int) ≤ _; omega
    · show 0 ≤ (0 : Int) ∧ (0 : Int) ≤ _ ∧ 0 ≤ (0 : Int) ∧ (0 : Int) ≤ 330 * 0; omega
    · show -1 ≤ (-1 : Int) ∧ (-1 : Int) ≤ _; omega
section GST
variable {p : Program} {l : Launch} {e : Env} {R : Room} {s : State} {m : MethodId} {args : Array Value} {below : List Frame} {meth : Method} {c : Code} {cells slots : Nat} {Q : State → Prop} {A0 : Nat → Prop} {D : va_G}
variable {own : String} {cc : ByteArray} {nL : Nat} {Ts : List Cond} {tys : List (ClassId × FieldType)} {ws : va_W} {lv : List (Option Value)} {pc : Nat} {st st0 : List Value}
theorem g_newO (E : gE p s m args c own cc nL Ts D tys A0) {C : String} {T : u_T} {N ci index : Nat} (hin : ∀ w ∈ u_ws C T N, w ∈ Ts) (ty : Nat → FieldType) (hty : ∀ k, k < N → parseFieldDescriptor (T k).2.2.1 = some (ty k)) (h1 : Cond.classLink own index C ∈ Ts) (h2 : Cond.instantiable C N ∈ Ts) (h3 : Cond.initialized C ∈ Ts) (hc : vwCl[ci]? = some (C, T, N)) {fs : List Value} (hfs : ∀ j, j < N → defaultValue (ty j) = vp_V fs j) (hcs : cells + 1 ≤ R.cells ∧ slots + N ≤ R.slots) (hdg : decode cc pc = .ok (.new index, 3))
    (K : ∀ q : Nat, gJ p l e R s m args below meth c (cells + 1) (slots + N) Q A0 D (ws ++ [(q, .inr (ci, fs))]) lv (pc + 3) (.ref q :: st)) : gJ p l e R s m args below meth c cells slots Q A0 D ws lv pc st := by
  obtain ⟨⟨hx, hb, hml, hown, hts⟩, hK, hA⟩ := E
  intro H locs ls hP hD hS hL
  exact va_new hx hb hts hin ty hty hown (hts _ h1) (hts _ h2) (hts _ h3) hK hP hD hS hA hc hfs hcs.1 hcs.2 hdg (fun q H1 hP1 hD1 hS1 => K q H1 locs ls hP1 hD1 hS1 hL)
theorem g_newL {cI cZ cL : ClassId} (E : gE p s m args c own cc nL Ts D (gTyL cI cZ cL) A0) (harr : Cond.arrayClass .long ∈ Ts) (hdg : decode cc pc = .ok (.newarray .long, 2)) (hcs : cells + 1 ≤ R.cells ∧ slots + 1 ≤ R.slots)
    (K : ∀ a : Nat, gJ p l e R s m args below meth c (cells + 1) (slots + 1) Q A0 D (ws ++ [gO cL a (fun _ => 0)]) lv (pc + 2) (.ref a :: st)) : gJ p l e R s m args below meth c cells slots Q A0 D ws lv pc (.int (iI 1) :: st) := by
  obtain ⟨⟨hx, hb, hml, hown, hts⟩, hK, hA⟩ := E
  intro H locs ls hP hD hS hL
  have h0 : ¬ iI (1 : Int) < 0 := by rw [iI_0, iI_lt ⟨by omega, by omega⟩ ⟨by omega, by omega⟩]; omega
  refine va_newa (D := D) (cl := vwCl) (atype := .long) (a0 := (1, .inr (.inl (fun _ => 0)))) hx hb (hts _ harr) rfl hK hP hD hS hA (fun _ => rfl) h0 (N' := 1) (by rw [iI_cl (by omega) (by omega)]; rfl) (by decide) hcs.1 hcs.2 hdg (fun a cA H1 hK1 hP1 hD1 hS1 => ?_)
  have e1 : s.vm.findClass ("[" ++ FieldType.long.toString) = some cA := (hK1.2 3 _ rfl).2
  have e2 : s.vm.findClass ("[" ++ FieldType.long.toString) = some cL := (hK.2 2 _ rfl).2
  cases Option.some.inj (e1.symm.trans e2)
  exact K a H1 locs ls hP1 hD1 hS1 hL
theorem g_callK (E : gE p s m args c own cc nL Ts D tys A0) {tysC : List (ClassId × FieldType)} (is : List Nat) (his : is.filterMap (fun i => tys[i]?) = tysC) {y : MethodName} {bytes : ByteArray} {maxL index q ci : Nat} {rm : Room} {fs : List Value} {wsY : List Cond} {wr : va_W} {W1 : (Nat → Nat) → va_W}
    (hM : gMK l y wsY rm D tysC q ci fs W1) (cw : CallB R s args own index y bytes maxL none wsY rm rm.cells rm.slots 0 ∧ y.name = "<init>" ∧ (Cond.instanceMethod y).before args s = true) (hlv : lv.length = nL) (hcat : (st.map fun v => v.category).sum ≤ 8)
    (hdg : decode cc pc = .ok (.invokespecial index, 3)) (hcs : cells + rm.cells ≤ R.cells ∧ slots + rm.slots ≤ R.slots) (K : ∀ r : Nat → Nat, gJ p l e R s m args below meth c (cells + rm.cells) (slots + rm.slots) Q A0 D (wr ++ W1 r) lv (pc + 3) st) : gJ p l e R s m args below meth c cells slots Q A0 D (wr ++ [(q, .inr (ci, fs))]) lv pc (.ref q :: st) := by
  obtain ⟨⟨hx, hb, hml, hown, hts⟩, hK, hA⟩ := E
  intro H locs ls hP hD hS hL
  have hKc := hK.sub is his
  have hPc := g_Pr hP
  have hDc := g_Dr hD
  have hFc := va_free (wc := [(q, .inr (ci, fs))]) hD hS hA _ (g_isC wr [(q, .inr (ci, fs))])
  refine va_callv (va_runI (As := []) (rest := st) ⟨hx, hb, hml, hown, hts⟩ (hM H.size) cw ⟨fun a U g mk q => by obtain ⟨q0, q1, qP, qK, qD⟩ := q; exact ⟨q0, q1, qP, va_K.moved (u := U) (U := U.calling g mk a) (Vm.Alike.refl U.vm) qK, qD⟩, fun U hU hW => ⟨rfl, by rw [hU], by rw [hU]; exact hPc, va_K.moved hW.alike hKc, hDc.weaken (fun _ _ _ _ => trivial)⟩⟩ rfl rfl (hL.1.trans hlv) rfl (lv_room hcat) hdg hcs) hS (fun q _ h => hFc q h) hFc (fun r t H1 locs1 ht hvm hw hB hz1 hk1 hS1 => ?_)
  obtain ⟨hP1, hK1, hD1⟩ := hB
  rw [ht] at hP1
  obtain ⟨hP2, hD2⟩ := va_join hP hD _ _ (g_isC wr [(q, .inr (ci, fs))]) (g_isR wr [(q, .inr (ci, fs))]) (g_nd _ List.nodup_range) (g_dis _ _) hk1 hFc hP1 hD1
  exact K r H1 locs1 ls hP2 hD2 hS1 hL
theorem g_rot {a b : va_W} {g : Nat × va_E} (K : gJ p l e R s m args below meth c cells slots Q A0 D (b ++ (g :: a)) lv pc st) : gJ p l e R s m args below meth c cells slots Q A0 D ((a ++ b) ++ [g]) lv pc st := by
  rw [List.append_assoc]
  refine g_swap ?_
  rw [List.append_assoc]
  exact K
end GST
