set_option maxRecDepth 100000 in
theorem flX0_bound_53 : Cond.fieldLink RX0 53 (TX0 0).1 (TX0 0).2.1 (TX0 0).2.2.1 ∈ wsX0_bound := by decide +kernel
set_option maxRecDepth 100000 in
theorem flX0_passOneStep_105 : Cond.fieldLink RX0 105 (TX0 18).1 (TX0 18).2.1 (TX0 18).2.2.1 ∈ wsX0_passOneStep := by decide +kernel
set_option maxRecDepth 100000 in
theorem flX0_passOneStep_13 : Cond.fieldLink RX0 13 (TX0 2).1 (TX0 2).2.1 (TX0 2).2.2.1 ∈ wsX0_passOneStep := by decide +kernel
set_option maxRecDepth 100000 in
theorem flX0_passOneStep_57 : Cond.fieldLink RX0 57 (TX0 17).1 (TX0 17).2.1 (TX0 17).2.2.1 ∈ wsX0_passOneStep := by decide +kernel
set_option maxRecDepth 100000 in
theorem flX0_passOneStep_99 : Cond.fieldLink RX0 99 (TX0 16).1 (TX0 16).2.1 (TX0 16).2.2.1 ∈ wsX0_passOneStep := by decide +kernel
set_option maxRecDepth 100000 in
theorem flX0_step_13 : Cond.fieldLink RX0 13 (TX0 2).1 (TX0 2).2.1 (TX0 2).2.2.1 ∈ wsX0_step := by decide +kernel
set_option maxRecDepth 100000 in
theorem hdX0_areAllReleased : yX0_areAllReleased.cls = RX0 ∧ yX0_areAllReleased.cls ≠ "java/lang/invoke/MethodHandle" ∧ yX0_areAllReleased.cls ≠ "java/lang/invoke/VarHandle" ∧ (parseMethodDescriptor yX0_areAllReleased.desc).map (fun d => d.parameters.length) = some 0 := by decide +kernel
set_option maxRecDepth 100000 in
theorem hdX0_boundAt : yX0_boundAt.cls = RX0 ∧ yX0_boundAt.cls ≠ "java/lang/invoke/MethodHandle" ∧ yX0_boundAt.cls ≠ "java/lang/invoke/VarHandle" ∧ (parseMethodDescriptor yX0_boundAt.desc).map (fun d => d.parameters.length) = some 1 := by decide +kernel
set_option maxRecDepth 100000 in
theorem hdX0_flowInward : yX0_flowInward.cls = RX0 ∧ yX0_flowInward.cls ≠ "java/lang/invoke/MethodHandle" ∧ yX0_flowInward.cls ≠ "java/lang/invoke/VarHandle" ∧ (parseMethodDescriptor yX0_flowInward.desc).map (fun d => d.parameters.length) = some 1 := by decide +kernel
set_option maxRecDepth 100000 in
theorem hdX0_grantAll : yX0_grantAll.cls = RX0 ∧ yX0_grantAll.cls ≠ "java/lang/invoke/MethodHandle" ∧ yX0_grantAll.cls ≠ "java/lang/invoke/VarHandle" ∧ (parseMethodDescriptor yX0_grantAll.desc).map (fun d => d.parameters.length) = some 0 := by decide +kernel
set_option maxRecDepth 100000 in
theorem hdX0_inside : yX0_inside.cls = RX0 ∧ yX0_inside.cls ≠ "java/lang/invoke/MethodHandle" ∧ yX0_inside.cls ≠ "java/lang/invoke/VarHandle" ∧ (parseMethodDescriptor yX0_inside.desc).map (fun d => d.parameters.length) = some 0 := by decide +kernel
set_option maxRecDepth 100000 in
theorem hdX0_isBetween : yX0_isBetween.cls = RX0 ∧ yX0_isBetween.cls ≠ "java/lang/invoke/MethodHandle" ∧ yX0_isBetween.cls ≠ "java/lang/invoke/VarHandle" ∧ (parseMethodDescriptor yX0_isBetween.desc).map (fun d => d.parameters.length) = some 3 := by decide +kernel
set_option maxRecDepth 100000 in
theorem hdX0_isDoor : yX0_isDoor.cls = RX0 ∧ yX0_isDoor.cls ≠ "java/lang/invoke/MethodHandle" ∧ yX0_isDoor.cls ≠ "java/lang/invoke/VarHandle" ∧ (parseMethodDescriptor yX0_isDoor.desc).map (fun d => d.parameters.length) = some 1 := by decide +kernel
set_option maxRecDepth 100000 in
theorem hdX0_moveGranted : yX0_moveGranted.cls = RX0 ∧ yX0_moveGranted.cls ≠ "java/lang/invoke/MethodHandle" ∧ yX0_moveGranted.cls ≠ "java/lang/invoke/VarHandle" ∧ (parseMethodDescriptor yX0_moveGranted.desc).map (fun d => d.parameters.length) = some 0 := by decide +kernel
set_option maxRecDepth 100000 in
theorem hdX0_passOneStep : yX0_passOneStep.cls = RX0 ∧ yX0_passOneStep.cls ≠ "java/lang/invoke/MethodHandle" ∧ yX0_passOneStep.cls ≠ "java/lang/invoke/VarHandle" ∧ (parseMethodDescriptor yX0_passOneStep.desc).map (fun d => d.parameters.length) = some 0 := by decide +kernel
set_option maxRecDepth 100000 in
theorem hdX0_peopleFrom : yX0_peopleFrom.cls = RX0 ∧ yX0_peopleFrom.cls ≠ "java/lang/invoke/MethodHandle" ∧ yX0_peopleFrom.cls ≠ "java/lang/invoke/VarHandle" ∧ (parseMethodDescriptor yX0_peopleFrom.desc).map (fun d => d.parameters.length) = some 1 := by decide +kernel
set_option maxRecDepth 100000 in
theorem hdX0_requireArgument : yX0_requireArgument.cls = RX0 ∧ yX0_requireArgument.cls ≠ "java/lang/invoke/MethodHandle" ∧ yX0_requireArgument.cls ≠ "java/lang/invoke/VarHandle" ∧ (parseMethodDescriptor yX0_requireArgument.desc).map (fun d => d.parameters.length) = some 1 := by decide +kernel
set_option maxRecDepth 100000 in
theorem hdX0_requireState : yX0_requireState.cls = RX0 ∧ yX0_requireState.cls ≠ "java/lang/invoke/MethodHandle" ∧ yX0_requireState.cls ≠ "java/lang/invoke/VarHandle" ∧ (parseMethodDescriptor yX0_requireState.desc).map (fun d => d.parameters.length) = some 1 := by decide +kernel
set_option maxRecDepth 100000 in
theorem hdX0_trapped : yX0_trapped.cls = RX0 ∧ yX0_trapped.cls ≠ "java/lang/invoke/MethodHandle" ∧ yX0_trapped.cls ≠ "java/lang/invoke/VarHandle" ∧ (parseMethodDescriptor yX0_trapped.desc).map (fun d => d.parameters.length) = some 0 := by decide +kernel
set_option maxRecDepth 100000 in
theorem inX0_bound : ∀ w ∈ u_ws RX0 TX0 19, w ∈ wsX0_bound := by decide +kernel
set_option maxRecDepth 100000 in
theorem inX0_passOneStep : ∀ w ∈ u_ws RX0 TX0 19, w ∈ wsX0_passOneStep := by decide +kernel
set_option maxRecDepth 100000 in
theorem inX0_step : ∀ w ∈ u_ws RX0 TX0 19, w ∈ wsX0_step := by decide +kernel
set_option maxRecDepth 100000 in
theorem mwX0_bound_max1 : Cond.methodLink RX0 121 Lib.Math.max.name ∈ wsX0_bound := by decide +kernel
set_option maxRecDepth 100000 in
theorem mwX0_bound_max2 : Cond.static Lib.Math.max.name ∈ wsX0_bound := by decide +kernel
set_option maxRecDepth 100000 in
theorem mwX0_bound_max3 : Cond.initialized "java/lang/Math" ∈ wsX0_bound := by decide +kernel
set_option maxRecDepth 100000 in
theorem mwX0_bound_max4 : Cond.code Lib.Math.max.name Lib.Math.max.code 2 (some .int) ∈ wsX0_bound := by decide +kernel
set_option maxHeartbeats 4000000 in
set_option maxRecDepth 100000 in
theorem cX_requirePlace {l : Launch} {D : va_G} {cI cZ : ClassId} {q : Nat} {r : Nat → Nat} {P Dn : Nat} {t la wa : Int} {f0 f1 f2 f3 f4 f5 f6 f7 f8 f9 f10 f11 f12 f13 : Nat → Int} {x : Int} (hx : 0 ≤ x ∧ x < P) (hn : P ≤ 16) : gMV l yX0_requirePlace wsX0_requirePlace 1 D (gTy cI cZ) (gX cI cZ q r [(P : Int), (Dn : Int), t, la, wa] [f0, f1, f2, f3, f4, f5, f6, f7, f8, f9, f10, f11, f12, f13]) [.ref q, .int (iI x)] (gX cI cZ q r [(P : Int), (Dn : Int), t, la, wa] [f0, f1, f2, f3, f4, f5, f6, f7, f8, f9, f10, f11, f12, f13]) := by
  refine g_ofV (by decide +kernel) rfl rfl (Nat.le_of_ble_eq_true rfl) (g_cat1 rfl) ?_
  intro p e s m args below meth c Q A0 E hret
  have hts := E.1.2.2.2.2
  show gJ p l e (gR 1) s m args below meth c 0 0 Q A0 D (gX cI cZ q r [(P : Int), (Dn : Int), t, la, wa] [f0, f1, f2, f3, f4, f5, f6, f7, f8, f9, f10, f11, f12, f13]) [some (.ref q), some (.int (iI x))] 0 []
  refine g_aload_n E dX0_requirePlace_0 rfl rfl ?_
  refine g_iload_n E dX0_requirePlace_1 rfl rfl ?_
  refine g_callI0 E (cX_isPlace (rv := 1) (by omega) (Or.inl ⟨rfl, by omega, by omega⟩)) (cwV 1 hts gX0_requirePlace_X0_isPlace rfl rfl rfl hdX0_isPlace ⟨(Nat.le_of_ble_eq_true rfl), (Nat.le_of_ble_eq_true rfl)⟩) rfl rfl rfl (Nat.le_of_ble_eq_true rfl) gW_0 rfl dX0_requirePlace_2 ⟨Nat.zero_le _, Nat.zero_le _⟩ ?_
  refine g_if_ne_t E dX0_requirePlace_5 (tgt := 18) (by decide) (by omega) (by omega) ?_
  exact hret _ _ dX0_requirePlace_18
set_option maxHeartbeats 4000000 in
set_option maxRecDepth 100000 in
theorem cX_requireDoor {l : Launch} {D : va_G} {cI cZ : ClassId} {q : Nat} {r : Nat → Nat} {P Dn : Nat} {t la wa : Int} {f0 f1 f2 f3 f4 f5 f6 f7 f8 f9 f10 f11 f12 f13 : Nat → Int} {x : Int} (hx : 0 ≤ x ∧ x < Dn) (hn : Dn ≤ 16) : gMV l yX0_requireDoor wsX0_requireDoor 1 D (gTy cI cZ) (gX cI cZ q r [(P : Int), (Dn : Int), t, la, wa] [f0, f1, f2, f3, f4, f5, f6, f7, f8, f9, f10, f11, f12, f13]) [.ref q, .int (iI x)] (gX cI cZ q r [(P : Int), (Dn : Int), t, la, wa] [f0, f1, f2, f3, f4, f5, f6, f7, f8, f9, f10, f11, f12, f13]) := by
  refine g_ofV (by decide +kernel) rfl rfl (Nat.le_of_ble_eq_true rfl) (g_cat1 rfl) ?_
  intro p e s m args below meth c Q A0 E hret
  have hts := E.1.2.2.2.2
  show gJ p l e (gR 1) s m args below meth c 0 0 Q A0 D (gX cI cZ q r [(P : Int), (Dn : Int), t, la, wa] [f0, f1, f2, f3, f4, f5, f6, f7, f8, f9, f10, f11, f12, f13]) [some (.ref q), some (.int (iI x))] 0 []
  refine g_aload_n E dX0_requireDoor_0 rfl rfl ?_
  refine g_iload_n E dX0_requireDoor_1 rfl rfl ?_
  refine g_callI0 E (cX_isDoor (rv := 1) (by omega) (Or.inl ⟨rfl, by omega, by omega⟩)) (cwV 1 hts gX0_requireDoor_X0_isDoor rfl rfl rfl hdX0_isDoor ⟨(Nat.le_of_ble_eq_true rfl), (Nat.le_of_ble_eq_true rfl)⟩) rfl rfl rfl (Nat.le_of_ble_eq_true rfl) gW_0 rfl dX0_requireDoor_2 ⟨Nat.zero_le _, Nat.zero_le _⟩ ?_
  refine g_if_ne_t E dX0_requireDoor_5 (tgt := 18) (by decide) (by omega) (by omega) ?_
  exact hret _ _ dX0_requireDoor_18
set_option maxHeartbeats 4000000 in
set_option maxRecDepth 100000 in
theorem cX_requireArgument {l : Launch} {D : va_G} {cI cZ : ClassId} {x : Int} (hx : x = 1) : gMV l yX0_requireArgument wsX0_requireArgument 0 D (gTy cI cZ) [] [.int (iI x)] [] := by
  refine g_ofV (by decide +kernel) rfl rfl (Nat.le_of_ble_eq_true rfl) (g_cat1 rfl) ?_
  intro p e s m args below meth c Q A0 E hret
  have hts := E.1.2.2.2.2
  show gJ p l e (gR 0) s m args below meth c 0 0 Q A0 D [] [some (.int (iI x))] 0 []
  subst hx
  refine g_iload_n E dX0_requireArgument_0 rfl rfl ?_
  refine g_if_ne_t E dX0_requireArgument_1 (tgt := 14) (by decide) (by omega) (by omega) ?_
  exact hret _ _ dX0_requireArgument_14
set_option maxHeartbeats 4000000 in
set_option maxRecDepth 100000 in
theorem cX_requireState {l : Launch} {D : va_G} {cI cZ : ClassId} {x : Int} (hx : x = 1) : gMV l yX0_requireState wsX0_requireState 0 D (gTy cI cZ) [] [.int (iI x)] [] := by
  refine g_ofV (by decide +kernel) rfl rfl (Nat.le_of_ble_eq_true rfl) (g_cat1 rfl) ?_
  intro p e s m args below meth c Q A0 E hret
  have hts := E.1.2.2.2.2
  show gJ p l e (gR 0) s m args below meth c 0 0 Q A0 D [] [some (.int (iI x))] 0 []
  subst hx
  refine g_iload_n E dX0_requireState_0 rfl rfl ?_
  refine g_if_ne_t E dX0_requireState_1 (tgt := 14) (by decide) (by omega) (by omega) ?_
  exact hret _ _ dX0_requireState_14
set_option maxHeartbeats 4000000 in
set_option maxRecDepth 100000 in
theorem cX_requireElement {l : Launch} {D : va_G} {cI cZ : ClassId} {x : Int} (hx : x = 1) : gMV l yX0_requireElement wsX0_requireElement 0 D (gTy cI cZ) [] [.int (iI x)] [] := by
  refine g_ofV (by decide +kernel) rfl rfl (Nat.le_of_ble_eq_true rfl) (g_cat1 rfl) ?_
  intro p e s m args below meth c Q A0 E hret
  have hts := E.1.2.2.2.2
  show gJ p l e (gR 0) s m args below meth c 0 0 Q A0 D [] [some (.int (iI x))] 0 []
  subst hx
  refine g_iload_n E dX0_requireElement_0 rfl rfl ?_
  refine g_if_ne_t E dX0_requireElement_1 (tgt := 14) (by decide) (by omega) (by omega) ?_
  exact hret _ _ dX0_requireElement_14
set_option maxHeartbeats 4000000 in
set_option maxRecDepth 100000 in
theorem cX_boundAt {l : Launch} {D : va_G} {cI cZ : ClassId} {q : Nat} {r : Nat → Nat} {P Dn : Nat} {t la wa : Int} {f0 f1 f2 f3 f4 f5 f6 f7 f8 f9 f10 f11 f12 f13 : Nat → Int} {d : Int} (hP : 1 ≤ P ∧ P ≤ 11) (hDn : Dn ≤ 16) (hd : 1 ≤ d ∧ d ≤ 11) (hs3 : ∀ j : Nat, -2147483648 ≤ f3 j ∧ f3 j < 2147483648) (hs9 : ∀ j : Nat, -2147483648 ≤ f9 j ∧ f9 j < 2147483648) (he5 : ∀ j : Nat, j < Dn → 0 ≤ f5 j ∧ f5 j < P) (he6 : ∀ j : Nat, j < Dn → 0 ≤ f6 j ∧ f6 j < P) (hcr : (0 ≤ (pCrowd f3 f1 d P) ∧ (pCrowd f3 f1 d P) ≤ 10000) ∧ 0 ≤ (pFlow f3 f5 f6 f9 f7 d Dn) ∧ (pFlow f3 f5 f6 f9 f7 d Dn) ≤ 1000) : gMI l yX0_boundAt wsX0_boundAt 1 D (gTy cI cZ) (gX cI cZ q r [(P : Int), (Dn : Int), t, la, wa] [f0, f1, f2, f3, f4, f5, f6, f7, f8, f9, f10, f11, f12, f13]) [.ref q, .int (iI d)] (pBd (pCrowd f3 f1 d P) (pFlow f3 f5 f6 f9 f7 d Dn) d) (gX cI cZ q r [(P : Int), (Dn : Int), t, la, wa] [f0, f1, f2, f3, f4, f5, f6, f7, f8, f9, f10, f11, f12, f13]) := by
  refine g_ofI (by decide +kernel) rfl rfl (Nat.le_of_ble_eq_true rfl) (g_cat1 rfl) rfl ?_
  intro p e s m args below meth c Q A0 E hret
  have hts := E.1.2.2.2.2
  show gJ p l e (gR 1) s m args below meth c 0 0 Q A0 D (gX cI cZ q r [(P : Int), (Dn : Int), t, la, wa] [f0, f1, f2, f3, f4, f5, f6, f7, f8, f9, f10, f11, f12, f13]) [some (.ref q), some (.int (iI d)), none, none] 0 []
  refine g_aload_n E dX0_boundAt_0 rfl rfl ?_
  refine g_iload_n E dX0_boundAt_1 rfl rfl ?_
  refine g_callI0 E (cX_peopleFrom hP (by omega) hs3) (cwV 1 hts gX0_boundAt_X0_peopleFrom rfl rfl rfl hdX0_peopleFrom ⟨(Nat.le_of_ble_eq_true rfl), (Nat.le_of_ble_eq_true rfl)⟩) rfl rfl rfl (Nat.le_of_ble_eq_true rfl) gW_0 rfl dX0_boundAt_2 ⟨Nat.zero_le _, Nat.zero_le _⟩ ?_
  refine g_istore_n E (lv' := [_, _, _, _]) dX0_boundAt_5 rfl (Nat.le_of_ble_eq_true rfl) rfl ?_
  refine g_aload_n E dX0_boundAt_6 rfl rfl ?_
  refine g_iload_n E dX0_boundAt_7 rfl rfl ?_
  refine g_callI0 E (cX_flowInward hP hDn (by omega) hs3 hs9 he5 he6) (cwV 1 hts gX0_boundAt_X0_flowInward rfl rfl rfl hdX0_flowInward ⟨(Nat.le_of_ble_eq_true rfl), (Nat.le_of_ble_eq_true rfl)⟩) rfl rfl rfl (Nat.le_of_ble_eq_true rfl) gW_0 rfl dX0_boundAt_8 ⟨Nat.zero_le _, Nat.zero_le _⟩ ?_
  refine g_istore_n E (lv' := [_, _, _, _]) dX0_boundAt_11 rfl (Nat.le_of_ble_eq_true rfl) rfl ?_
  refine g_iload_n E dX0_boundAt_12 rfl rfl ?_
  refine g_if_eq E dX0_boundAt_13 (tgt := 20) (by decide) (by omega) (fun h1 => ?_) (fun h1 => ?_)
  · refine g_iconst E dX0_boundAt_20 ?_
    exact g_ri (if_pos (Or.inl h1)).symm hret dX0_boundAt_21
  · refine g_iload_n E dX0_boundAt_16 rfl rfl ?_
    refine g_if_ne E dX0_boundAt_17 (tgt := 22) (by decide) (by omega) (fun h2 => ?_) (fun h2 => ?_)
    · refine g_iload_n E dX0_boundAt_22 rfl rfl ?_
      refine g_iconst E dX0_boundAt_23 ?_
      refine g_isub E dX0_boundAt_24 ?_
      refine g_iload_n E dX0_boundAt_25 rfl rfl ?_
      refine g_iload_n E dX0_boundAt_26 rfl rfl ?_
      refine g_iadd E dX0_boundAt_27 ?_
      refine g_iconst E dX0_boundAt_28 ?_
      refine g_isub E dX0_boundAt_29 ?_
      refine g_iload_n E dX0_boundAt_30 rfl rfl ?_
      refine g_idiv E dX0_boundAt_31 (by omega) ?_
      refine g_iadd E dX0_boundAt_32 ?_
      exact g_ri (by unfold pBd; exact (if_neg (by omega)).symm) hret dX0_boundAt_33
    · refine g_iconst E dX0_boundAt_20 ?_
      exact g_ri (if_pos (Or.inr h2)).symm hret dX0_boundAt_21
set_option maxHeartbeats 4000000 in
set_option maxRecDepth 100000 in
theorem cX_bound {l : Launch} {D : va_G} {cI cZ : ClassId} {q : Nat} {r : Nat → Nat} {P Dn : Nat} {t la wa : Int} {f0 f1 f2 f3 f4 f5 f6 f7 f8 f9 f10 f11 f12 f13 : Nat → Int} (hP : 1 ≤ P ∧ P ≤ 11) (hDn : Dn ≤ 16) (hs3 : ∀ j : Nat, -2147483648 ≤ f3 j ∧ f3 j < 2147483648) (hs9 : ∀ j : Nat, -2147483648 ≤ f9 j ∧ f9 j < 2147483648) (he5 : ∀ j : Nat, j < Dn → 0 ≤ f5 j ∧ f5 j < P) (he6 : ∀ j : Nat, j < Dn → 0 ≤ f6 j ∧ f6 j < P) (hcf : ∀ d : Nat, 1 ≤ d → d < P → (0 ≤ pCrowd f3 f1 (d : Int) P ∧ pCrowd f3 f1 (d : Int) P ≤ 10000) ∧ 0 ≤ pFlow f3 f5 f6 f9 f7 (d : Int) Dn ∧ pFlow f3 f5 f6 f9 f7 (d : Int) Dn ≤ 1000) (htr : pSum (fun j => if f3 j = -1 then f1 j else 0) P = 0) : gMI l yX0_bound wsX0_bound 6 D (gTy cI cZ) (gX cI cZ q r [(P : Int), (Dn : Int), t, la, wa] [f0, f1, f2, f3, f4, f5, f6, f7, f8, f9, f10, f11, f12, f13]) [.ref q] (pBound f3 f5 f6 f9 f7 f1 P Dn P) (gX cI cZ q r [(P : Int), (Dn : Int), t, la, wa] [f0, f1, f2, f3, f4, f5, f6, f7, f8, f9, f10, f11, f12, f13]) := by
  refine g_ofI (by decide +kernel) rfl rfl (Nat.le_of_ble_eq_true rfl) (g_cat1 rfl) rfl ?_
  intro p e s m args below meth c Q A0 E hret
  have hts := E.1.2.2.2.2
  show gJ p l e (gR 6) s m args below meth c 0 0 Q A0 D (gX cI cZ q r [(P : Int), (Dn : Int), t, la, wa] [f0, f1, f2, f3, f4, f5, f6, f7, f8, f9, f10, f11, f12, f13]) [some (.ref q), none, none] 0 []
  have hB := pBound_b hcf hP.2
  have key : ∀ k : Nat, k ≤ P → (1 ≤ k → gJ p l e (gR 6) s m args below meth c 0 0 Q A0 D (gX cI cZ q r [(P : Int), (Dn : Int), t, la, wa] [f0, f1, f2, f3, f4, f5, f6, f7, f8, f9, f10, f11, f12, f13]) [some (.ref q), some (.int (iI (pBound f3 f5 f6 f9 f7 f1 P Dn k))), some (.int (iI k))] 19 []) := by
    refine g_loop _ P ?_ ?_
    · intro _
      refine g_iload_n E dX0_bound_19 rfl rfl ?_
      refine g_aload_n E dX0_bound_20 rfl rfl ?_
      refine g_getI E inX0_bound rfl flX0_bound_53 dX0_bound_21 (by decide) rfl rfl ?_
      refine g_icmp_ge_t E dX0_bound_24 (tgt := 43) (by decide) (by omega) (by omega) ?_
      refine g_iload_n E dX0_bound_43 rfl rfl ?_
      exact g_ri rfl hret dX0_bound_44
    · intro k hk ih h1
      have b1 := hB k (by omega)
      have b2 := pBd_b (hcf k h1 hk).1 (hcf k h1 hk).2 (d := (k : Int)) (by omega)
      refine g_iload_n E dX0_bound_19 rfl rfl ?_
      refine g_aload_n E dX0_bound_20 rfl rfl ?_
      refine g_getI E inX0_bound rfl flX0_bound_53 dX0_bound_21 (by decide) rfl rfl ?_
      refine g_icmp_ge_f E dX0_bound_24 (tgt := 43) (by decide) (by omega) (by omega) ?_
      refine g_iload_n E dX0_bound_27 rfl rfl ?_
      refine g_aload_n E dX0_bound_28 rfl rfl ?_
      refine g_iload_n E dX0_bound_29 rfl rfl ?_
      refine g_callI0 E (cX_boundAt hP hDn (by omega) hs3 hs9 he5 he6 (hcf k h1 hk)) (cwV 1 hts gX0_bound_X0_boundAt rfl rfl rfl hdX0_boundAt ⟨(Nat.le_of_ble_eq_true rfl), (Nat.le_of_ble_eq_true rfl)⟩) rfl rfl rfl (Nat.le_of_ble_eq_true rfl) gW_0 rfl dX0_bound_30 ⟨Nat.zero_le _, Nat.zero_le _⟩ ?_
      refine g_mmax E mwX0_bound_max1 mwX0_bound_max2 mwX0_bound_max3 mwX0_bound_max4 dX0_bound_33 rfl ⟨(Nat.le_of_ble_eq_true rfl), (Nat.le_of_ble_eq_true rfl), Nat.zero_le _, Nat.zero_le _⟩ (by omega) rfl ?_
      refine g_istore_n E (lv' := [_, _, _]) dX0_bound_36 rfl (Nat.le_of_ble_eq_true rfl) rfl ?_
      refine g_iinc E (lv' := [_, _, _]) dX0_bound_37 rfl rfl ?_
      refine g_goto E dX0_bound_40 (tgt := 19) (by decide) ?_
      exact g_eq (ih (by omega)) rfl (by rw [pBound_s h1]; rfl) rfl
  refine g_aload_n E dX0_bound_0 rfl rfl ?_
  refine g_callI0 E (cX_trapped hP hs3) (cwV 0 hts gX0_bound_X0_trapped rfl rfl rfl hdX0_trapped ⟨(Nat.le_of_ble_eq_true rfl), (Nat.le_of_ble_eq_true rfl)⟩) rfl rfl rfl (Nat.le_of_ble_eq_true rfl) gW_0 rfl dX0_bound_1 ⟨Nat.zero_le _, Nat.zero_le _⟩ ?_
  refine g_if_ne_f E dX0_bound_4 (tgt := 11) (by decide) (by omega) (by omega) ?_
  refine g_iconst E dX0_bound_7 ?_
  refine g_goto E dX0_bound_8 (tgt := 12) (by decide) ?_
  refine g_callSV E (cX_requireState rfl) (va_cwS 1 hts gX0_bound_X0_requireState rfl rfl rfl hdX0_requireState.2 ⟨(Nat.le_of_ble_eq_true rfl), (Nat.le_of_ble_eq_true rfl)⟩) rfl rfl rfl (Nat.le_of_ble_eq_true rfl) dX0_bound_12 ⟨Nat.zero_le _, Nat.zero_le _⟩ ?_
  refine g_iconst E dX0_bound_15 ?_
  refine g_istore_n E (lv' := [_, _, _]) dX0_bound_16 rfl (Nat.le_of_ble_eq_true rfl) rfl ?_
  refine g_iconst E dX0_bound_17 ?_
  refine g_istore_n E (lv' := [_, _, _]) dX0_bound_18 rfl (Nat.le_of_ble_eq_true rfl) rfl ?_
  exact key 1 (by omega) (by omega)
set_option maxHeartbeats 4000000 in
set_option maxRecDepth 100000 in
theorem cX_passOneStep {l : Launch} {D : va_G} {cI cZ : ClassId} {q : Nat} {r : Nat → Nat} {P Dn : Nat} {t la wa : Int} {f0 f1 f2 f3 f4 f5 f6 f7 f8 f9 f10 f11 f12 f13 : Nat → Int} (hP : 1 ≤ P ∧ P ≤ 11) (hDn : Dn ≤ 16) (ht : -2147483648 ≤ t ∧ t < 2147483647) (hs2 : ∀ j : Nat, -2147483648 ≤ f2 j ∧ f2 j < 2147483648) (hs11 : ∀ j : Nat, -2147483648 ≤ f11 j ∧ f11 j < 2147483648) (hs12 : ∀ j : Nat, -2147483648 ≤ f12 j ∧ f12 j < 2147483648) (hpe : ∀ j : Nat, 1 ≤ j → j < P → 0 ≤ f1 j ∧ f1 j ≤ f0 j ∧ f0 j ≤ 30) (hp0 : 0 ≤ f1 0 ∧ f1 0 < 1073741824) (hfs : ∀ j : Nat, j < Dn → (1 ≤ f7 j ∧ f7 j ≤ 9) ∧ 1 ≤ f8 j ∧ f8 j ≤ 5) (hmv : -2147483648 ≤ (pMove (P : Int) f11 f12 (xG P Dn t f0 f1 f2 f7 f8 f11 f12 f13) f1 Dn) 0 ∧ (pMove (P : Int) f11 f12 (xG P Dn t f0 f1 f2 f7 f8 f11 f12 f13) f1 Dn) 0 < 2147483648) : gMI l yX0_passOneStep wsX0_passOneStep 5 D (gTy cI cZ) (gX cI cZ q r [(P : Int), (Dn : Int), t, la, wa] [f0, f1, f2, f3, f4, f5, f6, f7, f8, f9, f10, f11, f12, f13]) [.ref q] (pMoved (P : Int) f11 f12 (xG P Dn t f0 f1 f2 f7 f8 f11 f12 f13) Dn) (gX cI cZ q r [(P : Int), (Dn : Int), (t + 1), (if f1 0 < (pMove (P : Int) f11 f12 (xG P Dn t f0 f1 f2 f7 f8 f11 f12 f13) f1 Dn) 0 then t + 1 else la), (wa + pSum (pMove (P : Int) f11 f12 (xG P Dn t f0 f1 f2 f7 f8 f11 f12 f13) f1 Dn) P)] [f0, (pMove (P : Int) f11 f12 (xG P Dn t f0 f1 f2 f7 f8 f11 f12 f13) f1 Dn), f2, f3, f4, f5, f6, f7, f8, f9, (pPass (P : Int) f11 f12 (xG P Dn t f0 f1 f2 f7 f8 f11 f12 f13) f10 Dn), f11, f12, (xG P Dn t f0 f1 f2 f7 f8 f11 f12 f13)]) := by
  refine g_ofI (by decide +kernel) rfl rfl (Nat.le_of_ble_eq_true rfl) (g_cat1 rfl) rfl ?_
  intro p e s m args below meth c Q A0 E hret
  have hts := E.1.2.2.2.2
  show gJ p l e (gR 5) s m args below meth c 0 0 Q A0 D (gX cI cZ q r [(P : Int), (Dn : Int), t, la, wa] [f0, f1, f2, f3, f4, f5, f6, f7, f8, f9, f10, f11, f12, f13]) [some (.ref q), none, none] 0 []
  refine g_aload_n E dX0_passOneStep_0 rfl rfl ?_
  refine g_callV0 E (cX_grantAll hP hDn ht hs2 hs11 hs12 hpe hp0 hfs) (cwV 0 hts gX0_passOneStep_X0_grantAll rfl rfl rfl hdX0_grantAll ⟨(Nat.le_of_ble_eq_true rfl), (Nat.le_of_ble_eq_true rfl)⟩) rfl rfl rfl (Nat.le_of_ble_eq_true rfl) gW_0 rfl dX0_passOneStep_1 ⟨Nat.zero_le _, Nat.zero_le _⟩ ?_
  refine g_aload_n E dX0_passOneStep_4 rfl rfl ?_
  refine g_getR E inX0_passOneStep rfl flX0_passOneStep_13 dX0_passOneStep_5 (by decide) rfl ?_
  refine g_iconst E dX0_passOneStep_8 ?_
  refine g_ald E dX0_passOneStep_9 rfl rfl (i := 0) rfl (by omega) ?_
  refine g_istore_n E (lv' := [_, _, _]) dX0_passOneStep_10 rfl (Nat.le_of_ble_eq_true rfl) rfl ?_
  refine g_aload_n E dX0_passOneStep_11 rfl rfl ?_
  refine g_callI0 E (cX_moveGranted hP hDn hs11 hs12) (cwV 0 hts gX0_passOneStep_X0_moveGranted rfl rfl rfl hdX0_moveGranted ⟨(Nat.le_of_ble_eq_true rfl), (Nat.le_of_ble_eq_true rfl)⟩) rfl rfl rfl (Nat.le_of_ble_eq_true rfl) gW_0 rfl dX0_passOneStep_12 ⟨Nat.zero_le _, Nat.zero_le _⟩ ?_
  refine g_istore_n E (lv' := [_, _, _]) dX0_passOneStep_15 rfl (Nat.le_of_ble_eq_true rfl) rfl ?_
  refine g_aload_n E dX0_passOneStep_16 rfl rfl ?_
  refine g_dup E dX0_passOneStep_17 rfl ?_
  refine g_getI E inX0_passOneStep rfl flX0_passOneStep_99 dX0_passOneStep_18 (by decide) rfl rfl ?_
  refine g_iconst E dX0_passOneStep_21 ?_
  refine g_iadd E dX0_passOneStep_22 ?_
  refine g_putI E (F' := [_, _, _, _, _]) inX0_passOneStep rfl flX0_passOneStep_99 dX0_passOneStep_23 tyX0_ok nmX0 (by decide) rfl (by decide) rfl (by decide +kernel) (Nat.le_of_ble_eq_true rfl) rfl ?_
  refine g_aload_n E dX0_passOneStep_26 rfl rfl ?_
  refine g_getR E inX0_passOneStep rfl flX0_passOneStep_13 dX0_passOneStep_27 (by decide) rfl ?_
  refine g_iconst E dX0_passOneStep_30 ?_
  refine g_ald E dX0_passOneStep_31 rfl rfl (i := 0) rfl (by omega) ?_
  refine g_iload_n E dX0_passOneStep_32 rfl rfl ?_
  refine g_icmp_le E dX0_passOneStep_33 (tgt := 44) (by decide) ⟨hmv, by omega⟩ (fun h => ?_) (fun h => ?_)
  · rw [if_neg (show ¬ f1 0 < (pMove (P : Int) f11 f12 (xG P Dn t f0 f1 f2 f7 f8 f11 f12 f13) f1 Dn) 0 from fun h2 => absurd h (Int.not_le.mpr h2))] at hret
    refine g_aload_n E dX0_passOneStep_44 rfl rfl ?_
    refine g_dup E dX0_passOneStep_45 rfl ?_
    refine g_getI E inX0_passOneStep rfl flX0_passOneStep_105 dX0_passOneStep_46 (by decide) rfl rfl ?_
    refine g_aload_n E dX0_passOneStep_49 rfl rfl ?_
    refine g_callI0 E (cX_inside hP) (cwV 0 hts gX0_passOneStep_X0_inside rfl rfl rfl hdX0_inside ⟨(Nat.le_of_ble_eq_true rfl), (Nat.le_of_ble_eq_true rfl)⟩) rfl rfl rfl (Nat.le_of_ble_eq_true rfl) gW_0 rfl dX0_passOneStep_50 ⟨Nat.zero_le _, Nat.zero_le _⟩ ?_
    refine g_iadd E dX0_passOneStep_53 ?_
    refine g_putI E (F' := [_, _, _, _, _]) inX0_passOneStep rfl flX0_passOneStep_105 dX0_passOneStep_54 tyX0_ok nmX0 (by decide) rfl (by decide) rfl (by decide +kernel) (Nat.le_of_ble_eq_true rfl) rfl ?_
    refine g_iload_n E dX0_passOneStep_57 rfl rfl ?_
    exact g_ri rfl hret dX0_passOneStep_58
  · rw [if_pos (show f1 0 < (pMove (P : Int) f11 f12 (xG P Dn t f0 f1 f2 f7 f8 f11 f12 f13) f1 Dn) 0 from Int.not_le.mp h)] at hret
    refine g_aload_n E dX0_passOneStep_36 rfl rfl ?_
    refine g_aload_n E dX0_passOneStep_37 rfl rfl ?_
    refine g_getI E inX0_passOneStep rfl flX0_passOneStep_99 dX0_passOneStep_38 (by decide) rfl rfl ?_
    refine g_putI E (F' := [_, _, _, _, _]) inX0_passOneStep rfl flX0_passOneStep_57 dX0_passOneStep_41 tyX0_ok nmX0 (by decide) rfl (by decide) rfl (by decide +kernel) (Nat.le_of_ble_eq_true rfl) rfl ?_
    refine g_aload_n E dX0_passOneStep_44 rfl rfl ?_
    refine g_dup E dX0_passOneStep_45 rfl ?_
    refine g_getI E inX0_passOneStep rfl flX0_passOneStep_105 dX0_passOneStep_46 (by decide) rfl rfl ?_
    refine g_aload_n E dX0_passOneStep_49 rfl rfl ?_
    refine g_callI0 E (cX_inside hP) (cwV 0 hts gX0_passOneStep_X0_inside rfl rfl rfl hdX0_inside ⟨(Nat.le_of_ble_eq_true rfl), (Nat.le_of_ble_eq_true rfl)⟩) rfl rfl rfl (Nat.le_of_ble_eq_true rfl) gW_0 rfl dX0_passOneStep_50 ⟨Nat.zero_le _, Nat.zero_le _⟩ ?_
    refine g_iadd E dX0_passOneStep_53 ?_
    refine g_putI E (F' := [_, _, _, _, _]) inX0_passOneStep rfl flX0_passOneStep_105 dX0_passOneStep_54 tyX0_ok nmX0 (by decide) rfl (by decide) rfl (by decide +kernel) (Nat.le_of_ble_eq_true rfl) rfl ?_
    refine g_iload_n E dX0_passOneStep_57 rfl rfl ?_
    exact g_ri rfl hret dX0_passOneStep_58
set_option maxHeartbeats 4000000 in
set_option maxRecDepth 100000 in
theorem cX_step {l : Launch} {D : va_G} {cI cZ : ClassId} {q : Nat} {r : Nat → Nat} {P Dn : Nat} {t la wa : Int} {f0 f1 f2 f3 f4 f5 f6 f7 f8 f9 f10 f11 f12 f13 : Nat → Int} {n : Nat} (hn : 1 ≤ n ∧ n ≤ 50) (hP : 1 ≤ P ∧ P ≤ 11) (hDn : Dn ≤ 16) (hs2 : ∀ j : Nat, -2147483648 ≤ f2 j ∧ f2 j < 2147483648) (hs11 : ∀ j : Nat, -2147483648 ≤ f11 j ∧ f11 j < 2147483648) (hs12 : ∀ j : Nat, -2147483648 ≤ f12 j ∧ f12 j < 2147483648) (hfs : ∀ j : Nat, j < Dn → (1 ≤ f7 j ∧ f7 j ≤ 9) ∧ 1 ≤ f8 j ∧ f8 j ≤ 5) (hok : ∀ k, k < n → xOk P Dn f0 f2 f7 f8 f11 f12 (xIt P Dn f0 f2 f7 f8 f11 f12 (f1, f10, f13, t, la, wa) k)) : gMI l yX0_step wsX0_step 6 D (gTy cI cZ) (gX cI cZ q r [(P : Int), (Dn : Int), t, la, wa] [f0, f1, f2, f3, f4, f5, f6, f7, f8, f9, f10, f11, f12, f13]) [.ref q, .int (iI (n : Int))] ((xIt P Dn f0 f2 f7 f8 f11 f12 (f1, f10, f13, t, la, wa) n).1 0 - f1 0) (gX cI cZ q r [(P : Int), (Dn : Int), (xIt P Dn f0 f2 f7 f8 f11 f12 (f1, f10, f13, t, la, wa) n).2.2.2.1, (xIt P Dn f0 f2 f7 f8 f11 f12 (f1, f10, f13, t, la, wa) n).2.2.2.2.1, (xIt P Dn f0 f2 f7 f8 f11 f12 (f1, f10, f13, t, la, wa) n).2.2.2.2.2] [f0, (xIt P Dn f0 f2 f7 f8 f11 f12 (f1, f10, f13, t, la, wa) n).1, f2, f3, f4, f5, f6, f7, f8, f9, (xIt P Dn f0 f2 f7 f8 f11 f12 (f1, f10, f13, t, la, wa) n).2.1, f11, f12, (xIt P Dn f0 f2 f7 f8 f11 f12 (f1, f10, f13, t, la, wa) n).2.2.1]) := by
  refine g_ofI (by decide +kernel) rfl rfl (Nat.le_of_ble_eq_true rfl) (g_cat1 rfl) rfl ?_
  intro p e s m args below meth c Q A0 E hret
  have hts := E.1.2.2.2.2
  show gJ p l e (gR 6) s m args below meth c 0 0 Q A0 D (gX cI cZ q r [(P : Int), (Dn : Int), t, la, wa] [f0, f1, f2, f3, f4, f5, f6, f7, f8, f9, f10, f11, f12, f13]) [some (.ref q), some (.int (iI (n : Int))), none, none] 0 []
  have key : ∀ k : Nat, k ≤ n → gJ p l e (gR 6) s m args below meth c 0 0 Q A0 D (gX cI cZ q r [(P : Int), (Dn : Int), (xIt P Dn f0 f2 f7 f8 f11 f12 (f1, f10, f13, t, la, wa) k).2.2.2.1, (xIt P Dn f0 f2 f7 f8 f11 f12 (f1, f10, f13, t, la, wa) k).2.2.2.2.1, (xIt P Dn f0 f2 f7 f8 f11 f12 (f1, f10, f13, t, la, wa) k).2.2.2.2.2] [f0, (xIt P Dn f0 f2 f7 f8 f11 f12 (f1, f10, f13, t, la, wa) k).1, f2, f3, f4, f5, f6, f7, f8, f9, (xIt P Dn f0 f2 f7 f8 f11 f12 (f1, f10, f13, t, la, wa) k).2.1, f11, f12, (xIt P Dn f0 f2 f7 f8 f11 f12 (f1, f10, f13, t, la, wa) k).2.2.1]) [some (.ref q), some (.int (iI (n : Int))), some (.int (iI (f1 0))), some (.int (iI k))] 19 [] := by
    refine g_loop _ n ?_ ?_
    · refine g_iload_n E dX0_step_19 rfl rfl ?_
      refine g_iload_n E dX0_step_20 rfl rfl ?_
      refine g_icmp_ge_t E dX0_step_21 (tgt := 35) (by decide) (by omega) (by omega) ?_
      refine g_aload_n E dX0_step_35 rfl rfl ?_
      refine g_getR E inX0_step rfl flX0_step_13 dX0_step_36 (by decide) rfl ?_
      refine g_iconst E dX0_step_39 ?_
      refine g_ald E dX0_step_40 rfl rfl (i := 0) rfl (by omega) ?_
      refine g_iload_n E dX0_step_41 rfl rfl ?_
      refine g_isub E dX0_step_42 ?_
      exact g_ri rfl hret dX0_step_43
    · intro k hk ih
      obtain ⟨k1, k2, k3, k4, k5, k6⟩ := hok k hk
      refine g_iload_n E dX0_step_19 rfl rfl ?_
      refine g_iload_n E dX0_step_20 rfl rfl ?_
      refine g_icmp_ge_f E dX0_step_21 (tgt := 35) (by decide) (by omega) (by omega) ?_
      refine g_aload_n E dX0_step_24 rfl rfl ?_
      refine g_callI0 E (cX_passOneStep hP hDn k1 hs2 hs11 hs12 k2 k3 hfs k4) (cwV 0 hts gX0_step_X0_passOneStep rfl rfl rfl hdX0_passOneStep ⟨(Nat.le_of_ble_eq_true rfl), (Nat.le_of_ble_eq_true rfl)⟩) rfl rfl rfl (Nat.le_of_ble_eq_true rfl) gW_0 rfl dX0_step_25 ⟨Nat.zero_le _, Nat.zero_le _⟩ ?_
      refine g_pop E dX0_step_28 rfl ?_
      refine g_iinc E (lv' := [_, _, _, _]) dX0_step_29 rfl rfl ?_
      refine g_goto E dX0_step_32 (tgt := 19) (by decide) ?_
      exact ih
  refine g_iload_n E dX0_step_0 rfl rfl ?_
  refine g_iconst E dX0_step_1 ?_
  refine g_bipush E dX0_step_2 (by decide) ?_
  refine g_callSI E (cX_isBetween (rv := 1) (by omega) (Or.inl ⟨rfl, by omega, by omega⟩)) (va_cwS 3 hts gX0_step_X0_isBetween rfl rfl rfl hdX0_isBetween.2 ⟨(Nat.le_of_ble_eq_true rfl), (Nat.le_of_ble_eq_true rfl)⟩) rfl rfl rfl (Nat.le_of_ble_eq_true rfl) dX0_step_4 ⟨Nat.zero_le _, Nat.zero_le _⟩ ?_
  refine g_callSV E (cX_requireArgument rfl) (va_cwS 1 hts gX0_step_X0_requireArgument rfl rfl rfl hdX0_requireArgument.2 ⟨(Nat.le_of_ble_eq_true rfl), (Nat.le_of_ble_eq_true rfl)⟩) rfl rfl rfl (Nat.le_of_ble_eq_true rfl) dX0_step_7 ⟨Nat.zero_le _, Nat.zero_le _⟩ ?_
  refine g_aload_n E dX0_step_10 rfl rfl ?_
  refine g_getR E inX0_step rfl flX0_step_13 dX0_step_11 (by decide) rfl ?_
  refine g_iconst E dX0_step_14 ?_
  refine g_ald E dX0_step_15 rfl rfl (i := 0) rfl (by omega) ?_
  refine g_istore_n E (lv' := [_, _, _, _]) dX0_step_16 rfl (Nat.le_of_ble_eq_true rfl) rfl ?_
  refine g_iconst E dX0_step_17 ?_
  refine g_istore_n E (lv' := [_, _, _, _]) dX0_step_18 rfl (Nat.le_of_ble_eq_true rfl) rfl ?_
  exact key 0 (by omega)
set_option maxHeartbeats 4000000 in
set_option maxRecDepth 100000 in
theorem cX_clear {l : Launch} {D : va_G} {cI cZ : ClassId} {q : Nat} {r : Nat → Nat} {P Dn : Nat} {t la wa : Int} {f0 f1 f2 f3 f4 f5 f6 f7 f8 f9 f10 f11 f12 f13 : Nat → Int} {n : Nat} (hP : 1 ≤ P ∧ P ≤ 11) (hDn : Dn ≤ 16) (hs2 : ∀ j : Nat, -2147483648 ≤ f2 j ∧ f2 j < 2147483648) (hs11 : ∀ j : Nat, -2147483648 ≤ f11 j ∧ f11 j < 2147483648) (hs12 : ∀ j : Nat, -2147483648 ≤ f12 j ∧ f12 j < 2147483648) (hfs : ∀ j : Nat, j < Dn → (1 ≤ f7 j ∧ f7 j ≤ 9) ∧ 1 ≤ f8 j ∧ f8 j ≤ 5) (hok : ∀ k, k ≤ n → xOk P Dn f0 f2 f7 f8 f11 f12 (xIt P Dn f0 f2 f7 f8 f11 f12 (f1, f10, f13, t, la, wa) k)) (hn : n ≤ 300) (hins : ∀ k, k < n → 0 < pSum (xIt P Dn f0 f2 f7 f8 f11 f12 (f1, f10, f13, t, la, wa) k).1 P) (hgo : ∀ k, k + 1 < n → ¬ ((xMv P Dn f0 f2 f7 f8 f11 f12 (xIt P Dn f0 f2 f7 f8 f11 f12 (f1, f10, f13, t, la, wa) k)) = 0 ∧ (∀ j : Nat, j < P → f2 j ≤ (xIt P Dn f0 f2 f7 f8 f11 f12 (f1, f10, f13, t, la, wa) k).2.2.2.1))) (hstop : n = 300 ∨ pSum (xIt P Dn f0 f2 f7 f8 f11 f12 (f1, f10, f13, t, la, wa) n).1 P ≤ 0 ∨ ∃ k, n = k + 1 ∧ (xMv P Dn f0 f2 f7 f8 f11 f12 (xIt P Dn f0 f2 f7 f8 f11 f12 (f1, f10, f13, t, la, wa) k)) = 0 ∧ (∀ j : Nat, j < P → f2 j ≤ (xIt P Dn f0 f2 f7 f8 f11 f12 (f1, f10, f13, t, la, wa) k).2.2.2.1)) : gMI l yX0_clear wsX0_clear 6 D (gTy cI cZ) (gX cI cZ q r [(P : Int), (Dn : Int), t, la, wa] [f0, f1, f2, f3, f4, f5, f6, f7, f8, f9, f10, f11, f12, f13]) [.ref q] (n : Int) (gX cI cZ q r [(P : Int), (Dn : Int), (xIt P Dn f0 f2 f7 f8 f11 f12 (f1, f10, f13, t, la, wa) n).2.2.2.1, (xIt P Dn f0 f2 f7 f8 f11 f12 (f1, f10, f13, t, la, wa) n).2.2.2.2.1, (xIt P Dn f0 f2 f7 f8 f11 f12 (f1, f10, f13, t, la, wa) n).2.2.2.2.2] [f0, (xIt P Dn f0 f2 f7 f8 f11 f12 (f1, f10, f13, t, la, wa) n).1, f2, f3, f4, f5, f6, f7, f8, f9, (xIt P Dn f0 f2 f7 f8 f11 f12 (f1, f10, f13, t, la, wa) n).2.1, f11, f12, (xIt P Dn f0 f2 f7 f8 f11 f12 (f1, f10, f13, t, la, wa) n).2.2.1]) := by
  refine g_ofI (by decide +kernel) rfl rfl (Nat.le_of_ble_eq_true rfl) (g_cat1 rfl) rfl ?_
  intro p e s m args below meth c Q A0 E hret
  have hts := E.1.2.2.2.2
  show gJ p l e (gR 6) s m args below meth c 0 0 Q A0 D (gX cI cZ q r [(P : Int), (Dn : Int), t, la, wa] [f0, f1, f2, f3, f4, f5, f6, f7, f8, f9, f10, f11, f12, f13]) [some (.ref q), none, none, none, none] 0 []
  have key : ∀ k : Nat, k ≤ n → ∀ (h : Int) (a b : Option Value), (h = 0 ∨ h = 1) → (k < n → h = 0) → (k = n → h = 1 ∨ n = 300 ∨ pSum (xIt P Dn f0 f2 f7 f8 f11 f12 (f1, f10, f13, t, la, wa) n).1 P ≤ 0) → gJ p l e (gR 6) s m args below meth c 0 0 Q A0 D (gX cI cZ q r [(P : Int), (Dn : Int), (xIt P Dn f0 f2 f7 f8 f11 f12 (f1, f10, f13, t, la, wa) k).2.2.2.1, (xIt P Dn f0 f2 f7 f8 f11 f12 (f1, f10, f13, t, la, wa) k).2.2.2.2.1, (xIt P Dn f0 f2 f7 f8 f11 f12 (f1, f10, f13, t, la, wa) k).2.2.2.2.2] [f0, (xIt P Dn f0 f2 f7 f8 f11 f12 (f1, f10, f13, t, la, wa) k).1, f2, f3, f4, f5, f6, f7, f8, f9, (xIt P Dn f0 f2 f7 f8 f11 f12 (f1, f10, f13, t, la, wa) k).2.1, f11, f12, (xIt P Dn f0 f2 f7 f8 f11 f12 (f1, f10, f13, t, la, wa) k).2.2.1]) [some (.ref q), some (.int (iI k)), some (.int (iI h)), a, b] 4 [] := by
    refine g_loop _ n ?_ ?_
    · intro h a b h0 h1 h2
      obtain ⟨k1, k2, k3, k4, k5, k6⟩ := hok n (Nat.le_refl _)
      refine g_iload_n E dX0_clear_4 rfl rfl ?_
      refine g_sipush E dX0_clear_5 (by decide) ?_
      refine g_icmp_ge E dX0_clear_8 (tgt := 54) (by decide) (by omega) (fun c1 => ?_) (fun c1 => ?_)
      · refine g_iload_n E dX0_clear_54 rfl rfl ?_
        exact g_ri rfl hret dX0_clear_55
      · refine g_iload_n E dX0_clear_11 rfl rfl ?_
        refine g_if_ne E dX0_clear_12 (tgt := 54) (by decide) (by omega) (fun c2 => ?_) (fun c2 => ?_)
        · refine g_iload_n E dX0_clear_54 rfl rfl ?_
          exact g_ri rfl hret dX0_clear_55
        · have c3 : pSum (xIt P Dn f0 f2 f7 f8 f11 f12 (f1, f10, f13, t, la, wa) n).1 P ≤ 0 := by
            rcases h2 rfl with e | e | e
            · omega
            · omega
            · exact e
          refine g_aload_n E dX0_clear_15 rfl rfl ?_
          refine g_callI0 E (cX_inside hP) (cwV 0 hts gX0_clear_X0_inside rfl rfl rfl hdX0_inside ⟨(Nat.le_of_ble_eq_true rfl), (Nat.le_of_ble_eq_true rfl)⟩) rfl rfl rfl (Nat.le_of_ble_eq_true rfl) gW_0 rfl dX0_clear_16 ⟨Nat.zero_le _, Nat.zero_le _⟩ ?_
          refine g_if_le_t E dX0_clear_19 (tgt := 54) (by decide) k6 c3 ?_
          refine g_iload_n E dX0_clear_54 rfl rfl ?_
          exact g_ri rfl hret dX0_clear_55
    · intro k hk ih h a b h0 h1 h2
      obtain ⟨k1, k2, k3, k4, k5, k6⟩ := hok k (by omega)
      have hh : h = 0 := h1 hk
      have hi := hins k hk
      by_cases hall : (∀ j : Nat, j < P → f2 j ≤ (xIt P Dn f0 f2 f7 f8 f11 f12 (f1, f10, f13, t, la, wa) k).2.2.2.1)
      · refine g_iload_n E dX0_clear_4 rfl rfl ?_
        refine g_sipush E dX0_clear_5 (by decide) ?_
        refine g_icmp_ge_f E dX0_clear_8 (tgt := 54) (by decide) (by omega) (by omega) ?_
        refine g_iload_n E dX0_clear_11 rfl rfl ?_
        refine g_if_ne_f E dX0_clear_12 (tgt := 54) (by decide) (by omega) (by omega) ?_
        refine g_aload_n E dX0_clear_15 rfl rfl ?_
        refine g_callI0 E (cX_inside hP) (cwV 0 hts gX0_clear_X0_inside rfl rfl rfl hdX0_inside ⟨(Nat.le_of_ble_eq_true rfl), (Nat.le_of_ble_eq_true rfl)⟩) rfl rfl rfl (Nat.le_of_ble_eq_true rfl) gW_0 rfl dX0_clear_16 ⟨Nat.zero_le _, Nat.zero_le _⟩ ?_
        refine g_if_le_f E dX0_clear_19 (tgt := 54) (by decide) k6 (by omega) ?_
        refine g_aload_n E dX0_clear_22 rfl rfl ?_
        refine g_callI0 E (cX_areAllReleased (rv := 1) hP (by omega) hs2 (Or.inl ⟨rfl, hall⟩)) (cwV 0 hts gX0_clear_X0_areAllReleased rfl rfl rfl hdX0_areAllReleased ⟨(Nat.le_of_ble_eq_true rfl), (Nat.le_of_ble_eq_true rfl)⟩) rfl rfl rfl (Nat.le_of_ble_eq_true rfl) gW_0 rfl dX0_clear_23 ⟨Nat.zero_le _, Nat.zero_le _⟩ ?_
        refine g_istore_n E (lv' := [_, _, _, _, _]) dX0_clear_26 rfl (Nat.le_of_ble_eq_true rfl) rfl ?_
        refine g_aload_n E dX0_clear_27 rfl rfl ?_
        refine g_callI0 E (cX_passOneStep hP hDn k1 hs2 hs11 hs12 k2 k3 hfs k4) (cwV 0 hts gX0_clear_X0_passOneStep rfl rfl rfl hdX0_passOneStep ⟨(Nat.le_of_ble_eq_true rfl), (Nat.le_of_ble_eq_true rfl)⟩) rfl rfl rfl (Nat.le_of_ble_eq_true rfl) gW_0 rfl dX0_clear_28 ⟨Nat.zero_le _, Nat.zero_le _⟩ ?_
        refine g_istore E (lv' := [_, _, _, _, _]) dX0_clear_31 (Nat.le_of_ble_eq_true rfl) rfl ?_
        refine g_iload E dX0_clear_33 rfl ?_
        refine g_if_ne E dX0_clear_35 (tgt := 46) (by decide) k5 (fun c1 => ?_) (fun c1 => ?_)
        · refine g_iconst E dX0_clear_46 ?_
          refine g_istore_n E (lv' := [_, _, _, _, _]) dX0_clear_47 rfl (Nat.le_of_ble_eq_true rfl) rfl ?_
          refine g_iinc E (lv' := [_, _, _, _, _]) dX0_clear_48 rfl rfl ?_
          refine g_goto E dX0_clear_51 (tgt := 4) (by decide) ?_
          refine ih 0 _ _ (Or.inl rfl) (fun _ => rfl) (fun e => ?_)
          rcases hstop with e2 | e2 | ⟨k', e2, e3, e4⟩
          · exact Or.inr (Or.inl e2)
          · exact Or.inr (Or.inr e2)
          · have : k' = k := by omega
            subst this
            exact absurd e3 c1
        · refine g_iload_n E dX0_clear_38 rfl rfl ?_
          refine g_if_eq_f E dX0_clear_39 (tgt := 46) (by decide) (by omega) (by omega) ?_
          refine g_iconst E dX0_clear_42 ?_
          refine g_goto E dX0_clear_43 (tgt := 47) (by decide) ?_
          refine g_istore_n E (lv' := [_, _, _, _, _]) dX0_clear_47 rfl (Nat.le_of_ble_eq_true rfl) rfl ?_
          refine g_iinc E (lv' := [_, _, _, _, _]) dX0_clear_48 rfl rfl ?_
          refine g_goto E dX0_clear_51 (tgt := 4) (by decide) ?_
          refine ih 1 _ _ (Or.inr rfl) (fun e => absurd ⟨c1, hall⟩ (hgo k e)) (fun e => Or.inl rfl)
      · have hex : ∃ j : Nat, j < P ∧ (xIt P Dn f0 f2 f7 f8 f11 f12 (f1, f10, f13, t, la, wa) k).2.2.2.1 < f2 j := by
          by_cases h5 : ∃ j : Nat, j < P ∧ (xIt P Dn f0 f2 f7 f8 f11 f12 (f1, f10, f13, t, la, wa) k).2.2.2.1 < f2 j
          · exact h5
          · exact absurd (fun j hj => Int.not_lt.mp (fun h6 => h5 ⟨j, hj, h6⟩)) hall
        have fin : ∀ a b : Option Value, gJ p l e (gR 6) s m args below meth c 0 0 Q A0 D (gX cI cZ q r [(P : Int), (Dn : Int), (xIt P Dn f0 f2 f7 f8 f11 f12 (f1, f10, f13, t, la, wa) (k + 1)).2.2.2.1, (xIt P Dn f0 f2 f7 f8 f11 f12 (f1, f10, f13, t, la, wa) (k + 1)).2.2.2.2.1, (xIt P Dn f0 f2 f7 f8 f11 f12 (f1, f10, f13, t, la, wa) (k + 1)).2.2.2.2.2] [f0, (xIt P Dn f0 f2 f7 f8 f11 f12 (f1, f10, f13, t, la, wa) (k + 1)).1, f2, f3, f4, f5, f6, f7, f8, f9, (xIt P Dn f0 f2 f7 f8 f11 f12 (f1, f10, f13, t, la, wa) (k + 1)).2.1, f11, f12, (xIt P Dn f0 f2 f7 f8 f11 f12 (f1, f10, f13, t, la, wa) (k + 1)).2.2.1]) [some (.ref q), some (.int (iI k)), some (.int (iI h)), a, b] 46 [] := by
          intro a b
          refine g_iconst E dX0_clear_46 ?_
          refine g_istore_n E (lv' := [_, _, _, _, _]) dX0_clear_47 rfl (Nat.le_of_ble_eq_true rfl) rfl ?_
          refine g_iinc E (lv' := [_, _, _, _, _]) dX0_clear_48 rfl rfl ?_
          refine g_goto E dX0_clear_51 (tgt := 4) (by decide) ?_
          refine ih 0 _ _ (Or.inl rfl) (fun _ => rfl) (fun e => ?_)
          rcases hstop with e2 | e2 | ⟨k', e2, e3, e4⟩
          · exact Or.inr (Or.inl e2)
          · exact Or.inr (Or.inr e2)
          · have : k' = k := by omega
            subst this
            exact absurd e4 hall
        refine g_iload_n E dX0_clear_4 rfl rfl ?_
        refine g_sipush E dX0_clear_5 (by decide) ?_
        refine g_icmp_ge_f E dX0_clear_8 (tgt := 54) (by decide) (by omega) (by omega) ?_
        refine g_iload_n E dX0_clear_11 rfl rfl ?_
        refine g_if_ne_f E dX0_clear_12 (tgt := 54) (by decide) (by omega) (by omega) ?_
        refine g_aload_n E dX0_clear_15 rfl rfl ?_
        refine g_callI0 E (cX_inside hP) (cwV 0 hts gX0_clear_X0_inside rfl rfl rfl hdX0_inside ⟨(Nat.le_of_ble_eq_true rfl), (Nat.le_of_ble_eq_true rfl)⟩) rfl rfl rfl (Nat.le_of_ble_eq_true rfl) gW_0 rfl dX0_clear_16 ⟨Nat.zero_le _, Nat.zero_le _⟩ ?_
        refine g_if_le_f E dX0_clear_19 (tgt := 54) (by decide) k6 (by omega) ?_
        refine g_aload_n E dX0_clear_22 rfl rfl ?_
        refine g_callI0 E (cX_areAllReleased (rv := 0) hP (by omega) hs2 (Or.inr ⟨rfl, hex⟩)) (cwV 0 hts gX0_clear_X0_areAllReleased rfl rfl rfl hdX0_areAllReleased ⟨(Nat.le_of_ble_eq_true rfl), (Nat.le_of_ble_eq_true rfl)⟩) rfl rfl rfl (Nat.le_of_ble_eq_true rfl) gW_0 rfl dX0_clear_23 ⟨Nat.zero_le _, Nat.zero_le _⟩ ?_
        refine g_istore_n E (lv' := [_, _, _, _, _]) dX0_clear_26 rfl (Nat.le_of_ble_eq_true rfl) rfl ?_
        refine g_aload_n E dX0_clear_27 rfl rfl ?_
        refine g_callI0 E (cX_passOneStep hP hDn k1 hs2 hs11 hs12 k2 k3 hfs k4) (cwV 0 hts gX0_clear_X0_passOneStep rfl rfl rfl hdX0_passOneStep ⟨(Nat.le_of_ble_eq_true rfl), (Nat.le_of_ble_eq_true rfl)⟩) rfl rfl rfl (Nat.le_of_ble_eq_true rfl) gW_0 rfl dX0_clear_28 ⟨Nat.zero_le _, Nat.zero_le _⟩ ?_
        refine g_istore E (lv' := [_, _, _, _, _]) dX0_clear_31 (Nat.le_of_ble_eq_true rfl) rfl ?_
        refine g_iload E dX0_clear_33 rfl ?_
        refine g_if_ne E dX0_clear_35 (tgt := 46) (by decide) k5 (fun c1 => ?_) (fun c1 => ?_)
        · exact fin _ _
        · refine g_iload_n E dX0_clear_38 rfl rfl ?_
          refine g_if_eq_t E dX0_clear_39 (tgt := 46) (by decide) (by omega) (by omega) ?_
          exact fin _ _
  refine g_iconst E dX0_clear_0 ?_
  refine g_istore_n E (lv' := [_, _, _, _, _]) dX0_clear_1 rfl (Nat.le_of_ble_eq_true rfl) rfl ?_
  refine g_iconst E dX0_clear_2 ?_
  refine g_istore_n E (lv' := [_, _, _, _, _]) dX0_clear_3 rfl (Nat.le_of_ble_eq_true rfl) rfl ?_
  refine key 0 (by omega) 0 _ _ (Or.inl rfl) (fun _ => rfl) (fun e => ?_)
  rcases hstop with e2 | e2 | ⟨k', e2, e3, e4⟩
  · exact Or.inr (Or.inl e2)
  · exact Or.inr (Or.inr e2)
  · omega
