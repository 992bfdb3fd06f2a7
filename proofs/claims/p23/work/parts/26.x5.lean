set_option maxRecDepth 100000 in
theorem flX0_addDoor_25 : Cond.fieldLink RX0 25 (TX0 7).1 (TX0 7).2.1 (TX0 7).2.2.1 ∈ wsX0_addDoor := by decide +kernel
set_option maxRecDepth 100000 in
theorem flX0_addDoor_28 : Cond.fieldLink RX0 28 (TX0 8).1 (TX0 8).2.1 (TX0 8).2.2.1 ∈ wsX0_addDoor := by decide +kernel
set_option maxRecDepth 100000 in
theorem flX0_addDoor_31 : Cond.fieldLink RX0 31 (TX0 9).1 (TX0 9).2.1 (TX0 9).2.2.1 ∈ wsX0_addDoor := by decide +kernel
set_option maxRecDepth 100000 in
theorem flX0_addDoor_34 : Cond.fieldLink RX0 34 (TX0 10).1 (TX0 10).2.1 (TX0 10).2.2.1 ∈ wsX0_addDoor := by decide +kernel
set_option maxRecDepth 100000 in
theorem flX0_addDoor_37 : Cond.fieldLink RX0 37 (TX0 11).1 (TX0 11).2.1 (TX0 11).2.2.1 ∈ wsX0_addDoor := by decide +kernel
set_option maxRecDepth 100000 in
theorem flX0_addDoor_78 : Cond.fieldLink RX0 78 (TX0 6).1 (TX0 6).2.1 (TX0 6).2.2.1 ∈ wsX0_addDoor := by decide +kernel
set_option maxRecDepth 100000 in
theorem flX0_addPlace_53 : Cond.fieldLink RX0 53 (TX0 0).1 (TX0 0).2.1 (TX0 0).2.2.1 ∈ wsX0_addPlace := by decide +kernel
set_option maxRecDepth 100000 in
theorem flX0_addPlace_9 : Cond.fieldLink RX0 9 (TX0 1).1 (TX0 1).2.1 (TX0 1).2.2.1 ∈ wsX0_addPlace := by decide +kernel
set_option maxRecDepth 100000 in
theorem flX0_come_13 : Cond.fieldLink RX0 13 (TX0 2).1 (TX0 2).2.1 (TX0 2).2.2.1 ∈ wsX0_come := by decide +kernel
set_option maxRecDepth 100000 in
theorem flX0_distance_19 : Cond.fieldLink RX0 19 (TX0 4).1 (TX0 4).2.1 (TX0 4).2.2.1 ∈ wsX0_distance := by decide +kernel
set_option maxRecDepth 100000 in
theorem flX0_door_22 : Cond.fieldLink RX0 22 (TX0 5).1 (TX0 5).2.1 (TX0 5).2.2.1 ∈ wsX0_door := by decide +kernel
set_option maxRecDepth 100000 in
theorem flX0_doors_78 : Cond.fieldLink RX0 78 (TX0 6).1 (TX0 6).2.1 (TX0 6).2.2.1 ∈ wsX0_doors := by decide +kernel
set_option maxRecDepth 100000 in
theorem flX0_latest_57 : Cond.fieldLink RX0 57 (TX0 17).1 (TX0 17).2.1 (TX0 17).2.2.1 ∈ wsX0_latest := by decide +kernel
set_option maxRecDepth 100000 in
theorem flX0_now_99 : Cond.fieldLink RX0 99 (TX0 16).1 (TX0 16).2.1 (TX0 16).2.2.1 ∈ wsX0_now := by decide +kernel
set_option maxRecDepth 100000 in
theorem flX0_passed_41 : Cond.fieldLink RX0 41 (TX0 12).1 (TX0 12).2.1 (TX0 12).2.2.1 ∈ wsX0_passed := by decide +kernel
set_option maxRecDepth 100000 in
theorem flX0_people_13 : Cond.fieldLink RX0 13 (TX0 2).1 (TX0 2).2.1 (TX0 2).2.2.1 ∈ wsX0_people := by decide +kernel
set_option maxRecDepth 100000 in
theorem flX0_places_53 : Cond.fieldLink RX0 53 (TX0 0).1 (TX0 0).2.1 (TX0 0).2.2.1 ∈ wsX0_places := by decide +kernel
set_option maxRecDepth 100000 in
theorem flX0_setDoor_37 : Cond.fieldLink RX0 37 (TX0 11).1 (TX0 11).2.1 (TX0 11).2.2.1 ∈ wsX0_setDoor := by decide +kernel
set_option maxRecDepth 100000 in
theorem flX0_setRelease_16 : Cond.fieldLink RX0 16 (TX0 3).1 (TX0 3).2.1 (TX0 3).2.2.1 ∈ wsX0_setRelease := by decide +kernel
set_option maxRecDepth 100000 in
theorem flX0_waited_105 : Cond.fieldLink RX0 105 (TX0 18).1 (TX0 18).2.1 (TX0 18).2.2.1 ∈ wsX0_waited := by decide +kernel
set_option maxRecDepth 100000 in
theorem flX0_wouldMove_22 : Cond.fieldLink RX0 22 (TX0 5).1 (TX0 5).2.1 (TX0 5).2.2.1 ∈ wsX0_wouldMove := by decide +kernel
set_option maxRecDepth 100000 in
theorem flX0_wouldMove_50 : Cond.fieldLink RX0 50 (TX0 15).1 (TX0 15).2.1 (TX0 15).2.2.1 ∈ wsX0_wouldMove := by decide +kernel
set_option maxRecDepth 100000 in
theorem hdX0_findWays : yX0_findWays.cls = RX0 ∧ yX0_findWays.cls ≠ "java/lang/invoke/MethodHandle" ∧ yX0_findWays.cls ≠ "java/lang/invoke/VarHandle" ∧ (parseMethodDescriptor yX0_findWays.desc).map (fun d => d.parameters.length) = some 0 := by decide +kernel
set_option maxRecDepth 100000 in
theorem hdX0_requireDoor : yX0_requireDoor.cls = RX0 ∧ yX0_requireDoor.cls ≠ "java/lang/invoke/MethodHandle" ∧ yX0_requireDoor.cls ≠ "java/lang/invoke/VarHandle" ∧ (parseMethodDescriptor yX0_requireDoor.desc).map (fun d => d.parameters.length) = some 1 := by decide +kernel
set_option maxRecDepth 100000 in
theorem hdX0_requireElement : yX0_requireElement.cls = RX0 ∧ yX0_requireElement.cls ≠ "java/lang/invoke/MethodHandle" ∧ yX0_requireElement.cls ≠ "java/lang/invoke/VarHandle" ∧ (parseMethodDescriptor yX0_requireElement.desc).map (fun d => d.parameters.length) = some 1 := by decide +kernel
set_option maxRecDepth 100000 in
theorem hdX0_requirePlace : yX0_requirePlace.cls = RX0 ∧ yX0_requirePlace.cls ≠ "java/lang/invoke/MethodHandle" ∧ yX0_requirePlace.cls ≠ "java/lang/invoke/VarHandle" ∧ (parseMethodDescriptor yX0_requirePlace.desc).map (fun d => d.parameters.length) = some 1 := by decide +kernel
set_option maxRecDepth 100000 in
theorem inX0_addDoor : ∀ w ∈ u_ws RX0 TX0 19, w ∈ wsX0_addDoor := by decide +kernel
set_option maxRecDepth 100000 in
theorem inX0_addPlace : ∀ w ∈ u_ws RX0 TX0 19, w ∈ wsX0_addPlace := by decide +kernel
set_option maxRecDepth 100000 in
theorem inX0_come : ∀ w ∈ u_ws RX0 TX0 19, w ∈ wsX0_come := by decide +kernel
set_option maxRecDepth 100000 in
theorem inX0_distance : ∀ w ∈ u_ws RX0 TX0 19, w ∈ wsX0_distance := by decide +kernel
set_option maxRecDepth 100000 in
theorem inX0_door : ∀ w ∈ u_ws RX0 TX0 19, w ∈ wsX0_door := by decide +kernel
set_option maxRecDepth 100000 in
theorem inX0_doors : ∀ w ∈ u_ws RX0 TX0 19, w ∈ wsX0_doors := by decide +kernel
set_option maxRecDepth 100000 in
theorem inX0_latest : ∀ w ∈ u_ws RX0 TX0 19, w ∈ wsX0_latest := by decide +kernel
set_option maxRecDepth 100000 in
theorem inX0_now : ∀ w ∈ u_ws RX0 TX0 19, w ∈ wsX0_now := by decide +kernel
set_option maxRecDepth 100000 in
theorem inX0_passed : ∀ w ∈ u_ws RX0 TX0 19, w ∈ wsX0_passed := by decide +kernel
set_option maxRecDepth 100000 in
theorem inX0_people : ∀ w ∈ u_ws RX0 TX0 19, w ∈ wsX0_people := by decide +kernel
set_option maxRecDepth 100000 in
theorem inX0_places : ∀ w ∈ u_ws RX0 TX0 19, w ∈ wsX0_places := by decide +kernel
set_option maxRecDepth 100000 in
theorem inX0_setDoor : ∀ w ∈ u_ws RX0 TX0 19, w ∈ wsX0_setDoor := by decide +kernel
set_option maxRecDepth 100000 in
theorem inX0_setRelease : ∀ w ∈ u_ws RX0 TX0 19, w ∈ wsX0_setRelease := by decide +kernel
set_option maxRecDepth 100000 in
theorem inX0_waited : ∀ w ∈ u_ws RX0 TX0 19, w ∈ wsX0_waited := by decide +kernel
set_option maxRecDepth 100000 in
theorem inX0_wouldMove : ∀ w ∈ u_ws RX0 TX0 19, w ∈ wsX0_wouldMove := by decide +kernel
set_option maxHeartbeats 4000000 in
set_option maxRecDepth 100000 in
theorem cX_addPlace {l : Launch} {D : va_G} {cI cZ : ClassId} {q : Nat} {r : Nat → Nat} {P Dn : Nat} {t la wa : Int} {f0 f1 f2 f3 f4 f5 f6 f7 f8 f9 f10 f11 f12 f13 : Nat → Int} {x : Int} (hP : 1 ≤ P ∧ P ≤ 11) (hDn : Dn ≤ 16) (hP10 : P ≤ 10) (hx : 1 ≤ x ∧ x ≤ 30) (hs3 : ∀ j : Nat, -2147483648 ≤ f3 j ∧ f3 j < 2147483648) (hs4 : ∀ j : Nat, -2147483648 ≤ f4 j ∧ f4 j < 2147483648) (hs9 : ∀ j : Nat, -2147483648 ≤ f9 j ∧ f9 j < 2147483648) (he5 : ∀ j : Nat, j < Dn → 0 ≤ f5 j ∧ f5 j < P) (he6 : ∀ j : Nat, j < Dn → 0 ≤ f6 j ∧ f6 j < P) : gMI l yX0_addPlace wsX0_addPlace 6 D (gTy cI cZ) (gX cI cZ q r [(P : Int), (Dn : Int), t, la, wa] [f0, f1, f2, f3, f4, f5, f6, f7, f8, f9, f10, f11, f12, f13]) [.ref q, .int (iI x)] (P : Int) (gX cI cZ q r [((P + 1 : Nat) : Int), (Dn : Int), t, la, wa] [(gu f0 P x), f1, f2, (pDist f5 f6 f9 (P + 1) Dn f3), (pWays f5 f6 f9 (pDist f5 f6 f9 (P + 1) Dn f3) (P + 1) Dn (f4, f11, f12)).1, f5, f6, f7, f8, f9, f10, (pWays f5 f6 f9 (pDist f5 f6 f9 (P + 1) Dn f3) (P + 1) Dn (f4, f11, f12)).2.1, (pWays f5 f6 f9 (pDist f5 f6 f9 (P + 1) Dn f3) (P + 1) Dn (f4, f11, f12)).2.2, f13]) := by
  refine g_ofI (by decide +kernel) rfl rfl (Nat.le_of_ble_eq_true rfl) (g_cat1 rfl) rfl ?_
  intro p e s m args below meth c Q A0 E hret
  have hts := E.1.2.2.2.2
  show gJ p l e (gR 6) s m args below meth c 0 0 Q A0 D (gX cI cZ q r [(P : Int), (Dn : Int), t, la, wa] [f0, f1, f2, f3, f4, f5, f6, f7, f8, f9, f10, f11, f12, f13]) [some (.ref q), some (.int (iI x)), none] 0 []
  refine g_iload_n E dX0_addPlace_0 rfl rfl ?_
  refine g_iconst E dX0_addPlace_1 ?_
  refine g_bipush E dX0_addPlace_2 (by decide) ?_
  refine g_callSI E (cX_isBetween (rv := 1) (by omega) (Or.inl ⟨rfl, by omega, by omega⟩)) (va_cwS 3 hts gX0_addPlace_X0_isBetween rfl rfl rfl hdX0_isBetween.2 ⟨(Nat.le_of_ble_eq_true rfl), (Nat.le_of_ble_eq_true rfl)⟩) rfl rfl rfl (Nat.le_of_ble_eq_true rfl) dX0_addPlace_4 ⟨Nat.zero_le _, Nat.zero_le _⟩ ?_
  refine g_callSV E (cX_requireArgument rfl) (va_cwS 1 hts gX0_addPlace_X0_requireArgument rfl rfl rfl hdX0_requireArgument.2 ⟨(Nat.le_of_ble_eq_true rfl), (Nat.le_of_ble_eq_true rfl)⟩) rfl rfl rfl (Nat.le_of_ble_eq_true rfl) dX0_addPlace_7 ⟨Nat.zero_le _, Nat.zero_le _⟩ ?_
  refine g_aload_n E dX0_addPlace_10 rfl rfl ?_
  refine g_getI E inX0_addPlace rfl flX0_addPlace_53 dX0_addPlace_11 (by decide) rfl rfl ?_
  refine g_bipush E dX0_addPlace_14 (by decide) ?_
  refine g_icmp_ge_f E dX0_addPlace_16 (tgt := 23) (by decide) (by omega) (by omega) ?_
  refine g_iconst E dX0_addPlace_19 ?_
  refine g_goto E dX0_addPlace_20 (tgt := 24) (by decide) ?_
  refine g_callSV E (cX_requireState rfl) (va_cwS 1 hts gX0_addPlace_X0_requireState rfl rfl rfl hdX0_requireState.2 ⟨(Nat.le_of_ble_eq_true rfl), (Nat.le_of_ble_eq_true rfl)⟩) rfl rfl rfl (Nat.le_of_ble_eq_true rfl) dX0_addPlace_24 ⟨Nat.zero_le _, Nat.zero_le _⟩ ?_
  refine g_aload_n E dX0_addPlace_27 rfl rfl ?_
  refine g_getI E inX0_addPlace rfl flX0_addPlace_53 dX0_addPlace_28 (by decide) rfl rfl ?_
  refine g_istore_n E (lv' := [_, _, _]) dX0_addPlace_31 rfl (Nat.le_of_ble_eq_true rfl) rfl ?_
  refine g_aload_n E dX0_addPlace_32 rfl rfl ?_
  refine g_getR E inX0_addPlace rfl flX0_addPlace_9 dX0_addPlace_33 (by decide) rfl ?_
  refine g_iload_n E dX0_addPlace_36 rfl rfl ?_
  refine g_iload_n E dX0_addPlace_37 rfl rfl ?_
  refine g_ast E (A' := [_, _, _, _, _, _, _, _, _, _, _, _, _, _]) dX0_addPlace_38 rfl rfl rfl (by omega) rfl ?_
  refine g_aload_n E dX0_addPlace_39 rfl rfl ?_
  refine g_dup E dX0_addPlace_40 rfl ?_
  refine g_getI E inX0_addPlace rfl flX0_addPlace_53 dX0_addPlace_41 (by decide) rfl rfl ?_
  refine g_iconst E dX0_addPlace_44 ?_
  refine g_iadd E dX0_addPlace_45 ?_
  refine g_putI E (F' := [_, _, _, _, _]) inX0_addPlace rfl flX0_addPlace_53 dX0_addPlace_46 tyX0_ok nmX0 (by decide) rfl (by decide) rfl (by decide +kernel) (Nat.le_of_ble_eq_true rfl) rfl ?_
  refine g_aload_n E dX0_addPlace_49 rfl rfl ?_
  refine g_callV0 E (cX_findWays (P := P + 1) (by omega) hDn hs3 hs4 hs9 (fun j hj => by have := he5 j hj; omega) (fun j hj => by have := he6 j hj; omega)) (cwV 0 hts gX0_addPlace_X0_findWays rfl rfl rfl hdX0_findWays ⟨(Nat.le_of_ble_eq_true rfl), (Nat.le_of_ble_eq_true rfl)⟩) rfl rfl rfl (Nat.le_of_ble_eq_true rfl) gW_0 rfl dX0_addPlace_50 ⟨Nat.zero_le _, Nat.zero_le _⟩ ?_
  refine g_iload_n E dX0_addPlace_53 rfl rfl ?_
  exact g_ri rfl hret dX0_addPlace_54
set_option maxHeartbeats 4000000 in
set_option maxRecDepth 100000 in
theorem cX_addDoor {l : Launch} {D : va_G} {cI cZ : ClassId} {q : Nat} {r : Nat → Nat} {P Dn : Nat} {t la wa : Int} {f0 f1 f2 f3 f4 f5 f6 f7 f8 f9 f10 f11 f12 f13 : Nat → Int} {x y z v : Int} (hP : 1 ≤ P ∧ P ≤ 11) (hDn : Dn ≤ 15) (hx : 0 ≤ x ∧ x < P) (hy : 0 ≤ y ∧ y < P) (hxy : x ≠ y) (hz : 1 ≤ z ∧ z ≤ 9) (hv : 1 ≤ v ∧ v ≤ 5) (hs3 : ∀ j : Nat, -2147483648 ≤ f3 j ∧ f3 j < 2147483648) (hs4 : ∀ j : Nat, -2147483648 ≤ f4 j ∧ f4 j < 2147483648) (hs9 : ∀ j : Nat, -2147483648 ≤ f9 j ∧ f9 j < 2147483648) (he5 : ∀ j : Nat, j < Dn → 0 ≤ f5 j ∧ f5 j < P) (he6 : ∀ j : Nat, j < Dn → 0 ≤ f6 j ∧ f6 j < P) : gMI l yX0_addDoor wsX0_addDoor 6 D (gTy cI cZ) (gX cI cZ q r [(P : Int), (Dn : Int), t, la, wa] [f0, f1, f2, f3, f4, f5, f6, f7, f8, f9, f10, f11, f12, f13]) [.ref q, .int (iI x), .int (iI y), .int (iI z), .int (iI v)] (Dn : Int) (gX cI cZ q r [(P : Int), ((Dn + 1 : Nat) : Int), t, la, wa] [f0, f1, f2, (pDist (gu f5 Dn x) (gu f6 Dn y) (gu f9 Dn 1) P (Dn + 1) f3), (pWays (gu f5 Dn x) (gu f6 Dn y) (gu f9 Dn 1) (pDist (gu f5 Dn x) (gu f6 Dn y) (gu f9 Dn 1) P (Dn + 1) f3) P (Dn + 1) (f4, f11, f12)).1, (gu f5 Dn x), (gu f6 Dn y), (gu f7 Dn z), (gu f8 Dn v), (gu f9 Dn 1), f10, (pWays (gu f5 Dn x) (gu f6 Dn y) (gu f9 Dn 1) (pDist (gu f5 Dn x) (gu f6 Dn y) (gu f9 Dn 1) P (Dn + 1) f3) P (Dn + 1) (f4, f11, f12)).2.1, (pWays (gu f5 Dn x) (gu f6 Dn y) (gu f9 Dn 1) (pDist (gu f5 Dn x) (gu f6 Dn y) (gu f9 Dn 1) P (Dn + 1) f3) P (Dn + 1) (f4, f11, f12)).2.2, f13]) := by
  refine g_ofI (by decide +kernel) rfl rfl (Nat.le_of_ble_eq_true rfl) (g_cat1 rfl) rfl ?_
  intro p e s m args below meth c Q A0 E hret
  have hts := E.1.2.2.2.2
  show gJ p l e (gR 6) s m args below meth c 0 0 Q A0 D (gX cI cZ q r [(P : Int), (Dn : Int), t, la, wa] [f0, f1, f2, f3, f4, f5, f6, f7, f8, f9, f10, f11, f12, f13]) [some (.ref q), some (.int (iI x)), some (.int (iI y)), some (.int (iI z)), some (.int (iI v)), none] 0 []
  have q5 : ∀ j : Nat, j < Dn + 1 → 0 ≤ gu f5 Dn x j ∧ gu f5 Dn x j < P := fun j hj => by
    unfold gu
    split
    · exact hx
    · exact he5 j (by omega)
  have q6 : ∀ j : Nat, j < Dn + 1 → 0 ≤ gu f6 Dn y j ∧ gu f6 Dn y j < P := fun j hj => by
    unfold gu
    split
    · exact hy
    · exact he6 j (by omega)
  refine g_aload_n E dX0_addDoor_0 rfl rfl ?_
  refine g_iload_n E dX0_addDoor_1 rfl rfl ?_
  refine g_callV0 E (cX_requirePlace hx (by omega)) (cwV 1 hts gX0_addDoor_X0_requirePlace rfl rfl rfl hdX0_requirePlace ⟨(Nat.le_of_ble_eq_true rfl), (Nat.le_of_ble_eq_true rfl)⟩) rfl rfl rfl (Nat.le_of_ble_eq_true rfl) gW_0 rfl dX0_addDoor_2 ⟨Nat.zero_le _, Nat.zero_le _⟩ ?_
  refine g_aload_n E dX0_addDoor_5 rfl rfl ?_
  refine g_iload_n E dX0_addDoor_6 rfl rfl ?_
  refine g_callV0 E (cX_requirePlace hy (by omega)) (cwV 1 hts gX0_addDoor_X0_requirePlace rfl rfl rfl hdX0_requirePlace ⟨(Nat.le_of_ble_eq_true rfl), (Nat.le_of_ble_eq_true rfl)⟩) rfl rfl rfl (Nat.le_of_ble_eq_true rfl) gW_0 rfl dX0_addDoor_7 ⟨Nat.zero_le _, Nat.zero_le _⟩ ?_
  refine g_iload_n E dX0_addDoor_10 rfl rfl ?_
  refine g_iload_n E dX0_addDoor_11 rfl rfl ?_
  refine g_icmp_eq_f E dX0_addDoor_12 (tgt := 39) (by decide) (by omega) (by omega) ?_
  refine g_iload_n E dX0_addDoor_15 rfl rfl ?_
  refine g_iconst E dX0_addDoor_16 ?_
  refine g_bipush E dX0_addDoor_17 (by decide) ?_
  refine g_callSI E (cX_isBetween (rv := 1) (by omega) (Or.inl ⟨rfl, by omega, by omega⟩)) (va_cwS 3 hts gX0_addDoor_X0_isBetween rfl rfl rfl hdX0_isBetween.2 ⟨(Nat.le_of_ble_eq_true rfl), (Nat.le_of_ble_eq_true rfl)⟩) rfl rfl rfl (Nat.le_of_ble_eq_true rfl) dX0_addDoor_19 ⟨Nat.zero_le _, Nat.zero_le _⟩ ?_
  refine g_if_eq_f E dX0_addDoor_22 (tgt := 39) (by decide) (by omega) (by omega) ?_
  refine g_iload E dX0_addDoor_25 rfl ?_
  refine g_iconst E dX0_addDoor_27 ?_
  refine g_iconst E dX0_addDoor_28 ?_
  refine g_callSI E (cX_isBetween (rv := 1) (by omega) (Or.inl ⟨rfl, by omega, by omega⟩)) (va_cwS 3 hts gX0_addDoor_X0_isBetween rfl rfl rfl hdX0_isBetween.2 ⟨(Nat.le_of_ble_eq_true rfl), (Nat.le_of_ble_eq_true rfl)⟩) rfl rfl rfl (Nat.le_of_ble_eq_true rfl) dX0_addDoor_29 ⟨Nat.zero_le _, Nat.zero_le _⟩ ?_
  refine g_if_eq_f E dX0_addDoor_32 (tgt := 39) (by decide) (by omega) (by omega) ?_
  refine g_iconst E dX0_addDoor_35 ?_
  refine g_goto E dX0_addDoor_36 (tgt := 40) (by decide) ?_
  refine g_callSV E (cX_requireArgument rfl) (va_cwS 1 hts gX0_addDoor_X0_requireArgument rfl rfl rfl hdX0_requireArgument.2 ⟨(Nat.le_of_ble_eq_true rfl), (Nat.le_of_ble_eq_true rfl)⟩) rfl rfl rfl (Nat.le_of_ble_eq_true rfl) dX0_addDoor_40 ⟨Nat.zero_le _, Nat.zero_le _⟩ ?_
  refine g_aload_n E dX0_addDoor_43 rfl rfl ?_
  refine g_getI E inX0_addDoor rfl flX0_addDoor_78 dX0_addDoor_44 (by decide) rfl rfl ?_
  refine g_bipush E dX0_addDoor_47 (by decide) ?_
  refine g_icmp_ge_f E dX0_addDoor_49 (tgt := 56) (by decide) (by omega) (by omega) ?_
  refine g_iconst E dX0_addDoor_52 ?_
  refine g_goto E dX0_addDoor_53 (tgt := 57) (by decide) ?_
  refine g_callSV E (cX_requireState rfl) (va_cwS 1 hts gX0_addDoor_X0_requireState rfl rfl rfl hdX0_requireState.2 ⟨(Nat.le_of_ble_eq_true rfl), (Nat.le_of_ble_eq_true rfl)⟩) rfl rfl rfl (Nat.le_of_ble_eq_true rfl) dX0_addDoor_57 ⟨Nat.zero_le _, Nat.zero_le _⟩ ?_
  refine g_aload_n E dX0_addDoor_60 rfl rfl ?_
  refine g_getI E inX0_addDoor rfl flX0_addDoor_78 dX0_addDoor_61 (by decide) rfl rfl ?_
  refine g_istore E (lv' := [_, _, _, _, _, _]) dX0_addDoor_64 (Nat.le_of_ble_eq_true rfl) rfl ?_
  refine g_aload_n E dX0_addDoor_66 rfl rfl ?_
  refine g_getR E inX0_addDoor rfl flX0_addDoor_25 dX0_addDoor_67 (by decide) rfl ?_
  refine g_iload E dX0_addDoor_70 rfl ?_
  refine g_iload_n E dX0_addDoor_72 rfl rfl ?_
  refine g_ast E (A' := [_, _, _, _, _, _, _, _, _, _, _, _, _, _]) dX0_addDoor_73 rfl rfl rfl (by omega) rfl ?_
  refine g_aload_n E dX0_addDoor_74 rfl rfl ?_
  refine g_getR E inX0_addDoor rfl flX0_addDoor_28 dX0_addDoor_75 (by decide) rfl ?_
  refine g_iload E dX0_addDoor_78 rfl ?_
  refine g_iload_n E dX0_addDoor_80 rfl rfl ?_
  refine g_ast E (A' := [_, _, _, _, _, _, _, _, _, _, _, _, _, _]) dX0_addDoor_81 rfl rfl rfl (by omega) rfl ?_
  refine g_aload_n E dX0_addDoor_82 rfl rfl ?_
  refine g_getR E inX0_addDoor rfl flX0_addDoor_31 dX0_addDoor_83 (by decide) rfl ?_
  refine g_iload E dX0_addDoor_86 rfl ?_
  refine g_iload_n E dX0_addDoor_88 rfl rfl ?_
  refine g_ast E (A' := [_, _, _, _, _, _, _, _, _, _, _, _, _, _]) dX0_addDoor_89 rfl rfl rfl (by omega) rfl ?_
  refine g_aload_n E dX0_addDoor_90 rfl rfl ?_
  refine g_getR E inX0_addDoor rfl flX0_addDoor_34 dX0_addDoor_91 (by decide) rfl ?_
  refine g_iload E dX0_addDoor_94 rfl ?_
  refine g_iload E dX0_addDoor_96 rfl ?_
  refine g_ast E (A' := [_, _, _, _, _, _, _, _, _, _, _, _, _, _]) dX0_addDoor_98 rfl rfl rfl (by omega) rfl ?_
  refine g_aload_n E dX0_addDoor_99 rfl rfl ?_
  refine g_getR E inX0_addDoor rfl flX0_addDoor_37 dX0_addDoor_100 (by decide) rfl ?_
  refine g_iload E dX0_addDoor_103 rfl ?_
  refine g_iconst E dX0_addDoor_105 ?_
  refine g_zst E (A' := [_, _, _, _, _, _, _, _, _, _, _, _, _, _]) dX0_addDoor_106 rfl rfl rfl (by omega) (Or.inr rfl) rfl ?_
  refine g_aload_n E dX0_addDoor_107 rfl rfl ?_
  refine g_dup E dX0_addDoor_108 rfl ?_
  refine g_getI E inX0_addDoor rfl flX0_addDoor_78 dX0_addDoor_109 (by decide) rfl rfl ?_
  refine g_iconst E dX0_addDoor_112 ?_
  refine g_iadd E dX0_addDoor_113 ?_
  refine g_putI E (F' := [_, _, _, _, _]) inX0_addDoor rfl flX0_addDoor_78 dX0_addDoor_114 tyX0_ok nmX0 (by decide) rfl (by decide) rfl (by decide +kernel) (Nat.le_of_ble_eq_true rfl) rfl ?_
  refine g_aload_n E dX0_addDoor_117 rfl rfl ?_
  refine g_callV0 E (cX_findWays (Dn := Dn + 1) hP (by omega) hs3 hs4 (gu_B hs9 (by omega)) q5 q6) (cwV 0 hts gX0_addDoor_X0_findWays rfl rfl rfl hdX0_findWays ⟨(Nat.le_of_ble_eq_true rfl), (Nat.le_of_ble_eq_true rfl)⟩) rfl rfl rfl (Nat.le_of_ble_eq_true rfl) gW_0 rfl dX0_addDoor_118 ⟨Nat.zero_le _, Nat.zero_le _⟩ ?_
  refine g_iload E dX0_addDoor_121 rfl ?_
  exact g_ri rfl hret dX0_addDoor_123
set_option maxHeartbeats 4000000 in
set_option maxRecDepth 100000 in
theorem cX_setDoor {l : Launch} {D : va_G} {cI cZ : ClassId} {q : Nat} {r : Nat → Nat} {P Dn : Nat} {t la wa : Int} {f0 f1 f2 f3 f4 f5 f6 f7 f8 f9 f10 f11 f12 f13 : Nat → Int} {i : Nat} {o : Int} (hP : 1 ≤ P ∧ P ≤ 11) (hDn : Dn ≤ 16) (hi : i < Dn) (ho : o = 0 ∨ o = 1) (ho9 : f9 i = 0 ∨ f9 i = 1) (hs3 : ∀ j : Nat, -2147483648 ≤ f3 j ∧ f3 j < 2147483648) (hs4 : ∀ j : Nat, -2147483648 ≤ f4 j ∧ f4 j < 2147483648) (hs9 : ∀ j : Nat, -2147483648 ≤ f9 j ∧ f9 j < 2147483648) (he5 : ∀ j : Nat, j < Dn → 0 ≤ f5 j ∧ f5 j < P) (he6 : ∀ j : Nat, j < Dn → 0 ≤ f6 j ∧ f6 j < P) : gMI l yX0_setDoor wsX0_setDoor 6 D (gTy cI cZ) (gX cI cZ q r [(P : Int), (Dn : Int), t, la, wa] [f0, f1, f2, f3, f4, f5, f6, f7, f8, f9, f10, f11, f12, f13]) [.ref q, .int (iI (i : Int)), .int (iI o)] (f9 i) (gX cI cZ q r [(P : Int), (Dn : Int), t, la, wa] [f0, f1, f2, (pDist f5 f6 (gu f9 i o) P Dn f3), (pWays f5 f6 (gu f9 i o) (pDist f5 f6 (gu f9 i o) P Dn f3) P Dn (f4, f11, f12)).1, f5, f6, f7, f8, (gu f9 i o), f10, (pWays f5 f6 (gu f9 i o) (pDist f5 f6 (gu f9 i o) P Dn f3) P Dn (f4, f11, f12)).2.1, (pWays f5 f6 (gu f9 i o) (pDist f5 f6 (gu f9 i o) P Dn f3) P Dn (f4, f11, f12)).2.2, f13]) := by
  refine g_ofI (by decide +kernel) rfl rfl (Nat.le_of_ble_eq_true rfl) (g_cat1 rfl) (g_narZ (by omega)) ?_
  intro p e s m args below meth c Q A0 E hret
  have hts := E.1.2.2.2.2
  show gJ p l e (gR 6) s m args below meth c 0 0 Q A0 D (gX cI cZ q r [(P : Int), (Dn : Int), t, la, wa] [f0, f1, f2, f3, f4, f5, f6, f7, f8, f9, f10, f11, f12, f13]) [some (.ref q), some (.int (iI (i : Int))), some (.int (iI o)), none] 0 []
  refine g_aload_n E dX0_setDoor_0 rfl rfl ?_
  refine g_iload_n E dX0_setDoor_1 rfl rfl ?_
  refine g_callV0 E (cX_requireDoor (by omega) hDn) (cwV 1 hts gX0_setDoor_X0_requireDoor rfl rfl rfl hdX0_requireDoor ⟨(Nat.le_of_ble_eq_true rfl), (Nat.le_of_ble_eq_true rfl)⟩) rfl rfl rfl (Nat.le_of_ble_eq_true rfl) gW_0 rfl dX0_setDoor_2 ⟨Nat.zero_le _, Nat.zero_le _⟩ ?_
  refine g_aload_n E dX0_setDoor_5 rfl rfl ?_
  refine g_getR E inX0_setDoor rfl flX0_setDoor_37 dX0_setDoor_6 (by decide) rfl ?_
  refine g_iload_n E dX0_setDoor_9 rfl rfl ?_
  refine g_zld E dX0_setDoor_10 rfl rfl rfl (by omega) ?_
  refine g_istore_n E (lv' := [_, _, _, _]) dX0_setDoor_11 rfl (Nat.le_of_ble_eq_true rfl) rfl ?_
  refine g_aload_n E dX0_setDoor_12 rfl rfl ?_
  refine g_getR E inX0_setDoor rfl flX0_setDoor_37 dX0_setDoor_13 (by decide) rfl ?_
  refine g_iload_n E dX0_setDoor_16 rfl rfl ?_
  refine g_iload_n E dX0_setDoor_17 rfl rfl ?_
  refine g_zst E (A' := [_, _, _, _, _, _, _, _, _, _, _, _, _, _]) dX0_setDoor_18 rfl rfl rfl (by omega) ho rfl ?_
  refine g_aload_n E dX0_setDoor_19 rfl rfl ?_
  refine g_callV0 E (cX_findWays hP hDn hs3 hs4 (gu_B hs9 (by omega)) he5 he6) (cwV 0 hts gX0_setDoor_X0_findWays rfl rfl rfl hdX0_findWays ⟨(Nat.le_of_ble_eq_true rfl), (Nat.le_of_ble_eq_true rfl)⟩) rfl rfl rfl (Nat.le_of_ble_eq_true rfl) gW_0 rfl dX0_setDoor_20 ⟨Nat.zero_le _, Nat.zero_le _⟩ ?_
  refine g_iload_n E dX0_setDoor_23 rfl rfl ?_
  exact g_ri rfl hret dX0_setDoor_24
set_option maxHeartbeats 4000000 in
set_option maxRecDepth 100000 in
theorem cX_come {l : Launch} {D : va_G} {cI cZ : ClassId} {q : Nat} {r : Nat → Nat} {P Dn : Nat} {t la wa : Int} {f0 f1 f2 f3 f4 f5 f6 f7 f8 f9 f10 f11 f12 f13 : Nat → Int} {i : Nat} {n : Int} (hP : 1 ≤ P ∧ P ≤ 11) (hi : 1 ≤ i ∧ i < P) (hn : 1 ≤ n ∧ n ≤ 30) (hf : 0 ≤ f1 i ∧ f1 i ≤ f0 i ∧ f0 i ≤ 30) (hle : f1 i + n ≤ f0 i) : gMI l yX0_come wsX0_come 6 D (gTy cI cZ) (gX cI cZ q r [(P : Int), (Dn : Int), t, la, wa] [f0, f1, f2, f3, f4, f5, f6, f7, f8, f9, f10, f11, f12, f13]) [.ref q, .int (iI (i : Int)), .int (iI n)] (f1 i + n) (gX cI cZ q r [(P : Int), (Dn : Int), t, la, wa] [f0, (gu f1 i (f1 i + n)), f2, f3, f4, f5, f6, f7, f8, f9, f10, f11, f12, f13]) := by
  refine g_ofI (by decide +kernel) rfl rfl (Nat.le_of_ble_eq_true rfl) (g_cat1 rfl) rfl ?_
  intro p e s m args below meth c Q A0 E hret
  have hts := E.1.2.2.2.2
  show gJ p l e (gR 6) s m args below meth c 0 0 Q A0 D (gX cI cZ q r [(P : Int), (Dn : Int), t, la, wa] [f0, f1, f2, f3, f4, f5, f6, f7, f8, f9, f10, f11, f12, f13]) [some (.ref q), some (.int (iI (i : Int))), some (.int (iI n))] 0 []
  have e9 : pRoom f0 f1 i = f0 i - f1 i := if_neg (by omega)
  refine g_aload_n E dX0_come_0 rfl rfl ?_
  refine g_iload_n E dX0_come_1 rfl rfl ?_
  refine g_callV0 E (cX_requirePlace (by omega) (by omega)) (cwV 1 hts gX0_come_X0_requirePlace rfl rfl rfl hdX0_requirePlace ⟨(Nat.le_of_ble_eq_true rfl), (Nat.le_of_ble_eq_true rfl)⟩) rfl rfl rfl (Nat.le_of_ble_eq_true rfl) gW_0 rfl dX0_come_2 ⟨Nat.zero_le _, Nat.zero_le _⟩ ?_
  refine g_iload_n E dX0_come_5 rfl rfl ?_
  refine g_if_eq_f E dX0_come_6 (tgt := 23) (by decide) (by omega) (by omega) ?_
  refine g_iload_n E dX0_come_9 rfl rfl ?_
  refine g_iconst E dX0_come_10 ?_
  refine g_bipush E dX0_come_11 (by decide) ?_
  refine g_callSI E (cX_isBetween (rv := 1) (by omega) (Or.inl ⟨rfl, by omega, by omega⟩)) (va_cwS 3 hts gX0_come_X0_isBetween rfl rfl rfl hdX0_isBetween.2 ⟨(Nat.le_of_ble_eq_true rfl), (Nat.le_of_ble_eq_true rfl)⟩) rfl rfl rfl (Nat.le_of_ble_eq_true rfl) dX0_come_13 ⟨Nat.zero_le _, Nat.zero_le _⟩ ?_
  refine g_if_eq_f E dX0_come_16 (tgt := 23) (by decide) (by omega) (by omega) ?_
  refine g_iconst E dX0_come_19 ?_
  refine g_goto E dX0_come_20 (tgt := 24) (by decide) ?_
  refine g_callSV E (cX_requireArgument rfl) (va_cwS 1 hts gX0_come_X0_requireArgument rfl rfl rfl hdX0_requireArgument.2 ⟨(Nat.le_of_ble_eq_true rfl), (Nat.le_of_ble_eq_true rfl)⟩) rfl rfl rfl (Nat.le_of_ble_eq_true rfl) dX0_come_24 ⟨Nat.zero_le _, Nat.zero_le _⟩ ?_
  refine g_iload_n E dX0_come_27 rfl rfl ?_
  refine g_aload_n E dX0_come_28 rfl rfl ?_
  refine g_iload_n E dX0_come_29 rfl rfl ?_
  refine g_callI0 E (cX_roomLeft (i := i) ⟨rfl, by omega⟩ rfl) (cwV 1 hts gX0_come_X0_roomLeft rfl rfl rfl hdX0_roomLeft ⟨(Nat.le_of_ble_eq_true rfl), (Nat.le_of_ble_eq_true rfl)⟩) rfl rfl rfl (Nat.le_of_ble_eq_true rfl) gW_0 rfl dX0_come_30 ⟨Nat.zero_le _, Nat.zero_le _⟩ ?_
  refine g_icmp_gt_f E dX0_come_33 (tgt := 40) (by decide) (by omega) (by omega) ?_
  refine g_iconst E dX0_come_36 ?_
  refine g_goto E dX0_come_37 (tgt := 41) (by decide) ?_
  refine g_callSV E (cX_requireState rfl) (va_cwS 1 hts gX0_come_X0_requireState rfl rfl rfl hdX0_requireState.2 ⟨(Nat.le_of_ble_eq_true rfl), (Nat.le_of_ble_eq_true rfl)⟩) rfl rfl rfl (Nat.le_of_ble_eq_true rfl) dX0_come_41 ⟨Nat.zero_le _, Nat.zero_le _⟩ ?_
  refine g_aload_n E dX0_come_44 rfl rfl ?_
  refine g_getR E inX0_come rfl flX0_come_13 dX0_come_45 (by decide) rfl ?_
  refine g_iload_n E dX0_come_48 rfl rfl ?_
  refine g_dup2 E dX0_come_49 rfl rfl ?_
  refine g_ald E dX0_come_50 rfl rfl rfl (by omega) ?_
  refine g_iload_n E dX0_come_51 rfl rfl ?_
  refine g_iadd E dX0_come_52 ?_
  refine g_ast E (A' := [_, _, _, _, _, _, _, _, _, _, _, _, _, _]) dX0_come_53 rfl rfl rfl (by omega) rfl ?_
  refine g_aload_n E dX0_come_54 rfl rfl ?_
  refine g_getR E inX0_come rfl flX0_come_13 dX0_come_55 (by decide) rfl ?_
  refine g_iload_n E dX0_come_58 rfl rfl ?_
  refine g_ald E dX0_come_59 rfl rfl rfl (by omega) ?_
  exact g_ri (gu_s _ _ _) hret dX0_come_60
set_option maxHeartbeats 4000000 in
set_option maxRecDepth 100000 in
theorem cX_setRelease {l : Launch} {D : va_G} {cI cZ : ClassId} {q : Nat} {r : Nat → Nat} {P Dn : Nat} {t la wa : Int} {f0 f1 f2 f3 f4 f5 f6 f7 f8 f9 f10 f11 f12 f13 : Nat → Int} {i : Nat} {n : Int} (hP : 1 ≤ P ∧ P ≤ 11) (hi : i < P) (hn : 0 ≤ n ∧ n ≤ 1000) : gMI l yX0_setRelease wsX0_setRelease 6 D (gTy cI cZ) (gX cI cZ q r [(P : Int), (Dn : Int), t, la, wa] [f0, f1, f2, f3, f4, f5, f6, f7, f8, f9, f10, f11, f12, f13]) [.ref q, .int (iI (i : Int)), .int (iI n)] (f2 i) (gX cI cZ q r [(P : Int), (Dn : Int), t, la, wa] [f0, f1, (gu f2 i n), f3, f4, f5, f6, f7, f8, f9, f10, f11, f12, f13]) := by
  refine g_ofI (by decide +kernel) rfl rfl (Nat.le_of_ble_eq_true rfl) (g_cat1 rfl) rfl ?_
  intro p e s m args below meth c Q A0 E hret
  have hts := E.1.2.2.2.2
  show gJ p l e (gR 6) s m args below meth c 0 0 Q A0 D (gX cI cZ q r [(P : Int), (Dn : Int), t, la, wa] [f0, f1, f2, f3, f4, f5, f6, f7, f8, f9, f10, f11, f12, f13]) [some (.ref q), some (.int (iI (i : Int))), some (.int (iI n)), none] 0 []
  refine g_aload_n E dX0_setRelease_0 rfl rfl ?_
  refine g_iload_n E dX0_setRelease_1 rfl rfl ?_
  refine g_callV0 E (cX_requirePlace (by omega) (by omega)) (cwV 1 hts gX0_setRelease_X0_requirePlace rfl rfl rfl hdX0_requirePlace ⟨(Nat.le_of_ble_eq_true rfl), (Nat.le_of_ble_eq_true rfl)⟩) rfl rfl rfl (Nat.le_of_ble_eq_true rfl) gW_0 rfl dX0_setRelease_2 ⟨Nat.zero_le _, Nat.zero_le _⟩ ?_
  refine g_iload_n E dX0_setRelease_5 rfl rfl ?_
  refine g_iconst E dX0_setRelease_6 ?_
  refine g_sipush E dX0_setRelease_7 (by decide) ?_
  refine g_callSI E (cX_isBetween (rv := 1) (by omega) (Or.inl ⟨rfl, by omega, by omega⟩)) (va_cwS 3 hts gX0_setRelease_X0_isBetween rfl rfl rfl hdX0_isBetween.2 ⟨(Nat.le_of_ble_eq_true rfl), (Nat.le_of_ble_eq_true rfl)⟩) rfl rfl rfl (Nat.le_of_ble_eq_true rfl) dX0_setRelease_10 ⟨Nat.zero_le _, Nat.zero_le _⟩ ?_
  refine g_callSV E (cX_requireArgument rfl) (va_cwS 1 hts gX0_setRelease_X0_requireArgument rfl rfl rfl hdX0_requireArgument.2 ⟨(Nat.le_of_ble_eq_true rfl), (Nat.le_of_ble_eq_true rfl)⟩) rfl rfl rfl (Nat.le_of_ble_eq_true rfl) dX0_setRelease_13 ⟨Nat.zero_le _, Nat.zero_le _⟩ ?_
  refine g_aload_n E dX0_setRelease_16 rfl rfl ?_
  refine g_getR E inX0_setRelease rfl flX0_setRelease_16 dX0_setRelease_17 (by decide) rfl ?_
  refine g_iload_n E dX0_setRelease_20 rfl rfl ?_
  refine g_ald E dX0_setRelease_21 rfl rfl rfl (by omega) ?_
  refine g_istore_n E (lv' := [_, _, _, _]) dX0_setRelease_22 rfl (Nat.le_of_ble_eq_true rfl) rfl ?_
  refine g_aload_n E dX0_setRelease_23 rfl rfl ?_
  refine g_getR E inX0_setRelease rfl flX0_setRelease_16 dX0_setRelease_24 (by decide) rfl ?_
  refine g_iload_n E dX0_setRelease_27 rfl rfl ?_
  refine g_iload_n E dX0_setRelease_28 rfl rfl ?_
  refine g_ast E (A' := [_, _, _, _, _, _, _, _, _, _, _, _, _, _]) dX0_setRelease_29 rfl rfl rfl (by omega) rfl ?_
  refine g_iload_n E dX0_setRelease_30 rfl rfl ?_
  exact g_ri rfl hret dX0_setRelease_31
set_option maxHeartbeats 4000000 in
set_option maxRecDepth 100000 in
theorem cX_places {l : Launch} {D : va_G} {cI cZ : ClassId} {q : Nat} {r : Nat → Nat} {P Dn : Nat} {t la wa : Int} {f0 f1 f2 f3 f4 f5 f6 f7 f8 f9 f10 f11 f12 f13 : Nat → Int}  : gMI l yX0_places wsX0_places 6 D (gTy cI cZ) (gX cI cZ q r [(P : Int), (Dn : Int), t, la, wa] [f0, f1, f2, f3, f4, f5, f6, f7, f8, f9, f10, f11, f12, f13]) [.ref q] (P : Int) (gX cI cZ q r [(P : Int), (Dn : Int), t, la, wa] [f0, f1, f2, f3, f4, f5, f6, f7, f8, f9, f10, f11, f12, f13]) := by
  refine g_ofI (by decide +kernel) rfl rfl (Nat.le_of_ble_eq_true rfl) (g_cat1 rfl) rfl ?_
  intro p e s m args below meth c Q A0 E hret
  have hts := E.1.2.2.2.2
  show gJ p l e (gR 6) s m args below meth c 0 0 Q A0 D (gX cI cZ q r [(P : Int), (Dn : Int), t, la, wa] [f0, f1, f2, f3, f4, f5, f6, f7, f8, f9, f10, f11, f12, f13]) [some (.ref q)] 0 []
  refine g_aload_n E dX0_places_0 rfl rfl ?_
  refine g_getI E inX0_places rfl flX0_places_53 dX0_places_1 (by decide) rfl rfl ?_
  exact g_ri rfl hret dX0_places_4
set_option maxHeartbeats 4000000 in
set_option maxRecDepth 100000 in
theorem cX_doors {l : Launch} {D : va_G} {cI cZ : ClassId} {q : Nat} {r : Nat → Nat} {P Dn : Nat} {t la wa : Int} {f0 f1 f2 f3 f4 f5 f6 f7 f8 f9 f10 f11 f12 f13 : Nat → Int}  : gMI l yX0_doors wsX0_doors 6 D (gTy cI cZ) (gX cI cZ q r [(P : Int), (Dn : Int), t, la, wa] [f0, f1, f2, f3, f4, f5, f6, f7, f8, f9, f10, f11, f12, f13]) [.ref q] (Dn : Int) (gX cI cZ q r [(P : Int), (Dn : Int), t, la, wa] [f0, f1, f2, f3, f4, f5, f6, f7, f8, f9, f10, f11, f12, f13]) := by
  refine g_ofI (by decide +kernel) rfl rfl (Nat.le_of_ble_eq_true rfl) (g_cat1 rfl) rfl ?_
  intro p e s m args below meth c Q A0 E hret
  have hts := E.1.2.2.2.2
  show gJ p l e (gR 6) s m args below meth c 0 0 Q A0 D (gX cI cZ q r [(P : Int), (Dn : Int), t, la, wa] [f0, f1, f2, f3, f4, f5, f6, f7, f8, f9, f10, f11, f12, f13]) [some (.ref q)] 0 []
  refine g_aload_n E dX0_doors_0 rfl rfl ?_
  refine g_getI E inX0_doors rfl flX0_doors_78 dX0_doors_1 (by decide) rfl rfl ?_
  exact g_ri rfl hret dX0_doors_4
set_option maxHeartbeats 4000000 in
set_option maxRecDepth 100000 in
theorem cX_now {l : Launch} {D : va_G} {cI cZ : ClassId} {q : Nat} {r : Nat → Nat} {P Dn : Nat} {t la wa : Int} {f0 f1 f2 f3 f4 f5 f6 f7 f8 f9 f10 f11 f12 f13 : Nat → Int}  : gMI l yX0_now wsX0_now 6 D (gTy cI cZ) (gX cI cZ q r [(P : Int), (Dn : Int), t, la, wa] [f0, f1, f2, f3, f4, f5, f6, f7, f8, f9, f10, f11, f12, f13]) [.ref q] t (gX cI cZ q r [(P : Int), (Dn : Int), t, la, wa] [f0, f1, f2, f3, f4, f5, f6, f7, f8, f9, f10, f11, f12, f13]) := by
  refine g_ofI (by decide +kernel) rfl rfl (Nat.le_of_ble_eq_true rfl) (g_cat1 rfl) rfl ?_
  intro p e s m args below meth c Q A0 E hret
  have hts := E.1.2.2.2.2
  show gJ p l e (gR 6) s m args below meth c 0 0 Q A0 D (gX cI cZ q r [(P : Int), (Dn : Int), t, la, wa] [f0, f1, f2, f3, f4, f5, f6, f7, f8, f9, f10, f11, f12, f13]) [some (.ref q)] 0 []
  refine g_aload_n E dX0_now_0 rfl rfl ?_
  refine g_getI E inX0_now rfl flX0_now_99 dX0_now_1 (by decide) rfl rfl ?_
  exact g_ri rfl hret dX0_now_4
set_option maxHeartbeats 4000000 in
set_option maxRecDepth 100000 in
theorem cX_waited {l : Launch} {D : va_G} {cI cZ : ClassId} {q : Nat} {r : Nat → Nat} {P Dn : Nat} {t la wa : Int} {f0 f1 f2 f3 f4 f5 f6 f7 f8 f9 f10 f11 f12 f13 : Nat → Int}  : gMI l yX0_waited wsX0_waited 6 D (gTy cI cZ) (gX cI cZ q r [(P : Int), (Dn : Int), t, la, wa] [f0, f1, f2, f3, f4, f5, f6, f7, f8, f9, f10, f11, f12, f13]) [.ref q] wa (gX cI cZ q r [(P : Int), (Dn : Int), t, la, wa] [f0, f1, f2, f3, f4, f5, f6, f7, f8, f9, f10, f11, f12, f13]) := by
  refine g_ofI (by decide +kernel) rfl rfl (Nat.le_of_ble_eq_true rfl) (g_cat1 rfl) rfl ?_
  intro p e s m args below meth c Q A0 E hret
  have hts := E.1.2.2.2.2
  show gJ p l e (gR 6) s m args below meth c 0 0 Q A0 D (gX cI cZ q r [(P : Int), (Dn : Int), t, la, wa] [f0, f1, f2, f3, f4, f5, f6, f7, f8, f9, f10, f11, f12, f13]) [some (.ref q)] 0 []
  refine g_aload_n E dX0_waited_0 rfl rfl ?_
  refine g_getI E inX0_waited rfl flX0_waited_105 dX0_waited_1 (by decide) rfl rfl ?_
  exact g_ri rfl hret dX0_waited_4
set_option maxHeartbeats 4000000 in
set_option maxRecDepth 100000 in
theorem cX_people {l : Launch} {D : va_G} {cI cZ : ClassId} {q : Nat} {r : Nat → Nat} {P Dn : Nat} {t la wa : Int} {f0 f1 f2 f3 f4 f5 f6 f7 f8 f9 f10 f11 f12 f13 : Nat → Int} {i : Nat} (hP : 1 ≤ P ∧ P ≤ 11) (hi : i < P) : gMI l yX0_people wsX0_people 6 D (gTy cI cZ) (gX cI cZ q r [(P : Int), (Dn : Int), t, la, wa] [f0, f1, f2, f3, f4, f5, f6, f7, f8, f9, f10, f11, f12, f13]) [.ref q, .int (iI (i : Int))] (f1 i) (gX cI cZ q r [(P : Int), (Dn : Int), t, la, wa] [f0, f1, f2, f3, f4, f5, f6, f7, f8, f9, f10, f11, f12, f13]) := by
  refine g_ofI (by decide +kernel) rfl rfl (Nat.le_of_ble_eq_true rfl) (g_cat1 rfl) rfl ?_
  intro p e s m args below meth c Q A0 E hret
  have hts := E.1.2.2.2.2
  show gJ p l e (gR 6) s m args below meth c 0 0 Q A0 D (gX cI cZ q r [(P : Int), (Dn : Int), t, la, wa] [f0, f1, f2, f3, f4, f5, f6, f7, f8, f9, f10, f11, f12, f13]) [some (.ref q), some (.int (iI (i : Int)))] 0 []
  refine g_aload_n E dX0_people_0 rfl rfl ?_
  refine g_iload_n E dX0_people_1 rfl rfl ?_
  refine g_callV0 E (cX_requirePlace (by omega) (by omega)) (cwV 1 hts gX0_people_X0_requirePlace rfl rfl rfl hdX0_requirePlace ⟨(Nat.le_of_ble_eq_true rfl), (Nat.le_of_ble_eq_true rfl)⟩) rfl rfl rfl (Nat.le_of_ble_eq_true rfl) gW_0 rfl dX0_people_2 ⟨Nat.zero_le _, Nat.zero_le _⟩ ?_
  refine g_aload_n E dX0_people_5 rfl rfl ?_
  refine g_getR E inX0_people rfl flX0_people_13 dX0_people_6 (by decide) rfl ?_
  refine g_iload_n E dX0_people_9 rfl rfl ?_
  refine g_ald E dX0_people_10 rfl rfl rfl (by omega) ?_
  exact g_ri rfl hret dX0_people_11
set_option maxHeartbeats 4000000 in
set_option maxRecDepth 100000 in
theorem cX_passed {l : Launch} {D : va_G} {cI cZ : ClassId} {q : Nat} {r : Nat → Nat} {P Dn : Nat} {t la wa : Int} {f0 f1 f2 f3 f4 f5 f6 f7 f8 f9 f10 f11 f12 f13 : Nat → Int} {i : Nat} (hDn : Dn ≤ 16) (hi : i < Dn) : gMI l yX0_passed wsX0_passed 6 D (gTy cI cZ) (gX cI cZ q r [(P : Int), (Dn : Int), t, la, wa] [f0, f1, f2, f3, f4, f5, f6, f7, f8, f9, f10, f11, f12, f13]) [.ref q, .int (iI (i : Int))] (f10 i) (gX cI cZ q r [(P : Int), (Dn : Int), t, la, wa] [f0, f1, f2, f3, f4, f5, f6, f7, f8, f9, f10, f11, f12, f13]) := by
  refine g_ofI (by decide +kernel) rfl rfl (Nat.le_of_ble_eq_true rfl) (g_cat1 rfl) rfl ?_
  intro p e s m args below meth c Q A0 E hret
  have hts := E.1.2.2.2.2
  show gJ p l e (gR 6) s m args below meth c 0 0 Q A0 D (gX cI cZ q r [(P : Int), (Dn : Int), t, la, wa] [f0, f1, f2, f3, f4, f5, f6, f7, f8, f9, f10, f11, f12, f13]) [some (.ref q), some (.int (iI (i : Int)))] 0 []
  refine g_aload_n E dX0_passed_0 rfl rfl ?_
  refine g_iload_n E dX0_passed_1 rfl rfl ?_
  refine g_callV0 E (cX_requireDoor (by omega) hDn) (cwV 1 hts gX0_passed_X0_requireDoor rfl rfl rfl hdX0_requireDoor ⟨(Nat.le_of_ble_eq_true rfl), (Nat.le_of_ble_eq_true rfl)⟩) rfl rfl rfl (Nat.le_of_ble_eq_true rfl) gW_0 rfl dX0_passed_2 ⟨Nat.zero_le _, Nat.zero_le _⟩ ?_
  refine g_aload_n E dX0_passed_5 rfl rfl ?_
  refine g_getR E inX0_passed rfl flX0_passed_41 dX0_passed_6 (by decide) rfl ?_
  refine g_iload_n E dX0_passed_9 rfl rfl ?_
  refine g_ald E dX0_passed_10 rfl rfl rfl (by omega) ?_
  exact g_ri rfl hret dX0_passed_11
set_option maxHeartbeats 4000000 in
set_option maxRecDepth 100000 in
theorem cX_latest {l : Launch} {D : va_G} {cI cZ : ClassId} {q : Nat} {r : Nat → Nat} {P Dn : Nat} {t la wa : Int} {f0 f1 f2 f3 f4 f5 f6 f7 f8 f9 f10 f11 f12 f13 : Nat → Int} (hla : -2147483648 ≤ la ∧ la < 2147483648) (hne : la ≠ -1) : gMI l yX0_latest wsX0_latest 6 D (gTy cI cZ) (gX cI cZ q r [(P : Int), (Dn : Int), t, la, wa] [f0, f1, f2, f3, f4, f5, f6, f7, f8, f9, f10, f11, f12, f13]) [.ref q] la (gX cI cZ q r [(P : Int), (Dn : Int), t, la, wa] [f0, f1, f2, f3, f4, f5, f6, f7, f8, f9, f10, f11, f12, f13]) := by
  refine g_ofI (by decide +kernel) rfl rfl (Nat.le_of_ble_eq_true rfl) (g_cat1 rfl) rfl ?_
  intro p e s m args below meth c Q A0 E hret
  have hts := E.1.2.2.2.2
  show gJ p l e (gR 6) s m args below meth c 0 0 Q A0 D (gX cI cZ q r [(P : Int), (Dn : Int), t, la, wa] [f0, f1, f2, f3, f4, f5, f6, f7, f8, f9, f10, f11, f12, f13]) [some (.ref q)] 0 []
  refine g_aload_n E dX0_latest_0 rfl rfl ?_
  refine g_getI E inX0_latest rfl flX0_latest_57 dX0_latest_1 (by decide) rfl rfl ?_
  refine g_iconst E dX0_latest_4 ?_
  refine g_icmp_eq_f E dX0_latest_5 (tgt := 12) (by decide) (by omega) (by omega) ?_
  refine g_iconst E dX0_latest_8 ?_
  refine g_goto E dX0_latest_9 (tgt := 13) (by decide) ?_
  refine g_callSV E (cX_requireElement rfl) (va_cwS 1 hts gX0_latest_X0_requireElement rfl rfl rfl hdX0_requireElement.2 ⟨(Nat.le_of_ble_eq_true rfl), (Nat.le_of_ble_eq_true rfl)⟩) rfl rfl rfl (Nat.le_of_ble_eq_true rfl) dX0_latest_13 ⟨Nat.zero_le _, Nat.zero_le _⟩ ?_
  refine g_aload_n E dX0_latest_16 rfl rfl ?_
  refine g_getI E inX0_latest rfl flX0_latest_57 dX0_latest_17 (by decide) rfl rfl ?_
  exact g_ri rfl hret dX0_latest_20
set_option maxHeartbeats 4000000 in
set_option maxRecDepth 100000 in
theorem cX_distance {l : Launch} {D : va_G} {cI cZ : ClassId} {q : Nat} {r : Nat → Nat} {P Dn : Nat} {t la wa : Int} {f0 f1 f2 f3 f4 f5 f6 f7 f8 f9 f10 f11 f12 f13 : Nat → Int} {i : Nat} (hP : 1 ≤ P ∧ P ≤ 11) (hi : i < P) (hs3 : ∀ j : Nat, -2147483648 ≤ f3 j ∧ f3 j < 2147483648) (hne : f3 i ≠ -1) : gMI l yX0_distance wsX0_distance 6 D (gTy cI cZ) (gX cI cZ q r [(P : Int), (Dn : Int), t, la, wa] [f0, f1, f2, f3, f4, f5, f6, f7, f8, f9, f10, f11, f12, f13]) [.ref q, .int (iI (i : Int))] (f3 i) (gX cI cZ q r [(P : Int), (Dn : Int), t, la, wa] [f0, f1, f2, f3, f4, f5, f6, f7, f8, f9, f10, f11, f12, f13]) := by
  refine g_ofI (by decide +kernel) rfl rfl (Nat.le_of_ble_eq_true rfl) (g_cat1 rfl) rfl ?_
  intro p e s m args below meth c Q A0 E hret
  have hts := E.1.2.2.2.2
  show gJ p l e (gR 6) s m args below meth c 0 0 Q A0 D (gX cI cZ q r [(P : Int), (Dn : Int), t, la, wa] [f0, f1, f2, f3, f4, f5, f6, f7, f8, f9, f10, f11, f12, f13]) [some (.ref q), some (.int (iI (i : Int)))] 0 []
  have h3 := hs3 i
  refine g_aload_n E dX0_distance_0 rfl rfl ?_
  refine g_iload_n E dX0_distance_1 rfl rfl ?_
  refine g_callV0 E (cX_requirePlace (by omega) (by omega)) (cwV 1 hts gX0_distance_X0_requirePlace rfl rfl rfl hdX0_requirePlace ⟨(Nat.le_of_ble_eq_true rfl), (Nat.le_of_ble_eq_true rfl)⟩) rfl rfl rfl (Nat.le_of_ble_eq_true rfl) gW_0 rfl dX0_distance_2 ⟨Nat.zero_le _, Nat.zero_le _⟩ ?_
  refine g_aload_n E dX0_distance_5 rfl rfl ?_
  refine g_getR E inX0_distance rfl flX0_distance_19 dX0_distance_6 (by decide) rfl ?_
  refine g_iload_n E dX0_distance_9 rfl rfl ?_
  refine g_ald E dX0_distance_10 rfl rfl rfl (by omega) ?_
  refine g_iconst E dX0_distance_11 ?_
  refine g_icmp_eq_f E dX0_distance_12 (tgt := 19) (by decide) (by omega) (by omega) ?_
  refine g_iconst E dX0_distance_15 ?_
  refine g_goto E dX0_distance_16 (tgt := 20) (by decide) ?_
  refine g_callSV E (cX_requireElement rfl) (va_cwS 1 hts gX0_distance_X0_requireElement rfl rfl rfl hdX0_requireElement.2 ⟨(Nat.le_of_ble_eq_true rfl), (Nat.le_of_ble_eq_true rfl)⟩) rfl rfl rfl (Nat.le_of_ble_eq_true rfl) dX0_distance_20 ⟨Nat.zero_le _, Nat.zero_le _⟩ ?_
  refine g_aload_n E dX0_distance_23 rfl rfl ?_
  refine g_getR E inX0_distance rfl flX0_distance_19 dX0_distance_24 (by decide) rfl ?_
  refine g_iload_n E dX0_distance_27 rfl rfl ?_
  refine g_ald E dX0_distance_28 rfl rfl rfl (by omega) ?_
  exact g_ri rfl hret dX0_distance_29
set_option maxHeartbeats 4000000 in
set_option maxRecDepth 100000 in
theorem cX_door {l : Launch} {D : va_G} {cI cZ : ClassId} {q : Nat} {r : Nat → Nat} {P Dn : Nat} {t la wa : Int} {f0 f1 f2 f3 f4 f5 f6 f7 f8 f9 f10 f11 f12 f13 : Nat → Int} {i : Nat} (hP : 1 ≤ P ∧ P ≤ 11) (hi : i < P) (hs4 : ∀ j : Nat, -2147483648 ≤ f4 j ∧ f4 j < 2147483648) (hne : f4 i ≠ -1) : gMI l yX0_door wsX0_door 6 D (gTy cI cZ) (gX cI cZ q r [(P : Int), (Dn : Int), t, la, wa] [f0, f1, f2, f3, f4, f5, f6, f7, f8, f9, f10, f11, f12, f13]) [.ref q, .int (iI (i : Int))] (f4 i) (gX cI cZ q r [(P : Int), (Dn : Int), t, la, wa] [f0, f1, f2, f3, f4, f5, f6, f7, f8, f9, f10, f11, f12, f13]) := by
  refine g_ofI (by decide +kernel) rfl rfl (Nat.le_of_ble_eq_true rfl) (g_cat1 rfl) rfl ?_
  intro p e s m args below meth c Q A0 E hret
  have hts := E.1.2.2.2.2
  show gJ p l e (gR 6) s m args below meth c 0 0 Q A0 D (gX cI cZ q r [(P : Int), (Dn : Int), t, la, wa] [f0, f1, f2, f3, f4, f5, f6, f7, f8, f9, f10, f11, f12, f13]) [some (.ref q), some (.int (iI (i : Int)))] 0 []
  have h3 := hs4 i
  refine g_aload_n E dX0_door_0 rfl rfl ?_
  refine g_iload_n E dX0_door_1 rfl rfl ?_
  refine g_callV0 E (cX_requirePlace (by omega) (by omega)) (cwV 1 hts gX0_door_X0_requirePlace rfl rfl rfl hdX0_requirePlace ⟨(Nat.le_of_ble_eq_true rfl), (Nat.le_of_ble_eq_true rfl)⟩) rfl rfl rfl (Nat.le_of_ble_eq_true rfl) gW_0 rfl dX0_door_2 ⟨Nat.zero_le _, Nat.zero_le _⟩ ?_
  refine g_aload_n E dX0_door_5 rfl rfl ?_
  refine g_getR E inX0_door rfl flX0_door_22 dX0_door_6 (by decide) rfl ?_
  refine g_iload_n E dX0_door_9 rfl rfl ?_
  refine g_ald E dX0_door_10 rfl rfl rfl (by omega) ?_
  refine g_iconst E dX0_door_11 ?_
  refine g_icmp_eq_f E dX0_door_12 (tgt := 19) (by decide) (by omega) (by omega) ?_
  refine g_iconst E dX0_door_15 ?_
  refine g_goto E dX0_door_16 (tgt := 20) (by decide) ?_
  refine g_callSV E (cX_requireElement rfl) (va_cwS 1 hts gX0_door_X0_requireElement rfl rfl rfl hdX0_requireElement.2 ⟨(Nat.le_of_ble_eq_true rfl), (Nat.le_of_ble_eq_true rfl)⟩) rfl rfl rfl (Nat.le_of_ble_eq_true rfl) dX0_door_20 ⟨Nat.zero_le _, Nat.zero_le _⟩ ?_
  refine g_aload_n E dX0_door_23 rfl rfl ?_
  refine g_getR E inX0_door rfl flX0_door_22 dX0_door_24 (by decide) rfl ?_
  refine g_iload_n E dX0_door_27 rfl rfl ?_
  refine g_ald E dX0_door_28 rfl rfl rfl (by omega) ?_
  exact g_ri rfl hret dX0_door_29
set_option maxHeartbeats 4000000 in
set_option maxRecDepth 100000 in
theorem cX_wouldMove0 {l : Launch} {D : va_G} {cI cZ : ClassId} {q : Nat} {r : Nat → Nat} {P Dn : Nat} {t la wa : Int} {f0 f1 f2 f3 f4 f5 f6 f7 f8 f9 f10 f11 f12 f13 : Nat → Int} {i : Nat} (hP : 1 ≤ P ∧ P ≤ 11) (hDn : Dn ≤ 16) (hi : i < P) (hs4 : ∀ j : Nat, -2147483648 ≤ f4 j ∧ f4 j < 2147483648) (hne : ¬ (0 ≤ f4 i ∧ f4 i < Dn)) : gMI l yX0_wouldMove wsX0_wouldMove 6 D (gTy cI cZ) (gX cI cZ q r [(P : Int), (Dn : Int), t, la, wa] [f0, f1, f2, f3, f4, f5, f6, f7, f8, f9, f10, f11, f12, f13]) [.ref q, .int (iI (i : Int))] 0 (gX cI cZ q r [(P : Int), (Dn : Int), t, la, wa] [f0, f1, f2, f3, f4, f5, f6, f7, f8, f9, f10, f11, f12, f13]) := by
  refine g_ofI (by decide +kernel) rfl rfl (Nat.le_of_ble_eq_true rfl) (g_cat1 rfl) rfl ?_
  intro p e s m args below meth c Q A0 E hret
  have hts := E.1.2.2.2.2
  show gJ p l e (gR 6) s m args below meth c 0 0 Q A0 D (gX cI cZ q r [(P : Int), (Dn : Int), t, la, wa] [f0, f1, f2, f3, f4, f5, f6, f7, f8, f9, f10, f11, f12, f13]) [some (.ref q), some (.int (iI (i : Int))), none] 0 []
  have h3 := hs4 i
  refine g_aload_n E dX0_wouldMove_0 rfl rfl ?_
  refine g_iload_n E dX0_wouldMove_1 rfl rfl ?_
  refine g_callV0 E (cX_requirePlace (by omega) (by omega)) (cwV 1 hts gX0_wouldMove_X0_requirePlace rfl rfl rfl hdX0_requirePlace ⟨(Nat.le_of_ble_eq_true rfl), (Nat.le_of_ble_eq_true rfl)⟩) rfl rfl rfl (Nat.le_of_ble_eq_true rfl) gW_0 rfl dX0_wouldMove_2 ⟨Nat.zero_le _, Nat.zero_le _⟩ ?_
  refine g_aload_n E dX0_wouldMove_5 rfl rfl ?_
  refine g_getR E inX0_wouldMove rfl flX0_wouldMove_22 dX0_wouldMove_6 (by decide) rfl ?_
  refine g_iload_n E dX0_wouldMove_9 rfl rfl ?_
  refine g_ald E dX0_wouldMove_10 rfl rfl rfl (by omega) ?_
  refine g_istore_n E (lv' := [_, _, _]) dX0_wouldMove_11 rfl (Nat.le_of_ble_eq_true rfl) rfl ?_
  refine g_aload_n E dX0_wouldMove_12 rfl rfl ?_
  refine g_iload_n E dX0_wouldMove_13 rfl rfl ?_
  refine g_callI0 E (cX_isDoor (rv := 0) (by omega) (Or.inr ⟨rfl, by omega⟩)) (cwV 1 hts gX0_wouldMove_X0_isDoor rfl rfl rfl hdX0_isDoor ⟨(Nat.le_of_ble_eq_true rfl), (Nat.le_of_ble_eq_true rfl)⟩) rfl rfl rfl (Nat.le_of_ble_eq_true rfl) gW_0 rfl dX0_wouldMove_14 ⟨Nat.zero_le _, Nat.zero_le _⟩ ?_
  refine g_if_ne_f E dX0_wouldMove_17 (tgt := 22) (by decide) (by omega) (by omega) ?_
  refine g_iconst E dX0_wouldMove_20 ?_
  exact g_ri rfl hret dX0_wouldMove_21
set_option maxHeartbeats 4000000 in
set_option maxRecDepth 100000 in
theorem cX_wouldMove1 {l : Launch} {D : va_G} {cI cZ : ClassId} {q : Nat} {r : Nat → Nat} {P Dn : Nat} {t la wa : Int} {f0 f1 f2 f3 f4 f5 f6 f7 f8 f9 f10 f11 f12 f13 : Nat → Int} {i : Nat} (hP : 1 ≤ P ∧ P ≤ 11) (hDn : Dn ≤ 16) (hi : i < P) (ht : -2147483648 ≤ t ∧ t < 2147483647) (hs2 : ∀ j : Nat, -2147483648 ≤ f2 j ∧ f2 j < 2147483648) (hs4 : ∀ j : Nat, -2147483648 ≤ f4 j ∧ f4 j < 2147483648) (hs11 : ∀ j : Nat, -2147483648 ≤ f11 j ∧ f11 j < 2147483648) (hs12 : ∀ j : Nat, -2147483648 ≤ f12 j ∧ f12 j < 2147483648) (hpe : ∀ j : Nat, 1 ≤ j → j < P → 0 ≤ f1 j ∧ f1 j ≤ f0 j ∧ f0 j ≤ 30) (hp0 : 0 ≤ f1 0 ∧ f1 0 < 1073741824) (hfs : ∀ j : Nat, j < Dn → (1 ≤ f7 j ∧ f7 j ≤ 9) ∧ 1 ≤ f8 j ∧ f8 j ≤ 5) (hne : 0 ≤ f4 i ∧ f4 i < Dn) : gMI l yX0_wouldMove wsX0_wouldMove 6 D (gTy cI cZ) (gX cI cZ q r [(P : Int), (Dn : Int), t, la, wa] [f0, f1, f2, f3, f4, f5, f6, f7, f8, f9, f10, f11, f12, f13]) [.ref q, .int (iI (i : Int))] ((xG P Dn t f0 f1 f2 f7 f8 f11 f12 f13) (f4 i).toNat) (gX cI cZ q r [(P : Int), (Dn : Int), t, la, wa] [f0, f1, f2, f3, f4, f5, f6, f7, f8, f9, f10, f11, f12, (xG P Dn t f0 f1 f2 f7 f8 f11 f12 f13)]) := by
  refine g_ofI (by decide +kernel) rfl rfl (Nat.le_of_ble_eq_true rfl) (g_cat1 rfl) rfl ?_
  intro p e s m args below meth c Q A0 E hret
  have hts := E.1.2.2.2.2
  show gJ p l e (gR 6) s m args below meth c 0 0 Q A0 D (gX cI cZ q r [(P : Int), (Dn : Int), t, la, wa] [f0, f1, f2, f3, f4, f5, f6, f7, f8, f9, f10, f11, f12, f13]) [some (.ref q), some (.int (iI (i : Int))), none] 0 []
  have h3 := hs4 i
  refine g_aload_n E dX0_wouldMove_0 rfl rfl ?_
  refine g_iload_n E dX0_wouldMove_1 rfl rfl ?_
  refine g_callV0 E (cX_requirePlace (by omega) (by omega)) (cwV 1 hts gX0_wouldMove_X0_requirePlace rfl rfl rfl hdX0_requirePlace ⟨(Nat.le_of_ble_eq_true rfl), (Nat.le_of_ble_eq_true rfl)⟩) rfl rfl rfl (Nat.le_of_ble_eq_true rfl) gW_0 rfl dX0_wouldMove_2 ⟨Nat.zero_le _, Nat.zero_le _⟩ ?_
  refine g_aload_n E dX0_wouldMove_5 rfl rfl ?_
  refine g_getR E inX0_wouldMove rfl flX0_wouldMove_22 dX0_wouldMove_6 (by decide) rfl ?_
  refine g_iload_n E dX0_wouldMove_9 rfl rfl ?_
  refine g_ald E dX0_wouldMove_10 rfl rfl rfl (by omega) ?_
  refine g_istore_n E (lv' := [_, _, _]) dX0_wouldMove_11 rfl (Nat.le_of_ble_eq_true rfl) rfl ?_
  refine g_aload_n E dX0_wouldMove_12 rfl rfl ?_
  refine g_iload_n E dX0_wouldMove_13 rfl rfl ?_
  refine g_callI0 E (cX_isDoor (rv := 1) (by omega) (Or.inl ⟨rfl, by omega, by omega⟩)) (cwV 1 hts gX0_wouldMove_X0_isDoor rfl rfl rfl hdX0_isDoor ⟨(Nat.le_of_ble_eq_true rfl), (Nat.le_of_ble_eq_true rfl)⟩) rfl rfl rfl (Nat.le_of_ble_eq_true rfl) gW_0 rfl dX0_wouldMove_14 ⟨Nat.zero_le _, Nat.zero_le _⟩ ?_
  refine g_if_ne_t E dX0_wouldMove_17 (tgt := 22) (by decide) (by omega) (by omega) ?_
  refine g_aload_n E dX0_wouldMove_22 rfl rfl ?_
  refine g_callV0 E (cX_grantAll hP hDn ht hs2 hs11 hs12 hpe hp0 hfs) (cwV 0 hts gX0_wouldMove_X0_grantAll rfl rfl rfl hdX0_grantAll ⟨(Nat.le_of_ble_eq_true rfl), (Nat.le_of_ble_eq_true rfl)⟩) rfl rfl rfl (Nat.le_of_ble_eq_true rfl) gW_0 rfl dX0_wouldMove_23 ⟨Nat.zero_le _, Nat.zero_le _⟩ ?_
  refine g_aload_n E dX0_wouldMove_26 rfl rfl ?_
  refine g_getR E inX0_wouldMove rfl flX0_wouldMove_50 dX0_wouldMove_27 (by decide) rfl ?_
  refine g_iload_n E dX0_wouldMove_30 rfl rfl ?_
  refine g_ald E dX0_wouldMove_31 rfl rfl (i := (f4 i).toNat) (by omega) (by omega) ?_
  exact g_ri rfl hret dX0_wouldMove_32
