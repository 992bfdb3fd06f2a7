set_option maxRecDepth 100000 in
theorem flX0_findWays_22 : Cond.fieldLink RX0 22 (TX0 5).1 (TX0 5).2.1 (TX0 5).2.2.1 ∈ wsX0_findWays := by decide +kernel
set_option maxRecDepth 100000 in
theorem flX0_findWays_25 : Cond.fieldLink RX0 25 (TX0 7).1 (TX0 7).2.1 (TX0 7).2.2.1 ∈ wsX0_findWays := by decide +kernel
set_option maxRecDepth 100000 in
theorem flX0_findWays_28 : Cond.fieldLink RX0 28 (TX0 8).1 (TX0 8).2.1 (TX0 8).2.2.1 ∈ wsX0_findWays := by decide +kernel
set_option maxRecDepth 100000 in
theorem flX0_findWays_44 : Cond.fieldLink RX0 44 (TX0 13).1 (TX0 13).2.1 (TX0 13).2.2.1 ∈ wsX0_findWays := by decide +kernel
set_option maxRecDepth 100000 in
theorem flX0_findWays_47 : Cond.fieldLink RX0 47 (TX0 14).1 (TX0 14).2.1 (TX0 14).2.2.1 ∈ wsX0_findWays := by decide +kernel
set_option maxRecDepth 100000 in
theorem flX0_findWays_53 : Cond.fieldLink RX0 53 (TX0 0).1 (TX0 0).2.1 (TX0 0).2.2.1 ∈ wsX0_findWays := by decide +kernel
set_option maxRecDepth 100000 in
theorem flX0_findWays_78 : Cond.fieldLink RX0 78 (TX0 6).1 (TX0 6).2.1 (TX0 6).2.2.1 ∈ wsX0_findWays := by decide +kernel
set_option maxRecDepth 100000 in
theorem flX0_measureDistances_19 : Cond.fieldLink RX0 19 (TX0 4).1 (TX0 4).2.1 (TX0 4).2.2.1 ∈ wsX0_measureDistances := by decide +kernel
set_option maxRecDepth 100000 in
theorem flX0_measureDistances_25 : Cond.fieldLink RX0 25 (TX0 7).1 (TX0 7).2.1 (TX0 7).2.2.1 ∈ wsX0_measureDistances := by decide +kernel
set_option maxRecDepth 100000 in
theorem flX0_measureDistances_28 : Cond.fieldLink RX0 28 (TX0 8).1 (TX0 8).2.1 (TX0 8).2.2.1 ∈ wsX0_measureDistances := by decide +kernel
set_option maxRecDepth 100000 in
theorem flX0_measureDistances_37 : Cond.fieldLink RX0 37 (TX0 11).1 (TX0 11).2.1 (TX0 11).2.2.1 ∈ wsX0_measureDistances := by decide +kernel
set_option maxRecDepth 100000 in
theorem flX0_measureDistances_53 : Cond.fieldLink RX0 53 (TX0 0).1 (TX0 0).2.1 (TX0 0).2.2.1 ∈ wsX0_measureDistances := by decide +kernel
set_option maxRecDepth 100000 in
theorem flX0_measureDistances_78 : Cond.fieldLink RX0 78 (TX0 6).1 (TX0 6).2.1 (TX0 6).2.2.1 ∈ wsX0_measureDistances := by decide +kernel
set_option maxRecDepth 100000 in
theorem flX0_offerDoor_19 : Cond.fieldLink RX0 19 (TX0 4).1 (TX0 4).2.1 (TX0 4).2.2.1 ∈ wsX0_offerDoor := by decide +kernel
set_option maxRecDepth 100000 in
theorem flX0_offerDoor_22 : Cond.fieldLink RX0 22 (TX0 5).1 (TX0 5).2.1 (TX0 5).2.2.1 ∈ wsX0_offerDoor := by decide +kernel
set_option maxRecDepth 100000 in
theorem flX0_offerDoor_37 : Cond.fieldLink RX0 37 (TX0 11).1 (TX0 11).2.1 (TX0 11).2.2.1 ∈ wsX0_offerDoor := by decide +kernel
set_option maxRecDepth 100000 in
theorem flX0_offerDoor_44 : Cond.fieldLink RX0 44 (TX0 13).1 (TX0 13).2.1 (TX0 13).2.2.1 ∈ wsX0_offerDoor := by decide +kernel
set_option maxRecDepth 100000 in
theorem flX0_offerDoor_47 : Cond.fieldLink RX0 47 (TX0 14).1 (TX0 14).2.1 (TX0 14).2.2.1 ∈ wsX0_offerDoor := by decide +kernel
set_option maxRecDepth 100000 in
theorem flX0_reach_19 : Cond.fieldLink RX0 19 (TX0 4).1 (TX0 4).2.1 (TX0 4).2.2.1 ∈ wsX0_reach := by decide +kernel
set_option maxRecDepth 100000 in
theorem hdX0_measureDistances : yX0_measureDistances.cls = RX0 ∧ yX0_measureDistances.cls ≠ "java/lang/invoke/MethodHandle" ∧ yX0_measureDistances.cls ≠ "java/lang/invoke/VarHandle" ∧ (parseMethodDescriptor yX0_measureDistances.desc).map (fun d => d.parameters.length) = some 0 := by decide +kernel
set_option maxRecDepth 100000 in
theorem hdX0_offerDoor : yX0_offerDoor.cls = RX0 ∧ yX0_offerDoor.cls ≠ "java/lang/invoke/MethodHandle" ∧ yX0_offerDoor.cls ≠ "java/lang/invoke/VarHandle" ∧ (parseMethodDescriptor yX0_offerDoor.desc).map (fun d => d.parameters.length) = some 3 := by decide +kernel
set_option maxRecDepth 100000 in
theorem hdX0_reach : yX0_reach.cls = RX0 ∧ yX0_reach.cls ≠ "java/lang/invoke/MethodHandle" ∧ yX0_reach.cls ≠ "java/lang/invoke/VarHandle" ∧ (parseMethodDescriptor yX0_reach.desc).map (fun d => d.parameters.length) = some 3 := by decide +kernel
set_option maxRecDepth 100000 in
theorem inX0_findWays : ∀ w ∈ u_ws RX0 TX0 19, w ∈ wsX0_findWays := by decide +kernel
set_option maxRecDepth 100000 in
theorem inX0_measureDistances : ∀ w ∈ u_ws RX0 TX0 19, w ∈ wsX0_measureDistances := by decide +kernel
set_option maxRecDepth 100000 in
theorem inX0_offerDoor : ∀ w ∈ u_ws RX0 TX0 19, w ∈ wsX0_offerDoor := by decide +kernel
set_option maxRecDepth 100000 in
theorem inX0_reach : ∀ w ∈ u_ws RX0 TX0 19, w ∈ wsX0_reach := by decide +kernel
set_option maxHeartbeats 4000000 in
set_option maxRecDepth 100000 in
theorem cX_reach {l : Launch} {D : va_G} {cI cZ : ClassId} {q : Nat} {r : Nat → Nat} {P Dn : Nat} {t la wa : Int} {f0 f1 f2 f3 f4 f5 f6 f7 f8 f9 f10 f11 f12 f13 : Nat → Int} {x y d : Int} {a b : Nat} (hx : x = (a : Int) ∧ a < 11) (hy : y = (b : Int) ∧ b < 11) (hd : 1 ≤ d ∧ d ≤ 11) (hs3 : ∀ j : Nat, -2147483648 ≤ f3 j ∧ f3 j < 2147483648) : gMV l yX0_reach wsX0_reach 0 D (gTy cI cZ) (gX cI cZ q r [(P : Int), (Dn : Int), t, la, wa] [f0, f1, f2, f3, f4, f5, f6, f7, f8, f9, f10, f11, f12, f13]) [.ref q, .int (iI x), .int (iI y), .int (iI d)] (gX cI cZ q r [(P : Int), (Dn : Int), t, la, wa] [f0, f1, f2, pReach f3 a b d, f4, f5, f6, f7, f8, f9, f10, f11, f12, f13]) := by
  refine g_ofV (by decide +kernel) rfl rfl (Nat.le_of_ble_eq_true rfl) (g_cat1 rfl) ?_
  intro p e s m args below meth c Q A0 E hret
  have hts := E.1.2.2.2.2
  show gJ p l e (gR 0) s m args below meth c 0 0 Q A0 D (gX cI cZ q r [(P : Int), (Dn : Int), t, la, wa] [f0, f1, f2, f3, f4, f5, f6, f7, f8, f9, f10, f11, f12, f13]) [some (.ref q), some (.int (iI x)), some (.int (iI y)), some (.int (iI d))] 0 []
  obtain ⟨rfl, ha⟩ := hx
  obtain ⟨rfl, hb⟩ := hy
  have h3a := hs3 a
  have h3b := hs3 b
  refine g_aload_n E dX0_reach_0 rfl rfl ?_
  refine g_getR E inX0_reach rfl flX0_reach_19 dX0_reach_1 (by decide) rfl ?_
  refine g_iload_n E dX0_reach_4 rfl rfl ?_
  refine g_ald E dX0_reach_5 rfl rfl rfl (by omega) ?_
  refine g_iconst E dX0_reach_6 ?_
  refine g_icmp_ne E dX0_reach_7 (tgt := 29) (by decide) (by omega) (fun h1 => ?_) (fun h1 => ?_)
  · have e9 : pReach f3 a b d = f3 := if_neg (fun h => h1 (by omega))
    rw [e9] at hret
    exact hret _ _ dX0_reach_29
  · refine g_aload_n E dX0_reach_10 rfl rfl ?_
    refine g_getR E inX0_reach rfl flX0_reach_19 dX0_reach_11 (by decide) rfl ?_
    refine g_iload_n E dX0_reach_14 rfl rfl ?_
    refine g_ald E dX0_reach_15 rfl rfl rfl (by omega) ?_
    refine g_iload_n E dX0_reach_16 rfl rfl ?_
    refine g_iconst E dX0_reach_17 ?_
    refine g_isub E dX0_reach_18 ?_
    refine g_icmp_ne E dX0_reach_19 (tgt := 29) (by decide) (by omega) (fun h2 => ?_) (fun h2 => ?_)
    · have e9 : pReach f3 a b d = f3 := if_neg (fun h => h2 (by omega))
      rw [e9] at hret
      exact hret _ _ dX0_reach_29
    · have e9 : pReach f3 a b d = gu f3 a d := if_pos ⟨by omega, by omega⟩
      rw [e9] at hret
      refine g_aload_n E dX0_reach_22 rfl rfl ?_
      refine g_getR E inX0_reach rfl flX0_reach_19 dX0_reach_23 (by decide) rfl ?_
      refine g_iload_n E dX0_reach_26 rfl rfl ?_
      refine g_iload_n E dX0_reach_27 rfl rfl ?_
      refine g_ast E (A' := [_, _, _, _, _, _, _, _, _, _, _, _, _, _]) dX0_reach_28 rfl rfl rfl (by omega) rfl ?_
      exact hret _ _ dX0_reach_29
set_option maxHeartbeats 4000000 in
set_option maxRecDepth 100000 in
theorem cX_measureDistances {l : Launch} {D : va_G} {cI cZ : ClassId} {q : Nat} {r : Nat → Nat} {P Dn : Nat} {t la wa : Int} {f0 f1 f2 f3 f4 f5 f6 f7 f8 f9 f10 f11 f12 f13 : Nat → Int} (hP : 1 ≤ P ∧ P ≤ 11) (hDn : Dn ≤ 16) (hs3 : ∀ j : Nat, -2147483648 ≤ f3 j ∧ f3 j < 2147483648) (hs9 : ∀ j : Nat, -2147483648 ≤ f9 j ∧ f9 j < 2147483648) (he5 : ∀ j : Nat, j < Dn → 0 ≤ f5 j ∧ f5 j < P) (he6 : ∀ j : Nat, j < Dn → 0 ≤ f6 j ∧ f6 j < P) : gMV l yX0_measureDistances wsX0_measureDistances 1 D (gTy cI cZ) (gX cI cZ q r [(P : Int), (Dn : Int), t, la, wa] [f0, f1, f2, f3, f4, f5, f6, f7, f8, f9, f10, f11, f12, f13]) [.ref q] (gX cI cZ q r [(P : Int), (Dn : Int), t, la, wa] [f0, f1, f2, pDist f5 f6 f9 P Dn f3, f4, f5, f6, f7, f8, f9, f10, f11, f12, f13]) := by
  refine g_ofV (by decide +kernel) rfl rfl (Nat.le_of_ble_eq_true rfl) (g_cat1 rfl) ?_
  intro p e s m args below meth c Q A0 E hret
  have hts := E.1.2.2.2.2
  show gJ p l e (gR 1) s m args below meth c 0 0 Q A0 D (gX cI cZ q r [(P : Int), (Dn : Int), t, la, wa] [f0, f1, f2, f3, f4, f5, f6, f7, f8, f9, f10, f11, f12, f13]) [some (.ref q), none, none] 0 []
  have hB0 : gB (pN (gu f3 0 0) P) := pN_B (gu_B hs3 (by omega)) P
  have key3 : ∀ k : Nat, k ≤ P → (1 ≤ k → ∀ a : Option Value, gJ p l e (gR 1) s m args below meth c 0 0 Q A0 D (gX cI cZ q r [(P : Int), (Dn : Int), t, la, wa] [f0, f1, f2, pMs f5 f6 f9 Dn (pN (gu f3 0 0) P) k, f4, f5, f6, f7, f8, f9, f10, f11, f12, f13]) [some (.ref q), some (.int (iI k)), a] 32 []) := by
    refine g_loop _ P ?_ ?_
    · intro _ a
      refine g_iload_n E dX0_measureDistances_32 rfl rfl ?_
      refine g_aload_n E dX0_measureDistances_33 rfl rfl ?_
      refine g_getI E inX0_measureDistances rfl flX0_measureDistances_53 dX0_measureDistances_34 (by decide) rfl rfl ?_
      refine g_icmp_ge_t E dX0_measureDistances_37 (tgt := 105) (by decide) (by omega) (by omega) ?_
      exact hret _ _ dX0_measureDistances_105
    · intro d hd ih h1 a
      have hB1 : gB (pMs f5 f6 f9 Dn (pN (gu f3 0 0) P) d) := pMs_B hB0 d (by omega)
      have key2 : ∀ k : Nat, k ≤ Dn → gJ p l e (gR 1) s m args below meth c 0 0 Q A0 D (gX cI cZ q r [(P : Int), (Dn : Int), t, la, wa] [f0, f1, f2, pRd f5 f6 f9 (d : Int) (pMs f5 f6 f9 Dn (pN (gu f3 0 0) P) d) k, f4, f5, f6, f7, f8, f9, f10, f11, f12, f13]) [some (.ref q), some (.int (iI d)), some (.int (iI k))] 42 [] := by
        refine g_loop _ Dn ?_ ?_
        · refine g_iload_n E dX0_measureDistances_42 rfl rfl ?_
          refine g_aload_n E dX0_measureDistances_43 rfl rfl ?_
          refine g_getI E inX0_measureDistances rfl flX0_measureDistances_78 dX0_measureDistances_44 (by decide) rfl rfl ?_
          refine g_icmp_ge_t E dX0_measureDistances_47 (tgt := 99) (by decide) (by omega) (by omega) ?_
          refine g_iinc E (lv' := [_, _, _]) dX0_measureDistances_99 rfl rfl ?_
          refine g_goto E dX0_measureDistances_102 (tgt := 32) (by decide) ?_
          exact g_eq (ih (by omega) _) (by rw [pMs_s h1]) rfl rfl
        · intro k hk ih2
          have h5 := he5 k hk
          have h6 := he6 k hk
          have hB2 : gB (pRd f5 f6 f9 (d : Int) (pMs f5 f6 f9 Dn (pN (gu f3 0 0) P) d) k) := pRd_B hB1 (by omega) k
          have h9 := hs9 k
          refine g_iload_n E dX0_measureDistances_42 rfl rfl ?_
          refine g_aload_n E dX0_measureDistances_43 rfl rfl ?_
          refine g_getI E inX0_measureDistances rfl flX0_measureDistances_78 dX0_measureDistances_44 (by decide) rfl rfl ?_
          refine g_icmp_ge_f E dX0_measureDistances_47 (tgt := 99) (by decide) (by omega) (by omega) ?_
          refine g_aload_n E dX0_measureDistances_50 rfl rfl ?_
          refine g_getR E inX0_measureDistances rfl flX0_measureDistances_37 dX0_measureDistances_51 (by decide) rfl ?_
          refine g_iload_n E dX0_measureDistances_54 rfl rfl ?_
          refine g_zld E dX0_measureDistances_55 rfl rfl rfl (by omega) ?_
          refine g_if_eq E dX0_measureDistances_56 (tgt := 93) (by decide) (by omega) (fun h7 => ?_) (fun h7 => ?_)
          · refine g_iinc E (lv' := [_, _, _]) dX0_measureDistances_93 rfl rfl ?_
            refine g_goto E dX0_measureDistances_96 (tgt := 42) (by decide) ?_
            exact g_eq ih2 (by rw [pRd_0 h7]) rfl rfl
          · refine g_aload_n E dX0_measureDistances_59 rfl rfl ?_
            refine g_aload_n E dX0_measureDistances_60 rfl rfl ?_
            refine g_getR E inX0_measureDistances rfl flX0_measureDistances_25 dX0_measureDistances_61 (by decide) rfl ?_
            refine g_iload_n E dX0_measureDistances_64 rfl rfl ?_
            refine g_ald E dX0_measureDistances_65 rfl rfl rfl (by omega) ?_
            refine g_aload_n E dX0_measureDistances_66 rfl rfl ?_
            refine g_getR E inX0_measureDistances rfl flX0_measureDistances_28 dX0_measureDistances_67 (by decide) rfl ?_
            refine g_iload_n E dX0_measureDistances_70 rfl rfl ?_
            refine g_ald E dX0_measureDistances_71 rfl rfl rfl (by omega) ?_
            refine g_iload_n E dX0_measureDistances_72 rfl rfl ?_
            refine g_callV0 E (cX_reach (a := (f5 k).toNat) (b := (f6 k).toNat) ⟨by omega, by omega⟩ ⟨by omega, by omega⟩ (by omega) hB2) (cwV 3 hts gX0_measureDistances_X0_reach rfl rfl rfl hdX0_reach ⟨(Nat.le_of_ble_eq_true rfl), (Nat.le_of_ble_eq_true rfl)⟩) rfl rfl rfl (Nat.le_of_ble_eq_true rfl) gW_0 rfl dX0_measureDistances_73 ⟨Nat.zero_le _, Nat.zero_le _⟩ ?_
            refine g_aload_n E dX0_measureDistances_76 rfl rfl ?_
            refine g_aload_n E dX0_measureDistances_77 rfl rfl ?_
            refine g_getR E inX0_measureDistances rfl flX0_measureDistances_28 dX0_measureDistances_78 (by decide) rfl ?_
            refine g_iload_n E dX0_measureDistances_81 rfl rfl ?_
            refine g_ald E dX0_measureDistances_82 rfl rfl rfl (by omega) ?_
            refine g_aload_n E dX0_measureDistances_83 rfl rfl ?_
            refine g_getR E inX0_measureDistances rfl flX0_measureDistances_25 dX0_measureDistances_84 (by decide) rfl ?_
            refine g_iload_n E dX0_measureDistances_87 rfl rfl ?_
            refine g_ald E dX0_measureDistances_88 rfl rfl rfl (by omega) ?_
            refine g_iload_n E dX0_measureDistances_89 rfl rfl ?_
            refine g_callV0 E (cX_reach (a := (f6 k).toNat) (b := (f5 k).toNat) ⟨by omega, by omega⟩ ⟨by omega, by omega⟩ (by omega) (pReach_B hB2 (by omega))) (cwV 3 hts gX0_measureDistances_X0_reach rfl rfl rfl hdX0_reach ⟨(Nat.le_of_ble_eq_true rfl), (Nat.le_of_ble_eq_true rfl)⟩) rfl rfl rfl (Nat.le_of_ble_eq_true rfl) gW_0 rfl dX0_measureDistances_90 ⟨Nat.zero_le _, Nat.zero_le _⟩ ?_
            refine g_iinc E (lv' := [_, _, _]) dX0_measureDistances_93 rfl rfl ?_
            refine g_goto E dX0_measureDistances_96 (tgt := 42) (by decide) ?_
            exact g_eq ih2 (by rw [pRd_1 h7]) rfl rfl
      refine g_iload_n E dX0_measureDistances_32 rfl rfl ?_
      refine g_aload_n E dX0_measureDistances_33 rfl rfl ?_
      refine g_getI E inX0_measureDistances rfl flX0_measureDistances_53 dX0_measureDistances_34 (by decide) rfl rfl ?_
      refine g_icmp_ge_f E dX0_measureDistances_37 (tgt := 105) (by decide) (by omega) (by omega) ?_
      refine g_iconst E dX0_measureDistances_40 ?_
      refine g_istore_n E (lv' := [_, _, _]) dX0_measureDistances_41 rfl (Nat.le_of_ble_eq_true rfl) rfl ?_
      exact key2 0 (by omega)
  have key1 : ∀ k : Nat, k ≤ P → (1 ≤ k → gJ p l e (gR 1) s m args below meth c 0 0 Q A0 D (gX cI cZ q r [(P : Int), (Dn : Int), t, la, wa] [f0, f1, f2, pN (gu f3 0 0) k, f4, f5, f6, f7, f8, f9, f10, f11, f12, f13]) [some (.ref q), some (.int (iI k)), none] 9 []) := by
    refine g_loop _ P ?_ ?_
    · intro _
      refine g_iload_n E dX0_measureDistances_9 rfl rfl ?_
      refine g_aload_n E dX0_measureDistances_10 rfl rfl ?_
      refine g_getI E inX0_measureDistances rfl flX0_measureDistances_53 dX0_measureDistances_11 (by decide) rfl rfl ?_
      refine g_icmp_ge_t E dX0_measureDistances_14 (tgt := 30) (by decide) (by omega) (by omega) ?_
      refine g_iconst E dX0_measureDistances_30 ?_
      refine g_istore_n E (lv' := [_, _, _]) dX0_measureDistances_31 rfl (Nat.le_of_ble_eq_true rfl) rfl ?_
      exact key3 1 (by omega) (by omega) _
    · intro k hk ih h1
      refine g_iload_n E dX0_measureDistances_9 rfl rfl ?_
      refine g_aload_n E dX0_measureDistances_10 rfl rfl ?_
      refine g_getI E inX0_measureDistances rfl flX0_measureDistances_53 dX0_measureDistances_11 (by decide) rfl rfl ?_
      refine g_icmp_ge_f E dX0_measureDistances_14 (tgt := 30) (by decide) (by omega) (by omega) ?_
      refine g_aload_n E dX0_measureDistances_17 rfl rfl ?_
      refine g_getR E inX0_measureDistances rfl flX0_measureDistances_19 dX0_measureDistances_18 (by decide) rfl ?_
      refine g_iload_n E dX0_measureDistances_21 rfl rfl ?_
      refine g_iconst E dX0_measureDistances_22 ?_
      refine g_ast E (A' := [_, _, _, _, _, _, _, _, _, _, _, _, _, _]) dX0_measureDistances_23 rfl rfl rfl (by omega) rfl ?_
      refine g_iinc E (lv' := [_, _, _]) dX0_measureDistances_24 rfl rfl ?_
      refine g_goto E dX0_measureDistances_27 (tgt := 9) (by decide) ?_
      exact g_eq (ih (by omega)) (by rw [pN_s h1]) rfl rfl
  refine g_aload_n E dX0_measureDistances_0 rfl rfl ?_
  refine g_getR E inX0_measureDistances rfl flX0_measureDistances_19 dX0_measureDistances_1 (by decide) rfl ?_
  refine g_iconst E dX0_measureDistances_4 ?_
  refine g_iconst E dX0_measureDistances_5 ?_
  refine g_ast E (A' := [_, _, _, _, _, _, _, _, _, _, _, _, _, _]) dX0_measureDistances_6 rfl rfl (i := 0) rfl (by omega) rfl ?_
  refine g_iconst E dX0_measureDistances_7 ?_
  refine g_istore_n E (lv' := [_, _, _]) dX0_measureDistances_8 rfl (Nat.le_of_ble_eq_true rfl) rfl ?_
  exact key1 1 (by omega) (by omega)
set_option maxHeartbeats 4000000 in
set_option maxRecDepth 100000 in
theorem cX_offerDoor {l : Launch} {D : va_G} {cI cZ : ClassId} {q : Nat} {r : Nat → Nat} {P Dn : Nat} {t la wa : Int} {f0 f1 f2 f3 f4 f5 f6 f7 f8 f9 f10 f11 f12 f13 : Nat → Int} {x y : Int} {k a b : Nat} (hk : k < 16) (hx : x = (a : Int) ∧ a < 11) (hy : y = (b : Int) ∧ b < 11) (hs3 : ∀ j : Nat, -2147483648 ≤ f3 j ∧ f3 j < 2147483648) (hs4 : ∀ j : Nat, -2147483648 ≤ f4 j ∧ f4 j < 2147483648) (hs9 : ∀ j : Nat, -2147483648 ≤ f9 j ∧ f9 j < 2147483648) : gMV l yX0_offerDoor wsX0_offerDoor 0 D (gTy cI cZ) (gX cI cZ q r [(P : Int), (Dn : Int), t, la, wa] [f0, f1, f2, f3, f4, f5, f6, f7, f8, f9, f10, f11, f12, f13]) [.ref q, .int (iI (k : Int)), .int (iI x), .int (iI y)] (gX cI cZ q r [(P : Int), (Dn : Int), t, la, wa] [f0, f1, f2, f3, (pOf f3 (f9 k) k a b (f4, f11, f12)).1, f5, f6, f7, f8, f9, f10, (pOf f3 (f9 k) k a b (f4, f11, f12)).2.1, (pOf f3 (f9 k) k a b (f4, f11, f12)).2.2, f13]) := by
  refine g_ofV (by decide +kernel) rfl rfl (Nat.le_of_ble_eq_true rfl) (g_cat1 rfl) ?_
  intro p e s m args below meth c Q A0 E hret
  have hts := E.1.2.2.2.2
  show gJ p l e (gR 0) s m args below meth c 0 0 Q A0 D (gX cI cZ q r [(P : Int), (Dn : Int), t, la, wa] [f0, f1, f2, f3, f4, f5, f6, f7, f8, f9, f10, f11, f12, f13]) [some (.ref q), some (.int (iI (k : Int))), some (.int (iI x)), some (.int (iI y)), none] 0 []
  obtain ⟨rfl, ha⟩ := hx
  obtain ⟨rfl, hb⟩ := hy
  have h3a := hs3 a
  have h3b := hs3 b
  have h4a := hs4 a
  have h9 := hs9 k
  have no : ∀ lv4 : Option Value, ¬ (f9 k ≠ 0 ∧ 1 ≤ f3 a ∧ f3 b = f3 a - 1) → gJ p l e (gR 0) s m args below meth c 0 0 Q A0 D (gX cI cZ q r [(P : Int), (Dn : Int), t, la, wa] [f0, f1, f2, f3, f4, f5, f6, f7, f8, f9, f10, f11, f12, f13]) [some (.ref q), some (.int (iI (k : Int))), some (.int (iI (a : Int))), some (.int (iI (b : Int))), lv4] 40 [] := by
    intro lv4 hn
    have e9 : pOf f3 (f9 k) k a b (f4, f11, f12) = (f4, f11, f12) := if_neg (fun h => hn h.1)
    rw [e9] at hret
    refine g_iconst E dX0_offerDoor_40 ?_
    refine g_istore E (lv' := [_, _, _, _, _]) dX0_offerDoor_41 (Nat.le_of_ble_eq_true rfl) rfl ?_
    refine g_iload E dX0_offerDoor_43 rfl ?_
    refine g_if_eq_t E dX0_offerDoor_45 (tgt := 79) (by decide) (by omega) (by omega) ?_
    exact hret _ _ dX0_offerDoor_79
  refine g_aload_n E dX0_offerDoor_0 rfl rfl ?_
  refine g_getR E inX0_offerDoor rfl flX0_offerDoor_37 dX0_offerDoor_1 (by decide) rfl ?_
  refine g_iload_n E dX0_offerDoor_4 rfl rfl ?_
  refine g_zld E dX0_offerDoor_5 rfl rfl rfl (by omega) ?_
  refine g_if_eq E dX0_offerDoor_6 (tgt := 40) (by decide) (by omega) (fun h1 => ?_) (fun h1 => ?_)
  · exact no _ (fun h => h.1 h1)
  · refine g_aload_n E dX0_offerDoor_9 rfl rfl ?_
    refine g_getR E inX0_offerDoor rfl flX0_offerDoor_19 dX0_offerDoor_10 (by decide) rfl ?_
    refine g_iload_n E dX0_offerDoor_13 rfl rfl ?_
    refine g_ald E dX0_offerDoor_14 rfl rfl rfl (by omega) ?_
    refine g_iconst E dX0_offerDoor_15 ?_
    refine g_icmp_lt E dX0_offerDoor_16 (tgt := 40) (by decide) (by omega) (fun h2 => ?_) (fun h2 => ?_)
    · exact no _ (by omega)
    · refine g_aload_n E dX0_offerDoor_19 rfl rfl ?_
      refine g_getR E inX0_offerDoor rfl flX0_offerDoor_19 dX0_offerDoor_20 (by decide) rfl ?_
      refine g_iload_n E dX0_offerDoor_23 rfl rfl ?_
      refine g_ald E dX0_offerDoor_24 rfl rfl rfl (by omega) ?_
      refine g_aload_n E dX0_offerDoor_25 rfl rfl ?_
      refine g_getR E inX0_offerDoor rfl flX0_offerDoor_19 dX0_offerDoor_26 (by decide) rfl ?_
      refine g_iload_n E dX0_offerDoor_29 rfl rfl ?_
      refine g_ald E dX0_offerDoor_30 rfl rfl rfl (by omega) ?_
      refine g_iconst E dX0_offerDoor_31 ?_
      refine g_isub E dX0_offerDoor_32 ?_
      refine g_icmp_ne E dX0_offerDoor_33 (tgt := 40) (by decide) (by omega) (fun h3 => ?_) (fun h3 => ?_)
      · exact no _ (by omega)
      · refine g_iconst E dX0_offerDoor_36 ?_
        refine g_goto E dX0_offerDoor_37 (tgt := 41) (by decide) ?_
        refine g_istore E (lv' := [_, _, _, _, _]) dX0_offerDoor_41 (Nat.le_of_ble_eq_true rfl) rfl ?_
        refine g_iload E dX0_offerDoor_43 rfl ?_
        refine g_if_eq_f E dX0_offerDoor_45 (tgt := 79) (by decide) (by omega) (by omega) ?_
        refine g_aload_n E dX0_offerDoor_48 rfl rfl ?_
        refine g_getR E inX0_offerDoor rfl flX0_offerDoor_22 dX0_offerDoor_49 (by decide) rfl ?_
        refine g_iload_n E dX0_offerDoor_52 rfl rfl ?_
        refine g_ald E dX0_offerDoor_53 rfl rfl rfl (by omega) ?_
        refine g_iconst E dX0_offerDoor_54 ?_
        refine g_icmp_ne E dX0_offerDoor_55 (tgt := 79) (by decide) (by omega) (fun h4 => ?_) (fun h4 => ?_)
        · have e9 : pOf f3 (f9 k) k a b (f4, f11, f12) = (f4, f11, f12) := if_neg (fun h => h4 (by have := h.2; simpa using this))
          rw [e9] at hret
          exact hret _ _ dX0_offerDoor_79
        · have e9 : pOf f3 (f9 k) k a b (f4, f11, f12) = (gu f4 a (k : Int), gu f11 k (a : Int), gu f12 k (b : Int)) := if_pos ⟨⟨h1, by omega, by omega⟩, h4⟩
          rw [e9] at hret
          refine g_aload_n E dX0_offerDoor_58 rfl rfl ?_
          refine g_getR E inX0_offerDoor rfl flX0_offerDoor_22 dX0_offerDoor_59 (by decide) rfl ?_
          refine g_iload_n E dX0_offerDoor_62 rfl rfl ?_
          refine g_iload_n E dX0_offerDoor_63 rfl rfl ?_
          refine g_ast E (A' := [_, _, _, _, _, _, _, _, _, _, _, _, _, _]) dX0_offerDoor_64 rfl rfl rfl (by omega) rfl ?_
          refine g_aload_n E dX0_offerDoor_65 rfl rfl ?_
          refine g_getR E inX0_offerDoor rfl flX0_offerDoor_44 dX0_offerDoor_66 (by decide) rfl ?_
          refine g_iload_n E dX0_offerDoor_69 rfl rfl ?_
          refine g_iload_n E dX0_offerDoor_70 rfl rfl ?_
          refine g_ast E (A' := [_, _, _, _, _, _, _, _, _, _, _, _, _, _]) dX0_offerDoor_71 rfl rfl rfl (by omega) rfl ?_
          refine g_aload_n E dX0_offerDoor_72 rfl rfl ?_
          refine g_getR E inX0_offerDoor rfl flX0_offerDoor_47 dX0_offerDoor_73 (by decide) rfl ?_
          refine g_iload_n E dX0_offerDoor_76 rfl rfl ?_
          refine g_iload_n E dX0_offerDoor_77 rfl rfl ?_
          refine g_ast E (A' := [_, _, _, _, _, _, _, _, _, _, _, _, _, _]) dX0_offerDoor_78 rfl rfl rfl (by omega) rfl ?_
          exact hret _ _ dX0_offerDoor_79
set_option maxHeartbeats 4000000 in
set_option maxRecDepth 100000 in
theorem cX_findWays {l : Launch} {D : va_G} {cI cZ : ClassId} {q : Nat} {r : Nat → Nat} {P Dn : Nat} {t la wa : Int} {f0 f1 f2 f3 f4 f5 f6 f7 f8 f9 f10 f11 f12 f13 : Nat → Int} (hP : 1 ≤ P ∧ P ≤ 11) (hDn : Dn ≤ 16) (hs3 : ∀ j : Nat, -2147483648 ≤ f3 j ∧ f3 j < 2147483648) (hs4 : ∀ j : Nat, -2147483648 ≤ f4 j ∧ f4 j < 2147483648) (hs9 : ∀ j : Nat, -2147483648 ≤ f9 j ∧ f9 j < 2147483648) (he5 : ∀ j : Nat, j < Dn → 0 ≤ f5 j ∧ f5 j < P) (he6 : ∀ j : Nat, j < Dn → 0 ≤ f6 j ∧ f6 j < P) : gMV l yX0_findWays wsX0_findWays 2 D (gTy cI cZ) (gX cI cZ q r [(P : Int), (Dn : Int), t, la, wa] [f0, f1, f2, f3, f4, f5, f6, f7, f8, f9, f10, f11, f12, f13]) [.ref q] (gX cI cZ q r [(P : Int), (Dn : Int), t, la, wa] [f0, f1, f2, pDist f5 f6 f9 P Dn f3, (pWays f5 f6 f9 (pDist f5 f6 f9 P Dn f3) P Dn (f4, f11, f12)).1, f5, f6, f7, f8, f9, f10, (pWays f5 f6 f9 (pDist f5 f6 f9 P Dn f3) P Dn (f4, f11, f12)).2.1, (pWays f5 f6 f9 (pDist f5 f6 f9 P Dn f3) P Dn (f4, f11, f12)).2.2, f13]) := by
  refine g_ofV (by decide +kernel) rfl rfl (Nat.le_of_ble_eq_true rfl) (g_cat1 rfl) ?_
  intro p e s m args below meth c Q A0 E hret
  have hts := E.1.2.2.2.2
  show gJ p l e (gR 2) s m args below meth c 0 0 Q A0 D (gX cI cZ q r [(P : Int), (Dn : Int), t, la, wa] [f0, f1, f2, f3, f4, f5, f6, f7, f8, f9, f10, f11, f12, f13]) [some (.ref q), none] 0 []
  have hB3 : gB (pDist f5 f6 f9 P Dn f3) := pDist_B hs3 hP.2
  have key2 : ∀ k : Nat, k ≤ Dn → gJ p l e (gR 2) s m args below meth c 0 0 Q A0 D (gX cI cZ q r [(P : Int), (Dn : Int), t, la, wa] [f0, f1, f2, pDist f5 f6 f9 P Dn f3, (pOff f5 f6 f9 (pDist f5 f6 f9 P Dn f3) (pM1 f4 P, f11, f12) k).1, f5, f6, f7, f8, f9, f10, (pOff f5 f6 f9 (pDist f5 f6 f9 P Dn f3) (pM1 f4 P, f11, f12) k).2.1, (pOff f5 f6 f9 (pDist f5 f6 f9 P Dn f3) (pM1 f4 P, f11, f12) k).2.2, f13]) [some (.ref q), some (.int (iI k))] 29 [] := by
    refine g_loop _ Dn ?_ ?_
    · refine g_iload_n E dX0_findWays_29 rfl rfl ?_
      refine g_aload_n E dX0_findWays_30 rfl rfl ?_
      refine g_getI E inX0_findWays rfl flX0_findWays_78 dX0_findWays_31 (by decide) rfl rfl ?_
      refine g_icmp_ge_t E dX0_findWays_34 (tgt := 91) (by decide) (by omega) (by omega) ?_
      exact hret _ _ dX0_findWays_91
    · intro k hk ih
      have h5 := he5 k hk
      have h6 := he6 k hk
      have hB4 : gB (pOff f5 f6 f9 (pDist f5 f6 f9 P Dn f3) (pM1 f4 P, f11, f12) k).1 := pOff_B (pM1_B hs4 P) k (by omega)
      refine g_iload_n E dX0_findWays_29 rfl rfl ?_
      refine g_aload_n E dX0_findWays_30 rfl rfl ?_
      refine g_getI E inX0_findWays rfl flX0_findWays_78 dX0_findWays_31 (by decide) rfl rfl ?_
      refine g_icmp_ge_f E dX0_findWays_34 (tgt := 91) (by decide) (by omega) (by omega) ?_
      refine g_aload_n E dX0_findWays_37 rfl rfl ?_
      refine g_getR E inX0_findWays rfl flX0_findWays_44 dX0_findWays_38 (by decide) rfl ?_
      refine g_iload_n E dX0_findWays_41 rfl rfl ?_
      refine g_iconst E dX0_findWays_42 ?_
      refine g_ast E (A' := [_, _, _, _, _, _, _, _, _, _, _, _, _, _]) dX0_findWays_43 rfl rfl rfl (by omega) rfl ?_
      refine g_aload_n E dX0_findWays_44 rfl rfl ?_
      refine g_getR E inX0_findWays rfl flX0_findWays_47 dX0_findWays_45 (by decide) rfl ?_
      refine g_iload_n E dX0_findWays_48 rfl rfl ?_
      refine g_iconst E dX0_findWays_49 ?_
      refine g_ast E (A' := [_, _, _, _, _, _, _, _, _, _, _, _, _, _]) dX0_findWays_50 rfl rfl rfl (by omega) rfl ?_
      refine g_aload_n E dX0_findWays_51 rfl rfl ?_
      refine g_iload_n E dX0_findWays_52 rfl rfl ?_
      refine g_aload_n E dX0_findWays_53 rfl rfl ?_
      refine g_getR E inX0_findWays rfl flX0_findWays_25 dX0_findWays_54 (by decide) rfl ?_
      refine g_iload_n E dX0_findWays_57 rfl rfl ?_
      refine g_ald E dX0_findWays_58 rfl rfl rfl (by omega) ?_
      refine g_aload_n E dX0_findWays_59 rfl rfl ?_
      refine g_getR E inX0_findWays rfl flX0_findWays_28 dX0_findWays_60 (by decide) rfl ?_
      refine g_iload_n E dX0_findWays_63 rfl rfl ?_
      refine g_ald E dX0_findWays_64 rfl rfl rfl (by omega) ?_
      refine g_callV0 E (cX_offerDoor (k := k) (a := (f5 k).toNat) (b := (f6 k).toNat) (by omega) ⟨by omega, by omega⟩ ⟨by omega, by omega⟩ hB3 hB4 hs9) (cwV 3 hts gX0_findWays_X0_offerDoor rfl rfl rfl hdX0_offerDoor ⟨(Nat.le_of_ble_eq_true rfl), (Nat.le_of_ble_eq_true rfl)⟩) rfl rfl rfl (Nat.le_of_ble_eq_true rfl) gW_0 rfl dX0_findWays_65 ⟨Nat.zero_le _, Nat.zero_le _⟩ ?_
      refine g_aload_n E dX0_findWays_68 rfl rfl ?_
      refine g_iload_n E dX0_findWays_69 rfl rfl ?_
      refine g_aload_n E dX0_findWays_70 rfl rfl ?_
      refine g_getR E inX0_findWays rfl flX0_findWays_28 dX0_findWays_71 (by decide) rfl ?_
      refine g_iload_n E dX0_findWays_74 rfl rfl ?_
      refine g_ald E dX0_findWays_75 rfl rfl rfl (by omega) ?_
      refine g_aload_n E dX0_findWays_76 rfl rfl ?_
      refine g_getR E inX0_findWays rfl flX0_findWays_25 dX0_findWays_77 (by decide) rfl ?_
      refine g_iload_n E dX0_findWays_80 rfl rfl ?_
      refine g_ald E dX0_findWays_81 rfl rfl rfl (by omega) ?_
      refine g_callV0 E (cX_offerDoor (k := k) (a := (f6 k).toNat) (b := (f5 k).toNat) (by omega) ⟨by omega, by omega⟩ ⟨by omega, by omega⟩ hB3 (pOf_B (by exact hB4) (by omega)) hs9) (cwV 3 hts gX0_findWays_X0_offerDoor rfl rfl rfl hdX0_offerDoor ⟨(Nat.le_of_ble_eq_true rfl), (Nat.le_of_ble_eq_true rfl)⟩) rfl rfl rfl (Nat.le_of_ble_eq_true rfl) gW_0 rfl dX0_findWays_82 ⟨Nat.zero_le _, Nat.zero_le _⟩ ?_
      refine g_iinc E (lv' := [_, _]) dX0_findWays_85 rfl rfl ?_
      refine g_goto E dX0_findWays_88 (tgt := 29) (by decide) ?_
      exact g_eq ih rfl rfl rfl
  have key1 : ∀ k : Nat, k ≤ P → gJ p l e (gR 2) s m args below meth c 0 0 Q A0 D (gX cI cZ q r [(P : Int), (Dn : Int), t, la, wa] [f0, f1, f2, pDist f5 f6 f9 P Dn f3, pM1 f4 k, f5, f6, f7, f8, f9, f10, f11, f12, f13]) [some (.ref q), some (.int (iI k))] 6 [] := by
    refine g_loop _ P ?_ ?_
    · refine g_iload_n E dX0_findWays_6 rfl rfl ?_
      refine g_aload_n E dX0_findWays_7 rfl rfl ?_
      refine g_getI E inX0_findWays rfl flX0_findWays_53 dX0_findWays_8 (by decide) rfl rfl ?_
      refine g_icmp_ge_t E dX0_findWays_11 (tgt := 27) (by decide) (by omega) (by omega) ?_
      refine g_iconst E dX0_findWays_27 ?_
      refine g_istore_n E (lv' := [_, _]) dX0_findWays_28 rfl (Nat.le_of_ble_eq_true rfl) rfl ?_
      exact key2 0 (by omega)
    · intro k hk ih
      refine g_iload_n E dX0_findWays_6 rfl rfl ?_
      refine g_aload_n E dX0_findWays_7 rfl rfl ?_
      refine g_getI E inX0_findWays rfl flX0_findWays_53 dX0_findWays_8 (by decide) rfl rfl ?_
      refine g_icmp_ge_f E dX0_findWays_11 (tgt := 27) (by decide) (by omega) (by omega) ?_
      refine g_aload_n E dX0_findWays_14 rfl rfl ?_
      refine g_getR E inX0_findWays rfl flX0_findWays_22 dX0_findWays_15 (by decide) rfl ?_
      refine g_iload_n E dX0_findWays_18 rfl rfl ?_
      refine g_iconst E dX0_findWays_19 ?_
      refine g_ast E (A' := [_, _, _, _, _, _, _, _, _, _, _, _, _, _]) dX0_findWays_20 rfl rfl rfl (by omega) rfl ?_
      refine g_iinc E (lv' := [_, _]) dX0_findWays_21 rfl rfl ?_
      refine g_goto E dX0_findWays_24 (tgt := 6) (by decide) ?_
      exact ih
  refine g_aload_n E dX0_findWays_0 rfl rfl ?_
  refine g_callV0 E (cX_measureDistances hP hDn hs3 hs9 he5 he6) (cwV 0 hts gX0_findWays_X0_measureDistances rfl rfl rfl hdX0_measureDistances ⟨(Nat.le_of_ble_eq_true rfl), (Nat.le_of_ble_eq_true rfl)⟩) rfl rfl rfl (Nat.le_of_ble_eq_true rfl) gW_0 rfl dX0_findWays_1 ⟨Nat.zero_le _, Nat.zero_le _⟩ ?_
  refine g_iconst E dX0_findWays_4 ?_
  refine g_istore_n E (lv' := [_, _]) dX0_findWays_5 rfl (Nat.le_of_ble_eq_true rfl) rfl ?_
  exact key1 0 (by omega)
