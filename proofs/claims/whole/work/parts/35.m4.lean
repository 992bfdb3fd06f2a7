set_option maxRecDepth 100000 in
theorem flX1_addDoor_23 : Cond.fieldLink RX1 23 (TX1 6).1 (TX1 6).2.1 (TX1 6).2.2.1 ∈ wsX1_addDoor := by decide +kernel
set_option maxRecDepth 100000 in
theorem flX1_addDoor_26 : Cond.fieldLink RX1 26 (TX1 7).1 (TX1 7).2.1 (TX1 7).2.2.1 ∈ wsX1_addDoor := by decide +kernel
set_option maxRecDepth 100000 in
theorem flX1_addDoor_29 : Cond.fieldLink RX1 29 (TX1 8).1 (TX1 8).2.1 (TX1 8).2.2.1 ∈ wsX1_addDoor := by decide +kernel
set_option maxRecDepth 100000 in
theorem flX1_addDoor_32 : Cond.fieldLink RX1 32 (TX1 9).1 (TX1 9).2.1 (TX1 9).2.2.1 ∈ wsX1_addDoor := by decide +kernel
set_option maxRecDepth 100000 in
theorem flX1_addDoor_35 : Cond.fieldLink RX1 35 (TX1 10).1 (TX1 10).2.1 (TX1 10).2.2.1 ∈ wsX1_addDoor := by decide +kernel
set_option maxRecDepth 100000 in
theorem flX1_addDoor_64 : Cond.fieldLink RX1 64 (TX1 5).1 (TX1 5).2.1 (TX1 5).2.2.1 ∈ wsX1_addDoor := by decide +kernel
set_option maxRecDepth 100000 in
theorem flX1_addPlace_13 : Cond.fieldLink RX1 13 (TX1 2).1 (TX1 2).2.1 (TX1 2).2.2.1 ∈ wsX1_addPlace := by decide +kernel
set_option maxRecDepth 100000 in
theorem flX1_addPlace_7 : Cond.fieldLink RX1 7 (TX1 1).1 (TX1 1).2.1 (TX1 1).2.2.1 ∈ wsX1_addPlace := by decide +kernel
set_option maxRecDepth 100000 in
theorem flX1_bound_17 : Cond.fieldLink RX1 17 (TX1 3).1 (TX1 3).2.1 (TX1 3).2.2.1 ∈ wsX1_bound := by decide +kernel
set_option maxRecDepth 100000 in
theorem flX1_bound_23 : Cond.fieldLink RX1 23 (TX1 6).1 (TX1 6).2.1 (TX1 6).2.2.1 ∈ wsX1_bound := by decide +kernel
set_option maxRecDepth 100000 in
theorem flX1_bound_26 : Cond.fieldLink RX1 26 (TX1 7).1 (TX1 7).2.1 (TX1 7).2.2.1 ∈ wsX1_bound := by decide +kernel
set_option maxRecDepth 100000 in
theorem flX1_bound_29 : Cond.fieldLink RX1 29 (TX1 8).1 (TX1 8).2.1 (TX1 8).2.2.1 ∈ wsX1_bound := by decide +kernel
set_option maxRecDepth 100000 in
theorem flX1_bound_35 : Cond.fieldLink RX1 35 (TX1 10).1 (TX1 10).2.1 (TX1 10).2.2.1 ∈ wsX1_bound := by decide +kernel
set_option maxRecDepth 100000 in
theorem flX1_bound_45 : Cond.fieldLink RX1 45 (TX1 15).1 (TX1 15).2.1 (TX1 15).2.2.1 ∈ wsX1_bound := by decide +kernel
set_option maxRecDepth 100000 in
theorem flX1_bound_64 : Cond.fieldLink RX1 64 (TX1 5).1 (TX1 5).2.1 (TX1 5).2.2.1 ∈ wsX1_bound := by decide +kernel
set_option maxRecDepth 100000 in
theorem flX1_bound_7 : Cond.fieldLink RX1 7 (TX1 1).1 (TX1 1).2.1 (TX1 1).2.2.1 ∈ wsX1_bound := by decide +kernel
set_option maxRecDepth 100000 in
theorem flX1_come_13 : Cond.fieldLink RX1 13 (TX1 2).1 (TX1 2).2.1 (TX1 2).2.2.1 ∈ wsX1_come := by decide +kernel
set_option maxRecDepth 100000 in
theorem flX1_come_17 : Cond.fieldLink RX1 17 (TX1 3).1 (TX1 3).2.1 (TX1 3).2.2.1 ∈ wsX1_come := by decide +kernel
set_option maxRecDepth 100000 in
theorem flX1_distance_45 : Cond.fieldLink RX1 45 (TX1 15).1 (TX1 15).2.1 (TX1 15).2.2.1 ∈ wsX1_distance := by decide +kernel
set_option maxRecDepth 100000 in
theorem flX1_latest_42 : Cond.fieldLink RX1 42 (TX1 13).1 (TX1 13).2.1 (TX1 13).2.2.1 ∈ wsX1_latest := by decide +kernel
set_option maxRecDepth 100000 in
theorem flX1_passed_39 : Cond.fieldLink RX1 39 (TX1 11).1 (TX1 11).2.1 (TX1 11).2.2.1 ∈ wsX1_passed := by decide +kernel
set_option maxRecDepth 100000 in
theorem flX1_people_17 : Cond.fieldLink RX1 17 (TX1 3).1 (TX1 3).2.1 (TX1 3).2.2.1 ∈ wsX1_people := by decide +kernel
set_option maxRecDepth 100000 in
theorem flX1_setDoor_35 : Cond.fieldLink RX1 35 (TX1 10).1 (TX1 10).2.1 (TX1 10).2.2.1 ∈ wsX1_setDoor := by decide +kernel
set_option maxRecDepth 100000 in
theorem flX1_setRelease_20 : Cond.fieldLink RX1 20 (TX1 4).1 (TX1 4).2.1 (TX1 4).2.2.1 ∈ wsX1_setRelease := by decide +kernel
set_option maxRecDepth 100000 in
theorem flX1_trappedNow_17 : Cond.fieldLink RX1 17 (TX1 3).1 (TX1 3).2.1 (TX1 3).2.2.1 ∈ wsX1_trappedNow := by decide +kernel
set_option maxRecDepth 100000 in
theorem flX1_trappedNow_45 : Cond.fieldLink RX1 45 (TX1 15).1 (TX1 15).2.1 (TX1 15).2.2.1 ∈ wsX1_trappedNow := by decide +kernel
set_option maxRecDepth 100000 in
theorem flX1_trappedNow_7 : Cond.fieldLink RX1 7 (TX1 1).1 (TX1 1).2.1 (TX1 1).2.2.1 ∈ wsX1_trappedNow := by decide +kernel
set_option maxRecDepth 100000 in
theorem flX1_trapped_57 : Cond.fieldLink RX1 57 (TX1 0).1 (TX1 0).2.1 (TX1 0).2.2.1 ∈ wsX1_trapped := by decide +kernel
set_option maxRecDepth 100000 in
theorem flX1_wouldMove_51 : Cond.fieldLink RX1 51 (TX1 17).1 (TX1 17).2.1 (TX1 17).2.2.1 ∈ wsX1_wouldMove := by decide +kernel
set_option maxRecDepth 100000 in
theorem hdX1_isDoor : yX1_isDoor.cls = RX1 ∧ yX1_isDoor.cls ≠ "java/lang/invoke/MethodHandle" ∧ yX1_isDoor.cls ≠ "java/lang/invoke/VarHandle" ∧ (parseMethodDescriptor yX1_isDoor.desc).map (fun d => d.parameters.length) = some 1 := by decide +kernel
set_option maxRecDepth 100000 in
theorem hdX1_isPlace : yX1_isPlace.cls = RX1 ∧ yX1_isPlace.cls ≠ "java/lang/invoke/MethodHandle" ∧ yX1_isPlace.cls ≠ "java/lang/invoke/VarHandle" ∧ (parseMethodDescriptor yX1_isPlace.desc).map (fun d => d.parameters.length) = some 1 := by decide +kernel
set_option maxRecDepth 100000 in
theorem hdX1_trappedNow : yX1_trappedNow.cls = RX1 ∧ yX1_trappedNow.cls ≠ "java/lang/invoke/MethodHandle" ∧ yX1_trappedNow.cls ≠ "java/lang/invoke/VarHandle" ∧ (parseMethodDescriptor yX1_trappedNow.desc).map (fun d => d.parameters.length) = some 0 := by decide +kernel
set_option maxRecDepth 100000 in
theorem inX1_addDoor : ∀ w ∈ u_ws RX1 TX1 19, w ∈ wsX1_addDoor := by decide +kernel
set_option maxRecDepth 100000 in
theorem inX1_addPlace : ∀ w ∈ u_ws RX1 TX1 19, w ∈ wsX1_addPlace := by decide +kernel
set_option maxRecDepth 100000 in
theorem inX1_bound : ∀ w ∈ u_ws RX1 TX1 19, w ∈ wsX1_bound := by decide +kernel
set_option maxRecDepth 100000 in
theorem inX1_come : ∀ w ∈ u_ws RX1 TX1 19, w ∈ wsX1_come := by decide +kernel
set_option maxRecDepth 100000 in
theorem inX1_distance : ∀ w ∈ u_ws RX1 TX1 19, w ∈ wsX1_distance := by decide +kernel
set_option maxRecDepth 100000 in
theorem inX1_latest : ∀ w ∈ u_ws RX1 TX1 19, w ∈ wsX1_latest := by decide +kernel
set_option maxRecDepth 100000 in
theorem inX1_passed : ∀ w ∈ u_ws RX1 TX1 19, w ∈ wsX1_passed := by decide +kernel
set_option maxRecDepth 100000 in
theorem inX1_people : ∀ w ∈ u_ws RX1 TX1 19, w ∈ wsX1_people := by decide +kernel
set_option maxRecDepth 100000 in
theorem inX1_setDoor : ∀ w ∈ u_ws RX1 TX1 19, w ∈ wsX1_setDoor := by decide +kernel
set_option maxRecDepth 100000 in
theorem inX1_setRelease : ∀ w ∈ u_ws RX1 TX1 19, w ∈ wsX1_setRelease := by decide +kernel
set_option maxRecDepth 100000 in
theorem inX1_trapped : ∀ w ∈ u_ws RX1 TX1 19, w ∈ wsX1_trapped := by decide +kernel
set_option maxRecDepth 100000 in
theorem inX1_trappedNow : ∀ w ∈ u_ws RX1 TX1 19, w ∈ wsX1_trappedNow := by decide +kernel
set_option maxRecDepth 100000 in
theorem inX1_wouldMove : ∀ w ∈ u_ws RX1 TX1 19, w ∈ wsX1_wouldMove := by decide +kernel
set_option maxHeartbeats 4000000 in
set_option maxRecDepth 100000 in
theorem cM_trappedNow {l : Launch} {D : va_G} {cI cZ : ClassId} {q : Nat} {r : Nat → Nat} {P Dn : Nat} {th t lo wa : Int} {g0 g1 g2 g3 g4 g5 g6 g7 g8 g9 g10 g11 g12 : Nat → Int} (hP : 1 ≤ P ∧ P ≤ 11) (hDn : Dn ≤ 16) (hs7 : ∀ j : Nat, -2147483648 ≤ g7 j ∧ g7 j < 2147483648) (hs9 : ∀ j : Nat, -2147483648 ≤ g9 j ∧ g9 j < 2147483648) (he3 : ∀ j : Nat, j < Dn → 0 ≤ g3 j ∧ g3 j < P) (he4 : ∀ j : Nat, j < Dn → 0 ≤ g4 j ∧ g4 j < P) : gMI l yX1_trappedNow wsX1_trappedNow 2 D (gTy cI cZ) (gM cI cZ q r [th, (P : Int), (Dn : Int), t, lo, wa] [g0, g1, g2, g3, g4, g5, g6, g7, g8, g9, g10, g11, g12]) [.ref q] (pSum (fun j => if (mDist g3 g4 g7 P Dn g9) j = -1 then g1 j else 0) P) (gM cI cZ q r [th, (P : Int), (Dn : Int), t, lo, wa] [g0, g1, g2, g3, g4, g5, g6, g7, g8, (mDist g3 g4 g7 P Dn g9), g10, g11, g12]) := by
  refine g_ofI (by decide +kernel) rfl rfl (Nat.le_of_ble_eq_true rfl) (g_cat1 rfl) rfl ?_
  intro p e s m args below meth c Q A0 E hret
  have hts := E.1.2.2.2.2
  show gJ p l e (gR 2) s m args below meth c 0 0 Q A0 D (gM cI cZ q r [th, (P : Int), (Dn : Int), t, lo, wa] [g0, g1, g2, g3, g4, g5, g6, g7, g8, g9, g10, g11, g12]) [some (.ref q), none, none] 0 []
  have hBf : gB (mDist g3 g4 g7 P Dn g9) := mDist_B hs9 hP.2
  have key : ∀ k : Nat, k ≤ P → (1 ≤ k → gJ p l e (gR 2) s m args below meth c 0 0 Q A0 D (gM cI cZ q r [th, (P : Int), (Dn : Int), t, lo, wa] [g0, g1, g2, g3, g4, g5, g6, g7, g8, (mDist g3 g4 g7 P Dn g9), g10, g11, g12]) [some (.ref q), some (.int (iI (pSum (fun j => if (mDist g3 g4 g7 P Dn g9) j = -1 then g1 j else 0) k))), some (.int (iI k))] 8 []) := by
    refine g_loop _ P ?_ ?_
    · intro _
      refine g_iload_n E dX1_trappedNow_8 rfl rfl ?_
      refine g_aload_n E dX1_trappedNow_9 rfl rfl ?_
      refine g_getI E inX1_trappedNow rfl flX1_trappedNow_7 dX1_trappedNow_10 (by decide) rfl rfl ?_
      refine g_icmp_ge_t E dX1_trappedNow_13 (tgt := 45) (by decide) (by omega) (by omega) ?_
      refine g_iload_n E dX1_trappedNow_45 rfl rfl ?_
      exact g_ri rfl hret dX1_trappedNow_46
    · intro k hk ih h1
      have h3 := hBf k
      refine g_iload_n E dX1_trappedNow_8 rfl rfl ?_
      refine g_aload_n E dX1_trappedNow_9 rfl rfl ?_
      refine g_getI E inX1_trappedNow rfl flX1_trappedNow_7 dX1_trappedNow_10 (by decide) rfl rfl ?_
      refine g_icmp_ge_f E dX1_trappedNow_13 (tgt := 45) (by decide) (by omega) (by omega) ?_
      refine g_iload_n E dX1_trappedNow_16 rfl rfl ?_
      refine g_aload_n E dX1_trappedNow_17 rfl rfl ?_
      refine g_getR E inX1_trappedNow rfl flX1_trappedNow_45 dX1_trappedNow_18 (by decide) rfl ?_
      refine g_iload_n E dX1_trappedNow_21 rfl rfl ?_
      refine g_ald E dX1_trappedNow_22 rfl rfl rfl (by omega) ?_
      refine g_iconst E dX1_trappedNow_23 ?_
      refine g_icmp_ne E dX1_trappedNow_24 (tgt := 36) (by decide) (by omega) (fun h2 => ?_) (fun h2 => ?_)
      · refine g_iconst E dX1_trappedNow_36 ?_
        refine g_iadd E dX1_trappedNow_37 ?_
        refine g_istore_n E (lv' := [_, _, _]) dX1_trappedNow_38 rfl (Nat.le_of_ble_eq_true rfl) rfl ?_
        refine g_iinc E (lv' := [_, _, _]) dX1_trappedNow_39 rfl rfl ?_
        refine g_goto E dX1_trappedNow_42 (tgt := 8) (by decide) ?_
        exact g_eq (ih (by omega)) rfl (by rw [pSum_s _ h1, if_neg h2]; rfl) rfl
      · refine g_aload_n E dX1_trappedNow_27 rfl rfl ?_
        refine g_getR E inX1_trappedNow rfl flX1_trappedNow_17 dX1_trappedNow_28 (by decide) rfl ?_
        refine g_iload_n E dX1_trappedNow_31 rfl rfl ?_
        refine g_ald E dX1_trappedNow_32 rfl rfl rfl (by omega) ?_
        refine g_goto E dX1_trappedNow_33 (tgt := 37) (by decide) ?_
        refine g_iadd E dX1_trappedNow_37 ?_
        refine g_istore_n E (lv' := [_, _, _]) dX1_trappedNow_38 rfl (Nat.le_of_ble_eq_true rfl) rfl ?_
        refine g_iinc E (lv' := [_, _, _]) dX1_trappedNow_39 rfl rfl ?_
        refine g_goto E dX1_trappedNow_42 (tgt := 8) (by decide) ?_
        exact g_eq (ih (by omega)) rfl (by rw [pSum_s _ h1, if_pos h2]; rfl) rfl
  refine g_aload_n E dX1_trappedNow_0 rfl rfl ?_
  refine g_callV0 E (cM_measure hP hDn hs7 hs9 he3 he4) (cwV 0 hts gX1_trappedNow_X1_measure rfl rfl rfl hdX1_measure ⟨(Nat.le_of_ble_eq_true rfl), (Nat.le_of_ble_eq_true rfl)⟩) rfl rfl rfl (Nat.le_of_ble_eq_true rfl) gW_0 rfl dX1_trappedNow_1 ⟨Nat.zero_le _, Nat.zero_le _⟩ ?_
  refine g_iconst E dX1_trappedNow_4 ?_
  refine g_istore_n E (lv' := [_, _, _]) dX1_trappedNow_5 rfl (Nat.le_of_ble_eq_true rfl) rfl ?_
  refine g_iconst E dX1_trappedNow_6 ?_
  refine g_istore_n E (lv' := [_, _, _]) dX1_trappedNow_7 rfl (Nat.le_of_ble_eq_true rfl) rfl ?_
  exact key 1 (by omega) (by omega)
set_option maxHeartbeats 4000000 in
set_option maxRecDepth 100000 in
theorem cM_trapped {l : Launch} {D : va_G} {cI cZ : ClassId} {q : Nat} {r : Nat → Nat} {P Dn : Nat} {th t lo wa : Int} {g0 g1 g2 g3 g4 g5 g6 g7 g8 g9 g10 g11 g12 : Nat → Int} (hP : 1 ≤ P ∧ P ≤ 11) (hDn : Dn ≤ 16) (hs7 : ∀ j : Nat, -2147483648 ≤ g7 j ∧ g7 j < 2147483648) (hs9 : ∀ j : Nat, -2147483648 ≤ g9 j ∧ g9 j < 2147483648) (he3 : ∀ j : Nat, j < Dn → 0 ≤ g3 j ∧ g3 j < P) (he4 : ∀ j : Nat, j < Dn → 0 ≤ g4 j ∧ g4 j < P) : gMI l yX1_trapped wsX1_trapped 6 D (gTy cI cZ) (gM cI cZ q r [th, (P : Int), (Dn : Int), t, lo, wa] [g0, g1, g2, g3, g4, g5, g6, g7, g8, g9, g10, g11, g12]) [.ref q] (pSum (fun j => if (mDist g3 g4 g7 P Dn g9) j = -1 then g1 j else 0) P) (gM cI cZ q r [0, (P : Int), (Dn : Int), t, lo, wa] [g0, g1, g2, g3, g4, g5, g6, g7, g8, (mDist g3 g4 g7 P Dn g9), g10, g11, g12]) := by
  refine g_ofI (by decide +kernel) rfl rfl (Nat.le_of_ble_eq_true rfl) (g_cat1 rfl) rfl ?_
  intro p e s m args below meth c Q A0 E hret
  have hts := E.1.2.2.2.2
  show gJ p l e (gR 6) s m args below meth c 0 0 Q A0 D (gM cI cZ q r [th, (P : Int), (Dn : Int), t, lo, wa] [g0, g1, g2, g3, g4, g5, g6, g7, g8, g9, g10, g11, g12]) [some (.ref q)] 0 []
  refine g_aload_n E dX1_trapped_0 rfl rfl ?_
  refine g_iconst E dX1_trapped_1 ?_
  refine g_putI E (F' := [_, _, _, _, _, _]) inX1_trapped rfl flX1_trapped_57 dX1_trapped_2 tyX1_ok nmX1 (by decide) rfl (by decide) rfl (by decide +kernel) (Nat.le_of_ble_eq_true rfl) rfl ?_
  refine g_aload_n E dX1_trapped_5 rfl rfl ?_
  refine g_callI0 E (cM_trappedNow hP hDn hs7 hs9 he3 he4) (cwV 0 hts gX1_trapped_X1_trappedNow rfl rfl rfl hdX1_trappedNow ⟨(Nat.le_of_ble_eq_true rfl), (Nat.le_of_ble_eq_true rfl)⟩) rfl rfl rfl (Nat.le_of_ble_eq_true rfl) gW_0 rfl dX1_trapped_6 ⟨Nat.zero_le _, Nat.zero_le _⟩ ?_
  exact g_ri rfl hret dX1_trapped_9
set_option maxHeartbeats 4000000 in
set_option maxRecDepth 100000 in
theorem cM_bound0 {l : Launch} {D : va_G} {cI cZ : ClassId} {q : Nat} {r : Nat → Nat} {P Dn : Nat} {th t lo wa : Int} {g0 g1 g2 g3 g4 g5 g6 g7 g8 g9 g10 g11 g12 : Nat → Int} (hP : 1 ≤ P ∧ P ≤ 11) (hDn : Dn ≤ 16) (hs7 : ∀ j : Nat, -2147483648 ≤ g7 j ∧ g7 j < 2147483648) (hs9 : ∀ j : Nat, -2147483648 ≤ g9 j ∧ g9 j < 2147483648) (he3 : ∀ j : Nat, j < Dn → 0 ≤ g3 j ∧ g3 j < P) (he4 : ∀ j : Nat, j < Dn → 0 ≤ g4 j ∧ g4 j < P) (hcf : ∀ d : Nat, 1 ≤ d → d < P → (0 ≤ (pCrowd (mDist g3 g4 g7 P Dn g9) g1 (d : Int) P) ∧ (pCrowd (mDist g3 g4 g7 P Dn g9) g1 (d : Int) P) ≤ 10000) ∧ (0 ≤ (qSum (mFl (mDist g3 g4 g7 P Dn g9) g3 g4 g7 g5 (d : Int)) Dn) ∧ (qSum (mFl (mDist g3 g4 g7 P Dn g9) g3 g4 g7 g5 (d : Int)) Dn) ≤ 1000) ∧ ((pCrowd (mDist g3 g4 g7 P Dn g9) g1 (d : Int) P) ≠ 0 → 1 ≤ (qSum (mFl (mDist g3 g4 g7 P Dn g9) g3 g4 g7 g5 (d : Int)) Dn))) (hfb : ∀ j : Nat, j < P → -1 ≤ (mDist g3 g4 g7 P Dn g9) j ∧ (mDist g3 g4 g7 P Dn g9) j ≤ 100) (htr : (pSum (fun j => if (mDist g3 g4 g7 P Dn g9) j = -1 then g1 j else 0) P) = 0) : gMI l yX1_bound wsX1_bound 6 D (gTy cI cZ) (gM cI cZ q r [th, (P : Int), (Dn : Int), t, lo, wa] [g0, g1, g2, g3, g4, g5, g6, g7, g8, g9, g10, g11, g12]) [.ref q] (mBound (mDist g3 g4 g7 P Dn g9) g3 g4 g7 g5 g1 P Dn P) (gM cI cZ q r [0, (P : Int), (Dn : Int), t, lo, wa] [g0, g1, g2, g3, g4, g5, g6, g7, g8, (mDist g3 g4 g7 P Dn g9), g10, g11, g12]) := by
  refine g_ofI (by decide +kernel) rfl rfl (Nat.le_of_ble_eq_true rfl) (g_cat1 rfl) rfl ?_
  intro p e s m args below meth c Q A0 E hret
  have hts := E.1.2.2.2.2
  show gJ p l e (gR 6) s m args below meth c 0 0 Q A0 D (gM cI cZ q r [th, (P : Int), (Dn : Int), t, lo, wa] [g0, g1, g2, g3, g4, g5, g6, g7, g8, g9, g10, g11, g12]) [some (.ref q), none, none, none, none, none, none, none] 0 []
  have hBf : gB (mDist g3 g4 g7 P Dn g9) := mDist_B hs9 hP.2
  have hB := mBound_b hcf hP.2
  have key : ∀ k : Nat, k ≤ P → (1 ≤ k → ∀ a b c8 d8 e8 : Option Value, gJ p l e (gR 6) s m args below meth c 0 0 Q A0 D (gM cI cZ q r [0, (P : Int), (Dn : Int), t, lo, wa] [g0, g1, g2, g3, g4, g5, g6, g7, g8, (mDist g3 g4 g7 P Dn g9), g10, g11, g12]) [some (.ref q), some (.int (iI (mBound (mDist g3 g4 g7 P Dn g9) g3 g4 g7 g5 g1 P Dn k))), some (.int (iI k)), a, b, c8, d8, e8] 25 []) := by
    refine g_loop _ P ?_ ?_
    · intro _ a b c8 d8 e8
      refine g_iload_n E dX1_bound_25 rfl rfl ?_
      refine g_aload_n E dX1_bound_26 rfl rfl ?_
      refine g_getI E inX1_bound rfl flX1_bound_7 dX1_bound_27 (by decide) rfl rfl ?_
      refine g_icmp_ge_t E dX1_bound_30 (tgt := 267) (by decide) (by omega) (by omega) ?_
      refine g_iload_n E dX1_bound_267 rfl rfl ?_
      exact g_ri rfl hret dX1_bound_268
    · intro d hd ih h1 a b c8 d8 e8
      obtain ⟨z1, z2, z3⟩ := hcf d h1 hd
      have b1 := hB d (by omega)
      have b2 := mNeed_b z1 z2 z3 (d := (d : Int)) (by omega)
      have key3 : ∀ k : Nat, k ≤ Dn → ∀ d8 e8 : Option Value, gJ p l e (gR 6) s m args below meth c 0 0 Q A0 D (gM cI cZ q r [0, (P : Int), (Dn : Int), t, lo, wa] [g0, g1, g2, g3, g4, g5, g6, g7, g8, (mDist g3 g4 g7 P Dn g9), g10, g11, g12]) [some (.ref q), some (.int (iI (mBound (mDist g3 g4 g7 P Dn g9) g3 g4 g7 g5 g1 P Dn d))), some (.int (iI d)), some (.int (iI (pCrowd (mDist g3 g4 g7 P Dn g9) g1 (d : Int) P))), some (.int (iI (qSum (mFl (mDist g3 g4 g7 P Dn g9) g3 g4 g7 g5 (d : Int)) k))), some (.int (iI k)), d8, e8] 84 [] := by
        refine g_loop _ Dn ?_ ?_
        · intro d8 e8
          have fin : ∀ v : Int, v = mNeed (pCrowd (mDist g3 g4 g7 P Dn g9) g1 (d : Int) P) (qSum (mFl (mDist g3 g4 g7 P Dn g9) g3 g4 g7 g5 (d : Int)) Dn) (d : Int) → ∀ a5 : Option Value, gJ p l e (gR 6) s m args below meth c 0 0 Q A0 D (gM cI cZ q r [0, (P : Int), (Dn : Int), t, lo, wa] [g0, g1, g2, g3, g4, g5, g6, g7, g8, (mDist g3 g4 g7 P Dn g9), g10, g11, g12]) [some (.ref q), some (.int (iI (mBound (mDist g3 g4 g7 P Dn g9) g3 g4 g7 g5 g1 P Dn d))), some (.int (iI d)), some (.int (iI (pCrowd (mDist g3 g4 g7 P Dn g9) g1 (d : Int) P))), some (.int (iI (qSum (mFl (mDist g3 g4 g7 P Dn g9) g3 g4 g7 g5 (d : Int)) Dn))), a5, d8, e8] 246 [.int (iI v)] := by
            intro v hv a5
            subst hv
            refine g_istore E (lv' := [_, _, _, _, _, _, _, _]) dX1_bound_246 (Nat.le_of_ble_eq_true rfl) rfl ?_
            refine g_iload E dX1_bound_248 rfl ?_
            refine g_iload_n E dX1_bound_250 rfl rfl ?_
            refine g_icmp_le E dX1_bound_251 (tgt := 259) (by decide) (by omega) (fun c2 => ?_) (fun c2 => ?_)
            · have e9 : mBound (mDist g3 g4 g7 P Dn g9) g3 g4 g7 g5 g1 P Dn (d + 1) = (mBound (mDist g3 g4 g7 P Dn g9) g3 g4 g7 g5 g1 P Dn d) := by rw [mBound_s h1, if_neg (by omega)]
              refine g_iload_n E dX1_bound_259 rfl rfl ?_
              refine g_istore_n E (lv' := [_, _, _, _, _, _, _, _]) dX1_bound_260 rfl (Nat.le_of_ble_eq_true rfl) rfl ?_
              refine g_iinc E (lv' := [_, _, _, _, _, _, _, _]) dX1_bound_261 rfl rfl ?_
              refine g_goto E dX1_bound_264 (tgt := 25) (by decide) ?_
              exact g_eq (ih (by omega) _ _ (some (.int (iI (mNeed (pCrowd (mDist g3 g4 g7 P Dn g9) g1 (d : Int) P) (qSum (mFl (mDist g3 g4 g7 P Dn g9) g3 g4 g7 g5 (d : Int)) Dn) (d : Int))))) d8 e8) rfl (by rw [e9]; rfl) rfl
            · have e9 : mBound (mDist g3 g4 g7 P Dn g9) g3 g4 g7 g5 g1 P Dn (d + 1) = mNeed (pCrowd (mDist g3 g4 g7 P Dn g9) g1 (d : Int) P) (qSum (mFl (mDist g3 g4 g7 P Dn g9) g3 g4 g7 g5 (d : Int)) Dn) (d : Int) := by rw [mBound_s h1, if_pos (by omega)]
              refine g_iload E dX1_bound_254 rfl ?_
              refine g_goto E dX1_bound_256 (tgt := 260) (by decide) ?_
              refine g_istore_n E (lv' := [_, _, _, _, _, _, _, _]) dX1_bound_260 rfl (Nat.le_of_ble_eq_true rfl) rfl ?_
              refine g_iinc E (lv' := [_, _, _, _, _, _, _, _]) dX1_bound_261 rfl rfl ?_
              refine g_goto E dX1_bound_264 (tgt := 25) (by decide) ?_
              exact g_eq (ih (by omega) _ _ (some (.int (iI (mNeed (pCrowd (mDist g3 g4 g7 P Dn g9) g1 (d : Int) P) (qSum (mFl (mDist g3 g4 g7 P Dn g9) g3 g4 g7 g5 (d : Int)) Dn) (d : Int))))) d8 e8) rfl (by rw [e9]; rfl) rfl
          refine g_iload E dX1_bound_84 rfl ?_
          refine g_aload_n E dX1_bound_86 rfl rfl ?_
          refine g_getI E inX1_bound rfl flX1_bound_64 dX1_bound_87 (by decide) rfl rfl ?_
          refine g_icmp_ge_t E dX1_bound_90 (tgt := 225) (by decide) (by omega) (by omega) ?_
          refine g_iload_n E dX1_bound_225 rfl rfl ?_
          refine g_if_ne E dX1_bound_226 (tgt := 233) (by decide) (by omega) (fun c1 => ?_) (fun c1 => ?_)
          · have z4 := z3 c1
            refine g_iload_n E dX1_bound_233 rfl rfl ?_
            refine g_iconst E dX1_bound_234 ?_
            refine g_isub E dX1_bound_235 ?_
            refine g_iload_n E dX1_bound_236 rfl rfl ?_
            refine g_iload E dX1_bound_237 rfl ?_
            refine g_iadd E dX1_bound_239 ?_
            refine g_iconst E dX1_bound_240 ?_
            refine g_isub E dX1_bound_241 ?_
            refine g_iload E dX1_bound_242 rfl ?_
            refine g_idiv E dX1_bound_244 (by omega) ?_
            refine g_iadd E dX1_bound_245 ?_
            exact fin _ (by unfold mNeed; exact (if_neg c1).symm) _
          · refine g_iconst E dX1_bound_229 ?_
            refine g_goto E dX1_bound_230 (tgt := 246) (by decide) ?_
            exact fin _ (by unfold mNeed; exact (if_pos c1).symm) _
        · intro k hk ih2 d8 e8
          have q3 := he3 k hk
          have q4 := he4 k hk
          have h7 := hs7 k
          have w3 := hfb (g3 k).toNat (by omega)
          have w4 := hfb (g4 k).toNat (by omega)
          have cm := mMin_c ((mDist g3 g4 g7 P Dn g9) (g3 k).toNat) ((mDist g3 g4 g7 P Dn g9) (g4 k).toNat)
          have fin : ∀ (v : Int) (a6 a7 : Option Value), v = mFl (mDist g3 g4 g7 P Dn g9) g3 g4 g7 g5 (d : Int) k → gJ p l e (gR 6) s m args below meth c 0 0 Q A0 D (gM cI cZ q r [0, (P : Int), (Dn : Int), t, lo, wa] [g0, g1, g2, g3, g4, g5, g6, g7, g8, (mDist g3 g4 g7 P Dn g9), g10, g11, g12]) [some (.ref q), some (.int (iI (mBound (mDist g3 g4 g7 P Dn g9) g3 g4 g7 g5 g1 P Dn d))), some (.int (iI d)), some (.int (iI (pCrowd (mDist g3 g4 g7 P Dn g9) g1 (d : Int) P))), some (.int (iI (qSum (mFl (mDist g3 g4 g7 P Dn g9) g3 g4 g7 g5 (d : Int)) k))), some (.int (iI k)), a6, a7] 216 [.int (iI v), .int (iI (qSum (mFl (mDist g3 g4 g7 P Dn g9) g3 g4 g7 g5 (d : Int)) k))] := by
            intro v a6 a7 hv
            subst hv
            refine g_iadd E dX1_bound_216 ?_
            refine g_istore E (lv' := [_, _, _, _, _, _, _, _]) dX1_bound_217 (Nat.le_of_ble_eq_true rfl) rfl ?_
            refine g_iinc E (lv' := [_, _, _, _, _, _, _, _]) dX1_bound_219 rfl rfl ?_
            refine g_goto E dX1_bound_222 (tgt := 84) (by decide) ?_
            exact ih2 _ _
          have mid : ∀ lo9 : Int, lo9 = mMin ((mDist g3 g4 g7 P Dn g9) (g3 k).toNat) ((mDist g3 g4 g7 P Dn g9) (g4 k).toNat) → gJ p l e (gR 6) s m args below meth c 0 0 Q A0 D (gM cI cZ q r [0, (P : Int), (Dn : Int), t, lo, wa] [g0, g1, g2, g3, g4, g5, g6, g7, g8, (mDist g3 g4 g7 P Dn g9), g10, g11, g12]) [some (.ref q), some (.int (iI (mBound (mDist g3 g4 g7 P Dn g9) g3 g4 g7 g5 g1 P Dn d))), some (.int (iI d)), some (.int (iI (pCrowd (mDist g3 g4 g7 P Dn g9) g1 (d : Int) P))), some (.int (iI (qSum (mFl (mDist g3 g4 g7 P Dn g9) g3 g4 g7 g5 (d : Int)) k))), some (.int (iI k)), d8, e8] 147 [.int (iI lo9)] := by
            intro lo9 hlo
            subst hlo
            refine g_istore E (lv' := [_, _, _, _, _, _, _, _]) dX1_bound_147 (Nat.le_of_ble_eq_true rfl) rfl ?_
            refine g_aload_n E dX1_bound_149 rfl rfl ?_
            refine g_getR E inX1_bound rfl flX1_bound_45 dX1_bound_150 (by decide) rfl ?_
            refine g_aload_n E dX1_bound_153 rfl rfl ?_
            refine g_getR E inX1_bound rfl flX1_bound_23 dX1_bound_154 (by decide) rfl ?_
            refine g_iload E dX1_bound_157 rfl ?_
            refine g_ald E dX1_bound_159 rfl rfl rfl (by omega) ?_
            refine g_ald E dX1_bound_160 rfl rfl (i := (g3 k).toNat) (by omega) (by omega) ?_
            refine g_aload_n E dX1_bound_161 rfl rfl ?_
            refine g_getR E inX1_bound rfl flX1_bound_45 dX1_bound_162 (by decide) rfl ?_
            refine g_aload_n E dX1_bound_165 rfl rfl ?_
            refine g_getR E inX1_bound rfl flX1_bound_26 dX1_bound_166 (by decide) rfl ?_
            refine g_iload E dX1_bound_169 rfl ?_
            refine g_ald E dX1_bound_171 rfl rfl rfl (by omega) ?_
            refine g_ald E dX1_bound_172 rfl rfl (i := (g4 k).toNat) (by omega) (by omega) ?_
            refine g_iadd E dX1_bound_173 ?_
            refine g_iload E dX1_bound_174 rfl ?_
            refine g_isub E dX1_bound_176 ?_
            refine g_istore E (lv' := [_, _, _, _, _, _, _, _]) dX1_bound_177 (Nat.le_of_ble_eq_true rfl) rfl ?_
            refine g_iload E dX1_bound_179 rfl ?_
            refine g_aload_n E dX1_bound_181 rfl rfl ?_
            refine g_getR E inX1_bound rfl flX1_bound_35 dX1_bound_182 (by decide) rfl ?_
            refine g_iload E dX1_bound_185 rfl ?_
            refine g_zld E dX1_bound_187 rfl rfl rfl (by omega) ?_
            refine g_if_eq E dX1_bound_188 (tgt := 215) (by decide) (by omega) (fun c1 => ?_) (fun c1 => ?_)
            · refine g_iconst E dX1_bound_215 ?_
              exact fin _ _ _ (by unfold mFl; exact (if_neg (fun h => h.1 c1)).symm)
            · refine g_iload E dX1_bound_191 rfl ?_
              refine g_iload_n E dX1_bound_193 rfl rfl ?_
              refine g_iconst E dX1_bound_194 ?_
              refine g_isub E dX1_bound_195 ?_
              refine g_icmp_ne E dX1_bound_196 (tgt := 215) (by decide) (by omega) (fun c2 => ?_) (fun c2 => ?_)
              · refine g_iconst E dX1_bound_215 ?_
                exact fin _ _ _ (by unfold mFl; exact (if_neg (fun h => c2 h.2.1)).symm)
              · refine g_iload E dX1_bound_199 rfl ?_
                refine g_iload_n E dX1_bound_201 rfl rfl ?_
                refine g_icmp_ne E dX1_bound_202 (tgt := 215) (by decide) (by omega) (fun c3 => ?_) (fun c3 => ?_)
                · refine g_iconst E dX1_bound_215 ?_
                  exact fin _ _ _ (by unfold mFl; exact (if_neg (fun h => c3 h.2.2)).symm)
                · refine g_aload_n E dX1_bound_205 rfl rfl ?_
                  refine g_getR E inX1_bound rfl flX1_bound_29 dX1_bound_206 (by decide) rfl ?_
                  refine g_iload E dX1_bound_209 rfl ?_
                  refine g_ald E dX1_bound_211 rfl rfl rfl (by omega) ?_
                  refine g_goto E dX1_bound_212 (tgt := 216) (by decide) ?_
                  exact fin _ _ _ (by unfold mFl; exact (if_pos ⟨c1, by omega, by omega⟩).symm)
          refine g_iload E dX1_bound_84 rfl ?_
          refine g_aload_n E dX1_bound_86 rfl rfl ?_
          refine g_getI E inX1_bound rfl flX1_bound_64 dX1_bound_87 (by decide) rfl rfl ?_
          refine g_icmp_ge_f E dX1_bound_90 (tgt := 225) (by decide) (by omega) (by omega) ?_
          refine g_aload_n E dX1_bound_93 rfl rfl ?_
          refine g_getR E inX1_bound rfl flX1_bound_45 dX1_bound_94 (by decide) rfl ?_
          refine g_aload_n E dX1_bound_97 rfl rfl ?_
          refine g_getR E inX1_bound rfl flX1_bound_23 dX1_bound_98 (by decide) rfl ?_
          refine g_iload E dX1_bound_101 rfl ?_
          refine g_ald E dX1_bound_103 rfl rfl rfl (by omega) ?_
          refine g_ald E dX1_bound_104 rfl rfl (i := (g3 k).toNat) (by omega) (by omega) ?_
          refine g_aload_n E dX1_bound_105 rfl rfl ?_
          refine g_getR E inX1_bound rfl flX1_bound_45 dX1_bound_106 (by decide) rfl ?_
          refine g_aload_n E dX1_bound_109 rfl rfl ?_
          refine g_getR E inX1_bound rfl flX1_bound_26 dX1_bound_110 (by decide) rfl ?_
          refine g_iload E dX1_bound_113 rfl ?_
          refine g_ald E dX1_bound_115 rfl rfl rfl (by omega) ?_
          refine g_ald E dX1_bound_116 rfl rfl (i := (g4 k).toNat) (by omega) (by omega) ?_
          refine g_icmp_ge E dX1_bound_117 (tgt := 135) (by decide) (by omega) (fun c1 => ?_) (fun c1 => ?_)
          · refine g_aload_n E dX1_bound_135 rfl rfl ?_
            refine g_getR E inX1_bound rfl flX1_bound_45 dX1_bound_136 (by decide) rfl ?_
            refine g_aload_n E dX1_bound_139 rfl rfl ?_
            refine g_getR E inX1_bound rfl flX1_bound_26 dX1_bound_140 (by decide) rfl ?_
            refine g_iload E dX1_bound_143 rfl ?_
            refine g_ald E dX1_bound_145 rfl rfl rfl (by omega) ?_
            refine g_ald E dX1_bound_146 rfl rfl (i := (g4 k).toNat) (by omega) (by omega) ?_
            exact mid _ (by omega)
          · refine g_aload_n E dX1_bound_120 rfl rfl ?_
            refine g_getR E inX1_bound rfl flX1_bound_45 dX1_bound_121 (by decide) rfl ?_
            refine g_aload_n E dX1_bound_124 rfl rfl ?_
            refine g_getR E inX1_bound rfl flX1_bound_23 dX1_bound_125 (by decide) rfl ?_
            refine g_iload E dX1_bound_128 rfl ?_
            refine g_ald E dX1_bound_130 rfl rfl rfl (by omega) ?_
            refine g_ald E dX1_bound_131 rfl rfl (i := (g3 k).toNat) (by omega) (by omega) ?_
            refine g_goto E dX1_bound_132 (tgt := 147) (by decide) ?_
            exact mid _ (by omega)
      have key2 : ∀ k : Nat, k ≤ P → (1 ≤ k → gJ p l e (gR 6) s m args below meth c 0 0 Q A0 D (gM cI cZ q r [0, (P : Int), (Dn : Int), t, lo, wa] [g0, g1, g2, g3, g4, g5, g6, g7, g8, (mDist g3 g4 g7 P Dn g9), g10, g11, g12]) [some (.ref q), some (.int (iI (mBound (mDist g3 g4 g7 P Dn g9) g3 g4 g7 g5 g1 P Dn d))), some (.int (iI d)), some (.int (iI (pCrowd (mDist g3 g4 g7 P Dn g9) g1 (d : Int) k))), some (.int (iI 0)), some (.int (iI k)), d8, e8] 41 []) := by
        refine g_loop _ P ?_ ?_
        · intro _
          refine g_iload E dX1_bound_41 rfl ?_
          refine g_aload_n E dX1_bound_43 rfl rfl ?_
          refine g_getI E inX1_bound rfl flX1_bound_7 dX1_bound_44 (by decide) rfl rfl ?_
          refine g_icmp_ge_t E dX1_bound_47 (tgt := 81) (by decide) (by omega) (by omega) ?_
          refine g_iconst E dX1_bound_81 ?_
          refine g_istore E (lv' := [_, _, _, _, _, _, _, _]) dX1_bound_82 (Nat.le_of_ble_eq_true rfl) rfl ?_
          exact key3 0 (by omega) _ _
        · intro k hk ih2 h2
          have h3 := hBf k
          refine g_iload E dX1_bound_41 rfl ?_
          refine g_aload_n E dX1_bound_43 rfl rfl ?_
          refine g_getI E inX1_bound rfl flX1_bound_7 dX1_bound_44 (by decide) rfl rfl ?_
          refine g_icmp_ge_f E dX1_bound_47 (tgt := 81) (by decide) (by omega) (by omega) ?_
          refine g_iload_n E dX1_bound_50 rfl rfl ?_
          refine g_aload_n E dX1_bound_51 rfl rfl ?_
          refine g_getR E inX1_bound rfl flX1_bound_45 dX1_bound_52 (by decide) rfl ?_
          refine g_iload E dX1_bound_55 rfl ?_
          refine g_ald E dX1_bound_57 rfl rfl rfl (by omega) ?_
          refine g_iload_n E dX1_bound_58 rfl rfl ?_
          refine g_icmp_lt E dX1_bound_59 (tgt := 72) (by decide) (by omega) (fun c1 => ?_) (fun c1 => ?_)
          · refine g_iconst E dX1_bound_72 ?_
            refine g_iadd E dX1_bound_73 ?_
            refine g_istore_n E (lv' := [_, _, _, _, _, _, _, _]) dX1_bound_74 rfl (Nat.le_of_ble_eq_true rfl) rfl ?_
            refine g_iinc E (lv' := [_, _, _, _, _, _, _, _]) dX1_bound_75 rfl rfl ?_
            refine g_goto E dX1_bound_78 (tgt := 41) (by decide) ?_
            exact g_eq (ih2 (by omega)) rfl (by rw [pCrowd, pCrowd, pSum_s _ h2, if_neg (by omega)]; rfl) rfl
          · refine g_aload_n E dX1_bound_62 rfl rfl ?_
            refine g_getR E inX1_bound rfl flX1_bound_17 dX1_bound_63 (by decide) rfl ?_
            refine g_iload E dX1_bound_66 rfl ?_
            refine g_ald E dX1_bound_68 rfl rfl rfl (by omega) ?_
            refine g_goto E dX1_bound_69 (tgt := 73) (by decide) ?_
            refine g_iadd E dX1_bound_73 ?_
            refine g_istore_n E (lv' := [_, _, _, _, _, _, _, _]) dX1_bound_74 rfl (Nat.le_of_ble_eq_true rfl) rfl ?_
            refine g_iinc E (lv' := [_, _, _, _, _, _, _, _]) dX1_bound_75 rfl rfl ?_
            refine g_goto E dX1_bound_78 (tgt := 41) (by decide) ?_
            exact g_eq (ih2 (by omega)) rfl (by rw [pCrowd, pCrowd, pSum_s _ h2, if_pos (by omega)]; rfl) rfl
      refine g_iload_n E dX1_bound_25 rfl rfl ?_
      refine g_aload_n E dX1_bound_26 rfl rfl ?_
      refine g_getI E inX1_bound rfl flX1_bound_7 dX1_bound_27 (by decide) rfl rfl ?_
      refine g_icmp_ge_f E dX1_bound_30 (tgt := 267) (by decide) (by omega) (by omega) ?_
      refine g_iconst E dX1_bound_33 ?_
      refine g_istore_n E (lv' := [_, _, _, _, _, _, _, _]) dX1_bound_34 rfl (Nat.le_of_ble_eq_true rfl) rfl ?_
      refine g_iconst E dX1_bound_35 ?_
      refine g_istore E (lv' := [_, _, _, _, _, _, _, _]) dX1_bound_36 (Nat.le_of_ble_eq_true rfl) rfl ?_
      refine g_iconst E dX1_bound_38 ?_
      refine g_istore E (lv' := [_, _, _, _, _, _, _, _]) dX1_bound_39 (Nat.le_of_ble_eq_true rfl) rfl ?_
      exact key2 1 (by omega) (by omega)
  refine g_aload_n E dX1_bound_0 rfl rfl ?_
  refine g_aload_n E dX1_bound_1 rfl rfl ?_
  refine g_callI0 E (cM_trappedNow hP hDn hs7 hs9 he3 he4) (cwV 0 hts gX1_bound_X1_trappedNow rfl rfl rfl hdX1_trappedNow ⟨(Nat.le_of_ble_eq_true rfl), (Nat.le_of_ble_eq_true rfl)⟩) rfl rfl rfl (Nat.le_of_ble_eq_true rfl) gW_0 rfl dX1_bound_2 ⟨Nat.zero_le _, Nat.zero_le _⟩ ?_
  refine g_if_le_t E dX1_bound_5 (tgt := 12) (by decide) (by omega) (by omega) ?_
  refine g_iconst E dX1_bound_12 ?_
  refine g_callI0 E (cM_goesWell (rv := 1) (by omega) (Or.inl ⟨rfl, rfl⟩)) (cwV 1 hts gX1_bound_X1_goesWell rfl rfl rfl hdX1_goesWell ⟨(Nat.le_of_ble_eq_true rfl), (Nat.le_of_ble_eq_true rfl)⟩) rfl rfl rfl (Nat.le_of_ble_eq_true rfl) gW_0 rfl dX1_bound_13 ⟨Nat.zero_le _, Nat.zero_le _⟩ ?_
  refine g_if_ne_t E dX1_bound_16 (tgt := 21) (by decide) (by omega) (by omega) ?_
  refine g_iconst E dX1_bound_21 ?_
  refine g_istore_n E (lv' := [_, _, _, _, _, _, _, _]) dX1_bound_22 rfl (Nat.le_of_ble_eq_true rfl) rfl ?_
  refine g_iconst E dX1_bound_23 ?_
  refine g_istore_n E (lv' := [_, _, _, _, _, _, _, _]) dX1_bound_24 rfl (Nat.le_of_ble_eq_true rfl) rfl ?_
  exact key 1 (by omega) (by omega) _ _ _ _ _
set_option maxHeartbeats 4000000 in
set_option maxRecDepth 100000 in
theorem cM_bound1 {l : Launch} {D : va_G} {cI cZ : ClassId} {q : Nat} {r : Nat → Nat} {P Dn : Nat} {th t lo wa : Int} {g0 g1 g2 g3 g4 g5 g6 g7 g8 g9 g10 g11 g12 : Nat → Int} (hP : 1 ≤ P ∧ P ≤ 11) (hDn : Dn ≤ 16) (hs7 : ∀ j : Nat, -2147483648 ≤ g7 j ∧ g7 j < 2147483648) (hs9 : ∀ j : Nat, -2147483648 ≤ g9 j ∧ g9 j < 2147483648) (he3 : ∀ j : Nat, j < Dn → 0 ≤ g3 j ∧ g3 j < P) (he4 : ∀ j : Nat, j < Dn → 0 ≤ g4 j ∧ g4 j < P) (htr : 0 < (pSum (fun j => if (mDist g3 g4 g7 P Dn g9) j = -1 then g1 j else 0) P) ∧ (pSum (fun j => if (mDist g3 g4 g7 P Dn g9) j = -1 then g1 j else 0) P) < 2147483648) : gMI l yX1_bound wsX1_bound 6 D (gTy cI cZ) (gM cI cZ q r [th, (P : Int), (Dn : Int), t, lo, wa] [g0, g1, g2, g3, g4, g5, g6, g7, g8, g9, g10, g11, g12]) [.ref q] 0 (gM cI cZ q r [1, (P : Int), (Dn : Int), t, lo, wa] [g0, g1, g2, g3, g4, g5, g6, g7, g8, (mDist g3 g4 g7 P Dn g9), g10, g11, g12]) := by
  refine g_ofI (by decide +kernel) rfl rfl (Nat.le_of_ble_eq_true rfl) (g_cat1 rfl) rfl ?_
  intro p e s m args below meth c Q A0 E hret
  have hts := E.1.2.2.2.2
  show gJ p l e (gR 6) s m args below meth c 0 0 Q A0 D (gM cI cZ q r [th, (P : Int), (Dn : Int), t, lo, wa] [g0, g1, g2, g3, g4, g5, g6, g7, g8, g9, g10, g11, g12]) [some (.ref q), none, none, none, none, none, none, none] 0 []
  refine g_aload_n E dX1_bound_0 rfl rfl ?_
  refine g_aload_n E dX1_bound_1 rfl rfl ?_
  refine g_callI0 E (cM_trappedNow hP hDn hs7 hs9 he3 he4) (cwV 0 hts gX1_bound_X1_trappedNow rfl rfl rfl hdX1_trappedNow ⟨(Nat.le_of_ble_eq_true rfl), (Nat.le_of_ble_eq_true rfl)⟩) rfl rfl rfl (Nat.le_of_ble_eq_true rfl) gW_0 rfl dX1_bound_2 ⟨Nat.zero_le _, Nat.zero_le _⟩ ?_
  refine g_if_le_f E dX1_bound_5 (tgt := 12) (by decide) (by omega) (by omega) ?_
  refine g_iconst E dX1_bound_8 ?_
  refine g_goto E dX1_bound_9 (tgt := 13) (by decide) ?_
  refine g_callI0 E (cM_goesWell (rv := 0) (by omega) (Or.inr ⟨by omega, rfl⟩)) (cwV 1 hts gX1_bound_X1_goesWell rfl rfl rfl hdX1_goesWell ⟨(Nat.le_of_ble_eq_true rfl), (Nat.le_of_ble_eq_true rfl)⟩) rfl rfl rfl (Nat.le_of_ble_eq_true rfl) gW_0 rfl dX1_bound_13 ⟨Nat.zero_le _, Nat.zero_le _⟩ ?_
  refine g_if_ne_f E dX1_bound_16 (tgt := 21) (by decide) (by omega) (by omega) ?_
  refine g_iconst E dX1_bound_19 ?_
  exact g_ri rfl hret dX1_bound_20
set_option maxHeartbeats 4000000 in
set_option maxRecDepth 100000 in
theorem cM_addPlace0 {l : Launch} {D : va_G} {cI cZ : ClassId} {q : Nat} {r : Nat → Nat} {P Dn : Nat} {th t lo wa : Int} {g0 g1 g2 g3 g4 g5 g6 g7 g8 g9 g10 g11 g12 : Nat → Int} {x : Int} (hP : 1 ≤ P ∧ P ≤ 11) (hP10 : P ≤ 10) (hx : 1 ≤ x ∧ x ≤ 30) : gMI l yX1_addPlace wsX1_addPlace 6 D (gTy cI cZ) (gM cI cZ q r [th, (P : Int), (Dn : Int), t, lo, wa] [g0, g1, g2, g3, g4, g5, g6, g7, g8, g9, g10, g11, g12]) [.ref q, .int (iI x)] (P : Int) (gM cI cZ q r [0, ((P + 1 : Nat) : Int), (Dn : Int), t, lo, wa] [(gu g0 P x), g1, g2, g3, g4, g5, g6, g7, g8, g9, g10, g11, g12]) := by
  refine g_ofI (by decide +kernel) rfl rfl (Nat.le_of_ble_eq_true rfl) (g_cat1 rfl) rfl ?_
  intro p e s m args below meth c Q A0 E hret
  have hts := E.1.2.2.2.2
  show gJ p l e (gR 6) s m args below meth c 0 0 Q A0 D (gM cI cZ q r [th, (P : Int), (Dn : Int), t, lo, wa] [g0, g1, g2, g3, g4, g5, g6, g7, g8, g9, g10, g11, g12]) [some (.ref q), some (.int (iI x))] 0 []
  refine g_aload_n E dX1_addPlace_0 rfl rfl ?_
  refine g_iload_n E dX1_addPlace_1 rfl rfl ?_
  refine g_iconst E dX1_addPlace_2 ?_
  refine g_bipush E dX1_addPlace_3 (by decide) ?_
  refine g_callSI E (cM_in (rv := 1) (by omega) (Or.inl ⟨rfl, by omega, by omega⟩)) (va_cwS 3 hts gX1_addPlace_X1_in rfl rfl rfl hdX1_in.2 ⟨(Nat.le_of_ble_eq_true rfl), (Nat.le_of_ble_eq_true rfl)⟩) rfl rfl rfl (Nat.le_of_ble_eq_true rfl) dX1_addPlace_5 ⟨Nat.zero_le _, Nat.zero_le _⟩ ?_
  refine g_if_ne_t E dX1_addPlace_8 (tgt := 15) (by decide) (by omega) (by omega) ?_
  refine g_aload_n E dX1_addPlace_15 rfl rfl ?_
  refine g_getI E inX1_addPlace rfl flX1_addPlace_7 dX1_addPlace_16 (by decide) rfl rfl ?_
  refine g_bipush E dX1_addPlace_19 (by decide) ?_
  refine g_icmp_ne_t E dX1_addPlace_21 (tgt := 28) (by decide) (by omega) (by omega) ?_
  refine g_iconst E dX1_addPlace_28 ?_
  refine g_callI0 E (cM_goesWell (rv := 1) (by omega) (Or.inl ⟨rfl, rfl⟩)) (cwV 1 hts gX1_addPlace_X1_goesWell rfl rfl rfl hdX1_goesWell ⟨(Nat.le_of_ble_eq_true rfl), (Nat.le_of_ble_eq_true rfl)⟩) rfl rfl rfl (Nat.le_of_ble_eq_true rfl) gW_0 rfl dX1_addPlace_29 ⟨Nat.zero_le _, Nat.zero_le _⟩ ?_
  refine g_if_ne_t E dX1_addPlace_32 (tgt := 37) (by decide) (by omega) (by omega) ?_
  refine g_aload_n E dX1_addPlace_37 rfl rfl ?_
  refine g_getR E inX1_addPlace rfl flX1_addPlace_13 dX1_addPlace_38 (by decide) rfl ?_
  refine g_aload_n E dX1_addPlace_41 rfl rfl ?_
  refine g_getI E inX1_addPlace rfl flX1_addPlace_7 dX1_addPlace_42 (by decide) rfl rfl ?_
  refine g_iload_n E dX1_addPlace_45 rfl rfl ?_
  refine g_ast E (A' := [_, _, _, _, _, _, _, _, _, _, _, _, _]) dX1_addPlace_46 rfl rfl rfl (by omega) rfl ?_
  refine g_aload_n E dX1_addPlace_47 rfl rfl ?_
  refine g_dup E dX1_addPlace_48 rfl ?_
  refine g_getI E inX1_addPlace rfl flX1_addPlace_7 dX1_addPlace_49 (by decide) rfl rfl ?_
  refine g_iconst E dX1_addPlace_52 ?_
  refine g_iadd E dX1_addPlace_53 ?_
  refine g_putI E (F' := [_, _, _, _, _, _]) inX1_addPlace rfl flX1_addPlace_7 dX1_addPlace_54 tyX1_ok nmX1 (by decide) rfl (by decide) rfl (by decide +kernel) (Nat.le_of_ble_eq_true rfl) rfl ?_
  refine g_aload_n E dX1_addPlace_57 rfl rfl ?_
  refine g_getI E inX1_addPlace rfl flX1_addPlace_7 dX1_addPlace_58 (by decide) rfl rfl ?_
  refine g_iconst E dX1_addPlace_61 ?_
  refine g_isub E dX1_addPlace_62 ?_
  exact g_ri (by omega) hret dX1_addPlace_63
set_option maxHeartbeats 4000000 in
set_option maxRecDepth 100000 in
theorem cM_addPlace1 {l : Launch} {D : va_G} {cI cZ : ClassId} {q : Nat} {r : Nat → Nat} {P Dn : Nat} {th t lo wa : Int} {g0 g1 g2 g3 g4 g5 g6 g7 g8 g9 g10 g11 g12 : Nat → Int} {x : Int} (hgx : -2147483648 ≤ x ∧ x < 2147483648) (hx : x < 1 ∨ 30 < x) : gMI l yX1_addPlace wsX1_addPlace 6 D (gTy cI cZ) (gM cI cZ q r [th, (P : Int), (Dn : Int), t, lo, wa] [g0, g1, g2, g3, g4, g5, g6, g7, g8, g9, g10, g11, g12]) [.ref q, .int (iI x)] 0 (gM cI cZ q r [1, (P : Int), (Dn : Int), t, lo, wa] [g0, g1, g2, g3, g4, g5, g6, g7, g8, g9, g10, g11, g12]) := by
  refine g_ofI (by decide +kernel) rfl rfl (Nat.le_of_ble_eq_true rfl) (g_cat1 rfl) rfl ?_
  intro p e s m args below meth c Q A0 E hret
  have hts := E.1.2.2.2.2
  show gJ p l e (gR 6) s m args below meth c 0 0 Q A0 D (gM cI cZ q r [th, (P : Int), (Dn : Int), t, lo, wa] [g0, g1, g2, g3, g4, g5, g6, g7, g8, g9, g10, g11, g12]) [some (.ref q), some (.int (iI x))] 0 []
  refine g_aload_n E dX1_addPlace_0 rfl rfl ?_
  refine g_iload_n E dX1_addPlace_1 rfl rfl ?_
  refine g_iconst E dX1_addPlace_2 ?_
  refine g_bipush E dX1_addPlace_3 (by decide) ?_
  refine g_callSI E (cM_in (rv := 0) (by omega) (Or.inr ⟨rfl, by omega⟩)) (va_cwS 3 hts gX1_addPlace_X1_in rfl rfl rfl hdX1_in.2 ⟨(Nat.le_of_ble_eq_true rfl), (Nat.le_of_ble_eq_true rfl)⟩) rfl rfl rfl (Nat.le_of_ble_eq_true rfl) dX1_addPlace_5 ⟨Nat.zero_le _, Nat.zero_le _⟩ ?_
  refine g_if_ne_f E dX1_addPlace_8 (tgt := 15) (by decide) (by omega) (by omega) ?_
  refine g_iconst E dX1_addPlace_11 ?_
  refine g_goto E dX1_addPlace_12 (tgt := 29) (by decide) ?_
  refine g_callI0 E (cM_goesWell (rv := 0) (by omega) (Or.inr ⟨by omega, rfl⟩)) (cwV 1 hts gX1_addPlace_X1_goesWell rfl rfl rfl hdX1_goesWell ⟨(Nat.le_of_ble_eq_true rfl), (Nat.le_of_ble_eq_true rfl)⟩) rfl rfl rfl (Nat.le_of_ble_eq_true rfl) gW_0 rfl dX1_addPlace_29 ⟨Nat.zero_le _, Nat.zero_le _⟩ ?_
  refine g_if_ne_f E dX1_addPlace_32 (tgt := 37) (by decide) (by omega) (by omega) ?_
  refine g_iconst E dX1_addPlace_35 ?_
  exact g_ri rfl hret dX1_addPlace_36
set_option maxHeartbeats 4000000 in
set_option maxRecDepth 100000 in
theorem cM_addPlace2 {l : Launch} {D : va_G} {cI cZ : ClassId} {q : Nat} {r : Nat → Nat} {P Dn : Nat} {th t lo wa : Int} {g0 g1 g2 g3 g4 g5 g6 g7 g8 g9 g10 g11 g12 : Nat → Int} {x : Int} (hx : 1 ≤ x ∧ x ≤ 30) (hP11 : P = 11) : gMI l yX1_addPlace wsX1_addPlace 6 D (gTy cI cZ) (gM cI cZ q r [th, (P : Int), (Dn : Int), t, lo, wa] [g0, g1, g2, g3, g4, g5, g6, g7, g8, g9, g10, g11, g12]) [.ref q, .int (iI x)] 0 (gM cI cZ q r [2, (P : Int), (Dn : Int), t, lo, wa] [g0, g1, g2, g3, g4, g5, g6, g7, g8, g9, g10, g11, g12]) := by
  refine g_ofI (by decide +kernel) rfl rfl (Nat.le_of_ble_eq_true rfl) (g_cat1 rfl) rfl ?_
  intro p e s m args below meth c Q A0 E hret
  have hts := E.1.2.2.2.2
  show gJ p l e (gR 6) s m args below meth c 0 0 Q A0 D (gM cI cZ q r [th, (P : Int), (Dn : Int), t, lo, wa] [g0, g1, g2, g3, g4, g5, g6, g7, g8, g9, g10, g11, g12]) [some (.ref q), some (.int (iI x))] 0 []
  refine g_aload_n E dX1_addPlace_0 rfl rfl ?_
  refine g_iload_n E dX1_addPlace_1 rfl rfl ?_
  refine g_iconst E dX1_addPlace_2 ?_
  refine g_bipush E dX1_addPlace_3 (by decide) ?_
  refine g_callSI E (cM_in (rv := 1) (by omega) (Or.inl ⟨rfl, by omega, by omega⟩)) (va_cwS 3 hts gX1_addPlace_X1_in rfl rfl rfl hdX1_in.2 ⟨(Nat.le_of_ble_eq_true rfl), (Nat.le_of_ble_eq_true rfl)⟩) rfl rfl rfl (Nat.le_of_ble_eq_true rfl) dX1_addPlace_5 ⟨Nat.zero_le _, Nat.zero_le _⟩ ?_
  refine g_if_ne_t E dX1_addPlace_8 (tgt := 15) (by decide) (by omega) (by omega) ?_
  refine g_aload_n E dX1_addPlace_15 rfl rfl ?_
  refine g_getI E inX1_addPlace rfl flX1_addPlace_7 dX1_addPlace_16 (by decide) rfl rfl ?_
  refine g_bipush E dX1_addPlace_19 (by decide) ?_
  refine g_icmp_ne_f E dX1_addPlace_21 (tgt := 28) (by decide) (by omega) (by omega) ?_
  refine g_iconst E dX1_addPlace_24 ?_
  refine g_goto E dX1_addPlace_25 (tgt := 29) (by decide) ?_
  refine g_callI0 E (cM_goesWell (rv := 0) (by omega) (Or.inr ⟨by omega, rfl⟩)) (cwV 1 hts gX1_addPlace_X1_goesWell rfl rfl rfl hdX1_goesWell ⟨(Nat.le_of_ble_eq_true rfl), (Nat.le_of_ble_eq_true rfl)⟩) rfl rfl rfl (Nat.le_of_ble_eq_true rfl) gW_0 rfl dX1_addPlace_29 ⟨Nat.zero_le _, Nat.zero_le _⟩ ?_
  refine g_if_ne_f E dX1_addPlace_32 (tgt := 37) (by decide) (by omega) (by omega) ?_
  refine g_iconst E dX1_addPlace_35 ?_
  exact g_ri rfl hret dX1_addPlace_36
set_option maxHeartbeats 4000000 in
set_option maxRecDepth 100000 in
theorem cM_addDoor0 {l : Launch} {D : va_G} {cI cZ : ClassId} {q : Nat} {r : Nat → Nat} {P Dn : Nat} {th t lo wa : Int} {g0 g1 g2 g3 g4 g5 g6 g7 g8 g9 g10 g11 g12 : Nat → Int} {x y z v : Int} (hP : 1 ≤ P ∧ P ≤ 11) (hDn : Dn ≤ 15) (hx : 0 ≤ x ∧ x < P) (hy : 0 ≤ y ∧ y < P) (hxy : x ≠ y) (hz : 1 ≤ z ∧ z ≤ 9) (hv : 1 ≤ v ∧ v ≤ 5) : gMI l yX1_addDoor wsX1_addDoor 6 D (gTy cI cZ) (gM cI cZ q r [th, (P : Int), (Dn : Int), t, lo, wa] [g0, g1, g2, g3, g4, g5, g6, g7, g8, g9, g10, g11, g12]) [.ref q, .int (iI x), .int (iI y), .int (iI z), .int (iI v)] (Dn : Int) (gM cI cZ q r [0, (P : Int), ((Dn + 1 : Nat) : Int), t, lo, wa] [g0, g1, g2, (gu g3 Dn x), (gu g4 Dn y), (gu g5 Dn z), (gu g6 Dn v), (gu g7 Dn 1), g8, g9, g10, g11, g12]) := by
  refine g_ofI (by decide +kernel) rfl rfl (Nat.le_of_ble_eq_true rfl) (g_cat1 rfl) rfl ?_
  intro p e s m args below meth c Q A0 E hret
  have hts := E.1.2.2.2.2
  show gJ p l e (gR 6) s m args below meth c 0 0 Q A0 D (gM cI cZ q r [th, (P : Int), (Dn : Int), t, lo, wa] [g0, g1, g2, g3, g4, g5, g6, g7, g8, g9, g10, g11, g12]) [some (.ref q), some (.int (iI x)), some (.int (iI y)), some (.int (iI z)), some (.int (iI v)), none] 0 []
  refine g_iload_n E dX1_addDoor_0 rfl rfl ?_
  refine g_iload_n E dX1_addDoor_1 rfl rfl ?_
  refine g_icmp_eq_f E dX1_addDoor_2 (tgt := 29) (by decide) (by omega) (by omega) ?_
  refine g_iload_n E dX1_addDoor_5 rfl rfl ?_
  refine g_iconst E dX1_addDoor_6 ?_
  refine g_bipush E dX1_addDoor_7 (by decide) ?_
  refine g_callSI E (cM_in (rv := 1) (by omega) (Or.inl ⟨rfl, by omega, by omega⟩)) (va_cwS 3 hts gX1_addDoor_X1_in rfl rfl rfl hdX1_in.2 ⟨(Nat.le_of_ble_eq_true rfl), (Nat.le_of_ble_eq_true rfl)⟩) rfl rfl rfl (Nat.le_of_ble_eq_true rfl) dX1_addDoor_9 ⟨Nat.zero_le _, Nat.zero_le _⟩ ?_
  refine g_if_eq_f E dX1_addDoor_12 (tgt := 29) (by decide) (by omega) (by omega) ?_
  refine g_iload E dX1_addDoor_15 rfl ?_
  refine g_iconst E dX1_addDoor_17 ?_
  refine g_iconst E dX1_addDoor_18 ?_
  refine g_callSI E (cM_in (rv := 1) (by omega) (Or.inl ⟨rfl, by omega, by omega⟩)) (va_cwS 3 hts gX1_addDoor_X1_in rfl rfl rfl hdX1_in.2 ⟨(Nat.le_of_ble_eq_true rfl), (Nat.le_of_ble_eq_true rfl)⟩) rfl rfl rfl (Nat.le_of_ble_eq_true rfl) dX1_addDoor_19 ⟨Nat.zero_le _, Nat.zero_le _⟩ ?_
  refine g_if_eq_f E dX1_addDoor_22 (tgt := 29) (by decide) (by omega) (by omega) ?_
  refine g_iconst E dX1_addDoor_25 ?_
  refine g_goto E dX1_addDoor_26 (tgt := 30) (by decide) ?_
  refine g_istore E (lv' := [_, _, _, _, _, _]) dX1_addDoor_30 (Nat.le_of_ble_eq_true rfl) rfl ?_
  refine g_aload_n E dX1_addDoor_32 rfl rfl ?_
  refine g_aload_n E dX1_addDoor_33 rfl rfl ?_
  refine g_iload_n E dX1_addDoor_34 rfl rfl ?_
  refine g_callI0 E (cM_isPlace (rv := 1) (by omega) (Or.inl ⟨rfl, by omega, by omega⟩)) (cwV 1 hts gX1_addDoor_X1_isPlace rfl rfl rfl hdX1_isPlace ⟨(Nat.le_of_ble_eq_true rfl), (Nat.le_of_ble_eq_true rfl)⟩) rfl rfl rfl (Nat.le_of_ble_eq_true rfl) gW_0 rfl dX1_addDoor_35 ⟨Nat.zero_le _, Nat.zero_le _⟩ ?_
  refine g_if_eq_f E dX1_addDoor_38 (tgt := 49) (by decide) (by omega) (by omega) ?_
  refine g_aload_n E dX1_addDoor_41 rfl rfl ?_
  refine g_iload_n E dX1_addDoor_42 rfl rfl ?_
  refine g_callI0 E (cM_isPlace (rv := 1) (by omega) (Or.inl ⟨rfl, by omega, by omega⟩)) (cwV 1 hts gX1_addDoor_X1_isPlace rfl rfl rfl hdX1_isPlace ⟨(Nat.le_of_ble_eq_true rfl), (Nat.le_of_ble_eq_true rfl)⟩) rfl rfl rfl (Nat.le_of_ble_eq_true rfl) gW_0 rfl dX1_addDoor_43 ⟨Nat.zero_le _, Nat.zero_le _⟩ ?_
  refine g_if_ne_t E dX1_addDoor_46 (tgt := 53) (by decide) (by omega) (by omega) ?_
  refine g_iload E dX1_addDoor_53 rfl ?_
  refine g_if_ne_t E dX1_addDoor_55 (tgt := 62) (by decide) (by omega) (by omega) ?_
  refine g_aload_n E dX1_addDoor_62 rfl rfl ?_
  refine g_getI E inX1_addDoor rfl flX1_addDoor_64 dX1_addDoor_63 (by decide) rfl rfl ?_
  refine g_bipush E dX1_addDoor_66 (by decide) ?_
  refine g_icmp_ne_t E dX1_addDoor_68 (tgt := 75) (by decide) (by omega) (by omega) ?_
  refine g_iconst E dX1_addDoor_75 ?_
  refine g_callI0 E (cM_goesWell (rv := 1) (by omega) (Or.inl ⟨rfl, rfl⟩)) (cwV 1 hts gX1_addDoor_X1_goesWell rfl rfl rfl hdX1_goesWell ⟨(Nat.le_of_ble_eq_true rfl), (Nat.le_of_ble_eq_true rfl)⟩) rfl rfl rfl (Nat.le_of_ble_eq_true rfl) gW_0 rfl dX1_addDoor_76 ⟨Nat.zero_le _, Nat.zero_le _⟩ ?_
  refine g_if_ne_t E dX1_addDoor_79 (tgt := 84) (by decide) (by omega) (by omega) ?_
  refine g_aload_n E dX1_addDoor_84 rfl rfl ?_
  refine g_getR E inX1_addDoor rfl flX1_addDoor_23 dX1_addDoor_85 (by decide) rfl ?_
  refine g_aload_n E dX1_addDoor_88 rfl rfl ?_
  refine g_getI E inX1_addDoor rfl flX1_addDoor_64 dX1_addDoor_89 (by decide) rfl rfl ?_
  refine g_iload_n E dX1_addDoor_92 rfl rfl ?_
  refine g_ast E (A' := [_, _, _, _, _, _, _, _, _, _, _, _, _]) dX1_addDoor_93 rfl rfl rfl (by omega) rfl ?_
  refine g_aload_n E dX1_addDoor_94 rfl rfl ?_
  refine g_getR E inX1_addDoor rfl flX1_addDoor_26 dX1_addDoor_95 (by decide) rfl ?_
  refine g_aload_n E dX1_addDoor_98 rfl rfl ?_
  refine g_getI E inX1_addDoor rfl flX1_addDoor_64 dX1_addDoor_99 (by decide) rfl rfl ?_
  refine g_iload_n E dX1_addDoor_102 rfl rfl ?_
  refine g_ast E (A' := [_, _, _, _, _, _, _, _, _, _, _, _, _]) dX1_addDoor_103 rfl rfl rfl (by omega) rfl ?_
  refine g_aload_n E dX1_addDoor_104 rfl rfl ?_
  refine g_getR E inX1_addDoor rfl flX1_addDoor_29 dX1_addDoor_105 (by decide) rfl ?_
  refine g_aload_n E dX1_addDoor_108 rfl rfl ?_
  refine g_getI E inX1_addDoor rfl flX1_addDoor_64 dX1_addDoor_109 (by decide) rfl rfl ?_
  refine g_iload_n E dX1_addDoor_112 rfl rfl ?_
  refine g_ast E (A' := [_, _, _, _, _, _, _, _, _, _, _, _, _]) dX1_addDoor_113 rfl rfl rfl (by omega) rfl ?_
  refine g_aload_n E dX1_addDoor_114 rfl rfl ?_
  refine g_getR E inX1_addDoor rfl flX1_addDoor_32 dX1_addDoor_115 (by decide) rfl ?_
  refine g_aload_n E dX1_addDoor_118 rfl rfl ?_
  refine g_getI E inX1_addDoor rfl flX1_addDoor_64 dX1_addDoor_119 (by decide) rfl rfl ?_
  refine g_iload E dX1_addDoor_122 rfl ?_
  refine g_ast E (A' := [_, _, _, _, _, _, _, _, _, _, _, _, _]) dX1_addDoor_124 rfl rfl rfl (by omega) rfl ?_
  refine g_aload_n E dX1_addDoor_125 rfl rfl ?_
  refine g_getR E inX1_addDoor rfl flX1_addDoor_35 dX1_addDoor_126 (by decide) rfl ?_
  refine g_aload_n E dX1_addDoor_129 rfl rfl ?_
  refine g_getI E inX1_addDoor rfl flX1_addDoor_64 dX1_addDoor_130 (by decide) rfl rfl ?_
  refine g_iconst E dX1_addDoor_133 ?_
  refine g_zst E (A' := [_, _, _, _, _, _, _, _, _, _, _, _, _]) dX1_addDoor_134 rfl rfl rfl (by omega) (Or.inr rfl) rfl ?_
  refine g_aload_n E dX1_addDoor_135 rfl rfl ?_
  refine g_dup E dX1_addDoor_136 rfl ?_
  refine g_getI E inX1_addDoor rfl flX1_addDoor_64 dX1_addDoor_137 (by decide) rfl rfl ?_
  refine g_iconst E dX1_addDoor_140 ?_
  refine g_iadd E dX1_addDoor_141 ?_
  refine g_putI E (F' := [_, _, _, _, _, _]) inX1_addDoor rfl flX1_addDoor_64 dX1_addDoor_142 tyX1_ok nmX1 (by decide) rfl (by decide) rfl (by decide +kernel) (Nat.le_of_ble_eq_true rfl) rfl ?_
  refine g_aload_n E dX1_addDoor_145 rfl rfl ?_
  refine g_getI E inX1_addDoor rfl flX1_addDoor_64 dX1_addDoor_146 (by decide) rfl rfl ?_
  refine g_iconst E dX1_addDoor_149 ?_
  refine g_isub E dX1_addDoor_150 ?_
  exact g_ri (by omega) hret dX1_addDoor_151
set_option maxHeartbeats 4000000 in
set_option maxRecDepth 100000 in
theorem cM_addDoor3 {l : Launch} {D : va_G} {cI cZ : ClassId} {q : Nat} {r : Nat → Nat} {P Dn : Nat} {th t lo wa : Int} {g0 g1 g2 g3 g4 g5 g6 g7 g8 g9 g10 g11 g12 : Nat → Int} {x y z v : Int} (hgx : -2147483648 ≤ x ∧ x < 2147483648) (hgy : -2147483648 ≤ y ∧ y < 2147483648) (hgz : -2147483648 ≤ z ∧ z < 2147483648) (hgv : -2147483648 ≤ v ∧ v < 2147483648) (hP : 1 ≤ P ∧ P ≤ 11) (hDn : Dn ≤ 16) (hx : 0 ≤ x ∧ x < P) (hy : 0 ≤ y ∧ y < P) (hz : x ≠ y ∧ 1 ≤ z ∧ z ≤ 9 ∧ 1 ≤ v ∧ v ≤ 5) (hD16 : Dn = 16) : gMI l yX1_addDoor wsX1_addDoor 6 D (gTy cI cZ) (gM cI cZ q r [th, (P : Int), (Dn : Int), t, lo, wa] [g0, g1, g2, g3, g4, g5, g6, g7, g8, g9, g10, g11, g12]) [.ref q, .int (iI x), .int (iI y), .int (iI z), .int (iI v)] 0 (gM cI cZ q r [3, (P : Int), (Dn : Int), t, lo, wa] [g0, g1, g2, g3, g4, g5, g6, g7, g8, g9, g10, g11, g12]) := by
  refine g_ofI (by decide +kernel) rfl rfl (Nat.le_of_ble_eq_true rfl) (g_cat1 rfl) rfl ?_
  intro p e s m args below meth c Q A0 E hret
  have hts := E.1.2.2.2.2
  show gJ p l e (gR 6) s m args below meth c 0 0 Q A0 D (gM cI cZ q r [th, (P : Int), (Dn : Int), t, lo, wa] [g0, g1, g2, g3, g4, g5, g6, g7, g8, g9, g10, g11, g12]) [some (.ref q), some (.int (iI x)), some (.int (iI y)), some (.int (iI z)), some (.int (iI v)), none] 0 []
  refine g_iload_n E dX1_addDoor_0 rfl rfl ?_
  refine g_iload_n E dX1_addDoor_1 rfl rfl ?_
  refine g_icmp_eq_f E dX1_addDoor_2 (tgt := 29) (by decide) (by omega) (by omega) ?_
  refine g_iload_n E dX1_addDoor_5 rfl rfl ?_
  refine g_iconst E dX1_addDoor_6 ?_
  refine g_bipush E dX1_addDoor_7 (by decide) ?_
  refine g_callSI E (cM_in (rv := 1) (by omega) (Or.inl ⟨rfl, by omega, by omega⟩)) (va_cwS 3 hts gX1_addDoor_X1_in rfl rfl rfl hdX1_in.2 ⟨(Nat.le_of_ble_eq_true rfl), (Nat.le_of_ble_eq_true rfl)⟩) rfl rfl rfl (Nat.le_of_ble_eq_true rfl) dX1_addDoor_9 ⟨Nat.zero_le _, Nat.zero_le _⟩ ?_
  refine g_if_eq_f E dX1_addDoor_12 (tgt := 29) (by decide) (by omega) (by omega) ?_
  refine g_iload E dX1_addDoor_15 rfl ?_
  refine g_iconst E dX1_addDoor_17 ?_
  refine g_iconst E dX1_addDoor_18 ?_
  refine g_callSI E (cM_in (rv := 1) (by omega) (Or.inl ⟨rfl, by omega, by omega⟩)) (va_cwS 3 hts gX1_addDoor_X1_in rfl rfl rfl hdX1_in.2 ⟨(Nat.le_of_ble_eq_true rfl), (Nat.le_of_ble_eq_true rfl)⟩) rfl rfl rfl (Nat.le_of_ble_eq_true rfl) dX1_addDoor_19 ⟨Nat.zero_le _, Nat.zero_le _⟩ ?_
  refine g_if_eq_f E dX1_addDoor_22 (tgt := 29) (by decide) (by omega) (by omega) ?_
  refine g_iconst E dX1_addDoor_25 ?_
  refine g_goto E dX1_addDoor_26 (tgt := 30) (by decide) ?_
  refine g_istore E (lv' := [_, _, _, _, _, _]) dX1_addDoor_30 (Nat.le_of_ble_eq_true rfl) rfl ?_
  refine g_aload_n E dX1_addDoor_32 rfl rfl ?_
  refine g_aload_n E dX1_addDoor_33 rfl rfl ?_
  refine g_iload_n E dX1_addDoor_34 rfl rfl ?_
  refine g_callI0 E (cM_isPlace (rv := 1) (by omega) (Or.inl ⟨rfl, by omega, by omega⟩)) (cwV 1 hts gX1_addDoor_X1_isPlace rfl rfl rfl hdX1_isPlace ⟨(Nat.le_of_ble_eq_true rfl), (Nat.le_of_ble_eq_true rfl)⟩) rfl rfl rfl (Nat.le_of_ble_eq_true rfl) gW_0 rfl dX1_addDoor_35 ⟨Nat.zero_le _, Nat.zero_le _⟩ ?_
  refine g_if_eq_f E dX1_addDoor_38 (tgt := 49) (by decide) (by omega) (by omega) ?_
  refine g_aload_n E dX1_addDoor_41 rfl rfl ?_
  refine g_iload_n E dX1_addDoor_42 rfl rfl ?_
  refine g_callI0 E (cM_isPlace (rv := 1) (by omega) (Or.inl ⟨rfl, by omega, by omega⟩)) (cwV 1 hts gX1_addDoor_X1_isPlace rfl rfl rfl hdX1_isPlace ⟨(Nat.le_of_ble_eq_true rfl), (Nat.le_of_ble_eq_true rfl)⟩) rfl rfl rfl (Nat.le_of_ble_eq_true rfl) gW_0 rfl dX1_addDoor_43 ⟨Nat.zero_le _, Nat.zero_le _⟩ ?_
  refine g_if_ne_t E dX1_addDoor_46 (tgt := 53) (by decide) (by omega) (by omega) ?_
  refine g_iload E dX1_addDoor_53 rfl ?_
  refine g_if_ne_t E dX1_addDoor_55 (tgt := 62) (by decide) (by omega) (by omega) ?_
  refine g_aload_n E dX1_addDoor_62 rfl rfl ?_
  refine g_getI E inX1_addDoor rfl flX1_addDoor_64 dX1_addDoor_63 (by decide) rfl rfl ?_
  refine g_bipush E dX1_addDoor_66 (by decide) ?_
  refine g_icmp_ne_f E dX1_addDoor_68 (tgt := 75) (by decide) (by omega) (by omega) ?_
  refine g_iconst E dX1_addDoor_71 ?_
  refine g_goto E dX1_addDoor_72 (tgt := 76) (by decide) ?_
  refine g_callI0 E (cM_goesWell (rv := 0) (by omega) (Or.inr ⟨by omega, rfl⟩)) (cwV 1 hts gX1_addDoor_X1_goesWell rfl rfl rfl hdX1_goesWell ⟨(Nat.le_of_ble_eq_true rfl), (Nat.le_of_ble_eq_true rfl)⟩) rfl rfl rfl (Nat.le_of_ble_eq_true rfl) gW_0 rfl dX1_addDoor_76 ⟨Nat.zero_le _, Nat.zero_le _⟩ ?_
  refine g_if_ne_f E dX1_addDoor_79 (tgt := 84) (by decide) (by omega) (by omega) ?_
  refine g_iconst E dX1_addDoor_82 ?_
  exact g_ri rfl hret dX1_addDoor_83
set_option maxHeartbeats 4000000 in
set_option maxRecDepth 100000 in
theorem cM_addDoor2 {l : Launch} {D : va_G} {cI cZ : ClassId} {q : Nat} {r : Nat → Nat} {P Dn : Nat} {th t lo wa : Int} {g0 g1 g2 g3 g4 g5 g6 g7 g8 g9 g10 g11 g12 : Nat → Int} {x y z v : Int} (hgx : -2147483648 ≤ x ∧ x < 2147483648) (hgy : -2147483648 ≤ y ∧ y < 2147483648) (hgz : -2147483648 ≤ z ∧ z < 2147483648) (hgv : -2147483648 ≤ v ∧ v < 2147483648) (hP : 1 ≤ P ∧ P ≤ 11) (hDn : Dn ≤ 16) (hx : 0 ≤ x ∧ x < P) (hy : 0 ≤ y ∧ y < P) (hz : x = y ∨ z < 1 ∨ 9 < z ∨ v < 1 ∨ 5 < v) : gMI l yX1_addDoor wsX1_addDoor 6 D (gTy cI cZ) (gM cI cZ q r [th, (P : Int), (Dn : Int), t, lo, wa] [g0, g1, g2, g3, g4, g5, g6, g7, g8, g9, g10, g11, g12]) [.ref q, .int (iI x), .int (iI y), .int (iI z), .int (iI v)] 0 (gM cI cZ q r [2, (P : Int), (Dn : Int), t, lo, wa] [g0, g1, g2, g3, g4, g5, g6, g7, g8, g9, g10, g11, g12]) := by
  refine g_ofI (by decide +kernel) rfl rfl (Nat.le_of_ble_eq_true rfl) (g_cat1 rfl) rfl ?_
  intro p e s m args below meth c Q A0 E hret
  have hts := E.1.2.2.2.2
  show gJ p l e (gR 6) s m args below meth c 0 0 Q A0 D (gM cI cZ q r [th, (P : Int), (Dn : Int), t, lo, wa] [g0, g1, g2, g3, g4, g5, g6, g7, g8, g9, g10, g11, g12]) [some (.ref q), some (.int (iI x)), some (.int (iI y)), some (.int (iI z)), some (.int (iI v)), none] 0 []
  have fin : gJ p l e (gR 6) s m args below meth c 0 0 Q A0 D (gM cI cZ q r [th, (P : Int), (Dn : Int), t, lo, wa] [g0, g1, g2, g3, g4, g5, g6, g7, g8, g9, g10, g11, g12]) [some (.ref q), some (.int (iI x)), some (.int (iI y)), some (.int (iI z)), some (.int (iI v)), none] 29 [] := by
    refine g_iconst E dX1_addDoor_29 ?_
    refine g_istore E (lv' := [_, _, _, _, _, _]) dX1_addDoor_30 (Nat.le_of_ble_eq_true rfl) rfl ?_
    refine g_aload_n E dX1_addDoor_32 rfl rfl ?_
    refine g_aload_n E dX1_addDoor_33 rfl rfl ?_
    refine g_iload_n E dX1_addDoor_34 rfl rfl ?_
    refine g_callI0 E (cM_isPlace (rv := 1) (by omega) (Or.inl ⟨rfl, by omega, by omega⟩)) (cwV 1 hts gX1_addDoor_X1_isPlace rfl rfl rfl hdX1_isPlace ⟨(Nat.le_of_ble_eq_true rfl), (Nat.le_of_ble_eq_true rfl)⟩) rfl rfl rfl (Nat.le_of_ble_eq_true rfl) gW_0 rfl dX1_addDoor_35 ⟨Nat.zero_le _, Nat.zero_le _⟩ ?_
    refine g_if_eq_f E dX1_addDoor_38 (tgt := 49) (by decide) (by omega) (by omega) ?_
    refine g_aload_n E dX1_addDoor_41 rfl rfl ?_
    refine g_iload_n E dX1_addDoor_42 rfl rfl ?_
    refine g_callI0 E (cM_isPlace (rv := 1) (by omega) (Or.inl ⟨rfl, by omega, by omega⟩)) (cwV 1 hts gX1_addDoor_X1_isPlace rfl rfl rfl hdX1_isPlace ⟨(Nat.le_of_ble_eq_true rfl), (Nat.le_of_ble_eq_true rfl)⟩) rfl rfl rfl (Nat.le_of_ble_eq_true rfl) gW_0 rfl dX1_addDoor_43 ⟨Nat.zero_le _, Nat.zero_le _⟩ ?_
    refine g_if_ne_t E dX1_addDoor_46 (tgt := 53) (by decide) (by omega) (by omega) ?_
    refine g_iload E dX1_addDoor_53 rfl ?_
    refine g_if_ne_f E dX1_addDoor_55 (tgt := 62) (by decide) (by omega) (by omega) ?_
    refine g_iconst E dX1_addDoor_58 ?_
    refine g_goto E dX1_addDoor_59 (tgt := 76) (by decide) ?_
    refine g_callI0 E (cM_goesWell (rv := 0) (by omega) (Or.inr ⟨by omega, rfl⟩)) (cwV 1 hts gX1_addDoor_X1_goesWell rfl rfl rfl hdX1_goesWell ⟨(Nat.le_of_ble_eq_true rfl), (Nat.le_of_ble_eq_true rfl)⟩) rfl rfl rfl (Nat.le_of_ble_eq_true rfl) gW_0 rfl dX1_addDoor_76 ⟨Nat.zero_le _, Nat.zero_le _⟩ ?_
    refine g_if_ne_f E dX1_addDoor_79 (tgt := 84) (by decide) (by omega) (by omega) ?_
    refine g_iconst E dX1_addDoor_82 ?_
    exact g_ri rfl hret dX1_addDoor_83
  by_cases h1 : x = y
  · refine g_iload_n E dX1_addDoor_0 rfl rfl ?_
    refine g_iload_n E dX1_addDoor_1 rfl rfl ?_
    refine g_icmp_eq_t E dX1_addDoor_2 (tgt := 29) (by decide) (by omega) (by omega) ?_
    exact fin
  · by_cases h2 : 1 ≤ z ∧ z ≤ 9
    · refine g_iload_n E dX1_addDoor_0 rfl rfl ?_
      refine g_iload_n E dX1_addDoor_1 rfl rfl ?_
      refine g_icmp_eq_f E dX1_addDoor_2 (tgt := 29) (by decide) (by omega) (by omega) ?_
      refine g_iload_n E dX1_addDoor_5 rfl rfl ?_
      refine g_iconst E dX1_addDoor_6 ?_
      refine g_bipush E dX1_addDoor_7 (by decide) ?_
      refine g_callSI E (cM_in (rv := 1) (by omega) (Or.inl ⟨rfl, by omega, by omega⟩)) (va_cwS 3 hts gX1_addDoor_X1_in rfl rfl rfl hdX1_in.2 ⟨(Nat.le_of_ble_eq_true rfl), (Nat.le_of_ble_eq_true rfl)⟩) rfl rfl rfl (Nat.le_of_ble_eq_true rfl) dX1_addDoor_9 ⟨Nat.zero_le _, Nat.zero_le _⟩ ?_
      refine g_if_eq_f E dX1_addDoor_12 (tgt := 29) (by decide) (by omega) (by omega) ?_
      refine g_iload E dX1_addDoor_15 rfl ?_
      refine g_iconst E dX1_addDoor_17 ?_
      refine g_iconst E dX1_addDoor_18 ?_
      refine g_callSI E (cM_in (rv := 0) (by omega) (Or.inr ⟨rfl, by omega⟩)) (va_cwS 3 hts gX1_addDoor_X1_in rfl rfl rfl hdX1_in.2 ⟨(Nat.le_of_ble_eq_true rfl), (Nat.le_of_ble_eq_true rfl)⟩) rfl rfl rfl (Nat.le_of_ble_eq_true rfl) dX1_addDoor_19 ⟨Nat.zero_le _, Nat.zero_le _⟩ ?_
      refine g_if_eq_t E dX1_addDoor_22 (tgt := 29) (by decide) (by omega) (by omega) ?_
      exact fin
    · refine g_iload_n E dX1_addDoor_0 rfl rfl ?_
      refine g_iload_n E dX1_addDoor_1 rfl rfl ?_
      refine g_icmp_eq_f E dX1_addDoor_2 (tgt := 29) (by decide) (by omega) (by omega) ?_
      refine g_iload_n E dX1_addDoor_5 rfl rfl ?_
      refine g_iconst E dX1_addDoor_6 ?_
      refine g_bipush E dX1_addDoor_7 (by decide) ?_
      refine g_callSI E (cM_in (rv := 0) (by omega) (Or.inr ⟨rfl, by omega⟩)) (va_cwS 3 hts gX1_addDoor_X1_in rfl rfl rfl hdX1_in.2 ⟨(Nat.le_of_ble_eq_true rfl), (Nat.le_of_ble_eq_true rfl)⟩) rfl rfl rfl (Nat.le_of_ble_eq_true rfl) dX1_addDoor_9 ⟨Nat.zero_le _, Nat.zero_le _⟩ ?_
      refine g_if_eq_t E dX1_addDoor_12 (tgt := 29) (by decide) (by omega) (by omega) ?_
      exact fin
set_option maxHeartbeats 4000000 in
set_option maxRecDepth 100000 in
theorem cM_addDoor1 {l : Launch} {D : va_G} {cI cZ : ClassId} {q : Nat} {r : Nat → Nat} {P Dn : Nat} {th t lo wa : Int} {g0 g1 g2 g3 g4 g5 g6 g7 g8 g9 g10 g11 g12 : Nat → Int} {x y z v : Int} (hgx : -2147483648 ≤ x ∧ x < 2147483648) (hgy : -2147483648 ≤ y ∧ y < 2147483648) (hgz : -2147483648 ≤ z ∧ z < 2147483648) (hgv : -2147483648 ≤ v ∧ v < 2147483648) (hP : 1 ≤ P ∧ P ≤ 11) (hDn : Dn ≤ 16) (hx : x < 0 ∨ P ≤ x ∨ y < 0 ∨ P ≤ y) : gMI l yX1_addDoor wsX1_addDoor 6 D (gTy cI cZ) (gM cI cZ q r [th, (P : Int), (Dn : Int), t, lo, wa] [g0, g1, g2, g3, g4, g5, g6, g7, g8, g9, g10, g11, g12]) [.ref q, .int (iI x), .int (iI y), .int (iI z), .int (iI v)] 0 (gM cI cZ q r [1, (P : Int), (Dn : Int), t, lo, wa] [g0, g1, g2, g3, g4, g5, g6, g7, g8, g9, g10, g11, g12]) := by
  refine g_ofI (by decide +kernel) rfl rfl (Nat.le_of_ble_eq_true rfl) (g_cat1 rfl) rfl ?_
  intro p e s m args below meth c Q A0 E hret
  have hts := E.1.2.2.2.2
  show gJ p l e (gR 6) s m args below meth c 0 0 Q A0 D (gM cI cZ q r [th, (P : Int), (Dn : Int), t, lo, wa] [g0, g1, g2, g3, g4, g5, g6, g7, g8, g9, g10, g11, g12]) [some (.ref q), some (.int (iI x)), some (.int (iI y)), some (.int (iI z)), some (.int (iI v)), none] 0 []
  have fin : ∀ a5 : Option Value, gJ p l e (gR 6) s m args below meth c 0 0 Q A0 D (gM cI cZ q r [th, (P : Int), (Dn : Int), t, lo, wa] [g0, g1, g2, g3, g4, g5, g6, g7, g8, g9, g10, g11, g12]) [some (.ref q), some (.int (iI x)), some (.int (iI y)), some (.int (iI z)), some (.int (iI v)), a5] 32 [] := by
    intro a5
    by_cases h1 : x < 0 ∨ P ≤ x
    · refine g_aload_n E dX1_addDoor_32 rfl rfl ?_
      refine g_aload_n E dX1_addDoor_33 rfl rfl ?_
      refine g_iload_n E dX1_addDoor_34 rfl rfl ?_
      refine g_callI0 E (cM_isPlace (rv := 0) (by omega) (Or.inr ⟨rfl, by omega⟩)) (cwV 1 hts gX1_addDoor_X1_isPlace rfl rfl rfl hdX1_isPlace ⟨(Nat.le_of_ble_eq_true rfl), (Nat.le_of_ble_eq_true rfl)⟩) rfl rfl rfl (Nat.le_of_ble_eq_true rfl) gW_0 rfl dX1_addDoor_35 ⟨Nat.zero_le _, Nat.zero_le _⟩ ?_
      refine g_if_eq_t E dX1_addDoor_38 (tgt := 49) (by decide) (by omega) (by omega) ?_
      refine g_iconst E dX1_addDoor_49 ?_
      refine g_goto E dX1_addDoor_50 (tgt := 76) (by decide) ?_
      refine g_callI0 E (cM_goesWell (rv := 0) (by omega) (Or.inr ⟨by omega, rfl⟩)) (cwV 1 hts gX1_addDoor_X1_goesWell rfl rfl rfl hdX1_goesWell ⟨(Nat.le_of_ble_eq_true rfl), (Nat.le_of_ble_eq_true rfl)⟩) rfl rfl rfl (Nat.le_of_ble_eq_true rfl) gW_0 rfl dX1_addDoor_76 ⟨Nat.zero_le _, Nat.zero_le _⟩ ?_
      refine g_if_ne_f E dX1_addDoor_79 (tgt := 84) (by decide) (by omega) (by omega) ?_
      refine g_iconst E dX1_addDoor_82 ?_
      exact g_ri rfl hret dX1_addDoor_83
    · refine g_aload_n E dX1_addDoor_32 rfl rfl ?_
      refine g_aload_n E dX1_addDoor_33 rfl rfl ?_
      refine g_iload_n E dX1_addDoor_34 rfl rfl ?_
      refine g_callI0 E (cM_isPlace (rv := 1) (by omega) (Or.inl ⟨rfl, by omega, by omega⟩)) (cwV 1 hts gX1_addDoor_X1_isPlace rfl rfl rfl hdX1_isPlace ⟨(Nat.le_of_ble_eq_true rfl), (Nat.le_of_ble_eq_true rfl)⟩) rfl rfl rfl (Nat.le_of_ble_eq_true rfl) gW_0 rfl dX1_addDoor_35 ⟨Nat.zero_le _, Nat.zero_le _⟩ ?_
      refine g_if_eq_f E dX1_addDoor_38 (tgt := 49) (by decide) (by omega) (by omega) ?_
      refine g_aload_n E dX1_addDoor_41 rfl rfl ?_
      refine g_iload_n E dX1_addDoor_42 rfl rfl ?_
      refine g_callI0 E (cM_isPlace (rv := 0) (by omega) (Or.inr ⟨rfl, by omega⟩)) (cwV 1 hts gX1_addDoor_X1_isPlace rfl rfl rfl hdX1_isPlace ⟨(Nat.le_of_ble_eq_true rfl), (Nat.le_of_ble_eq_true rfl)⟩) rfl rfl rfl (Nat.le_of_ble_eq_true rfl) gW_0 rfl dX1_addDoor_43 ⟨Nat.zero_le _, Nat.zero_le _⟩ ?_
      refine g_if_ne_f E dX1_addDoor_46 (tgt := 53) (by decide) (by omega) (by omega) ?_
      refine g_iconst E dX1_addDoor_49 ?_
      refine g_goto E dX1_addDoor_50 (tgt := 76) (by decide) ?_
      refine g_callI0 E (cM_goesWell (rv := 0) (by omega) (Or.inr ⟨by omega, rfl⟩)) (cwV 1 hts gX1_addDoor_X1_goesWell rfl rfl rfl hdX1_goesWell ⟨(Nat.le_of_ble_eq_true rfl), (Nat.le_of_ble_eq_true rfl)⟩) rfl rfl rfl (Nat.le_of_ble_eq_true rfl) gW_0 rfl dX1_addDoor_76 ⟨Nat.zero_le _, Nat.zero_le _⟩ ?_
      refine g_if_ne_f E dX1_addDoor_79 (tgt := 84) (by decide) (by omega) (by omega) ?_
      refine g_iconst E dX1_addDoor_82 ?_
      exact g_ri rfl hret dX1_addDoor_83
  by_cases h1 : x = y
  · refine g_iload_n E dX1_addDoor_0 rfl rfl ?_
    refine g_iload_n E dX1_addDoor_1 rfl rfl ?_
    refine g_icmp_eq_t E dX1_addDoor_2 (tgt := 29) (by decide) (by omega) (by omega) ?_
    refine g_iconst E dX1_addDoor_29 ?_
    refine g_istore E (lv' := [_, _, _, _, _, _]) dX1_addDoor_30 (Nat.le_of_ble_eq_true rfl) rfl ?_
    exact fin _
  · by_cases h2 : 1 ≤ z ∧ z ≤ 9
    · by_cases h3 : 1 ≤ v ∧ v ≤ 5
      · refine g_iload_n E dX1_addDoor_0 rfl rfl ?_
        refine g_iload_n E dX1_addDoor_1 rfl rfl ?_
        refine g_icmp_eq_f E dX1_addDoor_2 (tgt := 29) (by decide) (by omega) (by omega) ?_
        refine g_iload_n E dX1_addDoor_5 rfl rfl ?_
        refine g_iconst E dX1_addDoor_6 ?_
        refine g_bipush E dX1_addDoor_7 (by decide) ?_
        refine g_callSI E (cM_in (rv := 1) (by omega) (Or.inl ⟨rfl, by omega, by omega⟩)) (va_cwS 3 hts gX1_addDoor_X1_in rfl rfl rfl hdX1_in.2 ⟨(Nat.le_of_ble_eq_true rfl), (Nat.le_of_ble_eq_true rfl)⟩) rfl rfl rfl (Nat.le_of_ble_eq_true rfl) dX1_addDoor_9 ⟨Nat.zero_le _, Nat.zero_le _⟩ ?_
        refine g_if_eq_f E dX1_addDoor_12 (tgt := 29) (by decide) (by omega) (by omega) ?_
        refine g_iload E dX1_addDoor_15 rfl ?_
        refine g_iconst E dX1_addDoor_17 ?_
        refine g_iconst E dX1_addDoor_18 ?_
        refine g_callSI E (cM_in (rv := 1) (by omega) (Or.inl ⟨rfl, by omega, by omega⟩)) (va_cwS 3 hts gX1_addDoor_X1_in rfl rfl rfl hdX1_in.2 ⟨(Nat.le_of_ble_eq_true rfl), (Nat.le_of_ble_eq_true rfl)⟩) rfl rfl rfl (Nat.le_of_ble_eq_true rfl) dX1_addDoor_19 ⟨Nat.zero_le _, Nat.zero_le _⟩ ?_
        refine g_if_eq_f E dX1_addDoor_22 (tgt := 29) (by decide) (by omega) (by omega) ?_
        refine g_iconst E dX1_addDoor_25 ?_
        refine g_goto E dX1_addDoor_26 (tgt := 30) (by decide) ?_
        refine g_istore E (lv' := [_, _, _, _, _, _]) dX1_addDoor_30 (Nat.le_of_ble_eq_true rfl) rfl ?_
        exact fin _
      · refine g_iload_n E dX1_addDoor_0 rfl rfl ?_
        refine g_iload_n E dX1_addDoor_1 rfl rfl ?_
        refine g_icmp_eq_f E dX1_addDoor_2 (tgt := 29) (by decide) (by omega) (by omega) ?_
        refine g_iload_n E dX1_addDoor_5 rfl rfl ?_
        refine g_iconst E dX1_addDoor_6 ?_
        refine g_bipush E dX1_addDoor_7 (by decide) ?_
        refine g_callSI E (cM_in (rv := 1) (by omega) (Or.inl ⟨rfl, by omega, by omega⟩)) (va_cwS 3 hts gX1_addDoor_X1_in rfl rfl rfl hdX1_in.2 ⟨(Nat.le_of_ble_eq_true rfl), (Nat.le_of_ble_eq_true rfl)⟩) rfl rfl rfl (Nat.le_of_ble_eq_true rfl) dX1_addDoor_9 ⟨Nat.zero_le _, Nat.zero_le _⟩ ?_
        refine g_if_eq_f E dX1_addDoor_12 (tgt := 29) (by decide) (by omega) (by omega) ?_
        refine g_iload E dX1_addDoor_15 rfl ?_
        refine g_iconst E dX1_addDoor_17 ?_
        refine g_iconst E dX1_addDoor_18 ?_
        refine g_callSI E (cM_in (rv := 0) (by omega) (Or.inr ⟨rfl, by omega⟩)) (va_cwS 3 hts gX1_addDoor_X1_in rfl rfl rfl hdX1_in.2 ⟨(Nat.le_of_ble_eq_true rfl), (Nat.le_of_ble_eq_true rfl)⟩) rfl rfl rfl (Nat.le_of_ble_eq_true rfl) dX1_addDoor_19 ⟨Nat.zero_le _, Nat.zero_le _⟩ ?_
        refine g_if_eq_t E dX1_addDoor_22 (tgt := 29) (by decide) (by omega) (by omega) ?_
        refine g_iconst E dX1_addDoor_29 ?_
        refine g_istore E (lv' := [_, _, _, _, _, _]) dX1_addDoor_30 (Nat.le_of_ble_eq_true rfl) rfl ?_
        exact fin _
    · refine g_iload_n E dX1_addDoor_0 rfl rfl ?_
      refine g_iload_n E dX1_addDoor_1 rfl rfl ?_
      refine g_icmp_eq_f E dX1_addDoor_2 (tgt := 29) (by decide) (by omega) (by omega) ?_
      refine g_iload_n E dX1_addDoor_5 rfl rfl ?_
      refine g_iconst E dX1_addDoor_6 ?_
      refine g_bipush E dX1_addDoor_7 (by decide) ?_
      refine g_callSI E (cM_in (rv := 0) (by omega) (Or.inr ⟨rfl, by omega⟩)) (va_cwS 3 hts gX1_addDoor_X1_in rfl rfl rfl hdX1_in.2 ⟨(Nat.le_of_ble_eq_true rfl), (Nat.le_of_ble_eq_true rfl)⟩) rfl rfl rfl (Nat.le_of_ble_eq_true rfl) dX1_addDoor_9 ⟨Nat.zero_le _, Nat.zero_le _⟩ ?_
      refine g_if_eq_t E dX1_addDoor_12 (tgt := 29) (by decide) (by omega) (by omega) ?_
      refine g_iconst E dX1_addDoor_29 ?_
      refine g_istore E (lv' := [_, _, _, _, _, _]) dX1_addDoor_30 (Nat.le_of_ble_eq_true rfl) rfl ?_
      exact fin _
set_option maxHeartbeats 4000000 in
set_option maxRecDepth 100000 in
theorem cM_setDoor0 {l : Launch} {D : va_G} {cI cZ : ClassId} {q : Nat} {r : Nat → Nat} {P Dn : Nat} {th t lo wa : Int} {g0 g1 g2 g3 g4 g5 g6 g7 g8 g9 g10 g11 g12 : Nat → Int} {i : Nat} {o : Int} (hDn : Dn ≤ 16) (hi : i < Dn) (ho : o = 0 ∨ o = 1) (ho9 : g7 i = 0 ∨ g7 i = 1) : gMI l yX1_setDoor wsX1_setDoor 6 D (gTy cI cZ) (gM cI cZ q r [th, (P : Int), (Dn : Int), t, lo, wa] [g0, g1, g2, g3, g4, g5, g6, g7, g8, g9, g10, g11, g12]) [.ref q, .int (iI (i : Int)), .int (iI o)] (g7 i) (gM cI cZ q r [0, (P : Int), (Dn : Int), t, lo, wa] [g0, g1, g2, g3, g4, g5, g6, (gu g7 i o), g8, g9, g10, g11, g12]) := by
  refine g_ofI (by decide +kernel) rfl rfl (Nat.le_of_ble_eq_true rfl) (g_cat1 rfl) (g_narZ (by omega)) ?_
  intro p e s m args below meth c Q A0 E hret
  have hts := E.1.2.2.2.2
  show gJ p l e (gR 6) s m args below meth c 0 0 Q A0 D (gM cI cZ q r [th, (P : Int), (Dn : Int), t, lo, wa] [g0, g1, g2, g3, g4, g5, g6, g7, g8, g9, g10, g11, g12]) [some (.ref q), some (.int (iI (i : Int))), some (.int (iI o)), none] 0 []
  refine g_aload_n E dX1_setDoor_0 rfl rfl ?_
  refine g_aload_n E dX1_setDoor_1 rfl rfl ?_
  refine g_iload_n E dX1_setDoor_2 rfl rfl ?_
  refine g_callI0 E (cM_isDoor (rv := 1) (by omega) (Or.inl ⟨rfl, by omega, by omega⟩)) (cwV 1 hts gX1_setDoor_X1_isDoor rfl rfl rfl hdX1_isDoor ⟨(Nat.le_of_ble_eq_true rfl), (Nat.le_of_ble_eq_true rfl)⟩) rfl rfl rfl (Nat.le_of_ble_eq_true rfl) gW_0 rfl dX1_setDoor_3 ⟨Nat.zero_le _, Nat.zero_le _⟩ ?_
  refine g_if_eq_f E dX1_setDoor_6 (tgt := 13) (by decide) (by omega) (by omega) ?_
  refine g_iconst E dX1_setDoor_9 ?_
  refine g_goto E dX1_setDoor_10 (tgt := 14) (by decide) ?_
  refine g_callI0 E (cM_goesWell (rv := 1) (by omega) (Or.inl ⟨rfl, rfl⟩)) (cwV 1 hts gX1_setDoor_X1_goesWell rfl rfl rfl hdX1_goesWell ⟨(Nat.le_of_ble_eq_true rfl), (Nat.le_of_ble_eq_true rfl)⟩) rfl rfl rfl (Nat.le_of_ble_eq_true rfl) gW_0 rfl dX1_setDoor_14 ⟨Nat.zero_le _, Nat.zero_le _⟩ ?_
  refine g_if_ne_t E dX1_setDoor_17 (tgt := 22) (by decide) (by omega) (by omega) ?_
  refine g_aload_n E dX1_setDoor_22 rfl rfl ?_
  refine g_getR E inX1_setDoor rfl flX1_setDoor_35 dX1_setDoor_23 (by decide) rfl ?_
  refine g_iload_n E dX1_setDoor_26 rfl rfl ?_
  refine g_zld E dX1_setDoor_27 rfl rfl rfl (by omega) ?_
  refine g_istore_n E (lv' := [_, _, _, _]) dX1_setDoor_28 rfl (Nat.le_of_ble_eq_true rfl) rfl ?_
  refine g_aload_n E dX1_setDoor_29 rfl rfl ?_
  refine g_getR E inX1_setDoor rfl flX1_setDoor_35 dX1_setDoor_30 (by decide) rfl ?_
  refine g_iload_n E dX1_setDoor_33 rfl rfl ?_
  refine g_iload_n E dX1_setDoor_34 rfl rfl ?_
  refine g_zst E (A' := [_, _, _, _, _, _, _, _, _, _, _, _, _]) dX1_setDoor_35 rfl rfl rfl (by omega) ho rfl ?_
  refine g_iload_n E dX1_setDoor_36 rfl rfl ?_
  exact g_ri rfl hret dX1_setDoor_37
set_option maxHeartbeats 4000000 in
set_option maxRecDepth 100000 in
theorem cM_setDoor1 {l : Launch} {D : va_G} {cI cZ : ClassId} {q : Nat} {r : Nat → Nat} {P Dn : Nat} {th t lo wa : Int} {g0 g1 g2 g3 g4 g5 g6 g7 g8 g9 g10 g11 g12 : Nat → Int} {x o : Int} (hgx : -2147483648 ≤ x ∧ x < 2147483648) (hDn : Dn ≤ 16) (hx : x < 0 ∨ Dn ≤ x) : gMI l yX1_setDoor wsX1_setDoor 6 D (gTy cI cZ) (gM cI cZ q r [th, (P : Int), (Dn : Int), t, lo, wa] [g0, g1, g2, g3, g4, g5, g6, g7, g8, g9, g10, g11, g12]) [.ref q, .int (iI x), .int (iI o)] 0 (gM cI cZ q r [1, (P : Int), (Dn : Int), t, lo, wa] [g0, g1, g2, g3, g4, g5, g6, g7, g8, g9, g10, g11, g12]) := by
  refine g_ofI (by decide +kernel) rfl rfl (Nat.le_of_ble_eq_true rfl) (g_cat1 rfl) (g_narZ (by omega)) ?_
  intro p e s m args below meth c Q A0 E hret
  have hts := E.1.2.2.2.2
  show gJ p l e (gR 6) s m args below meth c 0 0 Q A0 D (gM cI cZ q r [th, (P : Int), (Dn : Int), t, lo, wa] [g0, g1, g2, g3, g4, g5, g6, g7, g8, g9, g10, g11, g12]) [some (.ref q), some (.int (iI x)), some (.int (iI o)), none] 0 []
  refine g_aload_n E dX1_setDoor_0 rfl rfl ?_
  refine g_aload_n E dX1_setDoor_1 rfl rfl ?_
  refine g_iload_n E dX1_setDoor_2 rfl rfl ?_
  refine g_callI0 E (cM_isDoor (rv := 0) (by omega) (Or.inr ⟨rfl, by omega⟩)) (cwV 1 hts gX1_setDoor_X1_isDoor rfl rfl rfl hdX1_isDoor ⟨(Nat.le_of_ble_eq_true rfl), (Nat.le_of_ble_eq_true rfl)⟩) rfl rfl rfl (Nat.le_of_ble_eq_true rfl) gW_0 rfl dX1_setDoor_3 ⟨Nat.zero_le _, Nat.zero_le _⟩ ?_
  refine g_if_eq_t E dX1_setDoor_6 (tgt := 13) (by decide) (by omega) (by omega) ?_
  refine g_iconst E dX1_setDoor_13 ?_
  refine g_callI0 E (cM_goesWell (rv := 0) (by omega) (Or.inr ⟨by omega, rfl⟩)) (cwV 1 hts gX1_setDoor_X1_goesWell rfl rfl rfl hdX1_goesWell ⟨(Nat.le_of_ble_eq_true rfl), (Nat.le_of_ble_eq_true rfl)⟩) rfl rfl rfl (Nat.le_of_ble_eq_true rfl) gW_0 rfl dX1_setDoor_14 ⟨Nat.zero_le _, Nat.zero_le _⟩ ?_
  refine g_if_ne_f E dX1_setDoor_17 (tgt := 22) (by decide) (by omega) (by omega) ?_
  refine g_iconst E dX1_setDoor_20 ?_
  exact g_ri rfl hret dX1_setDoor_21
set_option maxHeartbeats 4000000 in
set_option maxRecDepth 100000 in
theorem cM_come0 {l : Launch} {D : va_G} {cI cZ : ClassId} {q : Nat} {r : Nat → Nat} {P Dn : Nat} {th t lo wa : Int} {g0 g1 g2 g3 g4 g5 g6 g7 g8 g9 g10 g11 g12 : Nat → Int} {i : Nat} {n : Int} (hP : 1 ≤ P ∧ P ≤ 11) (hi : 1 ≤ i ∧ i < P) (hn : 1 ≤ n ∧ n ≤ 30) (hf : 0 ≤ g1 i ∧ g1 i ≤ g0 i ∧ g0 i ≤ 30) (hle : g1 i + n ≤ g0 i) : gMI l yX1_come wsX1_come 6 D (gTy cI cZ) (gM cI cZ q r [th, (P : Int), (Dn : Int), t, lo, wa] [g0, g1, g2, g3, g4, g5, g6, g7, g8, g9, g10, g11, g12]) [.ref q, .int (iI (i : Int)), .int (iI n)] (g1 i + n) (gM cI cZ q r [0, (P : Int), (Dn : Int), t, lo, wa] [g0, (gu g1 i (g1 i + n)), g2, g3, g4, g5, g6, g7, g8, g9, g10, g11, g12]) := by
  refine g_ofI (by decide +kernel) rfl rfl (Nat.le_of_ble_eq_true rfl) (g_cat1 rfl) rfl ?_
  intro p e s m args below meth c Q A0 E hret
  have hts := E.1.2.2.2.2
  show gJ p l e (gR 6) s m args below meth c 0 0 Q A0 D (gM cI cZ q r [th, (P : Int), (Dn : Int), t, lo, wa] [g0, g1, g2, g3, g4, g5, g6, g7, g8, g9, g10, g11, g12]) [some (.ref q), some (.int (iI (i : Int))), some (.int (iI n)), none, none] 0 []
  refine g_iload_n E dX1_come_0 rfl rfl ?_
  refine g_if_eq_f E dX1_come_1 (tgt := 18) (by decide) (by omega) (by omega) ?_
  refine g_iload_n E dX1_come_4 rfl rfl ?_
  refine g_iconst E dX1_come_5 ?_
  refine g_bipush E dX1_come_6 (by decide) ?_
  refine g_callSI E (cM_in (rv := 1) (by omega) (Or.inl ⟨rfl, by omega, by omega⟩)) (va_cwS 3 hts gX1_come_X1_in rfl rfl rfl hdX1_in.2 ⟨(Nat.le_of_ble_eq_true rfl), (Nat.le_of_ble_eq_true rfl)⟩) rfl rfl rfl (Nat.le_of_ble_eq_true rfl) dX1_come_8 ⟨Nat.zero_le _, Nat.zero_le _⟩ ?_
  refine g_if_eq_f E dX1_come_11 (tgt := 18) (by decide) (by omega) (by omega) ?_
  refine g_iconst E dX1_come_14 ?_
  refine g_goto E dX1_come_15 (tgt := 19) (by decide) ?_
  refine g_istore_n E (lv' := [_, _, _, _, _]) dX1_come_19 rfl (Nat.le_of_ble_eq_true rfl) rfl ?_
  refine g_aload_n E dX1_come_20 rfl rfl ?_
  refine g_iload_n E dX1_come_21 rfl rfl ?_
  refine g_callI0 E (cM_isPlace (rv := 1) (by omega) (Or.inl ⟨rfl, by omega, by omega⟩)) (cwV 1 hts gX1_come_X1_isPlace rfl rfl rfl hdX1_isPlace ⟨(Nat.le_of_ble_eq_true rfl), (Nat.le_of_ble_eq_true rfl)⟩) rfl rfl rfl (Nat.le_of_ble_eq_true rfl) gW_0 rfl dX1_come_22 ⟨Nat.zero_le _, Nat.zero_le _⟩ ?_
  refine g_if_eq_f E dX1_come_25 (tgt := 53) (by decide) (by omega) (by omega) ?_
  refine g_iload_n E dX1_come_28 rfl rfl ?_
  refine g_if_eq_f E dX1_come_29 (tgt := 53) (by decide) (by omega) (by omega) ?_
  refine g_aload_n E dX1_come_32 rfl rfl ?_
  refine g_getR E inX1_come rfl flX1_come_17 dX1_come_33 (by decide) rfl ?_
  refine g_iload_n E dX1_come_36 rfl rfl ?_
  refine g_ald E dX1_come_37 rfl rfl rfl (by omega) ?_
  refine g_iload_n E dX1_come_38 rfl rfl ?_
  refine g_iadd E dX1_come_39 ?_
  refine g_aload_n E dX1_come_40 rfl rfl ?_
  refine g_getR E inX1_come rfl flX1_come_13 dX1_come_41 (by decide) rfl ?_
  refine g_iload_n E dX1_come_44 rfl rfl ?_
  refine g_ald E dX1_come_45 rfl rfl rfl (by omega) ?_
  refine g_icmp_le_t E dX1_come_46 (tgt := 53) (by decide) (by omega) (by omega) ?_
  refine g_iconst E dX1_come_53 ?_
  refine g_istore E (lv' := [_, _, _, _, _]) dX1_come_54 (Nat.le_of_ble_eq_true rfl) rfl ?_
  refine g_aload_n E dX1_come_56 rfl rfl ?_
  refine g_aload_n E dX1_come_57 rfl rfl ?_
  refine g_iload_n E dX1_come_58 rfl rfl ?_
  refine g_callI0 E (cM_isPlace (rv := 1) (by omega) (Or.inl ⟨rfl, by omega, by omega⟩)) (cwV 1 hts gX1_come_X1_isPlace rfl rfl rfl hdX1_isPlace ⟨(Nat.le_of_ble_eq_true rfl), (Nat.le_of_ble_eq_true rfl)⟩) rfl rfl rfl (Nat.le_of_ble_eq_true rfl) gW_0 rfl dX1_come_59 ⟨Nat.zero_le _, Nat.zero_le _⟩ ?_
  refine g_if_ne_t E dX1_come_62 (tgt := 69) (by decide) (by omega) (by omega) ?_
  refine g_iload_n E dX1_come_69 rfl rfl ?_
  refine g_if_ne_t E dX1_come_70 (tgt := 77) (by decide) (by omega) (by omega) ?_
  refine g_iload E dX1_come_77 rfl ?_
  refine g_if_eq_t E dX1_come_79 (tgt := 86) (by decide) (by omega) (by omega) ?_
  refine g_iconst E dX1_come_86 ?_
  refine g_callI0 E (cM_goesWell (rv := 1) (by omega) (Or.inl ⟨rfl, rfl⟩)) (cwV 1 hts gX1_come_X1_goesWell rfl rfl rfl hdX1_goesWell ⟨(Nat.le_of_ble_eq_true rfl), (Nat.le_of_ble_eq_true rfl)⟩) rfl rfl rfl (Nat.le_of_ble_eq_true rfl) gW_0 rfl dX1_come_87 ⟨Nat.zero_le _, Nat.zero_le _⟩ ?_
  refine g_if_ne_t E dX1_come_90 (tgt := 95) (by decide) (by omega) (by omega) ?_
  refine g_aload_n E dX1_come_95 rfl rfl ?_
  refine g_getR E inX1_come rfl flX1_come_17 dX1_come_96 (by decide) rfl ?_
  refine g_iload_n E dX1_come_99 rfl rfl ?_
  refine g_dup2 E dX1_come_100 rfl rfl ?_
  refine g_ald E dX1_come_101 rfl rfl rfl (by omega) ?_
  refine g_iload_n E dX1_come_102 rfl rfl ?_
  refine g_iadd E dX1_come_103 ?_
  refine g_ast E (A' := [_, _, _, _, _, _, _, _, _, _, _, _, _]) dX1_come_104 rfl rfl rfl (by omega) rfl ?_
  refine g_aload_n E dX1_come_105 rfl rfl ?_
  refine g_getR E inX1_come rfl flX1_come_17 dX1_come_106 (by decide) rfl ?_
  refine g_iload_n E dX1_come_109 rfl rfl ?_
  refine g_ald E dX1_come_110 rfl rfl rfl (by omega) ?_
  exact g_ri (gu_s _ _ _) hret dX1_come_111
set_option maxHeartbeats 4000000 in
set_option maxRecDepth 100000 in
theorem cM_come3 {l : Launch} {D : va_G} {cI cZ : ClassId} {q : Nat} {r : Nat → Nat} {P Dn : Nat} {th t lo wa : Int} {g0 g1 g2 g3 g4 g5 g6 g7 g8 g9 g10 g11 g12 : Nat → Int} {i : Nat} {n : Int} (hP : 1 ≤ P ∧ P ≤ 11) (hi : 1 ≤ i ∧ i < P) (hn : 1 ≤ n ∧ n ≤ 30) (hf : 0 ≤ g1 i ∧ g1 i ≤ g0 i ∧ g0 i ≤ 30) (hle : g0 i < g1 i + n) : gMI l yX1_come wsX1_come 6 D (gTy cI cZ) (gM cI cZ q r [th, (P : Int), (Dn : Int), t, lo, wa] [g0, g1, g2, g3, g4, g5, g6, g7, g8, g9, g10, g11, g12]) [.ref q, .int (iI (i : Int)), .int (iI n)] 0 (gM cI cZ q r [3, (P : Int), (Dn : Int), t, lo, wa] [g0, g1, g2, g3, g4, g5, g6, g7, g8, g9, g10, g11, g12]) := by
  refine g_ofI (by decide +kernel) rfl rfl (Nat.le_of_ble_eq_true rfl) (g_cat1 rfl) rfl ?_
  intro p e s m args below meth c Q A0 E hret
  have hts := E.1.2.2.2.2
  show gJ p l e (gR 6) s m args below meth c 0 0 Q A0 D (gM cI cZ q r [th, (P : Int), (Dn : Int), t, lo, wa] [g0, g1, g2, g3, g4, g5, g6, g7, g8, g9, g10, g11, g12]) [some (.ref q), some (.int (iI (i : Int))), some (.int (iI n)), none, none] 0 []
  refine g_iload_n E dX1_come_0 rfl rfl ?_
  refine g_if_eq_f E dX1_come_1 (tgt := 18) (by decide) (by omega) (by omega) ?_
  refine g_iload_n E dX1_come_4 rfl rfl ?_
  refine g_iconst E dX1_come_5 ?_
  refine g_bipush E dX1_come_6 (by decide) ?_
  refine g_callSI E (cM_in (rv := 1) (by omega) (Or.inl ⟨rfl, by omega, by omega⟩)) (va_cwS 3 hts gX1_come_X1_in rfl rfl rfl hdX1_in.2 ⟨(Nat.le_of_ble_eq_true rfl), (Nat.le_of_ble_eq_true rfl)⟩) rfl rfl rfl (Nat.le_of_ble_eq_true rfl) dX1_come_8 ⟨Nat.zero_le _, Nat.zero_le _⟩ ?_
  refine g_if_eq_f E dX1_come_11 (tgt := 18) (by decide) (by omega) (by omega) ?_
  refine g_iconst E dX1_come_14 ?_
  refine g_goto E dX1_come_15 (tgt := 19) (by decide) ?_
  refine g_istore_n E (lv' := [_, _, _, _, _]) dX1_come_19 rfl (Nat.le_of_ble_eq_true rfl) rfl ?_
  refine g_aload_n E dX1_come_20 rfl rfl ?_
  refine g_iload_n E dX1_come_21 rfl rfl ?_
  refine g_callI0 E (cM_isPlace (rv := 1) (by omega) (Or.inl ⟨rfl, by omega, by omega⟩)) (cwV 1 hts gX1_come_X1_isPlace rfl rfl rfl hdX1_isPlace ⟨(Nat.le_of_ble_eq_true rfl), (Nat.le_of_ble_eq_true rfl)⟩) rfl rfl rfl (Nat.le_of_ble_eq_true rfl) gW_0 rfl dX1_come_22 ⟨Nat.zero_le _, Nat.zero_le _⟩ ?_
  refine g_if_eq_f E dX1_come_25 (tgt := 53) (by decide) (by omega) (by omega) ?_
  refine g_iload_n E dX1_come_28 rfl rfl ?_
  refine g_if_eq_f E dX1_come_29 (tgt := 53) (by decide) (by omega) (by omega) ?_
  refine g_aload_n E dX1_come_32 rfl rfl ?_
  refine g_getR E inX1_come rfl flX1_come_17 dX1_come_33 (by decide) rfl ?_
  refine g_iload_n E dX1_come_36 rfl rfl ?_
  refine g_ald E dX1_come_37 rfl rfl rfl (by omega) ?_
  refine g_iload_n E dX1_come_38 rfl rfl ?_
  refine g_iadd E dX1_come_39 ?_
  refine g_aload_n E dX1_come_40 rfl rfl ?_
  refine g_getR E inX1_come rfl flX1_come_13 dX1_come_41 (by decide) rfl ?_
  refine g_iload_n E dX1_come_44 rfl rfl ?_
  refine g_ald E dX1_come_45 rfl rfl rfl (by omega) ?_
  refine g_icmp_le_f E dX1_come_46 (tgt := 53) (by decide) (by omega) (by omega) ?_
  refine g_iconst E dX1_come_49 ?_
  refine g_goto E dX1_come_50 (tgt := 54) (by decide) ?_
  refine g_istore E (lv' := [_, _, _, _, _]) dX1_come_54 (Nat.le_of_ble_eq_true rfl) rfl ?_
  refine g_aload_n E dX1_come_56 rfl rfl ?_
  refine g_aload_n E dX1_come_57 rfl rfl ?_
  refine g_iload_n E dX1_come_58 rfl rfl ?_
  refine g_callI0 E (cM_isPlace (rv := 1) (by omega) (Or.inl ⟨rfl, by omega, by omega⟩)) (cwV 1 hts gX1_come_X1_isPlace rfl rfl rfl hdX1_isPlace ⟨(Nat.le_of_ble_eq_true rfl), (Nat.le_of_ble_eq_true rfl)⟩) rfl rfl rfl (Nat.le_of_ble_eq_true rfl) gW_0 rfl dX1_come_59 ⟨Nat.zero_le _, Nat.zero_le _⟩ ?_
  refine g_if_ne_t E dX1_come_62 (tgt := 69) (by decide) (by omega) (by omega) ?_
  refine g_iload_n E dX1_come_69 rfl rfl ?_
  refine g_if_ne_t E dX1_come_70 (tgt := 77) (by decide) (by omega) (by omega) ?_
  refine g_iload E dX1_come_77 rfl ?_
  refine g_if_eq_f E dX1_come_79 (tgt := 86) (by decide) (by omega) (by omega) ?_
  refine g_iconst E dX1_come_82 ?_
  refine g_goto E dX1_come_83 (tgt := 87) (by decide) ?_
  refine g_callI0 E (cM_goesWell (rv := 0) (by omega) (Or.inr ⟨by omega, rfl⟩)) (cwV 1 hts gX1_come_X1_goesWell rfl rfl rfl hdX1_goesWell ⟨(Nat.le_of_ble_eq_true rfl), (Nat.le_of_ble_eq_true rfl)⟩) rfl rfl rfl (Nat.le_of_ble_eq_true rfl) gW_0 rfl dX1_come_87 ⟨Nat.zero_le _, Nat.zero_le _⟩ ?_
  refine g_if_ne_f E dX1_come_90 (tgt := 95) (by decide) (by omega) (by omega) ?_
  refine g_iconst E dX1_come_93 ?_
  exact g_ri rfl hret dX1_come_94
set_option maxHeartbeats 4000000 in
set_option maxRecDepth 100000 in
theorem cM_come2 {l : Launch} {D : va_G} {cI cZ : ClassId} {q : Nat} {r : Nat → Nat} {P Dn : Nat} {th t lo wa : Int} {g0 g1 g2 g3 g4 g5 g6 g7 g8 g9 g10 g11 g12 : Nat → Int} {x n : Int} (hgn : -2147483648 ≤ n ∧ n < 2147483648) (hP : 1 ≤ P ∧ P ≤ 11) (hx : 0 ≤ x ∧ x < P) (hn : x = 0 ∨ n < 1 ∨ 30 < n) : gMI l yX1_come wsX1_come 6 D (gTy cI cZ) (gM cI cZ q r [th, (P : Int), (Dn : Int), t, lo, wa] [g0, g1, g2, g3, g4, g5, g6, g7, g8, g9, g10, g11, g12]) [.ref q, .int (iI x), .int (iI n)] 0 (gM cI cZ q r [2, (P : Int), (Dn : Int), t, lo, wa] [g0, g1, g2, g3, g4, g5, g6, g7, g8, g9, g10, g11, g12]) := by
  refine g_ofI (by decide +kernel) rfl rfl (Nat.le_of_ble_eq_true rfl) (g_cat1 rfl) rfl ?_
  intro p e s m args below meth c Q A0 E hret
  have hts := E.1.2.2.2.2
  show gJ p l e (gR 6) s m args below meth c 0 0 Q A0 D (gM cI cZ q r [th, (P : Int), (Dn : Int), t, lo, wa] [g0, g1, g2, g3, g4, g5, g6, g7, g8, g9, g10, g11, g12]) [some (.ref q), some (.int (iI x)), some (.int (iI n)), none, none] 0 []
  by_cases h1 : x = 0
  · refine g_iload_n E dX1_come_0 rfl rfl ?_
    refine g_if_eq_t E dX1_come_1 (tgt := 18) (by decide) (by omega) (by omega) ?_
    refine g_iconst E dX1_come_18 ?_
    refine g_istore_n E (lv' := [_, _, _, _, _]) dX1_come_19 rfl (Nat.le_of_ble_eq_true rfl) rfl ?_
    refine g_aload_n E dX1_come_20 rfl rfl ?_
    refine g_iload_n E dX1_come_21 rfl rfl ?_
    refine g_callI0 E (cM_isPlace (rv := 1) (by omega) (Or.inl ⟨rfl, by omega, by omega⟩)) (cwV 1 hts gX1_come_X1_isPlace rfl rfl rfl hdX1_isPlace ⟨(Nat.le_of_ble_eq_true rfl), (Nat.le_of_ble_eq_true rfl)⟩) rfl rfl rfl (Nat.le_of_ble_eq_true rfl) gW_0 rfl dX1_come_22 ⟨Nat.zero_le _, Nat.zero_le _⟩ ?_
    refine g_if_eq_f E dX1_come_25 (tgt := 53) (by decide) (by omega) (by omega) ?_
    refine g_iload_n E dX1_come_28 rfl rfl ?_
    refine g_if_eq_t E dX1_come_29 (tgt := 53) (by decide) (by omega) (by omega) ?_
    refine g_iconst E dX1_come_53 ?_
    refine g_istore E (lv' := [_, _, _, _, _]) dX1_come_54 (Nat.le_of_ble_eq_true rfl) rfl ?_
    refine g_aload_n E dX1_come_56 rfl rfl ?_
    refine g_aload_n E dX1_come_57 rfl rfl ?_
    refine g_iload_n E dX1_come_58 rfl rfl ?_
    refine g_callI0 E (cM_isPlace (rv := 1) (by omega) (Or.inl ⟨rfl, by omega, by omega⟩)) (cwV 1 hts gX1_come_X1_isPlace rfl rfl rfl hdX1_isPlace ⟨(Nat.le_of_ble_eq_true rfl), (Nat.le_of_ble_eq_true rfl)⟩) rfl rfl rfl (Nat.le_of_ble_eq_true rfl) gW_0 rfl dX1_come_59 ⟨Nat.zero_le _, Nat.zero_le _⟩ ?_
    refine g_if_ne_t E dX1_come_62 (tgt := 69) (by decide) (by omega) (by omega) ?_
    refine g_iload_n E dX1_come_69 rfl rfl ?_
    refine g_if_ne_f E dX1_come_70 (tgt := 77) (by decide) (by omega) (by omega) ?_
    refine g_iconst E dX1_come_73 ?_
    refine g_goto E dX1_come_74 (tgt := 87) (by decide) ?_
    refine g_callI0 E (cM_goesWell (rv := 0) (by omega) (Or.inr ⟨by omega, rfl⟩)) (cwV 1 hts gX1_come_X1_goesWell rfl rfl rfl hdX1_goesWell ⟨(Nat.le_of_ble_eq_true rfl), (Nat.le_of_ble_eq_true rfl)⟩) rfl rfl rfl (Nat.le_of_ble_eq_true rfl) gW_0 rfl dX1_come_87 ⟨Nat.zero_le _, Nat.zero_le _⟩ ?_
    refine g_if_ne_f E dX1_come_90 (tgt := 95) (by decide) (by omega) (by omega) ?_
    refine g_iconst E dX1_come_93 ?_
    exact g_ri rfl hret dX1_come_94
  · refine g_iload_n E dX1_come_0 rfl rfl ?_
    refine g_if_eq_f E dX1_come_1 (tgt := 18) (by decide) (by omega) (by omega) ?_
    refine g_iload_n E dX1_come_4 rfl rfl ?_
    refine g_iconst E dX1_come_5 ?_
    refine g_bipush E dX1_come_6 (by decide) ?_
    refine g_callSI E (cM_in (rv := 0) (by omega) (Or.inr ⟨rfl, by omega⟩)) (va_cwS 3 hts gX1_come_X1_in rfl rfl rfl hdX1_in.2 ⟨(Nat.le_of_ble_eq_true rfl), (Nat.le_of_ble_eq_true rfl)⟩) rfl rfl rfl (Nat.le_of_ble_eq_true rfl) dX1_come_8 ⟨Nat.zero_le _, Nat.zero_le _⟩ ?_
    refine g_if_eq_t E dX1_come_11 (tgt := 18) (by decide) (by omega) (by omega) ?_
    refine g_iconst E dX1_come_18 ?_
    refine g_istore_n E (lv' := [_, _, _, _, _]) dX1_come_19 rfl (Nat.le_of_ble_eq_true rfl) rfl ?_
    refine g_aload_n E dX1_come_20 rfl rfl ?_
    refine g_iload_n E dX1_come_21 rfl rfl ?_
    refine g_callI0 E (cM_isPlace (rv := 1) (by omega) (Or.inl ⟨rfl, by omega, by omega⟩)) (cwV 1 hts gX1_come_X1_isPlace rfl rfl rfl hdX1_isPlace ⟨(Nat.le_of_ble_eq_true rfl), (Nat.le_of_ble_eq_true rfl)⟩) rfl rfl rfl (Nat.le_of_ble_eq_true rfl) gW_0 rfl dX1_come_22 ⟨Nat.zero_le _, Nat.zero_le _⟩ ?_
    refine g_if_eq_f E dX1_come_25 (tgt := 53) (by decide) (by omega) (by omega) ?_
    refine g_iload_n E dX1_come_28 rfl rfl ?_
    refine g_if_eq_t E dX1_come_29 (tgt := 53) (by decide) (by omega) (by omega) ?_
    refine g_iconst E dX1_come_53 ?_
    refine g_istore E (lv' := [_, _, _, _, _]) dX1_come_54 (Nat.le_of_ble_eq_true rfl) rfl ?_
    refine g_aload_n E dX1_come_56 rfl rfl ?_
    refine g_aload_n E dX1_come_57 rfl rfl ?_
    refine g_iload_n E dX1_come_58 rfl rfl ?_
    refine g_callI0 E (cM_isPlace (rv := 1) (by omega) (Or.inl ⟨rfl, by omega, by omega⟩)) (cwV 1 hts gX1_come_X1_isPlace rfl rfl rfl hdX1_isPlace ⟨(Nat.le_of_ble_eq_true rfl), (Nat.le_of_ble_eq_true rfl)⟩) rfl rfl rfl (Nat.le_of_ble_eq_true rfl) gW_0 rfl dX1_come_59 ⟨Nat.zero_le _, Nat.zero_le _⟩ ?_
    refine g_if_ne_t E dX1_come_62 (tgt := 69) (by decide) (by omega) (by omega) ?_
    refine g_iload_n E dX1_come_69 rfl rfl ?_
    refine g_if_ne_f E dX1_come_70 (tgt := 77) (by decide) (by omega) (by omega) ?_
    refine g_iconst E dX1_come_73 ?_
    refine g_goto E dX1_come_74 (tgt := 87) (by decide) ?_
    refine g_callI0 E (cM_goesWell (rv := 0) (by omega) (Or.inr ⟨by omega, rfl⟩)) (cwV 1 hts gX1_come_X1_goesWell rfl rfl rfl hdX1_goesWell ⟨(Nat.le_of_ble_eq_true rfl), (Nat.le_of_ble_eq_true rfl)⟩) rfl rfl rfl (Nat.le_of_ble_eq_true rfl) gW_0 rfl dX1_come_87 ⟨Nat.zero_le _, Nat.zero_le _⟩ ?_
    refine g_if_ne_f E dX1_come_90 (tgt := 95) (by decide) (by omega) (by omega) ?_
    refine g_iconst E dX1_come_93 ?_
    exact g_ri rfl hret dX1_come_94
set_option maxHeartbeats 4000000 in
set_option maxRecDepth 100000 in
theorem cM_come1 {l : Launch} {D : va_G} {cI cZ : ClassId} {q : Nat} {r : Nat → Nat} {P Dn : Nat} {th t lo wa : Int} {g0 g1 g2 g3 g4 g5 g6 g7 g8 g9 g10 g11 g12 : Nat → Int} {x n : Int} (hgx : -2147483648 ≤ x ∧ x < 2147483648) (hgn : -2147483648 ≤ n ∧ n < 2147483648) (hP : 1 ≤ P ∧ P ≤ 11) (hx : x < 0 ∨ P ≤ x) : gMI l yX1_come wsX1_come 6 D (gTy cI cZ) (gM cI cZ q r [th, (P : Int), (Dn : Int), t, lo, wa] [g0, g1, g2, g3, g4, g5, g6, g7, g8, g9, g10, g11, g12]) [.ref q, .int (iI x), .int (iI n)] 0 (gM cI cZ q r [1, (P : Int), (Dn : Int), t, lo, wa] [g0, g1, g2, g3, g4, g5, g6, g7, g8, g9, g10, g11, g12]) := by
  refine g_ofI (by decide +kernel) rfl rfl (Nat.le_of_ble_eq_true rfl) (g_cat1 rfl) rfl ?_
  intro p e s m args below meth c Q A0 E hret
  have hts := E.1.2.2.2.2
  show gJ p l e (gR 6) s m args below meth c 0 0 Q A0 D (gM cI cZ q r [th, (P : Int), (Dn : Int), t, lo, wa] [g0, g1, g2, g3, g4, g5, g6, g7, g8, g9, g10, g11, g12]) [some (.ref q), some (.int (iI x)), some (.int (iI n)), none, none] 0 []
  by_cases h2 : 1 ≤ n ∧ n ≤ 30
  · refine g_iload_n E dX1_come_0 rfl rfl ?_
    refine g_if_eq_f E dX1_come_1 (tgt := 18) (by decide) (by omega) (by omega) ?_
    refine g_iload_n E dX1_come_4 rfl rfl ?_
    refine g_iconst E dX1_come_5 ?_
    refine g_bipush E dX1_come_6 (by decide) ?_
    refine g_callSI E (cM_in (rv := 1) (by omega) (Or.inl ⟨rfl, by omega, by omega⟩)) (va_cwS 3 hts gX1_come_X1_in rfl rfl rfl hdX1_in.2 ⟨(Nat.le_of_ble_eq_true rfl), (Nat.le_of_ble_eq_true rfl)⟩) rfl rfl rfl (Nat.le_of_ble_eq_true rfl) dX1_come_8 ⟨Nat.zero_le _, Nat.zero_le _⟩ ?_
    refine g_if_eq_f E dX1_come_11 (tgt := 18) (by decide) (by omega) (by omega) ?_
    refine g_iconst E dX1_come_14 ?_
    refine g_goto E dX1_come_15 (tgt := 19) (by decide) ?_
    refine g_istore_n E (lv' := [_, _, _, _, _]) dX1_come_19 rfl (Nat.le_of_ble_eq_true rfl) rfl ?_
    refine g_aload_n E dX1_come_20 rfl rfl ?_
    refine g_iload_n E dX1_come_21 rfl rfl ?_
    refine g_callI0 E (cM_isPlace (rv := 0) (by omega) (Or.inr ⟨rfl, by omega⟩)) (cwV 1 hts gX1_come_X1_isPlace rfl rfl rfl hdX1_isPlace ⟨(Nat.le_of_ble_eq_true rfl), (Nat.le_of_ble_eq_true rfl)⟩) rfl rfl rfl (Nat.le_of_ble_eq_true rfl) gW_0 rfl dX1_come_22 ⟨Nat.zero_le _, Nat.zero_le _⟩ ?_
    refine g_if_eq_t E dX1_come_25 (tgt := 53) (by decide) (by omega) (by omega) ?_
    refine g_iconst E dX1_come_53 ?_
    refine g_istore E (lv' := [_, _, _, _, _]) dX1_come_54 (Nat.le_of_ble_eq_true rfl) rfl ?_
    refine g_aload_n E dX1_come_56 rfl rfl ?_
    refine g_aload_n E dX1_come_57 rfl rfl ?_
    refine g_iload_n E dX1_come_58 rfl rfl ?_
    refine g_callI0 E (cM_isPlace (rv := 0) (by omega) (Or.inr ⟨rfl, by omega⟩)) (cwV 1 hts gX1_come_X1_isPlace rfl rfl rfl hdX1_isPlace ⟨(Nat.le_of_ble_eq_true rfl), (Nat.le_of_ble_eq_true rfl)⟩) rfl rfl rfl (Nat.le_of_ble_eq_true rfl) gW_0 rfl dX1_come_59 ⟨Nat.zero_le _, Nat.zero_le _⟩ ?_
    refine g_if_ne_f E dX1_come_62 (tgt := 69) (by decide) (by omega) (by omega) ?_
    refine g_iconst E dX1_come_65 ?_
    refine g_goto E dX1_come_66 (tgt := 87) (by decide) ?_
    refine g_callI0 E (cM_goesWell (rv := 0) (by omega) (Or.inr ⟨by omega, rfl⟩)) (cwV 1 hts gX1_come_X1_goesWell rfl rfl rfl hdX1_goesWell ⟨(Nat.le_of_ble_eq_true rfl), (Nat.le_of_ble_eq_true rfl)⟩) rfl rfl rfl (Nat.le_of_ble_eq_true rfl) gW_0 rfl dX1_come_87 ⟨Nat.zero_le _, Nat.zero_le _⟩ ?_
    refine g_if_ne_f E dX1_come_90 (tgt := 95) (by decide) (by omega) (by omega) ?_
    refine g_iconst E dX1_come_93 ?_
    exact g_ri rfl hret dX1_come_94
  · refine g_iload_n E dX1_come_0 rfl rfl ?_
    refine g_if_eq_f E dX1_come_1 (tgt := 18) (by decide) (by omega) (by omega) ?_
    refine g_iload_n E dX1_come_4 rfl rfl ?_
    refine g_iconst E dX1_come_5 ?_
    refine g_bipush E dX1_come_6 (by decide) ?_
    refine g_callSI E (cM_in (rv := 0) (by omega) (Or.inr ⟨rfl, by omega⟩)) (va_cwS 3 hts gX1_come_X1_in rfl rfl rfl hdX1_in.2 ⟨(Nat.le_of_ble_eq_true rfl), (Nat.le_of_ble_eq_true rfl)⟩) rfl rfl rfl (Nat.le_of_ble_eq_true rfl) dX1_come_8 ⟨Nat.zero_le _, Nat.zero_le _⟩ ?_
    refine g_if_eq_t E dX1_come_11 (tgt := 18) (by decide) (by omega) (by omega) ?_
    refine g_iconst E dX1_come_18 ?_
    refine g_istore_n E (lv' := [_, _, _, _, _]) dX1_come_19 rfl (Nat.le_of_ble_eq_true rfl) rfl ?_
    refine g_aload_n E dX1_come_20 rfl rfl ?_
    refine g_iload_n E dX1_come_21 rfl rfl ?_
    refine g_callI0 E (cM_isPlace (rv := 0) (by omega) (Or.inr ⟨rfl, by omega⟩)) (cwV 1 hts gX1_come_X1_isPlace rfl rfl rfl hdX1_isPlace ⟨(Nat.le_of_ble_eq_true rfl), (Nat.le_of_ble_eq_true rfl)⟩) rfl rfl rfl (Nat.le_of_ble_eq_true rfl) gW_0 rfl dX1_come_22 ⟨Nat.zero_le _, Nat.zero_le _⟩ ?_
    refine g_if_eq_t E dX1_come_25 (tgt := 53) (by decide) (by omega) (by omega) ?_
    refine g_iconst E dX1_come_53 ?_
    refine g_istore E (lv' := [_, _, _, _, _]) dX1_come_54 (Nat.le_of_ble_eq_true rfl) rfl ?_
    refine g_aload_n E dX1_come_56 rfl rfl ?_
    refine g_aload_n E dX1_come_57 rfl rfl ?_
    refine g_iload_n E dX1_come_58 rfl rfl ?_
    refine g_callI0 E (cM_isPlace (rv := 0) (by omega) (Or.inr ⟨rfl, by omega⟩)) (cwV 1 hts gX1_come_X1_isPlace rfl rfl rfl hdX1_isPlace ⟨(Nat.le_of_ble_eq_true rfl), (Nat.le_of_ble_eq_true rfl)⟩) rfl rfl rfl (Nat.le_of_ble_eq_true rfl) gW_0 rfl dX1_come_59 ⟨Nat.zero_le _, Nat.zero_le _⟩ ?_
    refine g_if_ne_f E dX1_come_62 (tgt := 69) (by decide) (by omega) (by omega) ?_
    refine g_iconst E dX1_come_65 ?_
    refine g_goto E dX1_come_66 (tgt := 87) (by decide) ?_
    refine g_callI0 E (cM_goesWell (rv := 0) (by omega) (Or.inr ⟨by omega, rfl⟩)) (cwV 1 hts gX1_come_X1_goesWell rfl rfl rfl hdX1_goesWell ⟨(Nat.le_of_ble_eq_true rfl), (Nat.le_of_ble_eq_true rfl)⟩) rfl rfl rfl (Nat.le_of_ble_eq_true rfl) gW_0 rfl dX1_come_87 ⟨Nat.zero_le _, Nat.zero_le _⟩ ?_
    refine g_if_ne_f E dX1_come_90 (tgt := 95) (by decide) (by omega) (by omega) ?_
    refine g_iconst E dX1_come_93 ?_
    exact g_ri rfl hret dX1_come_94
set_option maxHeartbeats 4000000 in
set_option maxRecDepth 100000 in
theorem cM_setRelease0 {l : Launch} {D : va_G} {cI cZ : ClassId} {q : Nat} {r : Nat → Nat} {P Dn : Nat} {th t lo wa : Int} {g0 g1 g2 g3 g4 g5 g6 g7 g8 g9 g10 g11 g12 : Nat → Int} {i : Nat} {n : Int} (hP : 1 ≤ P ∧ P ≤ 11) (hi : i < P) (hn : 0 ≤ n ∧ n ≤ 1000) : gMI l yX1_setRelease wsX1_setRelease 6 D (gTy cI cZ) (gM cI cZ q r [th, (P : Int), (Dn : Int), t, lo, wa] [g0, g1, g2, g3, g4, g5, g6, g7, g8, g9, g10, g11, g12]) [.ref q, .int (iI (i : Int)), .int (iI n)] (g2 i) (gM cI cZ q r [0, (P : Int), (Dn : Int), t, lo, wa] [g0, g1, (gu g2 i n), g3, g4, g5, g6, g7, g8, g9, g10, g11, g12]) := by
  refine g_ofI (by decide +kernel) rfl rfl (Nat.le_of_ble_eq_true rfl) (g_cat1 rfl) rfl ?_
  intro p e s m args below meth c Q A0 E hret
  have hts := E.1.2.2.2.2
  show gJ p l e (gR 6) s m args below meth c 0 0 Q A0 D (gM cI cZ q r [th, (P : Int), (Dn : Int), t, lo, wa] [g0, g1, g2, g3, g4, g5, g6, g7, g8, g9, g10, g11, g12]) [some (.ref q), some (.int (iI (i : Int))), some (.int (iI n)), none] 0 []
  refine g_aload_n E dX1_setRelease_0 rfl rfl ?_
  refine g_aload_n E dX1_setRelease_1 rfl rfl ?_
  refine g_iload_n E dX1_setRelease_2 rfl rfl ?_
  refine g_callI0 E (cM_isPlace (rv := 1) (by omega) (Or.inl ⟨rfl, by omega, by omega⟩)) (cwV 1 hts gX1_setRelease_X1_isPlace rfl rfl rfl hdX1_isPlace ⟨(Nat.le_of_ble_eq_true rfl), (Nat.le_of_ble_eq_true rfl)⟩) rfl rfl rfl (Nat.le_of_ble_eq_true rfl) gW_0 rfl dX1_setRelease_3 ⟨Nat.zero_le _, Nat.zero_le _⟩ ?_
  refine g_if_ne_t E dX1_setRelease_6 (tgt := 13) (by decide) (by omega) (by omega) ?_
  refine g_iload_n E dX1_setRelease_13 rfl rfl ?_
  refine g_iconst E dX1_setRelease_14 ?_
  refine g_sipush E dX1_setRelease_15 (by decide) ?_
  refine g_callSI E (cM_in (rv := 1) (by omega) (Or.inl ⟨rfl, by omega, by omega⟩)) (va_cwS 3 hts gX1_setRelease_X1_in rfl rfl rfl hdX1_in.2 ⟨(Nat.le_of_ble_eq_true rfl), (Nat.le_of_ble_eq_true rfl)⟩) rfl rfl rfl (Nat.le_of_ble_eq_true rfl) dX1_setRelease_18 ⟨Nat.zero_le _, Nat.zero_le _⟩ ?_
  refine g_if_eq_f E dX1_setRelease_21 (tgt := 28) (by decide) (by omega) (by omega) ?_
  refine g_iconst E dX1_setRelease_24 ?_
  refine g_goto E dX1_setRelease_25 (tgt := 29) (by decide) ?_
  refine g_callI0 E (cM_goesWell (rv := 1) (by omega) (Or.inl ⟨rfl, rfl⟩)) (cwV 1 hts gX1_setRelease_X1_goesWell rfl rfl rfl hdX1_goesWell ⟨(Nat.le_of_ble_eq_true rfl), (Nat.le_of_ble_eq_true rfl)⟩) rfl rfl rfl (Nat.le_of_ble_eq_true rfl) gW_0 rfl dX1_setRelease_29 ⟨Nat.zero_le _, Nat.zero_le _⟩ ?_
  refine g_if_ne_t E dX1_setRelease_32 (tgt := 37) (by decide) (by omega) (by omega) ?_
  refine g_aload_n E dX1_setRelease_37 rfl rfl ?_
  refine g_getR E inX1_setRelease rfl flX1_setRelease_20 dX1_setRelease_38 (by decide) rfl ?_
  refine g_iload_n E dX1_setRelease_41 rfl rfl ?_
  refine g_ald E dX1_setRelease_42 rfl rfl rfl (by omega) ?_
  refine g_istore_n E (lv' := [_, _, _, _]) dX1_setRelease_43 rfl (Nat.le_of_ble_eq_true rfl) rfl ?_
  refine g_aload_n E dX1_setRelease_44 rfl rfl ?_
  refine g_getR E inX1_setRelease rfl flX1_setRelease_20 dX1_setRelease_45 (by decide) rfl ?_
  refine g_iload_n E dX1_setRelease_48 rfl rfl ?_
  refine g_iload_n E dX1_setRelease_49 rfl rfl ?_
  refine g_ast E (A' := [_, _, _, _, _, _, _, _, _, _, _, _, _]) dX1_setRelease_50 rfl rfl rfl (by omega) rfl ?_
  refine g_iload_n E dX1_setRelease_51 rfl rfl ?_
  exact g_ri rfl hret dX1_setRelease_52
set_option maxHeartbeats 4000000 in
set_option maxRecDepth 100000 in
theorem cM_setRelease2 {l : Launch} {D : va_G} {cI cZ : ClassId} {q : Nat} {r : Nat → Nat} {P Dn : Nat} {th t lo wa : Int} {g0 g1 g2 g3 g4 g5 g6 g7 g8 g9 g10 g11 g12 : Nat → Int} {x n : Int} (hgn : -2147483648 ≤ n ∧ n < 2147483648) (hP : 1 ≤ P ∧ P ≤ 11) (hx : 0 ≤ x ∧ x < P) (hn : n < 0 ∨ 1000 < n) : gMI l yX1_setRelease wsX1_setRelease 6 D (gTy cI cZ) (gM cI cZ q r [th, (P : Int), (Dn : Int), t, lo, wa] [g0, g1, g2, g3, g4, g5, g6, g7, g8, g9, g10, g11, g12]) [.ref q, .int (iI x), .int (iI n)] 0 (gM cI cZ q r [2, (P : Int), (Dn : Int), t, lo, wa] [g0, g1, g2, g3, g4, g5, g6, g7, g8, g9, g10, g11, g12]) := by
  refine g_ofI (by decide +kernel) rfl rfl (Nat.le_of_ble_eq_true rfl) (g_cat1 rfl) rfl ?_
  intro p e s m args below meth c Q A0 E hret
  have hts := E.1.2.2.2.2
  show gJ p l e (gR 6) s m args below meth c 0 0 Q A0 D (gM cI cZ q r [th, (P : Int), (Dn : Int), t, lo, wa] [g0, g1, g2, g3, g4, g5, g6, g7, g8, g9, g10, g11, g12]) [some (.ref q), some (.int (iI x)), some (.int (iI n)), none] 0 []
  refine g_aload_n E dX1_setRelease_0 rfl rfl ?_
  refine g_aload_n E dX1_setRelease_1 rfl rfl ?_
  refine g_iload_n E dX1_setRelease_2 rfl rfl ?_
  refine g_callI0 E (cM_isPlace (rv := 1) (by omega) (Or.inl ⟨rfl, by omega, by omega⟩)) (cwV 1 hts gX1_setRelease_X1_isPlace rfl rfl rfl hdX1_isPlace ⟨(Nat.le_of_ble_eq_true rfl), (Nat.le_of_ble_eq_true rfl)⟩) rfl rfl rfl (Nat.le_of_ble_eq_true rfl) gW_0 rfl dX1_setRelease_3 ⟨Nat.zero_le _, Nat.zero_le _⟩ ?_
  refine g_if_ne_t E dX1_setRelease_6 (tgt := 13) (by decide) (by omega) (by omega) ?_
  refine g_iload_n E dX1_setRelease_13 rfl rfl ?_
  refine g_iconst E dX1_setRelease_14 ?_
  refine g_sipush E dX1_setRelease_15 (by decide) ?_
  refine g_callSI E (cM_in (rv := 0) (by omega) (Or.inr ⟨rfl, by omega⟩)) (va_cwS 3 hts gX1_setRelease_X1_in rfl rfl rfl hdX1_in.2 ⟨(Nat.le_of_ble_eq_true rfl), (Nat.le_of_ble_eq_true rfl)⟩) rfl rfl rfl (Nat.le_of_ble_eq_true rfl) dX1_setRelease_18 ⟨Nat.zero_le _, Nat.zero_le _⟩ ?_
  refine g_if_eq_t E dX1_setRelease_21 (tgt := 28) (by decide) (by omega) (by omega) ?_
  refine g_iconst E dX1_setRelease_28 ?_
  refine g_callI0 E (cM_goesWell (rv := 0) (by omega) (Or.inr ⟨by omega, rfl⟩)) (cwV 1 hts gX1_setRelease_X1_goesWell rfl rfl rfl hdX1_goesWell ⟨(Nat.le_of_ble_eq_true rfl), (Nat.le_of_ble_eq_true rfl)⟩) rfl rfl rfl (Nat.le_of_ble_eq_true rfl) gW_0 rfl dX1_setRelease_29 ⟨Nat.zero_le _, Nat.zero_le _⟩ ?_
  refine g_if_ne_f E dX1_setRelease_32 (tgt := 37) (by decide) (by omega) (by omega) ?_
  refine g_iconst E dX1_setRelease_35 ?_
  exact g_ri rfl hret dX1_setRelease_36
set_option maxHeartbeats 4000000 in
set_option maxRecDepth 100000 in
theorem cM_setRelease1 {l : Launch} {D : va_G} {cI cZ : ClassId} {q : Nat} {r : Nat → Nat} {P Dn : Nat} {th t lo wa : Int} {g0 g1 g2 g3 g4 g5 g6 g7 g8 g9 g10 g11 g12 : Nat → Int} {x n : Int} (hgx : -2147483648 ≤ x ∧ x < 2147483648) (hP : 1 ≤ P ∧ P ≤ 11) (hx : x < 0 ∨ P ≤ x) : gMI l yX1_setRelease wsX1_setRelease 6 D (gTy cI cZ) (gM cI cZ q r [th, (P : Int), (Dn : Int), t, lo, wa] [g0, g1, g2, g3, g4, g5, g6, g7, g8, g9, g10, g11, g12]) [.ref q, .int (iI x), .int (iI n)] 0 (gM cI cZ q r [1, (P : Int), (Dn : Int), t, lo, wa] [g0, g1, g2, g3, g4, g5, g6, g7, g8, g9, g10, g11, g12]) := by
  refine g_ofI (by decide +kernel) rfl rfl (Nat.le_of_ble_eq_true rfl) (g_cat1 rfl) rfl ?_
  intro p e s m args below meth c Q A0 E hret
  have hts := E.1.2.2.2.2
  show gJ p l e (gR 6) s m args below meth c 0 0 Q A0 D (gM cI cZ q r [th, (P : Int), (Dn : Int), t, lo, wa] [g0, g1, g2, g3, g4, g5, g6, g7, g8, g9, g10, g11, g12]) [some (.ref q), some (.int (iI x)), some (.int (iI n)), none] 0 []
  refine g_aload_n E dX1_setRelease_0 rfl rfl ?_
  refine g_aload_n E dX1_setRelease_1 rfl rfl ?_
  refine g_iload_n E dX1_setRelease_2 rfl rfl ?_
  refine g_callI0 E (cM_isPlace (rv := 0) (by omega) (Or.inr ⟨rfl, by omega⟩)) (cwV 1 hts gX1_setRelease_X1_isPlace rfl rfl rfl hdX1_isPlace ⟨(Nat.le_of_ble_eq_true rfl), (Nat.le_of_ble_eq_true rfl)⟩) rfl rfl rfl (Nat.le_of_ble_eq_true rfl) gW_0 rfl dX1_setRelease_3 ⟨Nat.zero_le _, Nat.zero_le _⟩ ?_
  refine g_if_ne_f E dX1_setRelease_6 (tgt := 13) (by decide) (by omega) (by omega) ?_
  refine g_iconst E dX1_setRelease_9 ?_
  refine g_goto E dX1_setRelease_10 (tgt := 29) (by decide) ?_
  refine g_callI0 E (cM_goesWell (rv := 0) (by omega) (Or.inr ⟨by omega, rfl⟩)) (cwV 1 hts gX1_setRelease_X1_goesWell rfl rfl rfl hdX1_goesWell ⟨(Nat.le_of_ble_eq_true rfl), (Nat.le_of_ble_eq_true rfl)⟩) rfl rfl rfl (Nat.le_of_ble_eq_true rfl) gW_0 rfl dX1_setRelease_29 ⟨Nat.zero_le _, Nat.zero_le _⟩ ?_
  refine g_if_ne_f E dX1_setRelease_32 (tgt := 37) (by decide) (by omega) (by omega) ?_
  refine g_iconst E dX1_setRelease_35 ?_
  exact g_ri rfl hret dX1_setRelease_36
set_option maxHeartbeats 4000000 in
set_option maxRecDepth 100000 in
theorem cM_step1 {l : Launch} {D : va_G} {cI cZ : ClassId} {q : Nat} {r : Nat → Nat} {P Dn : Nat} {th t lo wa : Int} {g0 g1 g2 g3 g4 g5 g6 g7 g8 g9 g10 g11 g12 : Nat → Int} {n : Int} (hgn : -2147483648 ≤ n ∧ n < 2147483648) (hn : n < 1 ∨ 50 < n) : gMI l yX1_step wsX1_step 6 D (gTy cI cZ) (gM cI cZ q r [th, (P : Int), (Dn : Int), t, lo, wa] [g0, g1, g2, g3, g4, g5, g6, g7, g8, g9, g10, g11, g12]) [.ref q, .int (iI n)] 0 (gM cI cZ q r [1, (P : Int), (Dn : Int), t, lo, wa] [g0, g1, g2, g3, g4, g5, g6, g7, g8, g9, g10, g11, g12]) := by
  refine g_ofI (by decide +kernel) rfl rfl (Nat.le_of_ble_eq_true rfl) (g_cat1 rfl) rfl ?_
  intro p e s m args below meth c Q A0 E hret
  have hts := E.1.2.2.2.2
  show gJ p l e (gR 6) s m args below meth c 0 0 Q A0 D (gM cI cZ q r [th, (P : Int), (Dn : Int), t, lo, wa] [g0, g1, g2, g3, g4, g5, g6, g7, g8, g9, g10, g11, g12]) [some (.ref q), some (.int (iI n)), none, none, none] 0 []
  refine g_aload_n E dX1_step_0 rfl rfl ?_
  refine g_iload_n E dX1_step_1 rfl rfl ?_
  refine g_iconst E dX1_step_2 ?_
  refine g_bipush E dX1_step_3 (by decide) ?_
  refine g_callSI E (cM_in (rv := 0) (by omega) (Or.inr ⟨rfl, by omega⟩)) (va_cwS 3 hts gX1_step_X1_in rfl rfl rfl hdX1_in.2 ⟨(Nat.le_of_ble_eq_true rfl), (Nat.le_of_ble_eq_true rfl)⟩) rfl rfl rfl (Nat.le_of_ble_eq_true rfl) dX1_step_5 ⟨Nat.zero_le _, Nat.zero_le _⟩ ?_
  refine g_if_eq_t E dX1_step_8 (tgt := 15) (by decide) (by omega) (by omega) ?_
  refine g_iconst E dX1_step_15 ?_
  refine g_callI0 E (cM_goesWell (rv := 0) (by omega) (Or.inr ⟨by omega, rfl⟩)) (cwV 1 hts gX1_step_X1_goesWell rfl rfl rfl hdX1_goesWell ⟨(Nat.le_of_ble_eq_true rfl), (Nat.le_of_ble_eq_true rfl)⟩) rfl rfl rfl (Nat.le_of_ble_eq_true rfl) gW_0 rfl dX1_step_16 ⟨Nat.zero_le _, Nat.zero_le _⟩ ?_
  refine g_if_ne_f E dX1_step_19 (tgt := 24) (by decide) (by omega) (by omega) ?_
  refine g_iconst E dX1_step_22 ?_
  exact g_ri rfl hret dX1_step_23
set_option maxHeartbeats 4000000 in
set_option maxRecDepth 100000 in
theorem cM_people0 {l : Launch} {D : va_G} {cI cZ : ClassId} {q : Nat} {r : Nat → Nat} {P Dn : Nat} {th t lo wa : Int} {g0 g1 g2 g3 g4 g5 g6 g7 g8 g9 g10 g11 g12 : Nat → Int} {i : Nat} (hP : 1 ≤ P ∧ P ≤ 11) (hi : i < P) : gMI l yX1_people wsX1_people 6 D (gTy cI cZ) (gM cI cZ q r [th, (P : Int), (Dn : Int), t, lo, wa] [g0, g1, g2, g3, g4, g5, g6, g7, g8, g9, g10, g11, g12]) [.ref q, .int (iI (i : Int))] (g1 i) (gM cI cZ q r [0, (P : Int), (Dn : Int), t, lo, wa] [g0, g1, g2, g3, g4, g5, g6, g7, g8, g9, g10, g11, g12]) := by
  refine g_ofI (by decide +kernel) rfl rfl (Nat.le_of_ble_eq_true rfl) (g_cat1 rfl) rfl ?_
  intro p e s m args below meth c Q A0 E hret
  have hts := E.1.2.2.2.2
  show gJ p l e (gR 6) s m args below meth c 0 0 Q A0 D (gM cI cZ q r [th, (P : Int), (Dn : Int), t, lo, wa] [g0, g1, g2, g3, g4, g5, g6, g7, g8, g9, g10, g11, g12]) [some (.ref q), some (.int (iI (i : Int)))] 0 []
  refine g_aload_n E dX1_people_0 rfl rfl ?_
  refine g_aload_n E dX1_people_1 rfl rfl ?_
  refine g_iload_n E dX1_people_2 rfl rfl ?_
  refine g_callI0 E (cM_isPlace (rv := 1) (by omega) (Or.inl ⟨rfl, by omega, by omega⟩)) (cwV 1 hts gX1_people_X1_isPlace rfl rfl rfl hdX1_isPlace ⟨(Nat.le_of_ble_eq_true rfl), (Nat.le_of_ble_eq_true rfl)⟩) rfl rfl rfl (Nat.le_of_ble_eq_true rfl) gW_0 rfl dX1_people_3 ⟨Nat.zero_le _, Nat.zero_le _⟩ ?_
  refine g_if_eq_f E dX1_people_6 (tgt := 13) (by decide) (by omega) (by omega) ?_
  refine g_iconst E dX1_people_9 ?_
  refine g_goto E dX1_people_10 (tgt := 14) (by decide) ?_
  refine g_callI0 E (cM_goesWell (rv := 1) (by omega) (Or.inl ⟨rfl, rfl⟩)) (cwV 1 hts gX1_people_X1_goesWell rfl rfl rfl hdX1_goesWell ⟨(Nat.le_of_ble_eq_true rfl), (Nat.le_of_ble_eq_true rfl)⟩) rfl rfl rfl (Nat.le_of_ble_eq_true rfl) gW_0 rfl dX1_people_14 ⟨Nat.zero_le _, Nat.zero_le _⟩ ?_
  refine g_if_eq_f E dX1_people_17 (tgt := 29) (by decide) (by omega) (by omega) ?_
  refine g_aload_n E dX1_people_20 rfl rfl ?_
  refine g_getR E inX1_people rfl flX1_people_17 dX1_people_21 (by decide) rfl ?_
  refine g_iload_n E dX1_people_24 rfl rfl ?_
  refine g_ald E dX1_people_25 rfl rfl rfl (by omega) ?_
  refine g_goto E dX1_people_26 (tgt := 30) (by decide) ?_
  exact g_ri rfl hret dX1_people_30
set_option maxHeartbeats 4000000 in
set_option maxRecDepth 100000 in
theorem cM_people1 {l : Launch} {D : va_G} {cI cZ : ClassId} {q : Nat} {r : Nat → Nat} {P Dn : Nat} {th t lo wa : Int} {g0 g1 g2 g3 g4 g5 g6 g7 g8 g9 g10 g11 g12 : Nat → Int} {x : Int} (hgx : -2147483648 ≤ x ∧ x < 2147483648) (hP : 1 ≤ P ∧ P ≤ 11) (hx : x < 0 ∨ P ≤ x) : gMI l yX1_people wsX1_people 6 D (gTy cI cZ) (gM cI cZ q r [th, (P : Int), (Dn : Int), t, lo, wa] [g0, g1, g2, g3, g4, g5, g6, g7, g8, g9, g10, g11, g12]) [.ref q, .int (iI x)] 0 (gM cI cZ q r [1, (P : Int), (Dn : Int), t, lo, wa] [g0, g1, g2, g3, g4, g5, g6, g7, g8, g9, g10, g11, g12]) := by
  refine g_ofI (by decide +kernel) rfl rfl (Nat.le_of_ble_eq_true rfl) (g_cat1 rfl) rfl ?_
  intro p e s m args below meth c Q A0 E hret
  have hts := E.1.2.2.2.2
  show gJ p l e (gR 6) s m args below meth c 0 0 Q A0 D (gM cI cZ q r [th, (P : Int), (Dn : Int), t, lo, wa] [g0, g1, g2, g3, g4, g5, g6, g7, g8, g9, g10, g11, g12]) [some (.ref q), some (.int (iI x))] 0 []
  refine g_aload_n E dX1_people_0 rfl rfl ?_
  refine g_aload_n E dX1_people_1 rfl rfl ?_
  refine g_iload_n E dX1_people_2 rfl rfl ?_
  refine g_callI0 E (cM_isPlace (rv := 0) (by omega) (Or.inr ⟨rfl, by omega⟩)) (cwV 1 hts gX1_people_X1_isPlace rfl rfl rfl hdX1_isPlace ⟨(Nat.le_of_ble_eq_true rfl), (Nat.le_of_ble_eq_true rfl)⟩) rfl rfl rfl (Nat.le_of_ble_eq_true rfl) gW_0 rfl dX1_people_3 ⟨Nat.zero_le _, Nat.zero_le _⟩ ?_
  refine g_if_eq_t E dX1_people_6 (tgt := 13) (by decide) (by omega) (by omega) ?_
  refine g_iconst E dX1_people_13 ?_
  refine g_callI0 E (cM_goesWell (rv := 0) (by omega) (Or.inr ⟨by omega, rfl⟩)) (cwV 1 hts gX1_people_X1_goesWell rfl rfl rfl hdX1_goesWell ⟨(Nat.le_of_ble_eq_true rfl), (Nat.le_of_ble_eq_true rfl)⟩) rfl rfl rfl (Nat.le_of_ble_eq_true rfl) gW_0 rfl dX1_people_14 ⟨Nat.zero_le _, Nat.zero_le _⟩ ?_
  refine g_if_eq_t E dX1_people_17 (tgt := 29) (by decide) (by omega) (by omega) ?_
  refine g_iconst E dX1_people_29 ?_
  exact g_ri rfl hret dX1_people_30
set_option maxHeartbeats 4000000 in
set_option maxRecDepth 100000 in
theorem cM_passed0 {l : Launch} {D : va_G} {cI cZ : ClassId} {q : Nat} {r : Nat → Nat} {P Dn : Nat} {th t lo wa : Int} {g0 g1 g2 g3 g4 g5 g6 g7 g8 g9 g10 g11 g12 : Nat → Int} {i : Nat} (hDn : Dn ≤ 16) (hi : i < Dn) : gMI l yX1_passed wsX1_passed 6 D (gTy cI cZ) (gM cI cZ q r [th, (P : Int), (Dn : Int), t, lo, wa] [g0, g1, g2, g3, g4, g5, g6, g7, g8, g9, g10, g11, g12]) [.ref q, .int (iI (i : Int))] (g8 i) (gM cI cZ q r [0, (P : Int), (Dn : Int), t, lo, wa] [g0, g1, g2, g3, g4, g5, g6, g7, g8, g9, g10, g11, g12]) := by
  refine g_ofI (by decide +kernel) rfl rfl (Nat.le_of_ble_eq_true rfl) (g_cat1 rfl) rfl ?_
  intro p e s m args below meth c Q A0 E hret
  have hts := E.1.2.2.2.2
  show gJ p l e (gR 6) s m args below meth c 0 0 Q A0 D (gM cI cZ q r [th, (P : Int), (Dn : Int), t, lo, wa] [g0, g1, g2, g3, g4, g5, g6, g7, g8, g9, g10, g11, g12]) [some (.ref q), some (.int (iI (i : Int)))] 0 []
  refine g_aload_n E dX1_passed_0 rfl rfl ?_
  refine g_aload_n E dX1_passed_1 rfl rfl ?_
  refine g_iload_n E dX1_passed_2 rfl rfl ?_
  refine g_callI0 E (cM_isDoor (rv := 1) (by omega) (Or.inl ⟨rfl, by omega, by omega⟩)) (cwV 1 hts gX1_passed_X1_isDoor rfl rfl rfl hdX1_isDoor ⟨(Nat.le_of_ble_eq_true rfl), (Nat.le_of_ble_eq_true rfl)⟩) rfl rfl rfl (Nat.le_of_ble_eq_true rfl) gW_0 rfl dX1_passed_3 ⟨Nat.zero_le _, Nat.zero_le _⟩ ?_
  refine g_if_eq_f E dX1_passed_6 (tgt := 13) (by decide) (by omega) (by omega) ?_
  refine g_iconst E dX1_passed_9 ?_
  refine g_goto E dX1_passed_10 (tgt := 14) (by decide) ?_
  refine g_callI0 E (cM_goesWell (rv := 1) (by omega) (Or.inl ⟨rfl, rfl⟩)) (cwV 1 hts gX1_passed_X1_goesWell rfl rfl rfl hdX1_goesWell ⟨(Nat.le_of_ble_eq_true rfl), (Nat.le_of_ble_eq_true rfl)⟩) rfl rfl rfl (Nat.le_of_ble_eq_true rfl) gW_0 rfl dX1_passed_14 ⟨Nat.zero_le _, Nat.zero_le _⟩ ?_
  refine g_if_eq_f E dX1_passed_17 (tgt := 29) (by decide) (by omega) (by omega) ?_
  refine g_aload_n E dX1_passed_20 rfl rfl ?_
  refine g_getR E inX1_passed rfl flX1_passed_39 dX1_passed_21 (by decide) rfl ?_
  refine g_iload_n E dX1_passed_24 rfl rfl ?_
  refine g_ald E dX1_passed_25 rfl rfl rfl (by omega) ?_
  refine g_goto E dX1_passed_26 (tgt := 30) (by decide) ?_
  exact g_ri rfl hret dX1_passed_30
set_option maxHeartbeats 4000000 in
set_option maxRecDepth 100000 in
theorem cM_passed1 {l : Launch} {D : va_G} {cI cZ : ClassId} {q : Nat} {r : Nat → Nat} {P Dn : Nat} {th t lo wa : Int} {g0 g1 g2 g3 g4 g5 g6 g7 g8 g9 g10 g11 g12 : Nat → Int} {x : Int} (hgx : -2147483648 ≤ x ∧ x < 2147483648) (hDn : Dn ≤ 16) (hx : x < 0 ∨ Dn ≤ x) : gMI l yX1_passed wsX1_passed 6 D (gTy cI cZ) (gM cI cZ q r [th, (P : Int), (Dn : Int), t, lo, wa] [g0, g1, g2, g3, g4, g5, g6, g7, g8, g9, g10, g11, g12]) [.ref q, .int (iI x)] 0 (gM cI cZ q r [1, (P : Int), (Dn : Int), t, lo, wa] [g0, g1, g2, g3, g4, g5, g6, g7, g8, g9, g10, g11, g12]) := by
  refine g_ofI (by decide +kernel) rfl rfl (Nat.le_of_ble_eq_true rfl) (g_cat1 rfl) rfl ?_
  intro p e s m args below meth c Q A0 E hret
  have hts := E.1.2.2.2.2
  show gJ p l e (gR 6) s m args below meth c 0 0 Q A0 D (gM cI cZ q r [th, (P : Int), (Dn : Int), t, lo, wa] [g0, g1, g2, g3, g4, g5, g6, g7, g8, g9, g10, g11, g12]) [some (.ref q), some (.int (iI x))] 0 []
  refine g_aload_n E dX1_passed_0 rfl rfl ?_
  refine g_aload_n E dX1_passed_1 rfl rfl ?_
  refine g_iload_n E dX1_passed_2 rfl rfl ?_
  refine g_callI0 E (cM_isDoor (rv := 0) (by omega) (Or.inr ⟨rfl, by omega⟩)) (cwV 1 hts gX1_passed_X1_isDoor rfl rfl rfl hdX1_isDoor ⟨(Nat.le_of_ble_eq_true rfl), (Nat.le_of_ble_eq_true rfl)⟩) rfl rfl rfl (Nat.le_of_ble_eq_true rfl) gW_0 rfl dX1_passed_3 ⟨Nat.zero_le _, Nat.zero_le _⟩ ?_
  refine g_if_eq_t E dX1_passed_6 (tgt := 13) (by decide) (by omega) (by omega) ?_
  refine g_iconst E dX1_passed_13 ?_
  refine g_callI0 E (cM_goesWell (rv := 0) (by omega) (Or.inr ⟨by omega, rfl⟩)) (cwV 1 hts gX1_passed_X1_goesWell rfl rfl rfl hdX1_goesWell ⟨(Nat.le_of_ble_eq_true rfl), (Nat.le_of_ble_eq_true rfl)⟩) rfl rfl rfl (Nat.le_of_ble_eq_true rfl) gW_0 rfl dX1_passed_14 ⟨Nat.zero_le _, Nat.zero_le _⟩ ?_
  refine g_if_eq_t E dX1_passed_17 (tgt := 29) (by decide) (by omega) (by omega) ?_
  refine g_iconst E dX1_passed_29 ?_
  exact g_ri rfl hret dX1_passed_30
set_option maxHeartbeats 4000000 in
set_option maxRecDepth 100000 in
theorem cM_latest0 {l : Launch} {D : va_G} {cI cZ : ClassId} {q : Nat} {r : Nat → Nat} {P Dn : Nat} {th t lo wa : Int} {g0 g1 g2 g3 g4 g5 g6 g7 g8 g9 g10 g11 g12 : Nat → Int} (hla : -2147483648 ≤ lo ∧ lo < 2147483648) (hne : lo ≠ -1) : gMI l yX1_latest wsX1_latest 6 D (gTy cI cZ) (gM cI cZ q r [th, (P : Int), (Dn : Int), t, lo, wa] [g0, g1, g2, g3, g4, g5, g6, g7, g8, g9, g10, g11, g12]) [.ref q] lo (gM cI cZ q r [0, (P : Int), (Dn : Int), t, lo, wa] [g0, g1, g2, g3, g4, g5, g6, g7, g8, g9, g10, g11, g12]) := by
  refine g_ofI (by decide +kernel) rfl rfl (Nat.le_of_ble_eq_true rfl) (g_cat1 rfl) rfl ?_
  intro p e s m args below meth c Q A0 E hret
  have hts := E.1.2.2.2.2
  show gJ p l e (gR 6) s m args below meth c 0 0 Q A0 D (gM cI cZ q r [th, (P : Int), (Dn : Int), t, lo, wa] [g0, g1, g2, g3, g4, g5, g6, g7, g8, g9, g10, g11, g12]) [some (.ref q)] 0 []
  refine g_aload_n E dX1_latest_0 rfl rfl ?_
  refine g_aload_n E dX1_latest_1 rfl rfl ?_
  refine g_getI E inX1_latest rfl flX1_latest_42 dX1_latest_2 (by decide) rfl rfl ?_
  refine g_iconst E dX1_latest_5 ?_
  refine g_icmp_ne_t E dX1_latest_6 (tgt := 13) (by decide) (by omega) (by omega) ?_
  refine g_iconst E dX1_latest_13 ?_
  refine g_callI0 E (cM_goesWell (rv := 1) (by omega) (Or.inl ⟨rfl, rfl⟩)) (cwV 1 hts gX1_latest_X1_goesWell rfl rfl rfl hdX1_goesWell ⟨(Nat.le_of_ble_eq_true rfl), (Nat.le_of_ble_eq_true rfl)⟩) rfl rfl rfl (Nat.le_of_ble_eq_true rfl) gW_0 rfl dX1_latest_14 ⟨Nat.zero_le _, Nat.zero_le _⟩ ?_
  refine g_if_eq_f E dX1_latest_17 (tgt := 27) (by decide) (by omega) (by omega) ?_
  refine g_aload_n E dX1_latest_20 rfl rfl ?_
  refine g_getI E inX1_latest rfl flX1_latest_42 dX1_latest_21 (by decide) rfl rfl ?_
  refine g_goto E dX1_latest_24 (tgt := 28) (by decide) ?_
  exact g_ri rfl hret dX1_latest_28
set_option maxHeartbeats 4000000 in
set_option maxRecDepth 100000 in
theorem cM_latest1 {l : Launch} {D : va_G} {cI cZ : ClassId} {q : Nat} {r : Nat → Nat} {P Dn : Nat} {th t lo wa : Int} {g0 g1 g2 g3 g4 g5 g6 g7 g8 g9 g10 g11 g12 : Nat → Int} (hla : lo = -1) : gMI l yX1_latest wsX1_latest 6 D (gTy cI cZ) (gM cI cZ q r [th, (P : Int), (Dn : Int), t, lo, wa] [g0, g1, g2, g3, g4, g5, g6, g7, g8, g9, g10, g11, g12]) [.ref q] 0 (gM cI cZ q r [1, (P : Int), (Dn : Int), t, lo, wa] [g0, g1, g2, g3, g4, g5, g6, g7, g8, g9, g10, g11, g12]) := by
  refine g_ofI (by decide +kernel) rfl rfl (Nat.le_of_ble_eq_true rfl) (g_cat1 rfl) rfl ?_
  intro p e s m args below meth c Q A0 E hret
  have hts := E.1.2.2.2.2
  show gJ p l e (gR 6) s m args below meth c 0 0 Q A0 D (gM cI cZ q r [th, (P : Int), (Dn : Int), t, lo, wa] [g0, g1, g2, g3, g4, g5, g6, g7, g8, g9, g10, g11, g12]) [some (.ref q)] 0 []
  refine g_aload_n E dX1_latest_0 rfl rfl ?_
  refine g_aload_n E dX1_latest_1 rfl rfl ?_
  refine g_getI E inX1_latest rfl flX1_latest_42 dX1_latest_2 (by decide) rfl rfl ?_
  refine g_iconst E dX1_latest_5 ?_
  refine g_icmp_ne_f E dX1_latest_6 (tgt := 13) (by decide) (by omega) (by omega) ?_
  refine g_iconst E dX1_latest_9 ?_
  refine g_goto E dX1_latest_10 (tgt := 14) (by decide) ?_
  refine g_callI0 E (cM_goesWell (rv := 0) (by omega) (Or.inr ⟨by omega, rfl⟩)) (cwV 1 hts gX1_latest_X1_goesWell rfl rfl rfl hdX1_goesWell ⟨(Nat.le_of_ble_eq_true rfl), (Nat.le_of_ble_eq_true rfl)⟩) rfl rfl rfl (Nat.le_of_ble_eq_true rfl) gW_0 rfl dX1_latest_14 ⟨Nat.zero_le _, Nat.zero_le _⟩ ?_
  refine g_if_eq_t E dX1_latest_17 (tgt := 27) (by decide) (by omega) (by omega) ?_
  refine g_iconst E dX1_latest_27 ?_
  exact g_ri rfl hret dX1_latest_28
set_option maxHeartbeats 4000000 in
set_option maxRecDepth 100000 in
theorem cM_distance0 {l : Launch} {D : va_G} {cI cZ : ClassId} {q : Nat} {r : Nat → Nat} {P Dn : Nat} {th t lo wa : Int} {g0 g1 g2 g3 g4 g5 g6 g7 g8 g9 g10 g11 g12 : Nat → Int} {i : Nat} (hP : 1 ≤ P ∧ P ≤ 11) (hDn : Dn ≤ 16) (hs7 : ∀ j : Nat, -2147483648 ≤ g7 j ∧ g7 j < 2147483648) (hs9 : ∀ j : Nat, -2147483648 ≤ g9 j ∧ g9 j < 2147483648) (he3 : ∀ j : Nat, j < Dn → 0 ≤ g3 j ∧ g3 j < P) (he4 : ∀ j : Nat, j < Dn → 0 ≤ g4 j ∧ g4 j < P) (hi : i < P) (hne : (mDist g3 g4 g7 P Dn g9) i ≠ -1) : gMI l yX1_distance wsX1_distance 6 D (gTy cI cZ) (gM cI cZ q r [th, (P : Int), (Dn : Int), t, lo, wa] [g0, g1, g2, g3, g4, g5, g6, g7, g8, g9, g10, g11, g12]) [.ref q, .int (iI (i : Int))] ((mDist g3 g4 g7 P Dn g9) i) (gM cI cZ q r [0, (P : Int), (Dn : Int), t, lo, wa] [g0, g1, g2, g3, g4, g5, g6, g7, g8, (mDist g3 g4 g7 P Dn g9), g10, g11, g12]) := by
  refine g_ofI (by decide +kernel) rfl rfl (Nat.le_of_ble_eq_true rfl) (g_cat1 rfl) rfl ?_
  intro p e s m args below meth c Q A0 E hret
  have hts := E.1.2.2.2.2
  show gJ p l e (gR 6) s m args below meth c 0 0 Q A0 D (gM cI cZ q r [th, (P : Int), (Dn : Int), t, lo, wa] [g0, g1, g2, g3, g4, g5, g6, g7, g8, g9, g10, g11, g12]) [some (.ref q), some (.int (iI (i : Int)))] 0 []
  have hBf : gB (mDist g3 g4 g7 P Dn g9) := mDist_B hs9 hP.2
  have h9 := hBf i
  refine g_aload_n E dX1_distance_0 rfl rfl ?_
  refine g_callV0 E (cM_measure hP hDn hs7 hs9 he3 he4) (cwV 0 hts gX1_distance_X1_measure rfl rfl rfl hdX1_measure ⟨(Nat.le_of_ble_eq_true rfl), (Nat.le_of_ble_eq_true rfl)⟩) rfl rfl rfl (Nat.le_of_ble_eq_true rfl) gW_0 rfl dX1_distance_1 ⟨Nat.zero_le _, Nat.zero_le _⟩ ?_
  refine g_aload_n E dX1_distance_4 rfl rfl ?_
  refine g_aload_n E dX1_distance_5 rfl rfl ?_
  refine g_iload_n E dX1_distance_6 rfl rfl ?_
  refine g_callI0 E (cM_isPlace (rv := 1) (by omega) (Or.inl ⟨rfl, by omega, by omega⟩)) (cwV 1 hts gX1_distance_X1_isPlace rfl rfl rfl hdX1_isPlace ⟨(Nat.le_of_ble_eq_true rfl), (Nat.le_of_ble_eq_true rfl)⟩) rfl rfl rfl (Nat.le_of_ble_eq_true rfl) gW_0 rfl dX1_distance_7 ⟨Nat.zero_le _, Nat.zero_le _⟩ ?_
  refine g_if_ne_t E dX1_distance_10 (tgt := 17) (by decide) (by omega) (by omega) ?_
  refine g_aload_n E dX1_distance_17 rfl rfl ?_
  refine g_getR E inX1_distance rfl flX1_distance_45 dX1_distance_18 (by decide) rfl ?_
  refine g_iload_n E dX1_distance_21 rfl rfl ?_
  refine g_ald E dX1_distance_22 rfl rfl rfl (by omega) ?_
  refine g_iconst E dX1_distance_23 ?_
  refine g_icmp_ne_t E dX1_distance_24 (tgt := 31) (by decide) (by omega) (by omega) ?_
  refine g_iconst E dX1_distance_31 ?_
  refine g_callI0 E (cM_goesWell (rv := 1) (by omega) (Or.inl ⟨rfl, rfl⟩)) (cwV 1 hts gX1_distance_X1_goesWell rfl rfl rfl hdX1_goesWell ⟨(Nat.le_of_ble_eq_true rfl), (Nat.le_of_ble_eq_true rfl)⟩) rfl rfl rfl (Nat.le_of_ble_eq_true rfl) gW_0 rfl dX1_distance_32 ⟨Nat.zero_le _, Nat.zero_le _⟩ ?_
  refine g_if_eq_f E dX1_distance_35 (tgt := 47) (by decide) (by omega) (by omega) ?_
  refine g_aload_n E dX1_distance_38 rfl rfl ?_
  refine g_getR E inX1_distance rfl flX1_distance_45 dX1_distance_39 (by decide) rfl ?_
  refine g_iload_n E dX1_distance_42 rfl rfl ?_
  refine g_ald E dX1_distance_43 rfl rfl rfl (by omega) ?_
  refine g_goto E dX1_distance_44 (tgt := 48) (by decide) ?_
  exact g_ri rfl hret dX1_distance_48
set_option maxHeartbeats 4000000 in
set_option maxRecDepth 100000 in
theorem cM_distance2 {l : Launch} {D : va_G} {cI cZ : ClassId} {q : Nat} {r : Nat → Nat} {P Dn : Nat} {th t lo wa : Int} {g0 g1 g2 g3 g4 g5 g6 g7 g8 g9 g10 g11 g12 : Nat → Int} {i : Nat} (hP : 1 ≤ P ∧ P ≤ 11) (hDn : Dn ≤ 16) (hs7 : ∀ j : Nat, -2147483648 ≤ g7 j ∧ g7 j < 2147483648) (hs9 : ∀ j : Nat, -2147483648 ≤ g9 j ∧ g9 j < 2147483648) (he3 : ∀ j : Nat, j < Dn → 0 ≤ g3 j ∧ g3 j < P) (he4 : ∀ j : Nat, j < Dn → 0 ≤ g4 j ∧ g4 j < P) (hi : i < P) (hne : (mDist g3 g4 g7 P Dn g9) i = -1) : gMI l yX1_distance wsX1_distance 6 D (gTy cI cZ) (gM cI cZ q r [th, (P : Int), (Dn : Int), t, lo, wa] [g0, g1, g2, g3, g4, g5, g6, g7, g8, g9, g10, g11, g12]) [.ref q, .int (iI (i : Int))] 0 (gM cI cZ q r [2, (P : Int), (Dn : Int), t, lo, wa] [g0, g1, g2, g3, g4, g5, g6, g7, g8, (mDist g3 g4 g7 P Dn g9), g10, g11, g12]) := by
  refine g_ofI (by decide +kernel) rfl rfl (Nat.le_of_ble_eq_true rfl) (g_cat1 rfl) rfl ?_
  intro p e s m args below meth c Q A0 E hret
  have hts := E.1.2.2.2.2
  show gJ p l e (gR 6) s m args below meth c 0 0 Q A0 D (gM cI cZ q r [th, (P : Int), (Dn : Int), t, lo, wa] [g0, g1, g2, g3, g4, g5, g6, g7, g8, g9, g10, g11, g12]) [some (.ref q), some (.int (iI (i : Int)))] 0 []
  have hBf : gB (mDist g3 g4 g7 P Dn g9) := mDist_B hs9 hP.2
  have h9 := hBf i
  refine g_aload_n E dX1_distance_0 rfl rfl ?_
  refine g_callV0 E (cM_measure hP hDn hs7 hs9 he3 he4) (cwV 0 hts gX1_distance_X1_measure rfl rfl rfl hdX1_measure ⟨(Nat.le_of_ble_eq_true rfl), (Nat.le_of_ble_eq_true rfl)⟩) rfl rfl rfl (Nat.le_of_ble_eq_true rfl) gW_0 rfl dX1_distance_1 ⟨Nat.zero_le _, Nat.zero_le _⟩ ?_
  refine g_aload_n E dX1_distance_4 rfl rfl ?_
  refine g_aload_n E dX1_distance_5 rfl rfl ?_
  refine g_iload_n E dX1_distance_6 rfl rfl ?_
  refine g_callI0 E (cM_isPlace (rv := 1) (by omega) (Or.inl ⟨rfl, by omega, by omega⟩)) (cwV 1 hts gX1_distance_X1_isPlace rfl rfl rfl hdX1_isPlace ⟨(Nat.le_of_ble_eq_true rfl), (Nat.le_of_ble_eq_true rfl)⟩) rfl rfl rfl (Nat.le_of_ble_eq_true rfl) gW_0 rfl dX1_distance_7 ⟨Nat.zero_le _, Nat.zero_le _⟩ ?_
  refine g_if_ne_t E dX1_distance_10 (tgt := 17) (by decide) (by omega) (by omega) ?_
  refine g_aload_n E dX1_distance_17 rfl rfl ?_
  refine g_getR E inX1_distance rfl flX1_distance_45 dX1_distance_18 (by decide) rfl ?_
  refine g_iload_n E dX1_distance_21 rfl rfl ?_
  refine g_ald E dX1_distance_22 rfl rfl rfl (by omega) ?_
  refine g_iconst E dX1_distance_23 ?_
  refine g_icmp_ne_f E dX1_distance_24 (tgt := 31) (by decide) (by omega) (by omega) ?_
  refine g_iconst E dX1_distance_27 ?_
  refine g_goto E dX1_distance_28 (tgt := 32) (by decide) ?_
  refine g_callI0 E (cM_goesWell (rv := 0) (by omega) (Or.inr ⟨by omega, rfl⟩)) (cwV 1 hts gX1_distance_X1_goesWell rfl rfl rfl hdX1_goesWell ⟨(Nat.le_of_ble_eq_true rfl), (Nat.le_of_ble_eq_true rfl)⟩) rfl rfl rfl (Nat.le_of_ble_eq_true rfl) gW_0 rfl dX1_distance_32 ⟨Nat.zero_le _, Nat.zero_le _⟩ ?_
  refine g_if_eq_t E dX1_distance_35 (tgt := 47) (by decide) (by omega) (by omega) ?_
  refine g_iconst E dX1_distance_47 ?_
  exact g_ri rfl hret dX1_distance_48
set_option maxHeartbeats 4000000 in
set_option maxRecDepth 100000 in
theorem cM_distance1 {l : Launch} {D : va_G} {cI cZ : ClassId} {q : Nat} {r : Nat → Nat} {P Dn : Nat} {th t lo wa : Int} {g0 g1 g2 g3 g4 g5 g6 g7 g8 g9 g10 g11 g12 : Nat → Int} {x : Int} (hgx : -2147483648 ≤ x ∧ x < 2147483648) (hP : 1 ≤ P ∧ P ≤ 11) (hDn : Dn ≤ 16) (hs7 : ∀ j : Nat, -2147483648 ≤ g7 j ∧ g7 j < 2147483648) (hs9 : ∀ j : Nat, -2147483648 ≤ g9 j ∧ g9 j < 2147483648) (he3 : ∀ j : Nat, j < Dn → 0 ≤ g3 j ∧ g3 j < P) (he4 : ∀ j : Nat, j < Dn → 0 ≤ g4 j ∧ g4 j < P) (hx : x < 0 ∨ P ≤ x) : gMI l yX1_distance wsX1_distance 6 D (gTy cI cZ) (gM cI cZ q r [th, (P : Int), (Dn : Int), t, lo, wa] [g0, g1, g2, g3, g4, g5, g6, g7, g8, g9, g10, g11, g12]) [.ref q, .int (iI x)] 0 (gM cI cZ q r [1, (P : Int), (Dn : Int), t, lo, wa] [g0, g1, g2, g3, g4, g5, g6, g7, g8, (mDist g3 g4 g7 P Dn g9), g10, g11, g12]) := by
  refine g_ofI (by decide +kernel) rfl rfl (Nat.le_of_ble_eq_true rfl) (g_cat1 rfl) rfl ?_
  intro p e s m args below meth c Q A0 E hret
  have hts := E.1.2.2.2.2
  show gJ p l e (gR 6) s m args below meth c 0 0 Q A0 D (gM cI cZ q r [th, (P : Int), (Dn : Int), t, lo, wa] [g0, g1, g2, g3, g4, g5, g6, g7, g8, g9, g10, g11, g12]) [some (.ref q), some (.int (iI x))] 0 []
  refine g_aload_n E dX1_distance_0 rfl rfl ?_
  refine g_callV0 E (cM_measure hP hDn hs7 hs9 he3 he4) (cwV 0 hts gX1_distance_X1_measure rfl rfl rfl hdX1_measure ⟨(Nat.le_of_ble_eq_true rfl), (Nat.le_of_ble_eq_true rfl)⟩) rfl rfl rfl (Nat.le_of_ble_eq_true rfl) gW_0 rfl dX1_distance_1 ⟨Nat.zero_le _, Nat.zero_le _⟩ ?_
  refine g_aload_n E dX1_distance_4 rfl rfl ?_
  refine g_aload_n E dX1_distance_5 rfl rfl ?_
  refine g_iload_n E dX1_distance_6 rfl rfl ?_
  refine g_callI0 E (cM_isPlace (rv := 0) (by omega) (Or.inr ⟨rfl, by omega⟩)) (cwV 1 hts gX1_distance_X1_isPlace rfl rfl rfl hdX1_isPlace ⟨(Nat.le_of_ble_eq_true rfl), (Nat.le_of_ble_eq_true rfl)⟩) rfl rfl rfl (Nat.le_of_ble_eq_true rfl) gW_0 rfl dX1_distance_7 ⟨Nat.zero_le _, Nat.zero_le _⟩ ?_
  refine g_if_ne_f E dX1_distance_10 (tgt := 17) (by decide) (by omega) (by omega) ?_
  refine g_iconst E dX1_distance_13 ?_
  refine g_goto E dX1_distance_14 (tgt := 32) (by decide) ?_
  refine g_callI0 E (cM_goesWell (rv := 0) (by omega) (Or.inr ⟨by omega, rfl⟩)) (cwV 1 hts gX1_distance_X1_goesWell rfl rfl rfl hdX1_goesWell ⟨(Nat.le_of_ble_eq_true rfl), (Nat.le_of_ble_eq_true rfl)⟩) rfl rfl rfl (Nat.le_of_ble_eq_true rfl) gW_0 rfl dX1_distance_32 ⟨Nat.zero_le _, Nat.zero_le _⟩ ?_
  refine g_if_eq_t E dX1_distance_35 (tgt := 47) (by decide) (by omega) (by omega) ?_
  refine g_iconst E dX1_distance_47 ?_
  exact g_ri rfl hret dX1_distance_48
set_option maxHeartbeats 4000000 in
set_option maxRecDepth 100000 in
theorem cM_door0 {l : Launch} {D : va_G} {cI cZ : ClassId} {q : Nat} {r : Nat → Nat} {P Dn : Nat} {th t lo wa : Int} {g0 g1 g2 g3 g4 g5 g6 g7 g8 g9 g10 g11 g12 : Nat → Int} {i : Nat} (hP : 1 ≤ P ∧ P ≤ 11) (hDn : Dn ≤ 16) (hs3 : ∀ j : Nat, -2147483648 ≤ g3 j ∧ g3 j < 2147483648) (hs4 : ∀ j : Nat, -2147483648 ≤ g4 j ∧ g4 j < 2147483648) (hs7 : ∀ j : Nat, -2147483648 ≤ g7 j ∧ g7 j < 2147483648) (hs9 : ∀ j : Nat, -2147483648 ≤ g9 j ∧ g9 j < 2147483648) (he3 : ∀ j : Nat, j < Dn → 0 ≤ g3 j ∧ g3 j < P) (he4 : ∀ j : Nat, j < Dn → 0 ≤ g4 j ∧ g4 j < P) (hi : i < P) (hne : (mDo (mDist g3 g4 g7 P Dn g9) g3 g4 g7 i Dn) ≠ -1) : gMI l yX1_door wsX1_door 6 D (gTy cI cZ) (gM cI cZ q r [th, (P : Int), (Dn : Int), t, lo, wa] [g0, g1, g2, g3, g4, g5, g6, g7, g8, g9, g10, g11, g12]) [.ref q, .int (iI (i : Int))] (mDo (mDist g3 g4 g7 P Dn g9) g3 g4 g7 i Dn) (gM cI cZ q r [0, (P : Int), (Dn : Int), t, lo, wa] [g0, g1, g2, g3, g4, g5, g6, g7, g8, (mDist g3 g4 g7 P Dn g9), g10, g11, g12]) := by
  refine g_ofI (by decide +kernel) rfl rfl (Nat.le_of_ble_eq_true rfl) (g_cat1 rfl) rfl ?_
  intro p e s m args below meth c Q A0 E hret
  have hts := E.1.2.2.2.2
  show gJ p l e (gR 6) s m args below meth c 0 0 Q A0 D (gM cI cZ q r [th, (P : Int), (Dn : Int), t, lo, wa] [g0, g1, g2, g3, g4, g5, g6, g7, g8, g9, g10, g11, g12]) [some (.ref q), some (.int (iI (i : Int))), none] 0 []
  have hBf : gB (mDist g3 g4 g7 P Dn g9) := mDist_B hs9 hP.2
  have hd := mDo_b (far := (mDist g3 g4 g7 P Dn g9)) (one := g3) (oth := g4) (op := g7) (i := i) Dn
  refine g_aload_n E dX1_door_0 rfl rfl ?_
  refine g_callV0 E (cM_measure hP hDn hs7 hs9 he3 he4) (cwV 0 hts gX1_door_X1_measure rfl rfl rfl hdX1_measure ⟨(Nat.le_of_ble_eq_true rfl), (Nat.le_of_ble_eq_true rfl)⟩) rfl rfl rfl (Nat.le_of_ble_eq_true rfl) gW_0 rfl dX1_door_1 ⟨Nat.zero_le _, Nat.zero_le _⟩ ?_
  refine g_aload_n E dX1_door_4 rfl rfl ?_
  refine g_iload_n E dX1_door_5 rfl rfl ?_
  refine g_callI0 E (cM_isPlace (rv := 1) (by omega) (Or.inl ⟨rfl, by omega, by omega⟩)) (cwV 1 hts gX1_door_X1_isPlace rfl rfl rfl hdX1_isPlace ⟨(Nat.le_of_ble_eq_true rfl), (Nat.le_of_ble_eq_true rfl)⟩) rfl rfl rfl (Nat.le_of_ble_eq_true rfl) gW_0 rfl dX1_door_6 ⟨Nat.zero_le _, Nat.zero_le _⟩ ?_
  refine g_if_eq_f E dX1_door_9 (tgt := 20) (by decide) (by omega) (by omega) ?_
  refine g_aload_n E dX1_door_12 rfl rfl ?_
  refine g_iload_n E dX1_door_13 rfl rfl ?_
  refine g_callI0 E (cM_doorOf (by omega) hP hDn hs3 hs4 hs7 hBf he3 he4) (cwV 1 hts gX1_door_X1_doorOf rfl rfl rfl hdX1_doorOf ⟨(Nat.le_of_ble_eq_true rfl), (Nat.le_of_ble_eq_true rfl)⟩) rfl rfl rfl (Nat.le_of_ble_eq_true rfl) gW_0 rfl dX1_door_14 ⟨Nat.zero_le _, Nat.zero_le _⟩ ?_
  refine g_goto E dX1_door_17 (tgt := 21) (by decide) ?_
  refine g_istore_n E (lv' := [_, _, _]) dX1_door_21 rfl (Nat.le_of_ble_eq_true rfl) rfl ?_
  refine g_aload_n E dX1_door_22 rfl rfl ?_
  refine g_aload_n E dX1_door_23 rfl rfl ?_
  refine g_iload_n E dX1_door_24 rfl rfl ?_
  refine g_callI0 E (cM_isPlace (rv := 1) (by omega) (Or.inl ⟨rfl, by omega, by omega⟩)) (cwV 1 hts gX1_door_X1_isPlace rfl rfl rfl hdX1_isPlace ⟨(Nat.le_of_ble_eq_true rfl), (Nat.le_of_ble_eq_true rfl)⟩) rfl rfl rfl (Nat.le_of_ble_eq_true rfl) gW_0 rfl dX1_door_25 ⟨Nat.zero_le _, Nat.zero_le _⟩ ?_
  refine g_if_ne_t E dX1_door_28 (tgt := 35) (by decide) (by omega) (by omega) ?_
  refine g_iload_n E dX1_door_35 rfl rfl ?_
  refine g_iconst E dX1_door_36 ?_
  refine g_icmp_ne_t E dX1_door_37 (tgt := 44) (by decide) (by omega) (by omega) ?_
  refine g_iconst E dX1_door_44 ?_
  refine g_callI0 E (cM_goesWell (rv := 1) (by omega) (Or.inl ⟨rfl, rfl⟩)) (cwV 1 hts gX1_door_X1_goesWell rfl rfl rfl hdX1_goesWell ⟨(Nat.le_of_ble_eq_true rfl), (Nat.le_of_ble_eq_true rfl)⟩) rfl rfl rfl (Nat.le_of_ble_eq_true rfl) gW_0 rfl dX1_door_45 ⟨Nat.zero_le _, Nat.zero_le _⟩ ?_
  refine g_if_eq_f E dX1_door_48 (tgt := 55) (by decide) (by omega) (by omega) ?_
  refine g_iload_n E dX1_door_51 rfl rfl ?_
  refine g_goto E dX1_door_52 (tgt := 56) (by decide) ?_
  exact g_ri rfl hret dX1_door_56
set_option maxHeartbeats 4000000 in
set_option maxRecDepth 100000 in
theorem cM_door2 {l : Launch} {D : va_G} {cI cZ : ClassId} {q : Nat} {r : Nat → Nat} {P Dn : Nat} {th t lo wa : Int} {g0 g1 g2 g3 g4 g5 g6 g7 g8 g9 g10 g11 g12 : Nat → Int} {i : Nat} (hP : 1 ≤ P ∧ P ≤ 11) (hDn : Dn ≤ 16) (hs3 : ∀ j : Nat, -2147483648 ≤ g3 j ∧ g3 j < 2147483648) (hs4 : ∀ j : Nat, -2147483648 ≤ g4 j ∧ g4 j < 2147483648) (hs7 : ∀ j : Nat, -2147483648 ≤ g7 j ∧ g7 j < 2147483648) (hs9 : ∀ j : Nat, -2147483648 ≤ g9 j ∧ g9 j < 2147483648) (he3 : ∀ j : Nat, j < Dn → 0 ≤ g3 j ∧ g3 j < P) (he4 : ∀ j : Nat, j < Dn → 0 ≤ g4 j ∧ g4 j < P) (hi : i < P) (hne : (mDo (mDist g3 g4 g7 P Dn g9) g3 g4 g7 i Dn) = -1) : gMI l yX1_door wsX1_door 6 D (gTy cI cZ) (gM cI cZ q r [th, (P : Int), (Dn : Int), t, lo, wa] [g0, g1, g2, g3, g4, g5, g6, g7, g8, g9, g10, g11, g12]) [.ref q, .int (iI (i : Int))] 0 (gM cI cZ q r [2, (P : Int), (Dn : Int), t, lo, wa] [g0, g1, g2, g3, g4, g5, g6, g7, g8, (mDist g3 g4 g7 P Dn g9), g10, g11, g12]) := by
  refine g_ofI (by decide +kernel) rfl rfl (Nat.le_of_ble_eq_true rfl) (g_cat1 rfl) rfl ?_
  intro p e s m args below meth c Q A0 E hret
  have hts := E.1.2.2.2.2
  show gJ p l e (gR 6) s m args below meth c 0 0 Q A0 D (gM cI cZ q r [th, (P : Int), (Dn : Int), t, lo, wa] [g0, g1, g2, g3, g4, g5, g6, g7, g8, g9, g10, g11, g12]) [some (.ref q), some (.int (iI (i : Int))), none] 0 []
  have hBf : gB (mDist g3 g4 g7 P Dn g9) := mDist_B hs9 hP.2
  have hd := mDo_b (far := (mDist g3 g4 g7 P Dn g9)) (one := g3) (oth := g4) (op := g7) (i := i) Dn
  refine g_aload_n E dX1_door_0 rfl rfl ?_
  refine g_callV0 E (cM_measure hP hDn hs7 hs9 he3 he4) (cwV 0 hts gX1_door_X1_measure rfl rfl rfl hdX1_measure ⟨(Nat.le_of_ble_eq_true rfl), (Nat.le_of_ble_eq_true rfl)⟩) rfl rfl rfl (Nat.le_of_ble_eq_true rfl) gW_0 rfl dX1_door_1 ⟨Nat.zero_le _, Nat.zero_le _⟩ ?_
  refine g_aload_n E dX1_door_4 rfl rfl ?_
  refine g_iload_n E dX1_door_5 rfl rfl ?_
  refine g_callI0 E (cM_isPlace (rv := 1) (by omega) (Or.inl ⟨rfl, by omega, by omega⟩)) (cwV 1 hts gX1_door_X1_isPlace rfl rfl rfl hdX1_isPlace ⟨(Nat.le_of_ble_eq_true rfl), (Nat.le_of_ble_eq_true rfl)⟩) rfl rfl rfl (Nat.le_of_ble_eq_true rfl) gW_0 rfl dX1_door_6 ⟨Nat.zero_le _, Nat.zero_le _⟩ ?_
  refine g_if_eq_f E dX1_door_9 (tgt := 20) (by decide) (by omega) (by omega) ?_
  refine g_aload_n E dX1_door_12 rfl rfl ?_
  refine g_iload_n E dX1_door_13 rfl rfl ?_
  refine g_callI0 E (cM_doorOf (by omega) hP hDn hs3 hs4 hs7 hBf he3 he4) (cwV 1 hts gX1_door_X1_doorOf rfl rfl rfl hdX1_doorOf ⟨(Nat.le_of_ble_eq_true rfl), (Nat.le_of_ble_eq_true rfl)⟩) rfl rfl rfl (Nat.le_of_ble_eq_true rfl) gW_0 rfl dX1_door_14 ⟨Nat.zero_le _, Nat.zero_le _⟩ ?_
  refine g_goto E dX1_door_17 (tgt := 21) (by decide) ?_
  refine g_istore_n E (lv' := [_, _, _]) dX1_door_21 rfl (Nat.le_of_ble_eq_true rfl) rfl ?_
  refine g_aload_n E dX1_door_22 rfl rfl ?_
  refine g_aload_n E dX1_door_23 rfl rfl ?_
  refine g_iload_n E dX1_door_24 rfl rfl ?_
  refine g_callI0 E (cM_isPlace (rv := 1) (by omega) (Or.inl ⟨rfl, by omega, by omega⟩)) (cwV 1 hts gX1_door_X1_isPlace rfl rfl rfl hdX1_isPlace ⟨(Nat.le_of_ble_eq_true rfl), (Nat.le_of_ble_eq_true rfl)⟩) rfl rfl rfl (Nat.le_of_ble_eq_true rfl) gW_0 rfl dX1_door_25 ⟨Nat.zero_le _, Nat.zero_le _⟩ ?_
  refine g_if_ne_t E dX1_door_28 (tgt := 35) (by decide) (by omega) (by omega) ?_
  refine g_iload_n E dX1_door_35 rfl rfl ?_
  refine g_iconst E dX1_door_36 ?_
  refine g_icmp_ne_f E dX1_door_37 (tgt := 44) (by decide) (by omega) (by omega) ?_
  refine g_iconst E dX1_door_40 ?_
  refine g_goto E dX1_door_41 (tgt := 45) (by decide) ?_
  refine g_callI0 E (cM_goesWell (rv := 0) (by omega) (Or.inr ⟨by omega, rfl⟩)) (cwV 1 hts gX1_door_X1_goesWell rfl rfl rfl hdX1_goesWell ⟨(Nat.le_of_ble_eq_true rfl), (Nat.le_of_ble_eq_true rfl)⟩) rfl rfl rfl (Nat.le_of_ble_eq_true rfl) gW_0 rfl dX1_door_45 ⟨Nat.zero_le _, Nat.zero_le _⟩ ?_
  refine g_if_eq_t E dX1_door_48 (tgt := 55) (by decide) (by omega) (by omega) ?_
  refine g_iconst E dX1_door_55 ?_
  exact g_ri rfl hret dX1_door_56
set_option maxHeartbeats 4000000 in
set_option maxRecDepth 100000 in
theorem cM_door1 {l : Launch} {D : va_G} {cI cZ : ClassId} {q : Nat} {r : Nat → Nat} {P Dn : Nat} {th t lo wa : Int} {g0 g1 g2 g3 g4 g5 g6 g7 g8 g9 g10 g11 g12 : Nat → Int} {x : Int} (hgx : -2147483648 ≤ x ∧ x < 2147483648) (hP : 1 ≤ P ∧ P ≤ 11) (hDn : Dn ≤ 16) (hs3 : ∀ j : Nat, -2147483648 ≤ g3 j ∧ g3 j < 2147483648) (hs4 : ∀ j : Nat, -2147483648 ≤ g4 j ∧ g4 j < 2147483648) (hs7 : ∀ j : Nat, -2147483648 ≤ g7 j ∧ g7 j < 2147483648) (hs9 : ∀ j : Nat, -2147483648 ≤ g9 j ∧ g9 j < 2147483648) (he3 : ∀ j : Nat, j < Dn → 0 ≤ g3 j ∧ g3 j < P) (he4 : ∀ j : Nat, j < Dn → 0 ≤ g4 j ∧ g4 j < P) (hx : x < 0 ∨ P ≤ x) : gMI l yX1_door wsX1_door 6 D (gTy cI cZ) (gM cI cZ q r [th, (P : Int), (Dn : Int), t, lo, wa] [g0, g1, g2, g3, g4, g5, g6, g7, g8, g9, g10, g11, g12]) [.ref q, .int (iI x)] 0 (gM cI cZ q r [1, (P : Int), (Dn : Int), t, lo, wa] [g0, g1, g2, g3, g4, g5, g6, g7, g8, (mDist g3 g4 g7 P Dn g9), g10, g11, g12]) := by
  refine g_ofI (by decide +kernel) rfl rfl (Nat.le_of_ble_eq_true rfl) (g_cat1 rfl) rfl ?_
  intro p e s m args below meth c Q A0 E hret
  have hts := E.1.2.2.2.2
  show gJ p l e (gR 6) s m args below meth c 0 0 Q A0 D (gM cI cZ q r [th, (P : Int), (Dn : Int), t, lo, wa] [g0, g1, g2, g3, g4, g5, g6, g7, g8, g9, g10, g11, g12]) [some (.ref q), some (.int (iI x)), none] 0 []
  have hBf : gB (mDist g3 g4 g7 P Dn g9) := mDist_B hs9 hP.2
  refine g_aload_n E dX1_door_0 rfl rfl ?_
  refine g_callV0 E (cM_measure hP hDn hs7 hs9 he3 he4) (cwV 0 hts gX1_door_X1_measure rfl rfl rfl hdX1_measure ⟨(Nat.le_of_ble_eq_true rfl), (Nat.le_of_ble_eq_true rfl)⟩) rfl rfl rfl (Nat.le_of_ble_eq_true rfl) gW_0 rfl dX1_door_1 ⟨Nat.zero_le _, Nat.zero_le _⟩ ?_
  refine g_aload_n E dX1_door_4 rfl rfl ?_
  refine g_iload_n E dX1_door_5 rfl rfl ?_
  refine g_callI0 E (cM_isPlace (rv := 0) (by omega) (Or.inr ⟨rfl, by omega⟩)) (cwV 1 hts gX1_door_X1_isPlace rfl rfl rfl hdX1_isPlace ⟨(Nat.le_of_ble_eq_true rfl), (Nat.le_of_ble_eq_true rfl)⟩) rfl rfl rfl (Nat.le_of_ble_eq_true rfl) gW_0 rfl dX1_door_6 ⟨Nat.zero_le _, Nat.zero_le _⟩ ?_
  refine g_if_eq_t E dX1_door_9 (tgt := 20) (by decide) (by omega) (by omega) ?_
  refine g_iconst E dX1_door_20 ?_
  refine g_istore_n E (lv' := [_, _, _]) dX1_door_21 rfl (Nat.le_of_ble_eq_true rfl) rfl ?_
  refine g_aload_n E dX1_door_22 rfl rfl ?_
  refine g_aload_n E dX1_door_23 rfl rfl ?_
  refine g_iload_n E dX1_door_24 rfl rfl ?_
  refine g_callI0 E (cM_isPlace (rv := 0) (by omega) (Or.inr ⟨rfl, by omega⟩)) (cwV 1 hts gX1_door_X1_isPlace rfl rfl rfl hdX1_isPlace ⟨(Nat.le_of_ble_eq_true rfl), (Nat.le_of_ble_eq_true rfl)⟩) rfl rfl rfl (Nat.le_of_ble_eq_true rfl) gW_0 rfl dX1_door_25 ⟨Nat.zero_le _, Nat.zero_le _⟩ ?_
  refine g_if_ne_f E dX1_door_28 (tgt := 35) (by decide) (by omega) (by omega) ?_
  refine g_iconst E dX1_door_31 ?_
  refine g_goto E dX1_door_32 (tgt := 45) (by decide) ?_
  refine g_callI0 E (cM_goesWell (rv := 0) (by omega) (Or.inr ⟨by omega, rfl⟩)) (cwV 1 hts gX1_door_X1_goesWell rfl rfl rfl hdX1_goesWell ⟨(Nat.le_of_ble_eq_true rfl), (Nat.le_of_ble_eq_true rfl)⟩) rfl rfl rfl (Nat.le_of_ble_eq_true rfl) gW_0 rfl dX1_door_45 ⟨Nat.zero_le _, Nat.zero_le _⟩ ?_
  refine g_if_eq_t E dX1_door_48 (tgt := 55) (by decide) (by omega) (by omega) ?_
  refine g_iconst E dX1_door_55 ?_
  exact g_ri rfl hret dX1_door_56
set_option maxHeartbeats 4000000 in
set_option maxRecDepth 100000 in
theorem cM_wouldMove0 {l : Launch} {D : va_G} {cI cZ : ClassId} {q : Nat} {r : Nat → Nat} {P Dn : Nat} {th t lo wa : Int} {g0 g1 g2 g3 g4 g5 g6 g7 g8 g9 g10 g11 g12 : Nat → Int} {i : Nat} (hP : 1 ≤ P ∧ P ≤ 11) (hDn : Dn ≤ 16) (hs2 : ∀ j : Nat, -2147483648 ≤ g2 j ∧ g2 j < 2147483648) (hs3 : ∀ j : Nat, -2147483648 ≤ g3 j ∧ g3 j < 2147483648) (hs4 : ∀ j : Nat, -2147483648 ≤ g4 j ∧ g4 j < 2147483648) (hs5 : ∀ j : Nat, -2147483648 ≤ g5 j ∧ g5 j < 2147483648) (hs7 : ∀ j : Nat, -2147483648 ≤ g7 j ∧ g7 j < 2147483648) (he3 : ∀ j : Nat, j < Dn → 0 ≤ g3 j ∧ g3 j < P) (he4 : ∀ j : Nat, j < Dn → 0 ≤ g4 j ∧ g4 j < P) (hok : mOkD P Dn g0 g2 g3 g4 g5 g6 g7 (g1, g8, g9, g10, g11, g12, t, lo, wa)) (hi : i < P) (hne : (mDo (mFS P Dn g0 g2 g3 g4 g5 g6 g7 (g1, g8, g9, g10, g11, g12, t, lo, wa)) g3 g4 g7 i Dn) = -1) : gMI l yX1_wouldMove wsX1_wouldMove 6 D (gTy cI cZ) (gM cI cZ q r [th, (P : Int), (Dn : Int), t, lo, wa] [g0, g1, g2, g3, g4, g5, g6, g7, g8, g9, g10, g11, g12]) [.ref q, .int (iI (i : Int))] 0 (gM cI cZ q r [0, (P : Int), (Dn : Int), t, lo, wa] [g0, g1, g2, g3, g4, g5, g6, g7, g8, (mFS P Dn g0 g2 g3 g4 g5 g6 g7 (g1, g8, g9, g10, g11, g12, t, lo, wa)), (mWS P Dn g0 g2 g3 g4 g5 g6 g7 (g1, g8, g9, g10, g11, g12, t, lo, wa)).1, (mGS P Dn g0 g2 g3 g4 g5 g6 g7 (g1, g8, g9, g10, g11, g12, t, lo, wa)), (mWS P Dn g0 g2 g3 g4 g5 g6 g7 (g1, g8, g9, g10, g11, g12, t, lo, wa)).2]) := by
  refine g_ofI (by decide +kernel) rfl rfl (Nat.le_of_ble_eq_true rfl) (g_cat1 rfl) rfl ?_
  intro p e s m args below meth c Q A0 E hret
  have hts := E.1.2.2.2.2
  show gJ p l e (gR 6) s m args below meth c 0 0 Q A0 D (gM cI cZ q r [th, (P : Int), (Dn : Int), t, lo, wa] [g0, g1, g2, g3, g4, g5, g6, g7, g8, g9, g10, g11, g12]) [some (.ref q), some (.int (iI (i : Int))), none] 0 []
  have hBf : gB (mFS P Dn g0 g2 g3 g4 g5 g6 g7 (g1, g8, g9, g10, g11, g12, t, lo, wa)) := mDist_B hok.2.2.1 hP.2
  have hd := mDo_b (far := (mFS P Dn g0 g2 g3 g4 g5 g6 g7 (g1, g8, g9, g10, g11, g12, t, lo, wa))) (one := g3) (oth := g4) (op := g7) (i := i) Dn
  refine g_aload_n E dX1_wouldMove_0 rfl rfl ?_
  refine g_aload_n E dX1_wouldMove_1 rfl rfl ?_
  refine g_iload_n E dX1_wouldMove_2 rfl rfl ?_
  refine g_callI0 E (cM_isPlace (rv := 1) (by omega) (Or.inl ⟨rfl, by omega, by omega⟩)) (cwV 1 hts gX1_wouldMove_X1_isPlace rfl rfl rfl hdX1_isPlace ⟨(Nat.le_of_ble_eq_true rfl), (Nat.le_of_ble_eq_true rfl)⟩) rfl rfl rfl (Nat.le_of_ble_eq_true rfl) gW_0 rfl dX1_wouldMove_3 ⟨Nat.zero_le _, Nat.zero_le _⟩ ?_
  refine g_if_eq_f E dX1_wouldMove_6 (tgt := 13) (by decide) (by omega) (by omega) ?_
  refine g_iconst E dX1_wouldMove_9 ?_
  refine g_goto E dX1_wouldMove_10 (tgt := 14) (by decide) ?_
  refine g_callI0 E (cM_goesWell (rv := 1) (by omega) (Or.inl ⟨rfl, rfl⟩)) (cwV 1 hts gX1_wouldMove_X1_goesWell rfl rfl rfl hdX1_goesWell ⟨(Nat.le_of_ble_eq_true rfl), (Nat.le_of_ble_eq_true rfl)⟩) rfl rfl rfl (Nat.le_of_ble_eq_true rfl) gW_0 rfl dX1_wouldMove_14 ⟨Nat.zero_le _, Nat.zero_le _⟩ ?_
  refine g_if_ne_t E dX1_wouldMove_17 (tgt := 22) (by decide) (by omega) (by omega) ?_
  refine g_aload_n E dX1_wouldMove_22 rfl rfl ?_
  refine g_callV0 E (cM_decide hP hDn hs2 hs3 hs4 hs5 hs7 he3 he4 hok) (cwV 0 hts gX1_wouldMove_X1_decide rfl rfl rfl hdX1_decide ⟨(Nat.le_of_ble_eq_true rfl), (Nat.le_of_ble_eq_true rfl)⟩) rfl rfl rfl (Nat.le_of_ble_eq_true rfl) gW_0 rfl dX1_wouldMove_23 ⟨Nat.zero_le _, Nat.zero_le _⟩ ?_
  refine g_aload_n E dX1_wouldMove_26 rfl rfl ?_
  refine g_iload_n E dX1_wouldMove_27 rfl rfl ?_
  refine g_callI0 E (cM_doorOf (by omega) hP hDn hs3 hs4 hs7 hBf he3 he4) (cwV 1 hts gX1_wouldMove_X1_doorOf rfl rfl rfl hdX1_doorOf ⟨(Nat.le_of_ble_eq_true rfl), (Nat.le_of_ble_eq_true rfl)⟩) rfl rfl rfl (Nat.le_of_ble_eq_true rfl) gW_0 rfl dX1_wouldMove_28 ⟨Nat.zero_le _, Nat.zero_le _⟩ ?_
  refine g_istore_n E (lv' := [_, _, _]) dX1_wouldMove_31 rfl (Nat.le_of_ble_eq_true rfl) rfl ?_
  refine g_iload_n E dX1_wouldMove_32 rfl rfl ?_
  refine g_iconst E dX1_wouldMove_33 ?_
  refine g_icmp_ne_f E dX1_wouldMove_34 (tgt := 41) (by decide) (by omega) (by omega) ?_
  refine g_iconst E dX1_wouldMove_37 ?_
  refine g_goto E dX1_wouldMove_38 (tgt := 47) (by decide) ?_
  exact g_ri rfl hret dX1_wouldMove_47
set_option maxHeartbeats 4000000 in
set_option maxRecDepth 100000 in
theorem cM_wouldMove1 {l : Launch} {D : va_G} {cI cZ : ClassId} {q : Nat} {r : Nat → Nat} {P Dn : Nat} {th t lo wa : Int} {g0 g1 g2 g3 g4 g5 g6 g7 g8 g9 g10 g11 g12 : Nat → Int} {i : Nat} (hP : 1 ≤ P ∧ P ≤ 11) (hDn : Dn ≤ 16) (hs2 : ∀ j : Nat, -2147483648 ≤ g2 j ∧ g2 j < 2147483648) (hs3 : ∀ j : Nat, -2147483648 ≤ g3 j ∧ g3 j < 2147483648) (hs4 : ∀ j : Nat, -2147483648 ≤ g4 j ∧ g4 j < 2147483648) (hs5 : ∀ j : Nat, -2147483648 ≤ g5 j ∧ g5 j < 2147483648) (hs7 : ∀ j : Nat, -2147483648 ≤ g7 j ∧ g7 j < 2147483648) (he3 : ∀ j : Nat, j < Dn → 0 ≤ g3 j ∧ g3 j < P) (he4 : ∀ j : Nat, j < Dn → 0 ≤ g4 j ∧ g4 j < P) (hok : mOkD P Dn g0 g2 g3 g4 g5 g6 g7 (g1, g8, g9, g10, g11, g12, t, lo, wa)) (hi : i < P) (hne : (mDo (mFS P Dn g0 g2 g3 g4 g5 g6 g7 (g1, g8, g9, g10, g11, g12, t, lo, wa)) g3 g4 g7 i Dn) ≠ -1) : gMI l yX1_wouldMove wsX1_wouldMove 6 D (gTy cI cZ) (gM cI cZ q r [th, (P : Int), (Dn : Int), t, lo, wa] [g0, g1, g2, g3, g4, g5, g6, g7, g8, g9, g10, g11, g12]) [.ref q, .int (iI (i : Int))] ((mGS P Dn g0 g2 g3 g4 g5 g6 g7 (g1, g8, g9, g10, g11, g12, t, lo, wa)) (mDo (mFS P Dn g0 g2 g3 g4 g5 g6 g7 (g1, g8, g9, g10, g11, g12, t, lo, wa)) g3 g4 g7 i Dn).toNat) (gM cI cZ q r [0, (P : Int), (Dn : Int), t, lo, wa] [g0, g1, g2, g3, g4, g5, g6, g7, g8, (mFS P Dn g0 g2 g3 g4 g5 g6 g7 (g1, g8, g9, g10, g11, g12, t, lo, wa)), (mWS P Dn g0 g2 g3 g4 g5 g6 g7 (g1, g8, g9, g10, g11, g12, t, lo, wa)).1, (mGS P Dn g0 g2 g3 g4 g5 g6 g7 (g1, g8, g9, g10, g11, g12, t, lo, wa)), (mWS P Dn g0 g2 g3 g4 g5 g6 g7 (g1, g8, g9, g10, g11, g12, t, lo, wa)).2]) := by
  refine g_ofI (by decide +kernel) rfl rfl (Nat.le_of_ble_eq_true rfl) (g_cat1 rfl) rfl ?_
  intro p e s m args below meth c Q A0 E hret
  have hts := E.1.2.2.2.2
  show gJ p l e (gR 6) s m args below meth c 0 0 Q A0 D (gM cI cZ q r [th, (P : Int), (Dn : Int), t, lo, wa] [g0, g1, g2, g3, g4, g5, g6, g7, g8, g9, g10, g11, g12]) [some (.ref q), some (.int (iI (i : Int))), none] 0 []
  have hBf : gB (mFS P Dn g0 g2 g3 g4 g5 g6 g7 (g1, g8, g9, g10, g11, g12, t, lo, wa)) := mDist_B hok.2.2.1 hP.2
  have hd := mDo_b (far := (mFS P Dn g0 g2 g3 g4 g5 g6 g7 (g1, g8, g9, g10, g11, g12, t, lo, wa))) (one := g3) (oth := g4) (op := g7) (i := i) Dn
  refine g_aload_n E dX1_wouldMove_0 rfl rfl ?_
  refine g_aload_n E dX1_wouldMove_1 rfl rfl ?_
  refine g_iload_n E dX1_wouldMove_2 rfl rfl ?_
  refine g_callI0 E (cM_isPlace (rv := 1) (by omega) (Or.inl ⟨rfl, by omega, by omega⟩)) (cwV 1 hts gX1_wouldMove_X1_isPlace rfl rfl rfl hdX1_isPlace ⟨(Nat.le_of_ble_eq_true rfl), (Nat.le_of_ble_eq_true rfl)⟩) rfl rfl rfl (Nat.le_of_ble_eq_true rfl) gW_0 rfl dX1_wouldMove_3 ⟨Nat.zero_le _, Nat.zero_le _⟩ ?_
  refine g_if_eq_f E dX1_wouldMove_6 (tgt := 13) (by decide) (by omega) (by omega) ?_
  refine g_iconst E dX1_wouldMove_9 ?_
  refine g_goto E dX1_wouldMove_10 (tgt := 14) (by decide) ?_
  refine g_callI0 E (cM_goesWell (rv := 1) (by omega) (Or.inl ⟨rfl, rfl⟩)) (cwV 1 hts gX1_wouldMove_X1_goesWell rfl rfl rfl hdX1_goesWell ⟨(Nat.le_of_ble_eq_true rfl), (Nat.le_of_ble_eq_true rfl)⟩) rfl rfl rfl (Nat.le_of_ble_eq_true rfl) gW_0 rfl dX1_wouldMove_14 ⟨Nat.zero_le _, Nat.zero_le _⟩ ?_
  refine g_if_ne_t E dX1_wouldMove_17 (tgt := 22) (by decide) (by omega) (by omega) ?_
  refine g_aload_n E dX1_wouldMove_22 rfl rfl ?_
  refine g_callV0 E (cM_decide hP hDn hs2 hs3 hs4 hs5 hs7 he3 he4 hok) (cwV 0 hts gX1_wouldMove_X1_decide rfl rfl rfl hdX1_decide ⟨(Nat.le_of_ble_eq_true rfl), (Nat.le_of_ble_eq_true rfl)⟩) rfl rfl rfl (Nat.le_of_ble_eq_true rfl) gW_0 rfl dX1_wouldMove_23 ⟨Nat.zero_le _, Nat.zero_le _⟩ ?_
  refine g_aload_n E dX1_wouldMove_26 rfl rfl ?_
  refine g_iload_n E dX1_wouldMove_27 rfl rfl ?_
  refine g_callI0 E (cM_doorOf (by omega) hP hDn hs3 hs4 hs7 hBf he3 he4) (cwV 1 hts gX1_wouldMove_X1_doorOf rfl rfl rfl hdX1_doorOf ⟨(Nat.le_of_ble_eq_true rfl), (Nat.le_of_ble_eq_true rfl)⟩) rfl rfl rfl (Nat.le_of_ble_eq_true rfl) gW_0 rfl dX1_wouldMove_28 ⟨Nat.zero_le _, Nat.zero_le _⟩ ?_
  refine g_istore_n E (lv' := [_, _, _]) dX1_wouldMove_31 rfl (Nat.le_of_ble_eq_true rfl) rfl ?_
  refine g_iload_n E dX1_wouldMove_32 rfl rfl ?_
  refine g_iconst E dX1_wouldMove_33 ?_
  refine g_icmp_ne_t E dX1_wouldMove_34 (tgt := 41) (by decide) (by omega) (by omega) ?_
  refine g_aload_n E dX1_wouldMove_41 rfl rfl ?_
  refine g_getR E inX1_wouldMove rfl flX1_wouldMove_51 dX1_wouldMove_42 (by decide) rfl ?_
  refine g_iload_n E dX1_wouldMove_45 rfl rfl ?_
  refine g_ald E dX1_wouldMove_46 rfl rfl (i := (mDo (mFS P Dn g0 g2 g3 g4 g5 g6 g7 (g1, g8, g9, g10, g11, g12, t, lo, wa)) g3 g4 g7 i Dn).toNat) (by omega) (by omega) ?_
  exact g_ri rfl hret dX1_wouldMove_47
set_option maxHeartbeats 4000000 in
set_option maxRecDepth 100000 in
theorem cM_wouldMove2 {l : Launch} {D : va_G} {cI cZ : ClassId} {q : Nat} {r : Nat → Nat} {P Dn : Nat} {th t lo wa : Int} {g0 g1 g2 g3 g4 g5 g6 g7 g8 g9 g10 g11 g12 : Nat → Int} {x : Int} (hgx : -2147483648 ≤ x ∧ x < 2147483648) (hP : 1 ≤ P ∧ P ≤ 11) (hx : x < 0 ∨ P ≤ x) : gMI l yX1_wouldMove wsX1_wouldMove 6 D (gTy cI cZ) (gM cI cZ q r [th, (P : Int), (Dn : Int), t, lo, wa] [g0, g1, g2, g3, g4, g5, g6, g7, g8, g9, g10, g11, g12]) [.ref q, .int (iI x)] 0 (gM cI cZ q r [1, (P : Int), (Dn : Int), t, lo, wa] [g0, g1, g2, g3, g4, g5, g6, g7, g8, g9, g10, g11, g12]) := by
  refine g_ofI (by decide +kernel) rfl rfl (Nat.le_of_ble_eq_true rfl) (g_cat1 rfl) rfl ?_
  intro p e s m args below meth c Q A0 E hret
  have hts := E.1.2.2.2.2
  show gJ p l e (gR 6) s m args below meth c 0 0 Q A0 D (gM cI cZ q r [th, (P : Int), (Dn : Int), t, lo, wa] [g0, g1, g2, g3, g4, g5, g6, g7, g8, g9, g10, g11, g12]) [some (.ref q), some (.int (iI x)), none] 0 []
  refine g_aload_n E dX1_wouldMove_0 rfl rfl ?_
  refine g_aload_n E dX1_wouldMove_1 rfl rfl ?_
  refine g_iload_n E dX1_wouldMove_2 rfl rfl ?_
  refine g_callI0 E (cM_isPlace (rv := 0) (by omega) (Or.inr ⟨rfl, by omega⟩)) (cwV 1 hts gX1_wouldMove_X1_isPlace rfl rfl rfl hdX1_isPlace ⟨(Nat.le_of_ble_eq_true rfl), (Nat.le_of_ble_eq_true rfl)⟩) rfl rfl rfl (Nat.le_of_ble_eq_true rfl) gW_0 rfl dX1_wouldMove_3 ⟨Nat.zero_le _, Nat.zero_le _⟩ ?_
  refine g_if_eq_t E dX1_wouldMove_6 (tgt := 13) (by decide) (by omega) (by omega) ?_
  refine g_iconst E dX1_wouldMove_13 ?_
  refine g_callI0 E (cM_goesWell (rv := 0) (by omega) (Or.inr ⟨by omega, rfl⟩)) (cwV 1 hts gX1_wouldMove_X1_goesWell rfl rfl rfl hdX1_goesWell ⟨(Nat.le_of_ble_eq_true rfl), (Nat.le_of_ble_eq_true rfl)⟩) rfl rfl rfl (Nat.le_of_ble_eq_true rfl) gW_0 rfl dX1_wouldMove_14 ⟨Nat.zero_le _, Nat.zero_le _⟩ ?_
  refine g_if_ne_f E dX1_wouldMove_17 (tgt := 22) (by decide) (by omega) (by omega) ?_
  refine g_iconst E dX1_wouldMove_20 ?_
  exact g_ri rfl hret dX1_wouldMove_21
