set_option maxRecDepth 100000 in
theorem flX1_beyond_23 : Cond.fieldLink RX1 23 (TX1 6).1 (TX1 6).2.1 (TX1 6).2.2.1 ∈ wsX1_beyond := by decide +kernel
set_option maxRecDepth 100000 in
theorem flX1_beyond_26 : Cond.fieldLink RX1 26 (TX1 7).1 (TX1 7).2.1 (TX1 7).2.2.1 ∈ wsX1_beyond := by decide +kernel
set_option maxRecDepth 100000 in
theorem flX1_doorOf_35 : Cond.fieldLink RX1 35 (TX1 10).1 (TX1 10).2.1 (TX1 10).2.2.1 ∈ wsX1_doorOf := by decide +kernel
set_option maxRecDepth 100000 in
theorem flX1_doorOf_45 : Cond.fieldLink RX1 45 (TX1 15).1 (TX1 15).2.1 (TX1 15).2.2.1 ∈ wsX1_doorOf := by decide +kernel
set_option maxRecDepth 100000 in
theorem flX1_doorOf_64 : Cond.fieldLink RX1 64 (TX1 5).1 (TX1 5).2.1 (TX1 5).2.2.1 ∈ wsX1_doorOf := by decide +kernel
set_option maxRecDepth 100000 in
theorem flX1_doors_57 : Cond.fieldLink RX1 57 (TX1 0).1 (TX1 0).2.1 (TX1 0).2.2.1 ∈ wsX1_doors := by decide +kernel
set_option maxRecDepth 100000 in
theorem flX1_doors_64 : Cond.fieldLink RX1 64 (TX1 5).1 (TX1 5).2.1 (TX1 5).2.2.1 ∈ wsX1_doors := by decide +kernel
set_option maxRecDepth 100000 in
theorem flX1_goesWell_57 : Cond.fieldLink RX1 57 (TX1 0).1 (TX1 0).2.1 (TX1 0).2.2.1 ∈ wsX1_goesWell := by decide +kernel
set_option maxRecDepth 100000 in
theorem flX1_insideNow_17 : Cond.fieldLink RX1 17 (TX1 3).1 (TX1 3).2.1 (TX1 3).2.2.1 ∈ wsX1_insideNow := by decide +kernel
set_option maxRecDepth 100000 in
theorem flX1_insideNow_7 : Cond.fieldLink RX1 7 (TX1 1).1 (TX1 1).2.1 (TX1 1).2.2.1 ∈ wsX1_insideNow := by decide +kernel
set_option maxRecDepth 100000 in
theorem flX1_inside_57 : Cond.fieldLink RX1 57 (TX1 0).1 (TX1 0).2.1 (TX1 0).2.2.1 ∈ wsX1_inside := by decide +kernel
set_option maxRecDepth 100000 in
theorem flX1_isDoor_64 : Cond.fieldLink RX1 64 (TX1 5).1 (TX1 5).2.1 (TX1 5).2.2.1 ∈ wsX1_isDoor := by decide +kernel
set_option maxRecDepth 100000 in
theorem flX1_isPlace_7 : Cond.fieldLink RX1 7 (TX1 1).1 (TX1 1).2.1 (TX1 1).2.2.1 ∈ wsX1_isPlace := by decide +kernel
set_option maxRecDepth 100000 in
theorem flX1_measure_23 : Cond.fieldLink RX1 23 (TX1 6).1 (TX1 6).2.1 (TX1 6).2.2.1 ∈ wsX1_measure := by decide +kernel
set_option maxRecDepth 100000 in
theorem flX1_measure_26 : Cond.fieldLink RX1 26 (TX1 7).1 (TX1 7).2.1 (TX1 7).2.2.1 ∈ wsX1_measure := by decide +kernel
set_option maxRecDepth 100000 in
theorem flX1_measure_45 : Cond.fieldLink RX1 45 (TX1 15).1 (TX1 15).2.1 (TX1 15).2.2.1 ∈ wsX1_measure := by decide +kernel
set_option maxRecDepth 100000 in
theorem flX1_measure_64 : Cond.fieldLink RX1 64 (TX1 5).1 (TX1 5).2.1 (TX1 5).2.2.1 ∈ wsX1_measure := by decide +kernel
set_option maxRecDepth 100000 in
theorem flX1_measure_7 : Cond.fieldLink RX1 7 (TX1 1).1 (TX1 1).2.1 (TX1 1).2.2.1 ∈ wsX1_measure := by decide +kernel
set_option maxRecDepth 100000 in
theorem flX1_now_57 : Cond.fieldLink RX1 57 (TX1 0).1 (TX1 0).2.1 (TX1 0).2.2.1 ∈ wsX1_now := by decide +kernel
set_option maxRecDepth 100000 in
theorem flX1_now_92 : Cond.fieldLink RX1 92 (TX1 12).1 (TX1 12).2.1 (TX1 12).2.2.1 ∈ wsX1_now := by decide +kernel
set_option maxRecDepth 100000 in
theorem flX1_places_57 : Cond.fieldLink RX1 57 (TX1 0).1 (TX1 0).2.1 (TX1 0).2.2.1 ∈ wsX1_places := by decide +kernel
set_option maxRecDepth 100000 in
theorem flX1_places_7 : Cond.fieldLink RX1 7 (TX1 1).1 (TX1 1).2.1 (TX1 1).2.2.1 ∈ wsX1_places := by decide +kernel
set_option maxRecDepth 100000 in
theorem flX1_reach_35 : Cond.fieldLink RX1 35 (TX1 10).1 (TX1 10).2.1 (TX1 10).2.2.1 ∈ wsX1_reach := by decide +kernel
set_option maxRecDepth 100000 in
theorem flX1_reach_45 : Cond.fieldLink RX1 45 (TX1 15).1 (TX1 15).2.1 (TX1 15).2.2.1 ∈ wsX1_reach := by decide +kernel
set_option maxRecDepth 100000 in
theorem flX1_thrown_57 : Cond.fieldLink RX1 57 (TX1 0).1 (TX1 0).2.1 (TX1 0).2.2.1 ∈ wsX1_thrown := by decide +kernel
set_option maxRecDepth 100000 in
theorem flX1_waited_105 : Cond.fieldLink RX1 105 (TX1 14).1 (TX1 14).2.1 (TX1 14).2.2.1 ∈ wsX1_waited := by decide +kernel
set_option maxRecDepth 100000 in
theorem flX1_waited_57 : Cond.fieldLink RX1 57 (TX1 0).1 (TX1 0).2.1 (TX1 0).2.2.1 ∈ wsX1_waited := by decide +kernel
set_option maxRecDepth 100000 in
theorem hdX1_beyond : yX1_beyond.cls = RX1 ∧ yX1_beyond.cls ≠ "java/lang/invoke/MethodHandle" ∧ yX1_beyond.cls ≠ "java/lang/invoke/VarHandle" ∧ (parseMethodDescriptor yX1_beyond.desc).map (fun d => d.parameters.length) = some 2 := by decide +kernel
set_option maxRecDepth 100000 in
theorem hdX1_in : yX1_in.cls = RX1 ∧ yX1_in.cls ≠ "java/lang/invoke/MethodHandle" ∧ yX1_in.cls ≠ "java/lang/invoke/VarHandle" ∧ (parseMethodDescriptor yX1_in.desc).map (fun d => d.parameters.length) = some 3 := by decide +kernel
set_option maxRecDepth 100000 in
theorem hdX1_insideNow : yX1_insideNow.cls = RX1 ∧ yX1_insideNow.cls ≠ "java/lang/invoke/MethodHandle" ∧ yX1_insideNow.cls ≠ "java/lang/invoke/VarHandle" ∧ (parseMethodDescriptor yX1_insideNow.desc).map (fun d => d.parameters.length) = some 0 := by decide +kernel
set_option maxRecDepth 100000 in
theorem hdX1_reach : yX1_reach.cls = RX1 ∧ yX1_reach.cls ≠ "java/lang/invoke/MethodHandle" ∧ yX1_reach.cls ≠ "java/lang/invoke/VarHandle" ∧ (parseMethodDescriptor yX1_reach.desc).map (fun d => d.parameters.length) = some 4 := by decide +kernel
set_option maxRecDepth 100000 in
theorem inX1_beyond : ∀ w ∈ u_ws RX1 TX1 19, w ∈ wsX1_beyond := by decide +kernel
set_option maxRecDepth 100000 in
theorem inX1_doorOf : ∀ w ∈ u_ws RX1 TX1 19, w ∈ wsX1_doorOf := by decide +kernel
set_option maxRecDepth 100000 in
theorem inX1_doors : ∀ w ∈ u_ws RX1 TX1 19, w ∈ wsX1_doors := by decide +kernel
set_option maxRecDepth 100000 in
theorem inX1_goesWell : ∀ w ∈ u_ws RX1 TX1 19, w ∈ wsX1_goesWell := by decide +kernel
set_option maxRecDepth 100000 in
theorem inX1_inside : ∀ w ∈ u_ws RX1 TX1 19, w ∈ wsX1_inside := by decide +kernel
set_option maxRecDepth 100000 in
theorem inX1_insideNow : ∀ w ∈ u_ws RX1 TX1 19, w ∈ wsX1_insideNow := by decide +kernel
set_option maxRecDepth 100000 in
theorem inX1_isDoor : ∀ w ∈ u_ws RX1 TX1 19, w ∈ wsX1_isDoor := by decide +kernel
set_option maxRecDepth 100000 in
theorem inX1_isPlace : ∀ w ∈ u_ws RX1 TX1 19, w ∈ wsX1_isPlace := by decide +kernel
set_option maxRecDepth 100000 in
theorem inX1_measure : ∀ w ∈ u_ws RX1 TX1 19, w ∈ wsX1_measure := by decide +kernel
set_option maxRecDepth 100000 in
theorem inX1_now : ∀ w ∈ u_ws RX1 TX1 19, w ∈ wsX1_now := by decide +kernel
set_option maxRecDepth 100000 in
theorem inX1_places : ∀ w ∈ u_ws RX1 TX1 19, w ∈ wsX1_places := by decide +kernel
set_option maxRecDepth 100000 in
theorem inX1_reach : ∀ w ∈ u_ws RX1 TX1 19, w ∈ wsX1_reach := by decide +kernel
set_option maxRecDepth 100000 in
theorem inX1_thrown : ∀ w ∈ u_ws RX1 TX1 19, w ∈ wsX1_thrown := by decide +kernel
set_option maxRecDepth 100000 in
theorem inX1_waited : ∀ w ∈ u_ws RX1 TX1 19, w ∈ wsX1_waited := by decide +kernel
set_option maxHeartbeats 4000000 in
set_option maxRecDepth 100000 in
theorem cM_in {l : Launch} {D : va_G} {cI cZ : ClassId} {v a b rv : Int} (hr : (-2147483648 ≤ v ∧ v < 2147483648) ∧ (-2147483648 ≤ a ∧ a < 2147483648) ∧ (-2147483648 ≤ b ∧ b < 2147483648)) (hrv : (rv = 1 ∧ a ≤ v ∧ v ≤ b) ∨ (rv = 0 ∧ (v < a ∨ b < v))) : gMI l yX1_in wsX1_in 0 D (gTy cI cZ) [] [.int (iI v), .int (iI a), .int (iI b)] rv [] := by
  refine g_ofI (by decide +kernel) rfl rfl (Nat.le_of_ble_eq_true rfl) (g_cat1 rfl) (g_narZ (by omega)) ?_
  intro p e s m args below meth c Q A0 E hret
  have hts := E.1.2.2.2.2
  show gJ p l e (gR 0) s m args below meth c 0 0 Q A0 D [] [some (.int (iI v)), some (.int (iI a)), some (.int (iI b))] 0 []
  refine g_iload_n E dX1_in_0 rfl rfl ?_
  refine g_iload_n E dX1_in_1 rfl rfl ?_
  refine g_icmp_lt E dX1_in_2 (tgt := 14) (by decide) (by omega) (fun h1 => ?_) (fun h1 => ?_)
  · refine g_iconst E dX1_in_14 ?_
    exact g_ri (by omega) hret dX1_in_15
  · refine g_iload_n E dX1_in_5 rfl rfl ?_
    refine g_iload_n E dX1_in_6 rfl rfl ?_
    refine g_icmp_gt E dX1_in_7 (tgt := 14) (by decide) (by omega) (fun h2 => ?_) (fun h2 => ?_)
    · refine g_iconst E dX1_in_14 ?_
      exact g_ri (by omega) hret dX1_in_15
    · refine g_iconst E dX1_in_10 ?_
      refine g_goto E dX1_in_11 (tgt := 15) (by decide) ?_
      exact g_ri (by omega) hret dX1_in_15
set_option maxHeartbeats 4000000 in
set_option maxRecDepth 100000 in
theorem cM_goesWell {l : Launch} {D : va_G} {cI cZ : ClassId} {q : Nat} {r : Nat → Nat} {P Dn : Nat} {th t lo wa : Int} {g0 g1 g2 g3 g4 g5 g6 g7 g8 g9 g10 g11 g12 : Nat → Int} {x rv : Int} (hr : -2147483648 ≤ x ∧ x < 2147483648) (hrv : (x = 0 ∧ rv = 1) ∨ (x ≠ 0 ∧ rv = 0)) : gMI l yX1_goesWell wsX1_goesWell 0 D (gTy cI cZ) (gM cI cZ q r [th, (P : Int), (Dn : Int), t, lo, wa] [g0, g1, g2, g3, g4, g5, g6, g7, g8, g9, g10, g11, g12]) [.ref q, .int (iI x)] rv (gM cI cZ q r [x, (P : Int), (Dn : Int), t, lo, wa] [g0, g1, g2, g3, g4, g5, g6, g7, g8, g9, g10, g11, g12]) := by
  refine g_ofI (by decide +kernel) rfl rfl (Nat.le_of_ble_eq_true rfl) (g_cat1 rfl) (g_narZ (by omega)) ?_
  intro p e s m args below meth c Q A0 E hret
  have hts := E.1.2.2.2.2
  show gJ p l e (gR 0) s m args below meth c 0 0 Q A0 D (gM cI cZ q r [th, (P : Int), (Dn : Int), t, lo, wa] [g0, g1, g2, g3, g4, g5, g6, g7, g8, g9, g10, g11, g12]) [some (.ref q), some (.int (iI x))] 0 []
  refine g_aload_n E dX1_goesWell_0 rfl rfl ?_
  refine g_iload_n E dX1_goesWell_1 rfl rfl ?_
  refine g_putI E (F' := [_, _, _, _, _, _]) inX1_goesWell rfl flX1_goesWell_57 dX1_goesWell_2 tyX1_ok nmX1 (by decide) rfl (by decide) rfl (by decide +kernel) (Nat.le_of_ble_eq_true rfl) rfl ?_
  refine g_iload_n E dX1_goesWell_5 rfl rfl ?_
  refine g_if_ne E dX1_goesWell_6 (tgt := 13) (by decide) (by omega) (fun h1 => ?_) (fun h1 => ?_)
  · refine g_iconst E dX1_goesWell_13 ?_
    exact g_ri (by omega) hret dX1_goesWell_14
  · refine g_iconst E dX1_goesWell_9 ?_
    refine g_goto E dX1_goesWell_10 (tgt := 14) (by decide) ?_
    exact g_ri (by omega) hret dX1_goesWell_14
set_option maxHeartbeats 4000000 in
set_option maxRecDepth 100000 in
theorem cM_isPlace {l : Launch} {D : va_G} {cI cZ : ClassId} {q : Nat} {r : Nat → Nat} {P Dn : Nat} {th t lo wa : Int} {g0 g1 g2 g3 g4 g5 g6 g7 g8 g9 g10 g11 g12 : Nat → Int} {x rv : Int} (hr : (-2147483648 ≤ x ∧ x < 2147483648) ∧ P ≤ 16) (hrv : (rv = 1 ∧ 0 ≤ x ∧ x < P) ∨ (rv = 0 ∧ (x < 0 ∨ P ≤ x))) : gMI l yX1_isPlace wsX1_isPlace 1 D (gTy cI cZ) (gM cI cZ q r [th, (P : Int), (Dn : Int), t, lo, wa] [g0, g1, g2, g3, g4, g5, g6, g7, g8, g9, g10, g11, g12]) [.ref q, .int (iI x)] rv (gM cI cZ q r [th, (P : Int), (Dn : Int), t, lo, wa] [g0, g1, g2, g3, g4, g5, g6, g7, g8, g9, g10, g11, g12]) := by
  refine g_ofI (by decide +kernel) rfl rfl (Nat.le_of_ble_eq_true rfl) (g_cat1 rfl) (g_narZ (by omega)) ?_
  intro p e s m args below meth c Q A0 E hret
  have hts := E.1.2.2.2.2
  show gJ p l e (gR 1) s m args below meth c 0 0 Q A0 D (gM cI cZ q r [th, (P : Int), (Dn : Int), t, lo, wa] [g0, g1, g2, g3, g4, g5, g6, g7, g8, g9, g10, g11, g12]) [some (.ref q), some (.int (iI x))] 0 []
  refine g_iload_n E dX1_isPlace_0 rfl rfl ?_
  refine g_iconst E dX1_isPlace_1 ?_
  refine g_aload_n E dX1_isPlace_2 rfl rfl ?_
  refine g_getI E inX1_isPlace rfl flX1_isPlace_7 dX1_isPlace_3 (by decide) rfl rfl ?_
  refine g_iconst E dX1_isPlace_6 ?_
  refine g_isub E dX1_isPlace_7 ?_
  refine g_callSI E (cM_in (rv := rv) (by omega) (by omega)) (va_cwS 3 hts gX1_isPlace_X1_in rfl rfl rfl hdX1_in.2 ⟨(Nat.le_of_ble_eq_true rfl), (Nat.le_of_ble_eq_true rfl)⟩) rfl rfl rfl (Nat.le_of_ble_eq_true rfl) dX1_isPlace_8 ⟨Nat.zero_le _, Nat.zero_le _⟩ ?_
  exact g_ri rfl hret dX1_isPlace_11
set_option maxHeartbeats 4000000 in
set_option maxRecDepth 100000 in
theorem cM_isDoor {l : Launch} {D : va_G} {cI cZ : ClassId} {q : Nat} {r : Nat → Nat} {P Dn : Nat} {th t lo wa : Int} {g0 g1 g2 g3 g4 g5 g6 g7 g8 g9 g10 g11 g12 : Nat → Int} {x rv : Int} (hr : (-2147483648 ≤ x ∧ x < 2147483648) ∧ Dn ≤ 16) (hrv : (rv = 1 ∧ 0 ≤ x ∧ x < Dn) ∨ (rv = 0 ∧ (x < 0 ∨ Dn ≤ x))) : gMI l yX1_isDoor wsX1_isDoor 1 D (gTy cI cZ) (gM cI cZ q r [th, (P : Int), (Dn : Int), t, lo, wa] [g0, g1, g2, g3, g4, g5, g6, g7, g8, g9, g10, g11, g12]) [.ref q, .int (iI x)] rv (gM cI cZ q r [th, (P : Int), (Dn : Int), t, lo, wa] [g0, g1, g2, g3, g4, g5, g6, g7, g8, g9, g10, g11, g12]) := by
  refine g_ofI (by decide +kernel) rfl rfl (Nat.le_of_ble_eq_true rfl) (g_cat1 rfl) (g_narZ (by omega)) ?_
  intro p e s m args below meth c Q A0 E hret
  have hts := E.1.2.2.2.2
  show gJ p l e (gR 1) s m args below meth c 0 0 Q A0 D (gM cI cZ q r [th, (P : Int), (Dn : Int), t, lo, wa] [g0, g1, g2, g3, g4, g5, g6, g7, g8, g9, g10, g11, g12]) [some (.ref q), some (.int (iI x))] 0 []
  refine g_iload_n E dX1_isDoor_0 rfl rfl ?_
  refine g_iconst E dX1_isDoor_1 ?_
  refine g_aload_n E dX1_isDoor_2 rfl rfl ?_
  refine g_getI E inX1_isDoor rfl flX1_isDoor_64 dX1_isDoor_3 (by decide) rfl rfl ?_
  refine g_iconst E dX1_isDoor_6 ?_
  refine g_isub E dX1_isDoor_7 ?_
  refine g_callSI E (cM_in (rv := rv) (by omega) (by omega)) (va_cwS 3 hts gX1_isDoor_X1_in rfl rfl rfl hdX1_in.2 ⟨(Nat.le_of_ble_eq_true rfl), (Nat.le_of_ble_eq_true rfl)⟩) rfl rfl rfl (Nat.le_of_ble_eq_true rfl) dX1_isDoor_8 ⟨Nat.zero_le _, Nat.zero_le _⟩ ?_
  exact g_ri rfl hret dX1_isDoor_11
set_option maxHeartbeats 4000000 in
set_option maxRecDepth 100000 in
theorem cM_places {l : Launch} {D : va_G} {cI cZ : ClassId} {q : Nat} {r : Nat → Nat} {P Dn : Nat} {th t lo wa : Int} {g0 g1 g2 g3 g4 g5 g6 g7 g8 g9 g10 g11 g12 : Nat → Int}  : gMI l yX1_places wsX1_places 6 D (gTy cI cZ) (gM cI cZ q r [th, (P : Int), (Dn : Int), t, lo, wa] [g0, g1, g2, g3, g4, g5, g6, g7, g8, g9, g10, g11, g12]) [.ref q] (P : Int) (gM cI cZ q r [0, (P : Int), (Dn : Int), t, lo, wa] [g0, g1, g2, g3, g4, g5, g6, g7, g8, g9, g10, g11, g12]) := by
  refine g_ofI (by decide +kernel) rfl rfl (Nat.le_of_ble_eq_true rfl) (g_cat1 rfl) rfl ?_
  intro p e s m args below meth c Q A0 E hret
  have hts := E.1.2.2.2.2
  show gJ p l e (gR 6) s m args below meth c 0 0 Q A0 D (gM cI cZ q r [th, (P : Int), (Dn : Int), t, lo, wa] [g0, g1, g2, g3, g4, g5, g6, g7, g8, g9, g10, g11, g12]) [some (.ref q)] 0 []
  refine g_aload_n E dX1_places_0 rfl rfl ?_
  refine g_iconst E dX1_places_1 ?_
  refine g_putI E (F' := [_, _, _, _, _, _]) inX1_places rfl flX1_places_57 dX1_places_2 tyX1_ok nmX1 (by decide) rfl (by decide) rfl (by decide +kernel) (Nat.le_of_ble_eq_true rfl) rfl ?_
  refine g_aload_n E dX1_places_5 rfl rfl ?_
  refine g_getI E inX1_places rfl flX1_places_7 dX1_places_6 (by decide) rfl rfl ?_
  exact g_ri rfl hret dX1_places_9
set_option maxHeartbeats 4000000 in
set_option maxRecDepth 100000 in
theorem cM_doors {l : Launch} {D : va_G} {cI cZ : ClassId} {q : Nat} {r : Nat → Nat} {P Dn : Nat} {th t lo wa : Int} {g0 g1 g2 g3 g4 g5 g6 g7 g8 g9 g10 g11 g12 : Nat → Int}  : gMI l yX1_doors wsX1_doors 6 D (gTy cI cZ) (gM cI cZ q r [th, (P : Int), (Dn : Int), t, lo, wa] [g0, g1, g2, g3, g4, g5, g6, g7, g8, g9, g10, g11, g12]) [.ref q] (Dn : Int) (gM cI cZ q r [0, (P : Int), (Dn : Int), t, lo, wa] [g0, g1, g2, g3, g4, g5, g6, g7, g8, g9, g10, g11, g12]) := by
  refine g_ofI (by decide +kernel) rfl rfl (Nat.le_of_ble_eq_true rfl) (g_cat1 rfl) rfl ?_
  intro p e s m args below meth c Q A0 E hret
  have hts := E.1.2.2.2.2
  show gJ p l e (gR 6) s m args below meth c 0 0 Q A0 D (gM cI cZ q r [th, (P : Int), (Dn : Int), t, lo, wa] [g0, g1, g2, g3, g4, g5, g6, g7, g8, g9, g10, g11, g12]) [some (.ref q)] 0 []
  refine g_aload_n E dX1_doors_0 rfl rfl ?_
  refine g_iconst E dX1_doors_1 ?_
  refine g_putI E (F' := [_, _, _, _, _, _]) inX1_doors rfl flX1_doors_57 dX1_doors_2 tyX1_ok nmX1 (by decide) rfl (by decide) rfl (by decide +kernel) (Nat.le_of_ble_eq_true rfl) rfl ?_
  refine g_aload_n E dX1_doors_5 rfl rfl ?_
  refine g_getI E inX1_doors rfl flX1_doors_64 dX1_doors_6 (by decide) rfl rfl ?_
  exact g_ri rfl hret dX1_doors_9
set_option maxHeartbeats 4000000 in
set_option maxRecDepth 100000 in
theorem cM_now {l : Launch} {D : va_G} {cI cZ : ClassId} {q : Nat} {r : Nat → Nat} {P Dn : Nat} {th t lo wa : Int} {g0 g1 g2 g3 g4 g5 g6 g7 g8 g9 g10 g11 g12 : Nat → Int}  : gMI l yX1_now wsX1_now 6 D (gTy cI cZ) (gM cI cZ q r [th, (P : Int), (Dn : Int), t, lo, wa] [g0, g1, g2, g3, g4, g5, g6, g7, g8, g9, g10, g11, g12]) [.ref q] t (gM cI cZ q r [0, (P : Int), (Dn : Int), t, lo, wa] [g0, g1, g2, g3, g4, g5, g6, g7, g8, g9, g10, g11, g12]) := by
  refine g_ofI (by decide +kernel) rfl rfl (Nat.le_of_ble_eq_true rfl) (g_cat1 rfl) rfl ?_
  intro p e s m args below meth c Q A0 E hret
  have hts := E.1.2.2.2.2
  show gJ p l e (gR 6) s m args below meth c 0 0 Q A0 D (gM cI cZ q r [th, (P : Int), (Dn : Int), t, lo, wa] [g0, g1, g2, g3, g4, g5, g6, g7, g8, g9, g10, g11, g12]) [some (.ref q)] 0 []
  refine g_aload_n E dX1_now_0 rfl rfl ?_
  refine g_iconst E dX1_now_1 ?_
  refine g_putI E (F' := [_, _, _, _, _, _]) inX1_now rfl flX1_now_57 dX1_now_2 tyX1_ok nmX1 (by decide) rfl (by decide) rfl (by decide +kernel) (Nat.le_of_ble_eq_true rfl) rfl ?_
  refine g_aload_n E dX1_now_5 rfl rfl ?_
  refine g_getI E inX1_now rfl flX1_now_92 dX1_now_6 (by decide) rfl rfl ?_
  exact g_ri rfl hret dX1_now_9
set_option maxHeartbeats 4000000 in
set_option maxRecDepth 100000 in
theorem cM_waited {l : Launch} {D : va_G} {cI cZ : ClassId} {q : Nat} {r : Nat → Nat} {P Dn : Nat} {th t lo wa : Int} {g0 g1 g2 g3 g4 g5 g6 g7 g8 g9 g10 g11 g12 : Nat → Int}  : gMI l yX1_waited wsX1_waited 6 D (gTy cI cZ) (gM cI cZ q r [th, (P : Int), (Dn : Int), t, lo, wa] [g0, g1, g2, g3, g4, g5, g6, g7, g8, g9, g10, g11, g12]) [.ref q] wa (gM cI cZ q r [0, (P : Int), (Dn : Int), t, lo, wa] [g0, g1, g2, g3, g4, g5, g6, g7, g8, g9, g10, g11, g12]) := by
  refine g_ofI (by decide +kernel) rfl rfl (Nat.le_of_ble_eq_true rfl) (g_cat1 rfl) rfl ?_
  intro p e s m args below meth c Q A0 E hret
  have hts := E.1.2.2.2.2
  show gJ p l e (gR 6) s m args below meth c 0 0 Q A0 D (gM cI cZ q r [th, (P : Int), (Dn : Int), t, lo, wa] [g0, g1, g2, g3, g4, g5, g6, g7, g8, g9, g10, g11, g12]) [some (.ref q)] 0 []
  refine g_aload_n E dX1_waited_0 rfl rfl ?_
  refine g_iconst E dX1_waited_1 ?_
  refine g_putI E (F' := [_, _, _, _, _, _]) inX1_waited rfl flX1_waited_57 dX1_waited_2 tyX1_ok nmX1 (by decide) rfl (by decide) rfl (by decide +kernel) (Nat.le_of_ble_eq_true rfl) rfl ?_
  refine g_aload_n E dX1_waited_5 rfl rfl ?_
  refine g_getI E inX1_waited rfl flX1_waited_105 dX1_waited_6 (by decide) rfl rfl ?_
  exact g_ri rfl hret dX1_waited_9
set_option maxHeartbeats 4000000 in
set_option maxRecDepth 100000 in
theorem cM_thrown {l : Launch} {D : va_G} {cI cZ : ClassId} {q : Nat} {r : Nat → Nat} {P Dn : Nat} {th t lo wa : Int} {g0 g1 g2 g3 g4 g5 g6 g7 g8 g9 g10 g11 g12 : Nat → Int}  : gMI l yX1_thrown wsX1_thrown 6 D (gTy cI cZ) (gM cI cZ q r [th, (P : Int), (Dn : Int), t, lo, wa] [g0, g1, g2, g3, g4, g5, g6, g7, g8, g9, g10, g11, g12]) [.ref q] th (gM cI cZ q r [th, (P : Int), (Dn : Int), t, lo, wa] [g0, g1, g2, g3, g4, g5, g6, g7, g8, g9, g10, g11, g12]) := by
  refine g_ofI (by decide +kernel) rfl rfl (Nat.le_of_ble_eq_true rfl) (g_cat1 rfl) rfl ?_
  intro p e s m args below meth c Q A0 E hret
  have hts := E.1.2.2.2.2
  show gJ p l e (gR 6) s m args below meth c 0 0 Q A0 D (gM cI cZ q r [th, (P : Int), (Dn : Int), t, lo, wa] [g0, g1, g2, g3, g4, g5, g6, g7, g8, g9, g10, g11, g12]) [some (.ref q)] 0 []
  refine g_aload_n E dX1_thrown_0 rfl rfl ?_
  refine g_getI E inX1_thrown rfl flX1_thrown_57 dX1_thrown_1 (by decide) rfl rfl ?_
  exact g_ri rfl hret dX1_thrown_4
set_option maxHeartbeats 4000000 in
set_option maxRecDepth 100000 in
theorem cM_insideNow {l : Launch} {D : va_G} {cI cZ : ClassId} {q : Nat} {r : Nat → Nat} {P Dn : Nat} {th t lo wa : Int} {g0 g1 g2 g3 g4 g5 g6 g7 g8 g9 g10 g11 g12 : Nat → Int} (hP : 1 ≤ P ∧ P ≤ 11) : gMI l yX1_insideNow wsX1_insideNow 0 D (gTy cI cZ) (gM cI cZ q r [th, (P : Int), (Dn : Int), t, lo, wa] [g0, g1, g2, g3, g4, g5, g6, g7, g8, g9, g10, g11, g12]) [.ref q] (pSum g1 P) (gM cI cZ q r [th, (P : Int), (Dn : Int), t, lo, wa] [g0, g1, g2, g3, g4, g5, g6, g7, g8, g9, g10, g11, g12]) := by
  refine g_ofI (by decide +kernel) rfl rfl (Nat.le_of_ble_eq_true rfl) (g_cat1 rfl) rfl ?_
  intro p e s m args below meth c Q A0 E hret
  have hts := E.1.2.2.2.2
  show gJ p l e (gR 0) s m args below meth c 0 0 Q A0 D (gM cI cZ q r [th, (P : Int), (Dn : Int), t, lo, wa] [g0, g1, g2, g3, g4, g5, g6, g7, g8, g9, g10, g11, g12]) [some (.ref q), none, none] 0 []
  have key : ∀ k : Nat, k ≤ P → (1 ≤ k → gJ p l e (gR 0) s m args below meth c 0 0 Q A0 D (gM cI cZ q r [th, (P : Int), (Dn : Int), t, lo, wa] [g0, g1, g2, g3, g4, g5, g6, g7, g8, g9, g10, g11, g12]) [some (.ref q), some (.int (iI (pSum g1 k))), some (.int (iI k))] 4 []) := by
    refine g_loop _ P ?_ ?_
    · intro _
      refine g_iload_n E dX1_insideNow_4 rfl rfl ?_
      refine g_aload_n E dX1_insideNow_5 rfl rfl ?_
      refine g_getI E inX1_insideNow rfl flX1_insideNow_7 dX1_insideNow_6 (by decide) rfl rfl ?_
      refine g_icmp_ge_t E dX1_insideNow_9 (tgt := 27) (by decide) (by omega) (by omega) ?_
      refine g_iload_n E dX1_insideNow_27 rfl rfl ?_
      exact g_ri rfl hret dX1_insideNow_28
    · intro k hk ih h1
      refine g_iload_n E dX1_insideNow_4 rfl rfl ?_
      refine g_aload_n E dX1_insideNow_5 rfl rfl ?_
      refine g_getI E inX1_insideNow rfl flX1_insideNow_7 dX1_insideNow_6 (by decide) rfl rfl ?_
      refine g_icmp_ge_f E dX1_insideNow_9 (tgt := 27) (by decide) (by omega) (by omega) ?_
      refine g_iload_n E dX1_insideNow_12 rfl rfl ?_
      refine g_aload_n E dX1_insideNow_13 rfl rfl ?_
      refine g_getR E inX1_insideNow rfl flX1_insideNow_17 dX1_insideNow_14 (by decide) rfl ?_
      refine g_iload_n E dX1_insideNow_17 rfl rfl ?_
      refine g_ald E dX1_insideNow_18 rfl rfl rfl (by omega) ?_
      refine g_iadd E dX1_insideNow_19 ?_
      refine g_istore_n E (lv' := [_, _, _]) dX1_insideNow_20 rfl (Nat.le_of_ble_eq_true rfl) rfl ?_
      refine g_iinc E (lv' := [_, _, _]) dX1_insideNow_21 rfl rfl ?_
      refine g_goto E dX1_insideNow_24 (tgt := 4) (by decide) ?_
      exact g_eq (ih (by omega)) rfl (by rw [pSum_s _ h1]; rfl) rfl
  refine g_iconst E dX1_insideNow_0 ?_
  refine g_istore_n E (lv' := [_, _, _]) dX1_insideNow_1 rfl (Nat.le_of_ble_eq_true rfl) rfl ?_
  refine g_iconst E dX1_insideNow_2 ?_
  refine g_istore_n E (lv' := [_, _, _]) dX1_insideNow_3 rfl (Nat.le_of_ble_eq_true rfl) rfl ?_
  exact key 1 (by omega) (by omega)
set_option maxHeartbeats 4000000 in
set_option maxRecDepth 100000 in
theorem cM_inside {l : Launch} {D : va_G} {cI cZ : ClassId} {q : Nat} {r : Nat → Nat} {P Dn : Nat} {th t lo wa : Int} {g0 g1 g2 g3 g4 g5 g6 g7 g8 g9 g10 g11 g12 : Nat → Int} (hP : 1 ≤ P ∧ P ≤ 11) : gMI l yX1_inside wsX1_inside 6 D (gTy cI cZ) (gM cI cZ q r [th, (P : Int), (Dn : Int), t, lo, wa] [g0, g1, g2, g3, g4, g5, g6, g7, g8, g9, g10, g11, g12]) [.ref q] (pSum g1 P) (gM cI cZ q r [0, (P : Int), (Dn : Int), t, lo, wa] [g0, g1, g2, g3, g4, g5, g6, g7, g8, g9, g10, g11, g12]) := by
  refine g_ofI (by decide +kernel) rfl rfl (Nat.le_of_ble_eq_true rfl) (g_cat1 rfl) rfl ?_
  intro p e s m args below meth c Q A0 E hret
  have hts := E.1.2.2.2.2
  show gJ p l e (gR 6) s m args below meth c 0 0 Q A0 D (gM cI cZ q r [th, (P : Int), (Dn : Int), t, lo, wa] [g0, g1, g2, g3, g4, g5, g6, g7, g8, g9, g10, g11, g12]) [some (.ref q)] 0 []
  refine g_aload_n E dX1_inside_0 rfl rfl ?_
  refine g_iconst E dX1_inside_1 ?_
  refine g_putI E (F' := [_, _, _, _, _, _]) inX1_inside rfl flX1_inside_57 dX1_inside_2 tyX1_ok nmX1 (by decide) rfl (by decide) rfl (by decide +kernel) (Nat.le_of_ble_eq_true rfl) rfl ?_
  refine g_aload_n E dX1_inside_5 rfl rfl ?_
  refine g_callI0 E (cM_insideNow hP) (cwV 0 hts gX1_inside_X1_insideNow rfl rfl rfl hdX1_insideNow ⟨(Nat.le_of_ble_eq_true rfl), (Nat.le_of_ble_eq_true rfl)⟩) rfl rfl rfl (Nat.le_of_ble_eq_true rfl) gW_0 rfl dX1_inside_6 ⟨Nat.zero_le _, Nat.zero_le _⟩ ?_
  exact g_ri rfl hret dX1_inside_9
set_option maxHeartbeats 4000000 in
set_option maxRecDepth 100000 in
theorem cM_reach {l : Launch} {D : va_G} {cI cZ : ClassId} {q : Nat} {r : Nat → Nat} {P Dn : Nat} {th t lo wa : Int} {g0 g1 g2 g3 g4 g5 g6 g7 g8 g9 g10 g11 g12 : Nat → Int} {x y d : Int} {k a b : Nat} (hk : k < 16) (hx : x = (a : Int) ∧ a < 11) (hy : y = (b : Int) ∧ b < 11) (hd : 0 ≤ d ∧ d ≤ 11) (hs7 : ∀ j : Nat, -2147483648 ≤ g7 j ∧ g7 j < 2147483648) (hs9 : ∀ j : Nat, -2147483648 ≤ g9 j ∧ g9 j < 2147483648) : gMV l yX1_reach wsX1_reach 0 D (gTy cI cZ) (gM cI cZ q r [th, (P : Int), (Dn : Int), t, lo, wa] [g0, g1, g2, g3, g4, g5, g6, g7, g8, g9, g10, g11, g12]) [.ref q, .int (iI (k : Int)), .int (iI x), .int (iI y), .int (iI d)] (gM cI cZ q r [th, (P : Int), (Dn : Int), t, lo, wa] [g0, g1, g2, g3, g4, g5, g6, g7, g8, (mReach g9 (g7 k) a b d), g10, g11, g12]) := by
  refine g_ofV (by decide +kernel) rfl rfl (Nat.le_of_ble_eq_true rfl) (g_cat1 rfl) ?_
  intro p e s m args below meth c Q A0 E hret
  have hts := E.1.2.2.2.2
  show gJ p l e (gR 0) s m args below meth c 0 0 Q A0 D (gM cI cZ q r [th, (P : Int), (Dn : Int), t, lo, wa] [g0, g1, g2, g3, g4, g5, g6, g7, g8, g9, g10, g11, g12]) [some (.ref q), some (.int (iI (k : Int))), some (.int (iI x)), some (.int (iI y)), some (.int (iI d))] 0 []
  obtain ⟨rfl, ha⟩ := hx
  obtain ⟨rfl, hb⟩ := hy
  have h9a := hs9 a
  have h9b := hs9 b
  have h7 := hs7 k
  have no : ¬ (g7 k ≠ 0 ∧ g9 a = d ∧ g9 b = -1) → gJ p l e (gR 0) s m args below meth c 0 0 Q A0 D (gM cI cZ q r [th, (P : Int), (Dn : Int), t, lo, wa] [g0, g1, g2, g3, g4, g5, g6, g7, g8, g9, g10, g11, g12]) [some (.ref q), some (.int (iI (k : Int))), some (.int (iI (a : Int))), some (.int (iI (b : Int))), some (.int (iI d))] 40 [] := by
    intro hn
    have e9 : mReach g9 (g7 k) a b d = g9 := if_neg hn
    rw [e9] at hret
    exact hret _ _ dX1_reach_40
  refine g_aload_n E dX1_reach_0 rfl rfl ?_
  refine g_getR E inX1_reach rfl flX1_reach_35 dX1_reach_1 (by decide) rfl ?_
  refine g_iload_n E dX1_reach_4 rfl rfl ?_
  refine g_zld E dX1_reach_5 rfl rfl rfl (by omega) ?_
  refine g_if_eq E dX1_reach_6 (tgt := 40) (by decide) (by omega) (fun h1 => ?_) (fun h1 => ?_)
  · exact no (fun h => h.1 h1)
  · refine g_aload_n E dX1_reach_9 rfl rfl ?_
    refine g_getR E inX1_reach rfl flX1_reach_45 dX1_reach_10 (by decide) rfl ?_
    refine g_iload_n E dX1_reach_13 rfl rfl ?_
    refine g_ald E dX1_reach_14 rfl rfl rfl (by omega) ?_
    refine g_iload E dX1_reach_15 rfl ?_
    refine g_icmp_ne E dX1_reach_17 (tgt := 40) (by decide) (by omega) (fun h2 => ?_) (fun h2 => ?_)
    · exact no (fun h => h2 h.2.1)
    · refine g_aload_n E dX1_reach_20 rfl rfl ?_
      refine g_getR E inX1_reach rfl flX1_reach_45 dX1_reach_21 (by decide) rfl ?_
      refine g_iload_n E dX1_reach_24 rfl rfl ?_
      refine g_ald E dX1_reach_25 rfl rfl rfl (by omega) ?_
      refine g_iconst E dX1_reach_26 ?_
      refine g_icmp_ne E dX1_reach_27 (tgt := 40) (by decide) (by omega) (fun h3 => ?_) (fun h3 => ?_)
      · exact no (fun h => h3 h.2.2)
      · have e9 : mReach g9 (g7 k) a b d = gu g9 b (d + 1) := if_pos ⟨h1, h2, h3⟩
        rw [e9] at hret
        refine g_aload_n E dX1_reach_30 rfl rfl ?_
        refine g_getR E inX1_reach rfl flX1_reach_45 dX1_reach_31 (by decide) rfl ?_
        refine g_iload_n E dX1_reach_34 rfl rfl ?_
        refine g_iload E dX1_reach_35 rfl ?_
        refine g_iconst E dX1_reach_37 ?_
        refine g_iadd E dX1_reach_38 ?_
        refine g_ast E (A' := [_, _, _, _, _, _, _, _, _, _, _, _, _]) dX1_reach_39 rfl rfl rfl (by omega) rfl ?_
        exact hret _ _ dX1_reach_40
set_option maxHeartbeats 4000000 in
set_option maxRecDepth 100000 in
theorem cM_measure {l : Launch} {D : va_G} {cI cZ : ClassId} {q : Nat} {r : Nat → Nat} {P Dn : Nat} {th t lo wa : Int} {g0 g1 g2 g3 g4 g5 g6 g7 g8 g9 g10 g11 g12 : Nat → Int} (hP : 1 ≤ P ∧ P ≤ 11) (hDn : Dn ≤ 16) (hs7 : ∀ j : Nat, -2147483648 ≤ g7 j ∧ g7 j < 2147483648) (hs9 : ∀ j : Nat, -2147483648 ≤ g9 j ∧ g9 j < 2147483648) (he3 : ∀ j : Nat, j < Dn → 0 ≤ g3 j ∧ g3 j < P) (he4 : ∀ j : Nat, j < Dn → 0 ≤ g4 j ∧ g4 j < P) : gMV l yX1_measure wsX1_measure 1 D (gTy cI cZ) (gM cI cZ q r [th, (P : Int), (Dn : Int), t, lo, wa] [g0, g1, g2, g3, g4, g5, g6, g7, g8, g9, g10, g11, g12]) [.ref q] (gM cI cZ q r [th, (P : Int), (Dn : Int), t, lo, wa] [g0, g1, g2, g3, g4, g5, g6, g7, g8, (mDist g3 g4 g7 P Dn g9), g10, g11, g12]) := by
  refine g_ofV (by decide +kernel) rfl rfl (Nat.le_of_ble_eq_true rfl) (g_cat1 rfl) ?_
  intro p e s m args below meth c Q A0 E hret
  have hts := E.1.2.2.2.2
  show gJ p l e (gR 1) s m args below meth c 0 0 Q A0 D (gM cI cZ q r [th, (P : Int), (Dn : Int), t, lo, wa] [g0, g1, g2, g3, g4, g5, g6, g7, g8, g9, g10, g11, g12]) [some (.ref q), none, none] 0 []
  have hB0 : gB (mN g9 P) := mN_B hs9 P
  have key3 : ∀ k : Nat, k ≤ P → ∀ a : Option Value, gJ p l e (gR 1) s m args below meth c 0 0 Q A0 D (gM cI cZ q r [th, (P : Int), (Dn : Int), t, lo, wa] [g0, g1, g2, g3, g4, g5, g6, g7, g8, (mMs g3 g4 g7 Dn (mN g9 P) k), g10, g11, g12]) [some (.ref q), some (.int (iI k)), a] 33 [] := by
    refine g_loop _ P ?_ ?_
    · intro a
      refine g_iload_n E dX1_measure_33 rfl rfl ?_
      refine g_aload_n E dX1_measure_34 rfl rfl ?_
      refine g_getI E inX1_measure rfl flX1_measure_7 dX1_measure_35 (by decide) rfl rfl ?_
      refine g_icmp_ge_t E dX1_measure_38 (tgt := 99) (by decide) (by omega) (by omega) ?_
      exact hret _ _ dX1_measure_99
    · intro d hd ih a
      have hB1 : gB (mMs g3 g4 g7 Dn (mN g9 P) d) := mMs_B hB0 d (by omega)
      have key2 : ∀ k : Nat, k ≤ Dn → gJ p l e (gR 1) s m args below meth c 0 0 Q A0 D (gM cI cZ q r [th, (P : Int), (Dn : Int), t, lo, wa] [g0, g1, g2, g3, g4, g5, g6, g7, g8, (mRd g3 g4 g7 (d : Int) (mMs g3 g4 g7 Dn (mN g9 P) d) k), g10, g11, g12]) [some (.ref q), some (.int (iI d)), some (.int (iI k))] 43 [] := by
        refine g_loop _ Dn ?_ ?_
        · refine g_iload_n E dX1_measure_43 rfl rfl ?_
          refine g_aload_n E dX1_measure_44 rfl rfl ?_
          refine g_getI E inX1_measure rfl flX1_measure_64 dX1_measure_45 (by decide) rfl rfl ?_
          refine g_icmp_ge_t E dX1_measure_48 (tgt := 93) (by decide) (by omega) (by omega) ?_
          refine g_iinc E (lv' := [_, _, _]) dX1_measure_93 rfl rfl ?_
          refine g_goto E dX1_measure_96 (tgt := 33) (by decide) ?_
          exact ih _
        · intro k hk ih2
          have h5 := he3 k hk
          have h6 := he4 k hk
          have hB2 : gB (mRd g3 g4 g7 (d : Int) (mMs g3 g4 g7 Dn (mN g9 P) d) k) := mRd_B hB1 (by omega) k
          refine g_iload_n E dX1_measure_43 rfl rfl ?_
          refine g_aload_n E dX1_measure_44 rfl rfl ?_
          refine g_getI E inX1_measure rfl flX1_measure_64 dX1_measure_45 (by decide) rfl rfl ?_
          refine g_icmp_ge_f E dX1_measure_48 (tgt := 93) (by decide) (by omega) (by omega) ?_
          refine g_aload_n E dX1_measure_51 rfl rfl ?_
          refine g_iload_n E dX1_measure_52 rfl rfl ?_
          refine g_aload_n E dX1_measure_53 rfl rfl ?_
          refine g_getR E inX1_measure rfl flX1_measure_23 dX1_measure_54 (by decide) rfl ?_
          refine g_iload_n E dX1_measure_57 rfl rfl ?_
          refine g_ald E dX1_measure_58 rfl rfl rfl (by omega) ?_
          refine g_aload_n E dX1_measure_59 rfl rfl ?_
          refine g_getR E inX1_measure rfl flX1_measure_26 dX1_measure_60 (by decide) rfl ?_
          refine g_iload_n E dX1_measure_63 rfl rfl ?_
          refine g_ald E dX1_measure_64 rfl rfl rfl (by omega) ?_
          refine g_iload_n E dX1_measure_65 rfl rfl ?_
          refine g_callV0 E (cM_reach (k := k) (a := (g3 k).toNat) (b := (g4 k).toNat) (by omega) ⟨by omega, by omega⟩ ⟨by omega, by omega⟩ (by omega) hs7 hB2) (cwV 4 hts gX1_measure_X1_reach rfl rfl rfl hdX1_reach ⟨(Nat.le_of_ble_eq_true rfl), (Nat.le_of_ble_eq_true rfl)⟩) rfl rfl rfl (Nat.le_of_ble_eq_true rfl) gW_0 rfl dX1_measure_66 ⟨Nat.zero_le _, Nat.zero_le _⟩ ?_
          refine g_aload_n E dX1_measure_69 rfl rfl ?_
          refine g_iload_n E dX1_measure_70 rfl rfl ?_
          refine g_aload_n E dX1_measure_71 rfl rfl ?_
          refine g_getR E inX1_measure rfl flX1_measure_26 dX1_measure_72 (by decide) rfl ?_
          refine g_iload_n E dX1_measure_75 rfl rfl ?_
          refine g_ald E dX1_measure_76 rfl rfl rfl (by omega) ?_
          refine g_aload_n E dX1_measure_77 rfl rfl ?_
          refine g_getR E inX1_measure rfl flX1_measure_23 dX1_measure_78 (by decide) rfl ?_
          refine g_iload_n E dX1_measure_81 rfl rfl ?_
          refine g_ald E dX1_measure_82 rfl rfl rfl (by omega) ?_
          refine g_iload_n E dX1_measure_83 rfl rfl ?_
          refine g_callV0 E (cM_reach (k := k) (a := (g4 k).toNat) (b := (g3 k).toNat) (by omega) ⟨by omega, by omega⟩ ⟨by omega, by omega⟩ (by omega) hs7 (mReach_B hB2 (by omega))) (cwV 4 hts gX1_measure_X1_reach rfl rfl rfl hdX1_reach ⟨(Nat.le_of_ble_eq_true rfl), (Nat.le_of_ble_eq_true rfl)⟩) rfl rfl rfl (Nat.le_of_ble_eq_true rfl) gW_0 rfl dX1_measure_84 ⟨Nat.zero_le _, Nat.zero_le _⟩ ?_
          refine g_iinc E (lv' := [_, _, _]) dX1_measure_87 rfl rfl ?_
          refine g_goto E dX1_measure_90 (tgt := 43) (by decide) ?_
          exact ih2
      refine g_iload_n E dX1_measure_33 rfl rfl ?_
      refine g_aload_n E dX1_measure_34 rfl rfl ?_
      refine g_getI E inX1_measure rfl flX1_measure_7 dX1_measure_35 (by decide) rfl rfl ?_
      refine g_icmp_ge_f E dX1_measure_38 (tgt := 99) (by decide) (by omega) (by omega) ?_
      refine g_iconst E dX1_measure_41 ?_
      refine g_istore_n E (lv' := [_, _, _]) dX1_measure_42 rfl (Nat.le_of_ble_eq_true rfl) rfl ?_
      exact key2 0 (by omega)
  have key1 : ∀ k : Nat, k ≤ P → gJ p l e (gR 1) s m args below meth c 0 0 Q A0 D (gM cI cZ q r [th, (P : Int), (Dn : Int), t, lo, wa] [g0, g1, g2, g3, g4, g5, g6, g7, g8, (mN g9 k), g10, g11, g12]) [some (.ref q), some (.int (iI k)), none] 2 [] := by
    refine g_loop _ P ?_ ?_
    · refine g_iload_n E dX1_measure_2 rfl rfl ?_
      refine g_aload_n E dX1_measure_3 rfl rfl ?_
      refine g_getI E inX1_measure rfl flX1_measure_7 dX1_measure_4 (by decide) rfl rfl ?_
      refine g_icmp_ge_t E dX1_measure_7 (tgt := 31) (by decide) (by omega) (by omega) ?_
      refine g_iconst E dX1_measure_31 ?_
      refine g_istore_n E (lv' := [_, _, _]) dX1_measure_32 rfl (Nat.le_of_ble_eq_true rfl) rfl ?_
      exact key3 0 (by omega) _
    · intro k hk ih
      refine g_iload_n E dX1_measure_2 rfl rfl ?_
      refine g_aload_n E dX1_measure_3 rfl rfl ?_
      refine g_getI E inX1_measure rfl flX1_measure_7 dX1_measure_4 (by decide) rfl rfl ?_
      refine g_icmp_ge_f E dX1_measure_7 (tgt := 31) (by decide) (by omega) (by omega) ?_
      refine g_aload_n E dX1_measure_10 rfl rfl ?_
      refine g_getR E inX1_measure rfl flX1_measure_45 dX1_measure_11 (by decide) rfl ?_
      refine g_iload_n E dX1_measure_14 rfl rfl ?_
      refine g_iload_n E dX1_measure_15 rfl rfl ?_
      refine g_if_ne E dX1_measure_16 (tgt := 23) (by decide) (by omega) (fun h1 => ?_) (fun h1 => ?_)
      · refine g_iconst E dX1_measure_23 ?_
        refine g_ast E (A' := [_, _, _, _, _, _, _, _, _, _, _, _, _]) dX1_measure_24 rfl rfl rfl (by omega) rfl ?_
        refine g_iinc E (lv' := [_, _, _]) dX1_measure_25 rfl rfl ?_
        refine g_goto E dX1_measure_28 (tgt := 2) (by decide) ?_
        exact g_eq ih (by show _ = (gM cI cZ q r [th, (P : Int), (Dn : Int), t, lo, wa] [g0, g1, g2, g3, g4, g5, g6, g7, g8, (gu (mN g9 k) k (if k = 0 then 0 else -1)), g10, g11, g12]); rw [if_neg (by omega)]) rfl rfl
      · refine g_iconst E dX1_measure_19 ?_
        refine g_goto E dX1_measure_20 (tgt := 24) (by decide) ?_
        refine g_ast E (A' := [_, _, _, _, _, _, _, _, _, _, _, _, _]) dX1_measure_24 rfl rfl rfl (by omega) rfl ?_
        refine g_iinc E (lv' := [_, _, _]) dX1_measure_25 rfl rfl ?_
        refine g_goto E dX1_measure_28 (tgt := 2) (by decide) ?_
        exact g_eq ih (by show _ = (gM cI cZ q r [th, (P : Int), (Dn : Int), t, lo, wa] [g0, g1, g2, g3, g4, g5, g6, g7, g8, (gu (mN g9 k) k (if k = 0 then 0 else -1)), g10, g11, g12]); rw [if_pos (by omega)]) rfl rfl
  refine g_iconst E dX1_measure_0 ?_
  refine g_istore_n E (lv' := [_, _, _]) dX1_measure_1 rfl (Nat.le_of_ble_eq_true rfl) rfl ?_
  exact key1 0 (by omega)
set_option maxHeartbeats 4000000 in
set_option maxRecDepth 100000 in
theorem cM_beyond {l : Launch} {D : va_G} {cI cZ : ClassId} {q : Nat} {r : Nat → Nat} {P Dn : Nat} {th t lo wa : Int} {g0 g1 g2 g3 g4 g5 g6 g7 g8 g9 g10 g11 g12 : Nat → Int} {k : Nat} {x : Int} (hk : k < 16) (hgx : -2147483648 ≤ x ∧ x < 2147483648) (hs3 : ∀ j : Nat, -2147483648 ≤ g3 j ∧ g3 j < 2147483648) (hs4 : ∀ j : Nat, -2147483648 ≤ g4 j ∧ g4 j < 2147483648) : gMI l yX1_beyond wsX1_beyond 0 D (gTy cI cZ) (gM cI cZ q r [th, (P : Int), (Dn : Int), t, lo, wa] [g0, g1, g2, g3, g4, g5, g6, g7, g8, g9, g10, g11, g12]) [.ref q, .int (iI (k : Int)), .int (iI x)] (mBy g3 g4 k x) (gM cI cZ q r [th, (P : Int), (Dn : Int), t, lo, wa] [g0, g1, g2, g3, g4, g5, g6, g7, g8, g9, g10, g11, g12]) := by
  refine g_ofI (by decide +kernel) rfl rfl (Nat.le_of_ble_eq_true rfl) (g_cat1 rfl) rfl ?_
  intro p e s m args below meth c Q A0 E hret
  have hts := E.1.2.2.2.2
  show gJ p l e (gR 0) s m args below meth c 0 0 Q A0 D (gM cI cZ q r [th, (P : Int), (Dn : Int), t, lo, wa] [g0, g1, g2, g3, g4, g5, g6, g7, g8, g9, g10, g11, g12]) [some (.ref q), some (.int (iI (k : Int))), some (.int (iI x))] 0 []
  have h3 := hs3 k
  have h4 := hs4 k
  refine g_aload_n E dX1_beyond_0 rfl rfl ?_
  refine g_getR E inX1_beyond rfl flX1_beyond_23 dX1_beyond_1 (by decide) rfl ?_
  refine g_iload_n E dX1_beyond_4 rfl rfl ?_
  refine g_ald E dX1_beyond_5 rfl rfl rfl (by omega) ?_
  refine g_iload_n E dX1_beyond_6 rfl rfl ?_
  refine g_icmp_ne E dX1_beyond_7 (tgt := 19) (by decide) (by omega) (fun h1 => ?_) (fun h1 => ?_)
  · refine g_aload_n E dX1_beyond_19 rfl rfl ?_
    refine g_getR E inX1_beyond rfl flX1_beyond_26 dX1_beyond_20 (by decide) rfl ?_
    refine g_iload_n E dX1_beyond_23 rfl rfl ?_
    refine g_ald E dX1_beyond_24 rfl rfl rfl (by omega) ?_
    refine g_iload_n E dX1_beyond_25 rfl rfl ?_
    refine g_icmp_ne E dX1_beyond_26 (tgt := 38) (by decide) (by omega) (fun h2 => ?_) (fun h2 => ?_)
    · refine g_iconst E dX1_beyond_38 ?_
      exact g_ri (by rw [mBy, if_neg h1, if_neg h2]) hret dX1_beyond_39
    · refine g_aload_n E dX1_beyond_29 rfl rfl ?_
      refine g_getR E inX1_beyond rfl flX1_beyond_23 dX1_beyond_30 (by decide) rfl ?_
      refine g_iload_n E dX1_beyond_33 rfl rfl ?_
      refine g_ald E dX1_beyond_34 rfl rfl rfl (by omega) ?_
      refine g_goto E dX1_beyond_35 (tgt := 39) (by decide) ?_
      exact g_ri (by rw [mBy, if_neg h1, if_pos (by omega)]) hret dX1_beyond_39
  · refine g_aload_n E dX1_beyond_10 rfl rfl ?_
    refine g_getR E inX1_beyond rfl flX1_beyond_26 dX1_beyond_11 (by decide) rfl ?_
    refine g_iload_n E dX1_beyond_14 rfl rfl ?_
    refine g_ald E dX1_beyond_15 rfl rfl rfl (by omega) ?_
    refine g_goto E dX1_beyond_16 (tgt := 39) (by decide) ?_
    exact g_ri (by rw [mBy, if_pos (by omega)]) hret dX1_beyond_39
set_option maxHeartbeats 4000000 in
set_option maxRecDepth 100000 in
theorem cM_doorOf {l : Launch} {D : va_G} {cI cZ : ClassId} {q : Nat} {r : Nat → Nat} {P Dn : Nat} {th t lo wa : Int} {g0 g1 g2 g3 g4 g5 g6 g7 g8 g9 g10 g11 g12 : Nat → Int} {i : Nat} (hi : i < 11) (hP : 1 ≤ P ∧ P ≤ 11) (hDn : Dn ≤ 16) (hs3 : ∀ j : Nat, -2147483648 ≤ g3 j ∧ g3 j < 2147483648) (hs4 : ∀ j : Nat, -2147483648 ≤ g4 j ∧ g4 j < 2147483648) (hs7 : ∀ j : Nat, -2147483648 ≤ g7 j ∧ g7 j < 2147483648) (hs9 : ∀ j : Nat, -2147483648 ≤ g9 j ∧ g9 j < 2147483648) (he3 : ∀ j : Nat, j < Dn → 0 ≤ g3 j ∧ g3 j < P) (he4 : ∀ j : Nat, j < Dn → 0 ≤ g4 j ∧ g4 j < P) : gMI l yX1_doorOf wsX1_doorOf 1 D (gTy cI cZ) (gM cI cZ q r [th, (P : Int), (Dn : Int), t, lo, wa] [g0, g1, g2, g3, g4, g5, g6, g7, g8, g9, g10, g11, g12]) [.ref q, .int (iI (i : Int))] (mDo g9 g3 g4 g7 i Dn) (gM cI cZ q r [th, (P : Int), (Dn : Int), t, lo, wa] [g0, g1, g2, g3, g4, g5, g6, g7, g8, g9, g10, g11, g12]) := by
  refine g_ofI (by decide +kernel) rfl rfl (Nat.le_of_ble_eq_true rfl) (g_cat1 rfl) rfl ?_
  intro p e s m args below meth c Q A0 E hret
  have hts := E.1.2.2.2.2
  show gJ p l e (gR 1) s m args below meth c 0 0 Q A0 D (gM cI cZ q r [th, (P : Int), (Dn : Int), t, lo, wa] [g0, g1, g2, g3, g4, g5, g6, g7, g8, g9, g10, g11, g12]) [some (.ref q), some (.int (iI (i : Int))), none, none] 0 []
  have h9i := hs9 i
  by_cases h0 : 0 < g9 i
  · have key : ∀ k : Nat, k ≤ Dn → ((mDo g9 g3 g4 g7 i k) = -1 → ∀ a : Option Value, gJ p l e (gR 1) s m args below meth c 0 0 Q A0 D (gM cI cZ q r [th, (P : Int), (Dn : Int), t, lo, wa] [g0, g1, g2, g3, g4, g5, g6, g7, g8, g9, g10, g11, g12]) [some (.ref q), some (.int (iI (i : Int))), some (.int (iI k)), a] 2 []) := by
      refine g_loop _ Dn ?_ ?_
      · intro hd a
        refine g_iload_n E dX1_doorOf_2 rfl rfl ?_
        refine g_aload_n E dX1_doorOf_3 rfl rfl ?_
        refine g_getI E inX1_doorOf rfl flX1_doorOf_64 dX1_doorOf_4 (by decide) rfl rfl ?_
        refine g_icmp_ge_t E dX1_doorOf_7 (tgt := 65) (by decide) (by omega) (by omega) ?_
        refine g_iconst E dX1_doorOf_65 ?_
        exact g_ri hd.symm hret dX1_doorOf_66
      · intro k hk ih hd a
        have h3 := hs3 k
        have h4 := hs4 k
        have h7 := hs7 k
        have q3 := he3 k hk
        have q4 := he4 k hk
        have hby : mBy g3 g4 k (i : Int) = -1 ∨ (0 ≤ mBy g3 g4 k (i : Int) ∧ mBy g3 g4 k (i : Int) < P) := by
          unfold mBy
          split
          · right; exact q4
          · split
            · right; exact q3
            · left; rfl
        have h9t := hs9 (mBy g3 g4 k (i : Int)).toNat
        have no : ¬ (0 < g9 i ∧ g7 k ≠ 0 ∧ mBy g3 g4 k (i : Int) ≠ -1 ∧ g9 (mBy g3 g4 k (i : Int)).toNat = g9 i - 1) → gJ p l e (gR 1) s m args below meth c 0 0 Q A0 D (gM cI cZ q r [th, (P : Int), (Dn : Int), t, lo, wa] [g0, g1, g2, g3, g4, g5, g6, g7, g8, g9, g10, g11, g12]) [some (.ref q), some (.int (iI (i : Int))), some (.int (iI k)), some (.int (iI (mBy g3 g4 k (i : Int))))] 59 [] := by
          intro hn
          refine g_iinc E (lv' := [_, _, _, _]) dX1_doorOf_59 rfl rfl ?_
          refine g_goto E dX1_doorOf_62 (tgt := 2) (by decide) ?_
          exact ih (by show (if (mDo g9 g3 g4 g7 i k) = -1 then _ else _) = _; rw [if_pos hd, if_neg hn]) _
        refine g_iload_n E dX1_doorOf_2 rfl rfl ?_
        refine g_aload_n E dX1_doorOf_3 rfl rfl ?_
        refine g_getI E inX1_doorOf rfl flX1_doorOf_64 dX1_doorOf_4 (by decide) rfl rfl ?_
        refine g_icmp_ge_f E dX1_doorOf_7 (tgt := 65) (by decide) (by omega) (by omega) ?_
        refine g_aload_n E dX1_doorOf_10 rfl rfl ?_
        refine g_getR E inX1_doorOf rfl flX1_doorOf_45 dX1_doorOf_11 (by decide) rfl ?_
        refine g_iload_n E dX1_doorOf_14 rfl rfl ?_
        refine g_ald E dX1_doorOf_15 rfl rfl rfl (by omega) ?_
        refine g_if_le_f E dX1_doorOf_16 (tgt := 65) (by decide) (by omega) (by omega) ?_
        refine g_aload_n E dX1_doorOf_19 rfl rfl ?_
        refine g_iload_n E dX1_doorOf_20 rfl rfl ?_
        refine g_iload_n E dX1_doorOf_21 rfl rfl ?_
        refine g_callI0 E (cM_beyond (by omega) (by omega) hs3 hs4) (cwV 2 hts gX1_doorOf_X1_beyond rfl rfl rfl hdX1_beyond ⟨(Nat.le_of_ble_eq_true rfl), (Nat.le_of_ble_eq_true rfl)⟩) rfl rfl rfl (Nat.le_of_ble_eq_true rfl) gW_0 rfl dX1_doorOf_22 ⟨Nat.zero_le _, Nat.zero_le _⟩ ?_
        refine g_istore_n E (lv' := [_, _, _, _]) dX1_doorOf_25 rfl (Nat.le_of_ble_eq_true rfl) rfl ?_
        refine g_aload_n E dX1_doorOf_26 rfl rfl ?_
        refine g_getR E inX1_doorOf rfl flX1_doorOf_35 dX1_doorOf_27 (by decide) rfl ?_
        refine g_iload_n E dX1_doorOf_30 rfl rfl ?_
        refine g_zld E dX1_doorOf_31 rfl rfl rfl (by omega) ?_
        refine g_if_eq E dX1_doorOf_32 (tgt := 59) (by decide) (by omega) (fun h1 => ?_) (fun h1 => ?_)
        · exact no (fun h => h.2.1 h1)
        · refine g_iload_n E dX1_doorOf_35 rfl rfl ?_
          refine g_iconst E dX1_doorOf_36 ?_
          refine g_icmp_eq E dX1_doorOf_37 (tgt := 59) (by decide) (by omega) (fun h2 => ?_) (fun h2 => ?_)
          · exact no (fun h => h.2.2.1 h2)
          · refine g_aload_n E dX1_doorOf_40 rfl rfl ?_
            refine g_getR E inX1_doorOf rfl flX1_doorOf_45 dX1_doorOf_41 (by decide) rfl ?_
            refine g_iload_n E dX1_doorOf_44 rfl rfl ?_
            refine g_ald E dX1_doorOf_45 rfl rfl (i := (mBy g3 g4 k (i : Int)).toNat) (by omega) (by omega) ?_
            refine g_aload_n E dX1_doorOf_46 rfl rfl ?_
            refine g_getR E inX1_doorOf rfl flX1_doorOf_45 dX1_doorOf_47 (by decide) rfl ?_
            refine g_iload_n E dX1_doorOf_50 rfl rfl ?_
            refine g_ald E dX1_doorOf_51 rfl rfl rfl (by omega) ?_
            refine g_iconst E dX1_doorOf_52 ?_
            refine g_isub E dX1_doorOf_53 ?_
            refine g_icmp_ne E dX1_doorOf_54 (tgt := 59) (by decide) (by omega) (fun h5 => ?_) (fun h5 => ?_)
            · exact no (fun h => h5 h.2.2.2)
            · have e1 : mDo g9 g3 g4 g7 i (k + 1) = (k : Int) := by
                show (if (mDo g9 g3 g4 g7 i k) = -1 then _ else _) = _
                rw [if_pos hd, if_pos ⟨h0, h1, h2, by omega⟩]
              have e2 := mDo_stay (far := g9) (one := g3) (oth := g4) (op := g7) (i := i) (k := k + 1) (by rw [e1]; omega) (Dn - (k + 1))
              rw [show k + 1 + (Dn - (k + 1)) = Dn by omega] at e2
              refine g_iload_n E dX1_doorOf_57 rfl rfl ?_
              exact g_ri (by rw [e2, e1]) hret dX1_doorOf_58
    refine g_iconst E dX1_doorOf_0 ?_
    refine g_istore_n E (lv' := [_, _, _, _]) dX1_doorOf_1 rfl (Nat.le_of_ble_eq_true rfl) rfl ?_
    exact key 0 (by omega) rfl _
  · rcases Nat.eq_zero_or_pos Dn with e | e
    · refine g_iconst E dX1_doorOf_0 ?_
      refine g_istore_n E (lv' := [_, _, _, _]) dX1_doorOf_1 rfl (Nat.le_of_ble_eq_true rfl) rfl ?_
      refine g_iload_n E dX1_doorOf_2 rfl rfl ?_
      refine g_aload_n E dX1_doorOf_3 rfl rfl ?_
      refine g_getI E inX1_doorOf rfl flX1_doorOf_64 dX1_doorOf_4 (by decide) rfl rfl ?_
      refine g_icmp_ge_t E dX1_doorOf_7 (tgt := 65) (by decide) (by omega) (by omega) ?_
      refine g_iconst E dX1_doorOf_65 ?_
      exact g_ri (mDo_no h0 Dn).symm hret dX1_doorOf_66
    · refine g_iconst E dX1_doorOf_0 ?_
      refine g_istore_n E (lv' := [_, _, _, _]) dX1_doorOf_1 rfl (Nat.le_of_ble_eq_true rfl) rfl ?_
      refine g_iload_n E dX1_doorOf_2 rfl rfl ?_
      refine g_aload_n E dX1_doorOf_3 rfl rfl ?_
      refine g_getI E inX1_doorOf rfl flX1_doorOf_64 dX1_doorOf_4 (by decide) rfl rfl ?_
      refine g_icmp_ge_f E dX1_doorOf_7 (tgt := 65) (by decide) (by omega) (by omega) ?_
      refine g_aload_n E dX1_doorOf_10 rfl rfl ?_
      refine g_getR E inX1_doorOf rfl flX1_doorOf_45 dX1_doorOf_11 (by decide) rfl ?_
      refine g_iload_n E dX1_doorOf_14 rfl rfl ?_
      refine g_ald E dX1_doorOf_15 rfl rfl rfl (by omega) ?_
      refine g_if_le_t E dX1_doorOf_16 (tgt := 65) (by decide) (by omega) (by omega) ?_
      refine g_iconst E dX1_doorOf_65 ?_
      exact g_ri (mDo_no h0 Dn).symm hret dX1_doorOf_66
