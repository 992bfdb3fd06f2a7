set_option maxRecDepth 100000 in
theorem flX0_areAllReleased_16 : Cond.fieldLink RX0 16 (TX0 3).1 (TX0 3).2.1 (TX0 3).2.2.1 ∈ wsX0_areAllReleased := by decide +kernel
set_option maxRecDepth 100000 in
theorem flX0_areAllReleased_53 : Cond.fieldLink RX0 53 (TX0 0).1 (TX0 0).2.1 (TX0 0).2.2.1 ∈ wsX0_areAllReleased := by decide +kernel
set_option maxRecDepth 100000 in
theorem flX0_areAllReleased_99 : Cond.fieldLink RX0 99 (TX0 16).1 (TX0 16).2.1 (TX0 16).2.2.1 ∈ wsX0_areAllReleased := by decide +kernel
set_option maxRecDepth 100000 in
theorem flX0_flowInward_19 : Cond.fieldLink RX0 19 (TX0 4).1 (TX0 4).2.1 (TX0 4).2.2.1 ∈ wsX0_flowInward := by decide +kernel
set_option maxRecDepth 100000 in
theorem flX0_flowInward_25 : Cond.fieldLink RX0 25 (TX0 7).1 (TX0 7).2.1 (TX0 7).2.2.1 ∈ wsX0_flowInward := by decide +kernel
set_option maxRecDepth 100000 in
theorem flX0_flowInward_28 : Cond.fieldLink RX0 28 (TX0 8).1 (TX0 8).2.1 (TX0 8).2.2.1 ∈ wsX0_flowInward := by decide +kernel
set_option maxRecDepth 100000 in
theorem flX0_flowInward_31 : Cond.fieldLink RX0 31 (TX0 9).1 (TX0 9).2.1 (TX0 9).2.2.1 ∈ wsX0_flowInward := by decide +kernel
set_option maxRecDepth 100000 in
theorem flX0_flowInward_37 : Cond.fieldLink RX0 37 (TX0 11).1 (TX0 11).2.1 (TX0 11).2.2.1 ∈ wsX0_flowInward := by decide +kernel
set_option maxRecDepth 100000 in
theorem flX0_flowInward_78 : Cond.fieldLink RX0 78 (TX0 6).1 (TX0 6).2.1 (TX0 6).2.2.1 ∈ wsX0_flowInward := by decide +kernel
set_option maxRecDepth 100000 in
theorem flX0_inside_13 : Cond.fieldLink RX0 13 (TX0 2).1 (TX0 2).2.1 (TX0 2).2.2.1 ∈ wsX0_inside := by decide +kernel
set_option maxRecDepth 100000 in
theorem flX0_inside_53 : Cond.fieldLink RX0 53 (TX0 0).1 (TX0 0).2.1 (TX0 0).2.2.1 ∈ wsX0_inside := by decide +kernel
set_option maxRecDepth 100000 in
theorem flX0_isDoor_78 : Cond.fieldLink RX0 78 (TX0 6).1 (TX0 6).2.1 (TX0 6).2.2.1 ∈ wsX0_isDoor := by decide +kernel
set_option maxRecDepth 100000 in
theorem flX0_isPlace_53 : Cond.fieldLink RX0 53 (TX0 0).1 (TX0 0).2.1 (TX0 0).2.2.1 ∈ wsX0_isPlace := by decide +kernel
set_option maxRecDepth 100000 in
theorem flX0_peopleFrom_13 : Cond.fieldLink RX0 13 (TX0 2).1 (TX0 2).2.1 (TX0 2).2.2.1 ∈ wsX0_peopleFrom := by decide +kernel
set_option maxRecDepth 100000 in
theorem flX0_peopleFrom_19 : Cond.fieldLink RX0 19 (TX0 4).1 (TX0 4).2.1 (TX0 4).2.2.1 ∈ wsX0_peopleFrom := by decide +kernel
set_option maxRecDepth 100000 in
theorem flX0_peopleFrom_53 : Cond.fieldLink RX0 53 (TX0 0).1 (TX0 0).2.1 (TX0 0).2.2.1 ∈ wsX0_peopleFrom := by decide +kernel
set_option maxRecDepth 100000 in
theorem flX0_roomLeft_13 : Cond.fieldLink RX0 13 (TX0 2).1 (TX0 2).2.1 (TX0 2).2.2.1 ∈ wsX0_roomLeft := by decide +kernel
set_option maxRecDepth 100000 in
theorem flX0_roomLeft_9 : Cond.fieldLink RX0 9 (TX0 1).1 (TX0 1).2.1 (TX0 1).2.2.1 ∈ wsX0_roomLeft := by decide +kernel
set_option maxRecDepth 100000 in
theorem flX0_trapped_13 : Cond.fieldLink RX0 13 (TX0 2).1 (TX0 2).2.1 (TX0 2).2.2.1 ∈ wsX0_trapped := by decide +kernel
set_option maxRecDepth 100000 in
theorem flX0_trapped_19 : Cond.fieldLink RX0 19 (TX0 4).1 (TX0 4).2.1 (TX0 4).2.2.1 ∈ wsX0_trapped := by decide +kernel
set_option maxRecDepth 100000 in
theorem flX0_trapped_53 : Cond.fieldLink RX0 53 (TX0 0).1 (TX0 0).2.1 (TX0 0).2.2.1 ∈ wsX0_trapped := by decide +kernel
set_option maxRecDepth 100000 in
theorem inX0_areAllReleased : ∀ w ∈ u_ws RX0 TX0 19, w ∈ wsX0_areAllReleased := by decide +kernel
set_option maxRecDepth 100000 in
theorem inX0_flowInward : ∀ w ∈ u_ws RX0 TX0 19, w ∈ wsX0_flowInward := by decide +kernel
set_option maxRecDepth 100000 in
theorem inX0_inside : ∀ w ∈ u_ws RX0 TX0 19, w ∈ wsX0_inside := by decide +kernel
set_option maxRecDepth 100000 in
theorem inX0_isDoor : ∀ w ∈ u_ws RX0 TX0 19, w ∈ wsX0_isDoor := by decide +kernel
set_option maxRecDepth 100000 in
theorem inX0_isPlace : ∀ w ∈ u_ws RX0 TX0 19, w ∈ wsX0_isPlace := by decide +kernel
set_option maxRecDepth 100000 in
theorem inX0_peopleFrom : ∀ w ∈ u_ws RX0 TX0 19, w ∈ wsX0_peopleFrom := by decide +kernel
set_option maxRecDepth 100000 in
theorem inX0_roomLeft : ∀ w ∈ u_ws RX0 TX0 19, w ∈ wsX0_roomLeft := by decide +kernel
set_option maxRecDepth 100000 in
theorem inX0_trapped : ∀ w ∈ u_ws RX0 TX0 19, w ∈ wsX0_trapped := by decide +kernel
set_option maxRecDepth 100000 in
theorem kcX0_roomLeft_151 : Cond.constant RX0 151 (iI 1000000) ∈ wsX0_roomLeft := by decide +kernel
set_option maxHeartbeats 4000000 in
set_option maxRecDepth 100000 in
theorem cX_isBetween {l : Launch} {D : va_G} {cI cZ : ClassId} {v a b rv : Int} (hr : (-2147483648 ≤ v ∧ v < 2147483648) ∧ (-2147483648 ≤ a ∧ a < 2147483648) ∧ (-2147483648 ≤ b ∧ b < 2147483648)) (hrv : (rv = 1 ∧ a ≤ v ∧ v ≤ b) ∨ (rv = 0 ∧ (v < a ∨ b < v))) : gMI l yX0_isBetween wsX0_isBetween 0 D (gTy cI cZ) [] [.int (iI v), .int (iI a), .int (iI b)] rv [] := by
  refine g_ofI (by decide +kernel) rfl rfl (Nat.le_of_ble_eq_true rfl) (g_cat1 rfl) (g_narZ (by omega)) ?_
  intro p e s m args below meth c Q A0 E hret
  have hts := E.1.2.2.2.2
  show gJ p l e (gR 0) s m args below meth c 0 0 Q A0 D [] [some (.int (iI v)), some (.int (iI a)), some (.int (iI b))] 0 []
  refine g_iload_n E dX0_isBetween_0 rfl rfl ?_
  refine g_iload_n E dX0_isBetween_1 rfl rfl ?_
  refine g_icmp_lt E dX0_isBetween_2 (tgt := 14) (by decide) (by omega) (fun h1 => ?_) (fun h1 => ?_)
  · refine g_iconst E dX0_isBetween_14 ?_
    exact g_ri (by omega) hret dX0_isBetween_15
  · refine g_iload_n E dX0_isBetween_5 rfl rfl ?_
    refine g_iload_n E dX0_isBetween_6 rfl rfl ?_
    refine g_icmp_gt E dX0_isBetween_7 (tgt := 14) (by decide) (by omega) (fun h2 => ?_) (fun h2 => ?_)
    · refine g_iconst E dX0_isBetween_14 ?_
      exact g_ri (by omega) hret dX0_isBetween_15
    · refine g_iconst E dX0_isBetween_10 ?_
      refine g_goto E dX0_isBetween_11 (tgt := 15) (by decide) ?_
      exact g_ri (by omega) hret dX0_isBetween_15
set_option maxHeartbeats 4000000 in
set_option maxRecDepth 100000 in
theorem cX_isPlace {l : Launch} {D : va_G} {cI cZ : ClassId} {q : Nat} {r : Nat → Nat} {P Dn : Nat} {t la wa : Int} {f0 f1 f2 f3 f4 f5 f6 f7 f8 f9 f10 f11 f12 f13 : Nat → Int} {x rv : Int} (hr : (-2147483648 ≤ x ∧ x < 2147483648) ∧ P ≤ 16) (hrv : (rv = 1 ∧ 0 ≤ x ∧ x < P) ∨ (rv = 0 ∧ (x < 0 ∨ P ≤ x))) : gMI l yX0_isPlace wsX0_isPlace 0 D (gTy cI cZ) (gX cI cZ q r [(P : Int), (Dn : Int), t, la, wa] [f0, f1, f2, f3, f4, f5, f6, f7, f8, f9, f10, f11, f12, f13]) [.ref q, .int (iI x)] rv (gX cI cZ q r [(P : Int), (Dn : Int), t, la, wa] [f0, f1, f2, f3, f4, f5, f6, f7, f8, f9, f10, f11, f12, f13]) := by
  refine g_ofI (by decide +kernel) rfl rfl (Nat.le_of_ble_eq_true rfl) (g_cat1 rfl) (g_narZ (by omega)) ?_
  intro p e s m args below meth c Q A0 E hret
  have hts := E.1.2.2.2.2
  show gJ p l e (gR 0) s m args below meth c 0 0 Q A0 D (gX cI cZ q r [(P : Int), (Dn : Int), t, la, wa] [f0, f1, f2, f3, f4, f5, f6, f7, f8, f9, f10, f11, f12, f13]) [some (.ref q), some (.int (iI x))] 0 []
  refine g_iload_n E dX0_isPlace_0 rfl rfl ?_
  refine g_if_lt E dX0_isPlace_1 (tgt := 16) (by decide) (by omega) (fun h1 => ?_) (fun h1 => ?_)
  · refine g_iconst E dX0_isPlace_16 ?_
    exact g_ri (by omega) hret dX0_isPlace_17
  · refine g_iload_n E dX0_isPlace_4 rfl rfl ?_
    refine g_aload_n E dX0_isPlace_5 rfl rfl ?_
    refine g_getI E inX0_isPlace rfl flX0_isPlace_53 dX0_isPlace_6 (by decide) rfl rfl ?_
    refine g_icmp_ge E dX0_isPlace_9 (tgt := 16) (by decide) (by omega) (fun h2 => ?_) (fun h2 => ?_)
    · refine g_iconst E dX0_isPlace_16 ?_
      exact g_ri (by omega) hret dX0_isPlace_17
    · refine g_iconst E dX0_isPlace_12 ?_
      refine g_goto E dX0_isPlace_13 (tgt := 17) (by decide) ?_
      exact g_ri (by omega) hret dX0_isPlace_17
set_option maxHeartbeats 4000000 in
set_option maxRecDepth 100000 in
theorem cX_isDoor {l : Launch} {D : va_G} {cI cZ : ClassId} {q : Nat} {r : Nat → Nat} {P Dn : Nat} {t la wa : Int} {f0 f1 f2 f3 f4 f5 f6 f7 f8 f9 f10 f11 f12 f13 : Nat → Int} {x rv : Int} (hr : (-2147483648 ≤ x ∧ x < 2147483648) ∧ Dn ≤ 16) (hrv : (rv = 1 ∧ 0 ≤ x ∧ x < Dn) ∨ (rv = 0 ∧ (x < 0 ∨ Dn ≤ x))) : gMI l yX0_isDoor wsX0_isDoor 0 D (gTy cI cZ) (gX cI cZ q r [(P : Int), (Dn : Int), t, la, wa] [f0, f1, f2, f3, f4, f5, f6, f7, f8, f9, f10, f11, f12, f13]) [.ref q, .int (iI x)] rv (gX cI cZ q r [(P : Int), (Dn : Int), t, la, wa] [f0, f1, f2, f3, f4, f5, f6, f7, f8, f9, f10, f11, f12, f13]) := by
  refine g_ofI (by decide +kernel) rfl rfl (Nat.le_of_ble_eq_true rfl) (g_cat1 rfl) (g_narZ (by omega)) ?_
  intro p e s m args below meth c Q A0 E hret
  have hts := E.1.2.2.2.2
  show gJ p l e (gR 0) s m args below meth c 0 0 Q A0 D (gX cI cZ q r [(P : Int), (Dn : Int), t, la, wa] [f0, f1, f2, f3, f4, f5, f6, f7, f8, f9, f10, f11, f12, f13]) [some (.ref q), some (.int (iI x))] 0 []
  refine g_iload_n E dX0_isDoor_0 rfl rfl ?_
  refine g_if_lt E dX0_isDoor_1 (tgt := 16) (by decide) (by omega) (fun h1 => ?_) (fun h1 => ?_)
  · refine g_iconst E dX0_isDoor_16 ?_
    exact g_ri (by omega) hret dX0_isDoor_17
  · refine g_iload_n E dX0_isDoor_4 rfl rfl ?_
    refine g_aload_n E dX0_isDoor_5 rfl rfl ?_
    refine g_getI E inX0_isDoor rfl flX0_isDoor_78 dX0_isDoor_6 (by decide) rfl rfl ?_
    refine g_icmp_ge E dX0_isDoor_9 (tgt := 16) (by decide) (by omega) (fun h2 => ?_) (fun h2 => ?_)
    · refine g_iconst E dX0_isDoor_16 ?_
      exact g_ri (by omega) hret dX0_isDoor_17
    · refine g_iconst E dX0_isDoor_12 ?_
      refine g_goto E dX0_isDoor_13 (tgt := 17) (by decide) ?_
      exact g_ri (by omega) hret dX0_isDoor_17
set_option maxHeartbeats 4000000 in
set_option maxRecDepth 100000 in
theorem cX_roomLeft {l : Launch} {D : va_G} {cI cZ : ClassId} {q : Nat} {r : Nat → Nat} {P Dn : Nat} {t la wa : Int} {f0 f1 f2 f3 f4 f5 f6 f7 f8 f9 f10 f11 f12 f13 : Nat → Int} {x : Int} {i : Nat} {rv : Int} (hx : x = (i : Int) ∧ i < 11) (hrv : rv = pRoom f0 f1 i) : gMI l yX0_roomLeft wsX0_roomLeft 0 D (gTy cI cZ) (gX cI cZ q r [(P : Int), (Dn : Int), t, la, wa] [f0, f1, f2, f3, f4, f5, f6, f7, f8, f9, f10, f11, f12, f13]) [.ref q, .int (iI x)] rv (gX cI cZ q r [(P : Int), (Dn : Int), t, la, wa] [f0, f1, f2, f3, f4, f5, f6, f7, f8, f9, f10, f11, f12, f13]) := by
  refine g_ofI (by decide +kernel) rfl rfl (Nat.le_of_ble_eq_true rfl) (g_cat1 rfl) rfl ?_
  intro p e s m args below meth c Q A0 E hret
  have hts := E.1.2.2.2.2
  show gJ p l e (gR 0) s m args below meth c 0 0 Q A0 D (gX cI cZ q r [(P : Int), (Dn : Int), t, la, wa] [f0, f1, f2, f3, f4, f5, f6, f7, f8, f9, f10, f11, f12, f13]) [some (.ref q), some (.int (iI x))] 0 []
  refine g_iload_n E dX0_roomLeft_0 rfl rfl ?_
  refine g_if_ne E dX0_roomLeft_1 (tgt := 9) (by decide) (by omega) (fun h1 => ?_) (fun h1 => ?_)
  · refine g_aload_n E dX0_roomLeft_9 rfl rfl ?_
    refine g_getR E inX0_roomLeft rfl flX0_roomLeft_9 dX0_roomLeft_10 (by decide) rfl ?_
    refine g_iload_n E dX0_roomLeft_13 rfl rfl ?_
    refine g_ald E dX0_roomLeft_14 rfl rfl hx.1 (by omega) ?_
    refine g_aload_n E dX0_roomLeft_15 rfl rfl ?_
    refine g_getR E inX0_roomLeft rfl flX0_roomLeft_13 dX0_roomLeft_16 (by decide) rfl ?_
    refine g_iload_n E dX0_roomLeft_19 rfl rfl ?_
    refine g_ald E dX0_roomLeft_20 rfl rfl hx.1 (by omega) ?_
    refine g_isub E dX0_roomLeft_21 ?_
    exact g_ri (by rw [hrv, pRoom, if_neg (by omega)]) hret dX0_roomLeft_22
  · refine g_ldcI E kcX0_roomLeft_151 dX0_roomLeft_4 ?_
    refine g_goto E dX0_roomLeft_6 (tgt := 22) (by decide) ?_
    exact g_ri (by rw [hrv, pRoom, if_pos (by omega)]) hret dX0_roomLeft_22
set_option maxHeartbeats 4000000 in
set_option maxRecDepth 100000 in
theorem cX_inside {l : Launch} {D : va_G} {cI cZ : ClassId} {q : Nat} {r : Nat → Nat} {P Dn : Nat} {t la wa : Int} {f0 f1 f2 f3 f4 f5 f6 f7 f8 f9 f10 f11 f12 f13 : Nat → Int} (hP : 1 ≤ P ∧ P ≤ 11) : gMI l yX0_inside wsX0_inside 0 D (gTy cI cZ) (gX cI cZ q r [(P : Int), (Dn : Int), t, la, wa] [f0, f1, f2, f3, f4, f5, f6, f7, f8, f9, f10, f11, f12, f13]) [.ref q] (pSum f1 P) (gX cI cZ q r [(P : Int), (Dn : Int), t, la, wa] [f0, f1, f2, f3, f4, f5, f6, f7, f8, f9, f10, f11, f12, f13]) := by
  refine g_ofI (by decide +kernel) rfl rfl (Nat.le_of_ble_eq_true rfl) (g_cat1 rfl) rfl ?_
  intro p e s m args below meth c Q A0 E hret
  have hts := E.1.2.2.2.2
  show gJ p l e (gR 0) s m args below meth c 0 0 Q A0 D (gX cI cZ q r [(P : Int), (Dn : Int), t, la, wa] [f0, f1, f2, f3, f4, f5, f6, f7, f8, f9, f10, f11, f12, f13]) [some (.ref q), none, none] 0 []
  have key : ∀ k : Nat, k ≤ P → (1 ≤ k → gJ p l e (gR 0) s m args below meth c 0 0 Q A0 D (gX cI cZ q r [(P : Int), (Dn : Int), t, la, wa] [f0, f1, f2, f3, f4, f5, f6, f7, f8, f9, f10, f11, f12, f13]) [some (.ref q), some (.int (iI (pSum f1 k))), some (.int (iI k))] 4 []) := by
    refine g_loop _ P ?_ ?_
    · intro _
      refine g_iload_n E dX0_inside_4 rfl rfl ?_
      refine g_aload_n E dX0_inside_5 rfl rfl ?_
      refine g_getI E inX0_inside rfl flX0_inside_53 dX0_inside_6 (by decide) rfl rfl ?_
      refine g_icmp_ge_t E dX0_inside_9 (tgt := 27) (by decide) (by omega) (by omega) ?_
      refine g_iload_n E dX0_inside_27 rfl rfl ?_
      exact g_ri rfl hret dX0_inside_28
    · intro k hk ih h1
      refine g_iload_n E dX0_inside_4 rfl rfl ?_
      refine g_aload_n E dX0_inside_5 rfl rfl ?_
      refine g_getI E inX0_inside rfl flX0_inside_53 dX0_inside_6 (by decide) rfl rfl ?_
      refine g_icmp_ge_f E dX0_inside_9 (tgt := 27) (by decide) (by omega) (by omega) ?_
      refine g_iload_n E dX0_inside_12 rfl rfl ?_
      refine g_aload_n E dX0_inside_13 rfl rfl ?_
      refine g_getR E inX0_inside rfl flX0_inside_13 dX0_inside_14 (by decide) rfl ?_
      refine g_iload_n E dX0_inside_17 rfl rfl ?_
      refine g_ald E dX0_inside_18 rfl rfl rfl (by omega) ?_
      refine g_iadd E dX0_inside_19 ?_
      refine g_istore_n E (lv' := [_, _, _]) dX0_inside_20 rfl (Nat.le_of_ble_eq_true rfl) rfl ?_
      refine g_iinc E (lv' := [_, _, _]) dX0_inside_21 rfl rfl ?_
      refine g_goto E dX0_inside_24 (tgt := 4) (by decide) ?_
      exact g_eq (ih (by omega)) rfl (by rw [pSum_s _ h1]; rfl) rfl
  refine g_iconst E dX0_inside_0 ?_
  refine g_istore_n E (lv' := [_, _, _]) dX0_inside_1 rfl (Nat.le_of_ble_eq_true rfl) rfl ?_
  refine g_iconst E dX0_inside_2 ?_
  refine g_istore_n E (lv' := [_, _, _]) dX0_inside_3 rfl (Nat.le_of_ble_eq_true rfl) rfl ?_
  exact key 1 (by omega) (by omega)
set_option maxHeartbeats 4000000 in
set_option maxRecDepth 100000 in
theorem cX_trapped {l : Launch} {D : va_G} {cI cZ : ClassId} {q : Nat} {r : Nat → Nat} {P Dn : Nat} {t la wa : Int} {f0 f1 f2 f3 f4 f5 f6 f7 f8 f9 f10 f11 f12 f13 : Nat → Int} (hP : 1 ≤ P ∧ P ≤ 11) (hs3 : ∀ j : Nat, -2147483648 ≤ f3 j ∧ f3 j < 2147483648) : gMI l yX0_trapped wsX0_trapped 0 D (gTy cI cZ) (gX cI cZ q r [(P : Int), (Dn : Int), t, la, wa] [f0, f1, f2, f3, f4, f5, f6, f7, f8, f9, f10, f11, f12, f13]) [.ref q] (pSum (fun j => if f3 j = -1 then f1 j else 0) P) (gX cI cZ q r [(P : Int), (Dn : Int), t, la, wa] [f0, f1, f2, f3, f4, f5, f6, f7, f8, f9, f10, f11, f12, f13]) := by
  refine g_ofI (by decide +kernel) rfl rfl (Nat.le_of_ble_eq_true rfl) (g_cat1 rfl) rfl ?_
  intro p e s m args below meth c Q A0 E hret
  have hts := E.1.2.2.2.2
  show gJ p l e (gR 0) s m args below meth c 0 0 Q A0 D (gX cI cZ q r [(P : Int), (Dn : Int), t, la, wa] [f0, f1, f2, f3, f4, f5, f6, f7, f8, f9, f10, f11, f12, f13]) [some (.ref q), none, none] 0 []
  have key : ∀ k : Nat, k ≤ P → (1 ≤ k → gJ p l e (gR 0) s m args below meth c 0 0 Q A0 D (gX cI cZ q r [(P : Int), (Dn : Int), t, la, wa] [f0, f1, f2, f3, f4, f5, f6, f7, f8, f9, f10, f11, f12, f13]) [some (.ref q), some (.int (iI (pSum (fun j => if f3 j = -1 then f1 j else 0) k))), some (.int (iI k))] 4 []) := by
    refine g_loop _ P ?_ ?_
    · intro _
      refine g_iload_n E dX0_trapped_4 rfl rfl ?_
      refine g_aload_n E dX0_trapped_5 rfl rfl ?_
      refine g_getI E inX0_trapped rfl flX0_trapped_53 dX0_trapped_6 (by decide) rfl rfl ?_
      refine g_icmp_ge_t E dX0_trapped_9 (tgt := 37) (by decide) (by omega) (by omega) ?_
      refine g_iload_n E dX0_trapped_37 rfl rfl ?_
      exact g_ri rfl hret dX0_trapped_38
    · intro k hk ih h1
      have h3 := hs3 k
      refine g_iload_n E dX0_trapped_4 rfl rfl ?_
      refine g_aload_n E dX0_trapped_5 rfl rfl ?_
      refine g_getI E inX0_trapped rfl flX0_trapped_53 dX0_trapped_6 (by decide) rfl rfl ?_
      refine g_icmp_ge_f E dX0_trapped_9 (tgt := 37) (by decide) (by omega) (by omega) ?_
      refine g_aload_n E dX0_trapped_12 rfl rfl ?_
      refine g_getR E inX0_trapped rfl flX0_trapped_19 dX0_trapped_13 (by decide) rfl ?_
      refine g_iload_n E dX0_trapped_16 rfl rfl ?_
      refine g_ald E dX0_trapped_17 rfl rfl rfl (by omega) ?_
      refine g_iconst E dX0_trapped_18 ?_
      refine g_icmp_ne E dX0_trapped_19 (tgt := 31) (by decide) (by omega) (fun h2 => ?_) (fun h2 => ?_)
      · refine g_iinc E (lv' := [_, _, _]) dX0_trapped_31 rfl rfl ?_
        refine g_goto E dX0_trapped_34 (tgt := 4) (by decide) ?_
        exact g_eq (ih (by omega)) rfl (by rw [pSum_s _ h1, if_neg h2, Int.add_zero]; rfl) rfl
      · refine g_iload_n E dX0_trapped_22 rfl rfl ?_
        refine g_aload_n E dX0_trapped_23 rfl rfl ?_
        refine g_getR E inX0_trapped rfl flX0_trapped_13 dX0_trapped_24 (by decide) rfl ?_
        refine g_iload_n E dX0_trapped_27 rfl rfl ?_
        refine g_ald E dX0_trapped_28 rfl rfl rfl (by omega) ?_
        refine g_iadd E dX0_trapped_29 ?_
        refine g_istore_n E (lv' := [_, _, _]) dX0_trapped_30 rfl (Nat.le_of_ble_eq_true rfl) rfl ?_
        refine g_iinc E (lv' := [_, _, _]) dX0_trapped_31 rfl rfl ?_
        refine g_goto E dX0_trapped_34 (tgt := 4) (by decide) ?_
        exact g_eq (ih (by omega)) rfl (by rw [pSum_s _ h1, if_pos h2]; rfl) rfl
  refine g_iconst E dX0_trapped_0 ?_
  refine g_istore_n E (lv' := [_, _, _]) dX0_trapped_1 rfl (Nat.le_of_ble_eq_true rfl) rfl ?_
  refine g_iconst E dX0_trapped_2 ?_
  refine g_istore_n E (lv' := [_, _, _]) dX0_trapped_3 rfl (Nat.le_of_ble_eq_true rfl) rfl ?_
  exact key 1 (by omega) (by omega)
set_option maxHeartbeats 4000000 in
set_option maxRecDepth 100000 in
theorem cX_peopleFrom {l : Launch} {D : va_G} {cI cZ : ClassId} {q : Nat} {r : Nat → Nat} {P Dn : Nat} {t la wa : Int} {f0 f1 f2 f3 f4 f5 f6 f7 f8 f9 f10 f11 f12 f13 : Nat → Int} {d : Int} (hP : 1 ≤ P ∧ P ≤ 11) (hd : 0 ≤ d ∧ d ≤ 11) (hs3 : ∀ j : Nat, -2147483648 ≤ f3 j ∧ f3 j < 2147483648) : gMI l yX0_peopleFrom wsX0_peopleFrom 0 D (gTy cI cZ) (gX cI cZ q r [(P : Int), (Dn : Int), t, la, wa] [f0, f1, f2, f3, f4, f5, f6, f7, f8, f9, f10, f11, f12, f13]) [.ref q, .int (iI d)] (pCrowd f3 f1 d P) (gX cI cZ q r [(P : Int), (Dn : Int), t, la, wa] [f0, f1, f2, f3, f4, f5, f6, f7, f8, f9, f10, f11, f12, f13]) := by
  refine g_ofI (by decide +kernel) rfl rfl (Nat.le_of_ble_eq_true rfl) (g_cat1 rfl) rfl ?_
  intro p e s m args below meth c Q A0 E hret
  have hts := E.1.2.2.2.2
  show gJ p l e (gR 0) s m args below meth c 0 0 Q A0 D (gX cI cZ q r [(P : Int), (Dn : Int), t, la, wa] [f0, f1, f2, f3, f4, f5, f6, f7, f8, f9, f10, f11, f12, f13]) [some (.ref q), some (.int (iI d)), none, none] 0 []
  have key : ∀ k : Nat, k ≤ P → (1 ≤ k → gJ p l e (gR 0) s m args below meth c 0 0 Q A0 D (gX cI cZ q r [(P : Int), (Dn : Int), t, la, wa] [f0, f1, f2, f3, f4, f5, f6, f7, f8, f9, f10, f11, f12, f13]) [some (.ref q), some (.int (iI d)), some (.int (iI (pCrowd f3 f1 d k))), some (.int (iI k))] 4 []) := by
    refine g_loop _ P ?_ ?_
    · intro _
      refine g_iload_n E dX0_peopleFrom_4 rfl rfl ?_
      refine g_aload_n E dX0_peopleFrom_5 rfl rfl ?_
      refine g_getI E inX0_peopleFrom rfl flX0_peopleFrom_53 dX0_peopleFrom_6 (by decide) rfl rfl ?_
      refine g_icmp_ge_t E dX0_peopleFrom_9 (tgt := 37) (by decide) (by omega) (by omega) ?_
      refine g_iload_n E dX0_peopleFrom_37 rfl rfl ?_
      exact g_ri rfl hret dX0_peopleFrom_38
    · intro k hk ih h1
      have h3 := hs3 k
      refine g_iload_n E dX0_peopleFrom_4 rfl rfl ?_
      refine g_aload_n E dX0_peopleFrom_5 rfl rfl ?_
      refine g_getI E inX0_peopleFrom rfl flX0_peopleFrom_53 dX0_peopleFrom_6 (by decide) rfl rfl ?_
      refine g_icmp_ge_f E dX0_peopleFrom_9 (tgt := 37) (by decide) (by omega) (by omega) ?_
      refine g_aload_n E dX0_peopleFrom_12 rfl rfl ?_
      refine g_getR E inX0_peopleFrom rfl flX0_peopleFrom_19 dX0_peopleFrom_13 (by decide) rfl ?_
      refine g_iload_n E dX0_peopleFrom_16 rfl rfl ?_
      refine g_ald E dX0_peopleFrom_17 rfl rfl rfl (by omega) ?_
      refine g_iload_n E dX0_peopleFrom_18 rfl rfl ?_
      refine g_icmp_lt E dX0_peopleFrom_19 (tgt := 31) (by decide) (by omega) (fun h2 => ?_) (fun h2 => ?_)
      · refine g_iinc E (lv' := [_, _, _, _]) dX0_peopleFrom_31 rfl rfl ?_
        refine g_goto E dX0_peopleFrom_34 (tgt := 4) (by decide) ?_
        exact g_eq (ih (by omega)) rfl (by rw [pCrowd, pCrowd, pSum_s _ h1, if_neg (by omega), Int.add_zero]; rfl) rfl
      · refine g_iload_n E dX0_peopleFrom_22 rfl rfl ?_
        refine g_aload_n E dX0_peopleFrom_23 rfl rfl ?_
        refine g_getR E inX0_peopleFrom rfl flX0_peopleFrom_13 dX0_peopleFrom_24 (by decide) rfl ?_
        refine g_iload_n E dX0_peopleFrom_27 rfl rfl ?_
        refine g_ald E dX0_peopleFrom_28 rfl rfl rfl (by omega) ?_
        refine g_iadd E dX0_peopleFrom_29 ?_
        refine g_istore_n E (lv' := [_, _, _, _]) dX0_peopleFrom_30 rfl (Nat.le_of_ble_eq_true rfl) rfl ?_
        refine g_iinc E (lv' := [_, _, _, _]) dX0_peopleFrom_31 rfl rfl ?_
        refine g_goto E dX0_peopleFrom_34 (tgt := 4) (by decide) ?_
        exact g_eq (ih (by omega)) rfl (by rw [pCrowd, pCrowd, pSum_s _ h1, if_pos (by omega)]; rfl) rfl
  refine g_iconst E dX0_peopleFrom_0 ?_
  refine g_istore_n E (lv' := [_, _, _, _]) dX0_peopleFrom_1 rfl (Nat.le_of_ble_eq_true rfl) rfl ?_
  refine g_iconst E dX0_peopleFrom_2 ?_
  refine g_istore_n E (lv' := [_, _, _, _]) dX0_peopleFrom_3 rfl (Nat.le_of_ble_eq_true rfl) rfl ?_
  exact key 1 (by omega) (by omega)
set_option maxHeartbeats 4000000 in
set_option maxRecDepth 100000 in
theorem cX_flowInward {l : Launch} {D : va_G} {cI cZ : ClassId} {q : Nat} {r : Nat → Nat} {P Dn : Nat} {t la wa : Int} {f0 f1 f2 f3 f4 f5 f6 f7 f8 f9 f10 f11 f12 f13 : Nat → Int} {d : Int} (hP : 1 ≤ P ∧ P ≤ 11) (hDn : Dn ≤ 16) (hd : 0 ≤ d ∧ d ≤ 11) (hs3 : ∀ j : Nat, -2147483648 ≤ f3 j ∧ f3 j < 2147483648) (hs9 : ∀ j : Nat, -2147483648 ≤ f9 j ∧ f9 j < 2147483648) (he5 : ∀ j : Nat, j < Dn → 0 ≤ f5 j ∧ f5 j < P) (he6 : ∀ j : Nat, j < Dn → 0 ≤ f6 j ∧ f6 j < P) : gMI l yX0_flowInward wsX0_flowInward 0 D (gTy cI cZ) (gX cI cZ q r [(P : Int), (Dn : Int), t, la, wa] [f0, f1, f2, f3, f4, f5, f6, f7, f8, f9, f10, f11, f12, f13]) [.ref q, .int (iI d)] (pFlow f3 f5 f6 f9 f7 d Dn) (gX cI cZ q r [(P : Int), (Dn : Int), t, la, wa] [f0, f1, f2, f3, f4, f5, f6, f7, f8, f9, f10, f11, f12, f13]) := by
  refine g_ofI (by decide +kernel) rfl rfl (Nat.le_of_ble_eq_true rfl) (g_cat1 rfl) rfl ?_
  intro p e s m args below meth c Q A0 E hret
  have hts := E.1.2.2.2.2
  show gJ p l e (gR 0) s m args below meth c 0 0 Q A0 D (gX cI cZ q r [(P : Int), (Dn : Int), t, la, wa] [f0, f1, f2, f3, f4, f5, f6, f7, f8, f9, f10, f11, f12, f13]) [some (.ref q), some (.int (iI d)), none, none, none, none, none] 0 []
  have key : ∀ k : Nat, k ≤ Dn → ∀ a b c9 : Option Value, gJ p l e (gR 0) s m args below meth c 0 0 Q A0 D (gX cI cZ q r [(P : Int), (Dn : Int), t, la, wa] [f0, f1, f2, f3, f4, f5, f6, f7, f8, f9, f10, f11, f12, f13]) [some (.ref q), some (.int (iI d)), some (.int (iI (pFlow f3 f5 f6 f9 f7 d k))), some (.int (iI k)), a, b, c9] 4 [] := by
    refine g_loop _ Dn ?_ ?_
    · intro a b c9
      refine g_iload_n E dX0_flowInward_4 rfl rfl ?_
      refine g_aload_n E dX0_flowInward_5 rfl rfl ?_
      refine g_getI E inX0_flowInward rfl flX0_flowInward_78 dX0_flowInward_6 (by decide) rfl rfl ?_
      refine g_icmp_ge_t E dX0_flowInward_9 (tgt := 102) (by decide) (by omega) (by omega) ?_
      refine g_iload_n E dX0_flowInward_102 rfl rfl ?_
      exact g_ri rfl hret dX0_flowInward_103
    · intro k hk ih a b c9
      have h5 := he5 k hk
      have h6 := he6 k hk
      have h35 := hs3 (f5 k).toNat
      have h36 := hs3 (f6 k).toNat
      have h9 := hs9 k
      have fin1 : ∀ a b c9, ((f3 (f5 k).toNat = d ∧ f3 (f6 k).toNat = d - 1) ∨ (f3 (f6 k).toNat = d ∧ f3 (f5 k).toNat = d - 1)) ∧ f9 k ≠ 0 → gJ p l e (gR 0) s m args below meth c 0 0 Q A0 D (gX cI cZ q r [(P : Int), (Dn : Int), t, la, wa] [f0, f1, f2, f3, f4, f5, f6, f7, f8, f9, f10, f11, f12, f13]) [some (.ref q), some (.int (iI d)), some (.int (iI (pFlow f3 f5 f6 f9 f7 d k + f7 k))), some (.int (iI k)), a, b, c9] 96 [] := by
        intro a b c9 hh
        refine g_iinc E (lv' := [_, _, _, _, _, _, _]) dX0_flowInward_96 rfl rfl ?_
        refine g_goto E dX0_flowInward_99 (tgt := 4) (by decide) ?_
        exact g_eq (ih a b c9) rfl (by show _ = [_, _, some (Value.int (iI (pFlow f3 f5 f6 f9 f7 d k + (if ((f3 (f5 k).toNat = d ∧ f3 (f6 k).toNat = d - 1) ∨ (f3 (f6 k).toNat = d ∧ f3 (f5 k).toNat = d - 1)) ∧ f9 k ≠ 0 then f7 k else 0)))), _, _, _, _]; rw [if_pos hh]; rfl) rfl
      have fin0 : ∀ a b c9, ¬ (((f3 (f5 k).toNat = d ∧ f3 (f6 k).toNat = d - 1) ∨ (f3 (f6 k).toNat = d ∧ f3 (f5 k).toNat = d - 1)) ∧ f9 k ≠ 0) → gJ p l e (gR 0) s m args below meth c 0 0 Q A0 D (gX cI cZ q r [(P : Int), (Dn : Int), t, la, wa] [f0, f1, f2, f3, f4, f5, f6, f7, f8, f9, f10, f11, f12, f13]) [some (.ref q), some (.int (iI d)), some (.int (iI (pFlow f3 f5 f6 f9 f7 d k))), some (.int (iI k)), a, b, c9] 96 [] := by
        intro a b c9 hh
        refine g_iinc E (lv' := [_, _, _, _, _, _, _]) dX0_flowInward_96 rfl rfl ?_
        refine g_goto E dX0_flowInward_99 (tgt := 4) (by decide) ?_
        exact g_eq (ih a b c9) rfl (by show _ = [_, _, some (Value.int (iI (pFlow f3 f5 f6 f9 f7 d k + (if ((f3 (f5 k).toNat = d ∧ f3 (f6 k).toNat = d - 1) ∨ (f3 (f6 k).toNat = d ∧ f3 (f5 k).toNat = d - 1)) ∧ f9 k ≠ 0 then f7 k else 0)))), _, _, _, _]; rw [if_neg hh, Int.add_zero]; rfl) rfl
      have tail1 : ∀ a b, (f3 (f5 k).toNat = d ∧ f3 (f6 k).toNat = d - 1) ∨ (f3 (f6 k).toNat = d ∧ f3 (f5 k).toNat = d - 1) → gJ p l e (gR 0) s m args below meth c 0 0 Q A0 D (gX cI cZ q r [(P : Int), (Dn : Int), t, la, wa] [f0, f1, f2, f3, f4, f5, f6, f7, f8, f9, f10, f11, f12, f13]) [some (.ref q), some (.int (iI d)), some (.int (iI (pFlow f3 f5 f6 f9 f7 d k))), some (.int (iI k)), a, b, c9] 66 [] := by
        intro a b hh
        refine g_iconst E dX0_flowInward_66 ?_
        refine g_goto E dX0_flowInward_67 (tgt := 71) (by decide) ?_
        refine g_istore E (lv' := [_, _, _, _, _, _, _]) dX0_flowInward_71 (Nat.le_of_ble_eq_true rfl) rfl ?_
        refine g_aload_n E dX0_flowInward_73 rfl rfl ?_
        refine g_getR E inX0_flowInward rfl flX0_flowInward_37 dX0_flowInward_74 (by decide) rfl ?_
        refine g_iload_n E dX0_flowInward_77 rfl rfl ?_
        refine g_zld E dX0_flowInward_78 rfl rfl rfl (by omega) ?_
        refine g_if_eq E dX0_flowInward_79 (tgt := 96) (by decide) (by omega) (fun h7 => ?_) (fun h7 => ?_)
        · exact fin0 _ _ _ (fun h => h.2 h7)
        · refine g_iload E dX0_flowInward_82 rfl ?_
          refine g_if_eq_f E dX0_flowInward_84 (tgt := 96) (by decide) (by omega) (by omega) ?_
          refine g_iload_n E dX0_flowInward_87 rfl rfl ?_
          refine g_aload_n E dX0_flowInward_88 rfl rfl ?_
          refine g_getR E inX0_flowInward rfl flX0_flowInward_31 dX0_flowInward_89 (by decide) rfl ?_
          refine g_iload_n E dX0_flowInward_92 rfl rfl ?_
          refine g_ald E dX0_flowInward_93 rfl rfl rfl (by omega) ?_
          refine g_iadd E dX0_flowInward_94 ?_
          refine g_istore_n E (lv' := [_, _, _, _, _, _, _]) dX0_flowInward_95 rfl (Nat.le_of_ble_eq_true rfl) rfl ?_
          exact fin1 _ _ _ ⟨hh, h7⟩
      have tail0 : ∀ a b, ¬ ((f3 (f5 k).toNat = d ∧ f3 (f6 k).toNat = d - 1) ∨ (f3 (f6 k).toNat = d ∧ f3 (f5 k).toNat = d - 1)) → gJ p l e (gR 0) s m args below meth c 0 0 Q A0 D (gX cI cZ q r [(P : Int), (Dn : Int), t, la, wa] [f0, f1, f2, f3, f4, f5, f6, f7, f8, f9, f10, f11, f12, f13]) [some (.ref q), some (.int (iI d)), some (.int (iI (pFlow f3 f5 f6 f9 f7 d k))), some (.int (iI k)), a, b, c9] 70 [] := by
        intro a b hh
        refine g_iconst E dX0_flowInward_70 ?_
        refine g_istore E (lv' := [_, _, _, _, _, _, _]) dX0_flowInward_71 (Nat.le_of_ble_eq_true rfl) rfl ?_
        refine g_aload_n E dX0_flowInward_73 rfl rfl ?_
        refine g_getR E inX0_flowInward rfl flX0_flowInward_37 dX0_flowInward_74 (by decide) rfl ?_
        refine g_iload_n E dX0_flowInward_77 rfl rfl ?_
        refine g_zld E dX0_flowInward_78 rfl rfl rfl (by omega) ?_
        refine g_if_eq E dX0_flowInward_79 (tgt := 96) (by decide) (by omega) (fun h7 => ?_) (fun h7 => ?_)
        · exact fin0 _ _ _ (fun h => hh h.1)
        · refine g_iload E dX0_flowInward_82 rfl ?_
          refine g_if_eq_t E dX0_flowInward_84 (tgt := 96) (by decide) (by omega) (by omega) ?_
          exact fin0 _ _ _ (fun h => hh h.1)
      refine g_iload_n E dX0_flowInward_4 rfl rfl ?_
      refine g_aload_n E dX0_flowInward_5 rfl rfl ?_
      refine g_getI E inX0_flowInward rfl flX0_flowInward_78 dX0_flowInward_6 (by decide) rfl rfl ?_
      refine g_icmp_ge_f E dX0_flowInward_9 (tgt := 102) (by decide) (by omega) (by omega) ?_
      refine g_aload_n E dX0_flowInward_12 rfl rfl ?_
      refine g_getR E inX0_flowInward rfl flX0_flowInward_19 dX0_flowInward_13 (by decide) rfl ?_
      refine g_aload_n E dX0_flowInward_16 rfl rfl ?_
      refine g_getR E inX0_flowInward rfl flX0_flowInward_25 dX0_flowInward_17 (by decide) rfl ?_
      refine g_iload_n E dX0_flowInward_20 rfl rfl ?_
      refine g_ald E dX0_flowInward_21 rfl rfl rfl (by omega) ?_
      refine g_ald E dX0_flowInward_22 rfl rfl (i := (f5 k).toNat) (by omega) (by omega) ?_
      refine g_istore E (lv' := [_, _, _, _, _, _, _]) dX0_flowInward_23 (Nat.le_of_ble_eq_true rfl) rfl ?_
      refine g_aload_n E dX0_flowInward_25 rfl rfl ?_
      refine g_getR E inX0_flowInward rfl flX0_flowInward_19 dX0_flowInward_26 (by decide) rfl ?_
      refine g_aload_n E dX0_flowInward_29 rfl rfl ?_
      refine g_getR E inX0_flowInward rfl flX0_flowInward_28 dX0_flowInward_30 (by decide) rfl ?_
      refine g_iload_n E dX0_flowInward_33 rfl rfl ?_
      refine g_ald E dX0_flowInward_34 rfl rfl rfl (by omega) ?_
      refine g_ald E dX0_flowInward_35 rfl rfl (i := (f6 k).toNat) (by omega) (by omega) ?_
      refine g_istore E (lv' := [_, _, _, _, _, _, _]) dX0_flowInward_36 (Nat.le_of_ble_eq_true rfl) rfl ?_
      refine g_iload E dX0_flowInward_38 rfl ?_
      refine g_iload_n E dX0_flowInward_40 rfl rfl ?_
      refine g_icmp_ne E dX0_flowInward_41 (tgt := 52) (by decide) (by omega) (fun h1 => ?_) (fun h1 => ?_)
      · refine g_iload E dX0_flowInward_52 rfl ?_
        refine g_iload_n E dX0_flowInward_54 rfl rfl ?_
        refine g_icmp_ne E dX0_flowInward_55 (tgt := 70) (by decide) (by omega) (fun h2 => ?_) (fun h2 => ?_)
        · exact tail0 _ _ (by omega)
        · refine g_iload E dX0_flowInward_58 rfl ?_
          refine g_iload_n E dX0_flowInward_60 rfl rfl ?_
          refine g_iconst E dX0_flowInward_61 ?_
          refine g_isub E dX0_flowInward_62 ?_
          refine g_icmp_ne E dX0_flowInward_63 (tgt := 70) (by decide) (by omega) (fun h3 => ?_) (fun h3 => ?_)
          · exact tail0 _ _ (by omega)
          · exact tail1 _ _ (by omega)
      · refine g_iload E dX0_flowInward_44 rfl ?_
        refine g_iload_n E dX0_flowInward_46 rfl rfl ?_
        refine g_iconst E dX0_flowInward_47 ?_
        refine g_isub E dX0_flowInward_48 ?_
        refine g_icmp_eq E dX0_flowInward_49 (tgt := 66) (by decide) (by omega) (fun h2 => ?_) (fun h2 => ?_)
        · exact tail1 _ _ (by omega)
        · refine g_iload E dX0_flowInward_52 rfl ?_
          refine g_iload_n E dX0_flowInward_54 rfl rfl ?_
          refine g_icmp_ne E dX0_flowInward_55 (tgt := 70) (by decide) (by omega) (fun h3 => ?_) (fun h3 => ?_)
          · exact tail0 _ _ (by omega)
          · refine g_iload E dX0_flowInward_58 rfl ?_
            refine g_iload_n E dX0_flowInward_60 rfl rfl ?_
            refine g_iconst E dX0_flowInward_61 ?_
            refine g_isub E dX0_flowInward_62 ?_
            refine g_icmp_ne E dX0_flowInward_63 (tgt := 70) (by decide) (by omega) (fun h4 => ?_) (fun h4 => ?_)
            · exact tail0 _ _ (by omega)
            · exact tail1 _ _ (by omega)
  refine g_iconst E dX0_flowInward_0 ?_
  refine g_istore_n E (lv' := [_, _, _, _, _, _, _]) dX0_flowInward_1 rfl (Nat.le_of_ble_eq_true rfl) rfl ?_
  refine g_iconst E dX0_flowInward_2 ?_
  refine g_istore_n E (lv' := [_, _, _, _, _, _, _]) dX0_flowInward_3 rfl (Nat.le_of_ble_eq_true rfl) rfl ?_
  exact key 0 (by omega) _ _ _
set_option maxHeartbeats 4000000 in
set_option maxRecDepth 100000 in
theorem cX_areAllReleased {l : Launch} {D : va_G} {cI cZ : ClassId} {q : Nat} {r : Nat → Nat} {P Dn : Nat} {t la wa : Int} {f0 f1 f2 f3 f4 f5 f6 f7 f8 f9 f10 f11 f12 f13 : Nat → Int} {rv : Int} (hP : 1 ≤ P ∧ P ≤ 11) (ht : -2147483648 ≤ t ∧ t < 2147483648) (hs2 : ∀ j : Nat, -2147483648 ≤ f2 j ∧ f2 j < 2147483648) (hrv : (rv = 1 ∧ ∀ k : Nat, k < P → f2 k ≤ t) ∨ (rv = 0 ∧ ∃ k : Nat, k < P ∧ t < f2 k)) : gMI l yX0_areAllReleased wsX0_areAllReleased 0 D (gTy cI cZ) (gX cI cZ q r [(P : Int), (Dn : Int), t, la, wa] [f0, f1, f2, f3, f4, f5, f6, f7, f8, f9, f10, f11, f12, f13]) [.ref q] rv (gX cI cZ q r [(P : Int), (Dn : Int), t, la, wa] [f0, f1, f2, f3, f4, f5, f6, f7, f8, f9, f10, f11, f12, f13]) := by
  refine g_ofI (by decide +kernel) rfl rfl (Nat.le_of_ble_eq_true rfl) (g_cat1 rfl) (g_narZ (by omega)) ?_
  intro p e s m args below meth c Q A0 E hret
  have hts := E.1.2.2.2.2
  show gJ p l e (gR 0) s m args below meth c 0 0 Q A0 D (gX cI cZ q r [(P : Int), (Dn : Int), t, la, wa] [f0, f1, f2, f3, f4, f5, f6, f7, f8, f9, f10, f11, f12, f13]) [some (.ref q), none] 0 []
  have key : ∀ k : Nat, k ≤ P → ((∀ j : Nat, j < k → f2 j ≤ t) → gJ p l e (gR 0) s m args below meth c 0 0 Q A0 D (gX cI cZ q r [(P : Int), (Dn : Int), t, la, wa] [f0, f1, f2, f3, f4, f5, f6, f7, f8, f9, f10, f11, f12, f13]) [some (.ref q), some (.int (iI k))] 2 []) := by
    refine g_loop _ P ?_ ?_
    · intro hall
      have h1 : rv = 1 := by
        rcases hrv with h | ⟨h, j, hj, h2⟩
        · exact h.1
        · have := hall j hj
          omega
      refine g_iload_n E dX0_areAllReleased_2 rfl rfl ?_
      refine g_aload_n E dX0_areAllReleased_3 rfl rfl ?_
      refine g_getI E inX0_areAllReleased rfl flX0_areAllReleased_53 dX0_areAllReleased_4 (by decide) rfl rfl ?_
      refine g_icmp_ge_t E dX0_areAllReleased_7 (tgt := 31) (by decide) (by omega) (by omega) ?_
      refine g_iconst E dX0_areAllReleased_31 ?_
      exact g_ri (by omega) hret dX0_areAllReleased_32
    · intro k hk ih hall
      have h3 := hs2 k
      refine g_iload_n E dX0_areAllReleased_2 rfl rfl ?_
      refine g_aload_n E dX0_areAllReleased_3 rfl rfl ?_
      refine g_getI E inX0_areAllReleased rfl flX0_areAllReleased_53 dX0_areAllReleased_4 (by decide) rfl rfl ?_
      refine g_icmp_ge_f E dX0_areAllReleased_7 (tgt := 31) (by decide) (by omega) (by omega) ?_
      refine g_aload_n E dX0_areAllReleased_10 rfl rfl ?_
      refine g_getR E inX0_areAllReleased rfl flX0_areAllReleased_16 dX0_areAllReleased_11 (by decide) rfl ?_
      refine g_iload_n E dX0_areAllReleased_14 rfl rfl ?_
      refine g_ald E dX0_areAllReleased_15 rfl rfl rfl (by omega) ?_
      refine g_aload_n E dX0_areAllReleased_16 rfl rfl ?_
      refine g_getI E inX0_areAllReleased rfl flX0_areAllReleased_99 dX0_areAllReleased_17 (by decide) rfl rfl ?_
      refine g_icmp_le E dX0_areAllReleased_20 (tgt := 25) (by decide) (by omega) (fun h2 => ?_) (fun h2 => ?_)
      · refine g_iinc E (lv' := [_, _]) dX0_areAllReleased_25 rfl rfl ?_
        refine g_goto E dX0_areAllReleased_28 (tgt := 2) (by decide) ?_
        exact ih (fun j hj => by rcases Nat.lt_or_ge j k with h | h; exact hall j h; rw [show j = k by omega]; exact h2)
      · have h1 : rv = 0 := by
          rcases hrv with ⟨h, h4⟩ | h
          · have := h4 k hk
            omega
          · exact h.1
        refine g_iconst E dX0_areAllReleased_23 ?_
        exact g_ri (by omega) hret dX0_areAllReleased_24
  refine g_iconst E dX0_areAllReleased_0 ?_
  refine g_istore_n E (lv' := [_, _]) dX0_areAllReleased_1 rfl (Nat.le_of_ble_eq_true rfl) rfl ?_
  exact key 0 (by omega) (fun j hj => absurd hj (Nat.not_lt_zero j))
