set_option maxRecDepth 100000 in
theorem inX0_init : ∀ w ∈ u_ws RX0 TX0 19, w ∈ wsX0_init := by decide +kernel
set_option maxRecDepth 100000 in
theorem k1X0 : Cond.methodLink RX0 1 objectInit ∈ wsX0_init := by decide +kernel
set_option maxRecDepth 100000 in
theorem k2X0 : Cond.instanceMethod objectInit ∈ wsX0_init := by decide +kernel
set_option maxRecDepth 100000 in
theorem k3X0 : Cond.code objectInit ⟨#[0xb1]⟩ 1 none ∈ wsX0_init := by decide +kernel
set_option maxRecDepth 100000 in
theorem k4X0 : Cond.arrayClass .int ∈ wsX0_init := by decide +kernel
set_option maxRecDepth 100000 in
theorem k5X0 : Cond.arrayClass .boolean ∈ wsX0_init := by decide +kernel
set_option maxRecDepth 100000 in
theorem flX0_init_9 : Cond.fieldLink RX0 9 (TX0 1).1 (TX0 1).2.1 (TX0 1).2.2.1 ∈ wsX0_init := by decide +kernel
set_option maxRecDepth 100000 in
theorem flX0_init_13 : Cond.fieldLink RX0 13 (TX0 2).1 (TX0 2).2.1 (TX0 2).2.2.1 ∈ wsX0_init := by decide +kernel
set_option maxRecDepth 100000 in
theorem flX0_init_16 : Cond.fieldLink RX0 16 (TX0 3).1 (TX0 3).2.1 (TX0 3).2.2.1 ∈ wsX0_init := by decide +kernel
set_option maxRecDepth 100000 in
theorem flX0_init_19 : Cond.fieldLink RX0 19 (TX0 4).1 (TX0 4).2.1 (TX0 4).2.2.1 ∈ wsX0_init := by decide +kernel
set_option maxRecDepth 100000 in
theorem flX0_init_22 : Cond.fieldLink RX0 22 (TX0 5).1 (TX0 5).2.1 (TX0 5).2.2.1 ∈ wsX0_init := by decide +kernel
set_option maxRecDepth 100000 in
theorem flX0_init_25 : Cond.fieldLink RX0 25 (TX0 7).1 (TX0 7).2.1 (TX0 7).2.2.1 ∈ wsX0_init := by decide +kernel
set_option maxRecDepth 100000 in
theorem flX0_init_28 : Cond.fieldLink RX0 28 (TX0 8).1 (TX0 8).2.1 (TX0 8).2.2.1 ∈ wsX0_init := by decide +kernel
set_option maxRecDepth 100000 in
theorem flX0_init_31 : Cond.fieldLink RX0 31 (TX0 9).1 (TX0 9).2.1 (TX0 9).2.2.1 ∈ wsX0_init := by decide +kernel
set_option maxRecDepth 100000 in
theorem flX0_init_34 : Cond.fieldLink RX0 34 (TX0 10).1 (TX0 10).2.1 (TX0 10).2.2.1 ∈ wsX0_init := by decide +kernel
set_option maxRecDepth 100000 in
theorem flX0_init_37 : Cond.fieldLink RX0 37 (TX0 11).1 (TX0 11).2.1 (TX0 11).2.2.1 ∈ wsX0_init := by decide +kernel
set_option maxRecDepth 100000 in
theorem flX0_init_41 : Cond.fieldLink RX0 41 (TX0 12).1 (TX0 12).2.1 (TX0 12).2.2.1 ∈ wsX0_init := by decide +kernel
set_option maxRecDepth 100000 in
theorem flX0_init_44 : Cond.fieldLink RX0 44 (TX0 13).1 (TX0 13).2.1 (TX0 13).2.2.1 ∈ wsX0_init := by decide +kernel
set_option maxRecDepth 100000 in
theorem flX0_init_47 : Cond.fieldLink RX0 47 (TX0 14).1 (TX0 14).2.1 (TX0 14).2.2.1 ∈ wsX0_init := by decide +kernel
set_option maxRecDepth 100000 in
theorem flX0_init_50 : Cond.fieldLink RX0 50 (TX0 15).1 (TX0 15).2.1 (TX0 15).2.2.1 ∈ wsX0_init := by decide +kernel
set_option maxRecDepth 100000 in
theorem flX0_init_53 : Cond.fieldLink RX0 53 (TX0 0).1 (TX0 0).2.1 (TX0 0).2.2.1 ∈ wsX0_init := by decide +kernel
set_option maxRecDepth 100000 in
theorem flX0_init_57 : Cond.fieldLink RX0 57 (TX0 17).1 (TX0 17).2.1 (TX0 17).2.2.1 ∈ wsX0_init := by decide +kernel
set_option maxHeartbeats 4000000 in
set_option maxRecDepth 100000 in
theorem cX_init {l : Launch} {D : va_G} {cI cZ : ClassId} {q : Nat} : gMK l yX0_init wsX0_init ({ frames := 1, cells := 14, slots := 199, locals := 30 } : Room) D (gTy cI cZ) q 0 [.int (iI 0), .null, .null, .null, .null, .null, .int (iI 0), .null, .null, .null, .null, .null, .null, .null, .null, .null, .int (iI 0), .int (iI 0), .int (iI 0)] (fun r => gX cI cZ q r [((1 : Nat) : Int), ((0 : Nat) : Int), 0, -1, 0] [fun _ => 0, fun _ => 0, fun _ => 0, fun _ => 0, gu (fun _ => 0) 0 (-1), fun _ => 0, fun _ => 0, fun _ => 0, fun _ => 0, fun _ => 0, fun _ => 0, fun _ => 0, fun _ => 0, fun _ => 0]) := by
  refine g_ofK (by decide +kernel) rfl rfl rfl (Nat.le_of_ble_eq_true rfl) ?_
  intro p e s m args below meth c Q A0 E hin2 hret
  refine g_aload_n E dX0_init_0 rfl rfl ?_
  refine g_obj E k1X0 k2X0 k3X0 rfl dX0_init_1 ⟨(Nat.le_of_ble_eq_true rfl), (Nat.le_of_ble_eq_true rfl)⟩ ?_
  refine g_aload_n E dX0_init_4 rfl rfl ?_
  refine g_bipush E dX0_init_5 (by decide) ?_
  refine g_newI E (n := 11) k4X0 dX0_init_7 rfl (Nat.le_of_ble_eq_true rfl) ⟨(Nat.le_of_ble_eq_true rfl), (Nat.le_of_ble_eq_true rfl)⟩ (fun a0 => ?_)
  refine g_putOF E hin2 (fs' := [_, _, _, _, _, _, _, _, _, _, _, _, _, _, _, _, _, _, _]) (ty := .array .int) inX0_init rfl flX0_init_9 dX0_init_9 tyX0_ok nmX0 (by decide) rfl rfl (by decide +kernel) rfl rfl (Nat.le_of_ble_eq_true rfl) rfl ?_
  refine g_aload_n E dX0_init_12 rfl rfl ?_
  refine g_bipush E dX0_init_13 (by decide) ?_
  refine g_newI E (n := 11) k4X0 dX0_init_15 rfl (Nat.le_of_ble_eq_true rfl) ⟨(Nat.le_of_ble_eq_true rfl), (Nat.le_of_ble_eq_true rfl)⟩ (fun a1 => ?_)
  refine g_putOF E hin2 (fs' := [_, _, _, _, _, _, _, _, _, _, _, _, _, _, _, _, _, _, _]) (ty := .array .int) inX0_init rfl flX0_init_13 dX0_init_17 tyX0_ok nmX0 (by decide) rfl rfl (by decide +kernel) rfl rfl (Nat.le_of_ble_eq_true rfl) rfl ?_
  refine g_aload_n E dX0_init_20 rfl rfl ?_
  refine g_bipush E dX0_init_21 (by decide) ?_
  refine g_newI E (n := 11) k4X0 dX0_init_23 rfl (Nat.le_of_ble_eq_true rfl) ⟨(Nat.le_of_ble_eq_true rfl), (Nat.le_of_ble_eq_true rfl)⟩ (fun a2 => ?_)
  refine g_putOF E hin2 (fs' := [_, _, _, _, _, _, _, _, _, _, _, _, _, _, _, _, _, _, _]) (ty := .array .int) inX0_init rfl flX0_init_16 dX0_init_25 tyX0_ok nmX0 (by decide) rfl rfl (by decide +kernel) rfl rfl (Nat.le_of_ble_eq_true rfl) rfl ?_
  refine g_aload_n E dX0_init_28 rfl rfl ?_
  refine g_bipush E dX0_init_29 (by decide) ?_
  refine g_newI E (n := 11) k4X0 dX0_init_31 rfl (Nat.le_of_ble_eq_true rfl) ⟨(Nat.le_of_ble_eq_true rfl), (Nat.le_of_ble_eq_true rfl)⟩ (fun a3 => ?_)
  refine g_putOF E hin2 (fs' := [_, _, _, _, _, _, _, _, _, _, _, _, _, _, _, _, _, _, _]) (ty := .array .int) inX0_init rfl flX0_init_19 dX0_init_33 tyX0_ok nmX0 (by decide) rfl rfl (by decide +kernel) rfl rfl (Nat.le_of_ble_eq_true rfl) rfl ?_
  refine g_aload_n E dX0_init_36 rfl rfl ?_
  refine g_bipush E dX0_init_37 (by decide) ?_
  refine g_newI E (n := 11) k4X0 dX0_init_39 rfl (Nat.le_of_ble_eq_true rfl) ⟨(Nat.le_of_ble_eq_true rfl), (Nat.le_of_ble_eq_true rfl)⟩ (fun a4 => ?_)
  refine g_putOF E hin2 (fs' := [_, _, _, _, _, _, _, _, _, _, _, _, _, _, _, _, _, _, _]) (ty := .array .int) inX0_init rfl flX0_init_22 dX0_init_41 tyX0_ok nmX0 (by decide) rfl rfl (by decide +kernel) rfl rfl (Nat.le_of_ble_eq_true rfl) rfl ?_
  refine g_aload_n E dX0_init_44 rfl rfl ?_
  refine g_bipush E dX0_init_45 (by decide) ?_
  refine g_newI E (n := 16) k4X0 dX0_init_47 rfl (Nat.le_of_ble_eq_true rfl) ⟨(Nat.le_of_ble_eq_true rfl), (Nat.le_of_ble_eq_true rfl)⟩ (fun a5 => ?_)
  refine g_putOF E hin2 (fs' := [_, _, _, _, _, _, _, _, _, _, _, _, _, _, _, _, _, _, _]) (ty := .array .int) inX0_init rfl flX0_init_25 dX0_init_49 tyX0_ok nmX0 (by decide) rfl rfl (by decide +kernel) rfl rfl (Nat.le_of_ble_eq_true rfl) rfl ?_
  refine g_aload_n E dX0_init_52 rfl rfl ?_
  refine g_bipush E dX0_init_53 (by decide) ?_
  refine g_newI E (n := 16) k4X0 dX0_init_55 rfl (Nat.le_of_ble_eq_true rfl) ⟨(Nat.le_of_ble_eq_true rfl), (Nat.le_of_ble_eq_true rfl)⟩ (fun a6 => ?_)
  refine g_putOF E hin2 (fs' := [_, _, _, _, _, _, _, _, _, _, _, _, _, _, _, _, _, _, _]) (ty := .array .int) inX0_init rfl flX0_init_28 dX0_init_57 tyX0_ok nmX0 (by decide) rfl rfl (by decide +kernel) rfl rfl (Nat.le_of_ble_eq_true rfl) rfl ?_
  refine g_aload_n E dX0_init_60 rfl rfl ?_
  refine g_bipush E dX0_init_61 (by decide) ?_
  refine g_newI E (n := 16) k4X0 dX0_init_63 rfl (Nat.le_of_ble_eq_true rfl) ⟨(Nat.le_of_ble_eq_true rfl), (Nat.le_of_ble_eq_true rfl)⟩ (fun a7 => ?_)
  refine g_putOF E hin2 (fs' := [_, _, _, _, _, _, _, _, _, _, _, _, _, _, _, _, _, _, _]) (ty := .array .int) inX0_init rfl flX0_init_31 dX0_init_65 tyX0_ok nmX0 (by decide) rfl rfl (by decide +kernel) rfl rfl (Nat.le_of_ble_eq_true rfl) rfl ?_
  refine g_aload_n E dX0_init_68 rfl rfl ?_
  refine g_bipush E dX0_init_69 (by decide) ?_
  refine g_newI E (n := 16) k4X0 dX0_init_71 rfl (Nat.le_of_ble_eq_true rfl) ⟨(Nat.le_of_ble_eq_true rfl), (Nat.le_of_ble_eq_true rfl)⟩ (fun a8 => ?_)
  refine g_putOF E hin2 (fs' := [_, _, _, _, _, _, _, _, _, _, _, _, _, _, _, _, _, _, _]) (ty := .array .int) inX0_init rfl flX0_init_34 dX0_init_73 tyX0_ok nmX0 (by decide) rfl rfl (by decide +kernel) rfl rfl (Nat.le_of_ble_eq_true rfl) rfl ?_
  refine g_aload_n E dX0_init_76 rfl rfl ?_
  refine g_bipush E dX0_init_77 (by decide) ?_
  refine g_newZ E (n := 16) k5X0 dX0_init_79 rfl (Nat.le_of_ble_eq_true rfl) ⟨(Nat.le_of_ble_eq_true rfl), (Nat.le_of_ble_eq_true rfl)⟩ (fun a9 => ?_)
  refine g_putOF E hin2 (fs' := [_, _, _, _, _, _, _, _, _, _, _, _, _, _, _, _, _, _, _]) (ty := .array .boolean) inX0_init rfl flX0_init_37 dX0_init_81 tyX0_ok nmX0 (by decide) rfl rfl (by decide +kernel) rfl rfl (Nat.le_of_ble_eq_true rfl) rfl ?_
  refine g_aload_n E dX0_init_84 rfl rfl ?_
  refine g_bipush E dX0_init_85 (by decide) ?_
  refine g_newI E (n := 16) k4X0 dX0_init_87 rfl (Nat.le_of_ble_eq_true rfl) ⟨(Nat.le_of_ble_eq_true rfl), (Nat.le_of_ble_eq_true rfl)⟩ (fun a10 => ?_)
  refine g_putOF E hin2 (fs' := [_, _, _, _, _, _, _, _, _, _, _, _, _, _, _, _, _, _, _]) (ty := .array .int) inX0_init rfl flX0_init_41 dX0_init_89 tyX0_ok nmX0 (by decide) rfl rfl (by decide +kernel) rfl rfl (Nat.le_of_ble_eq_true rfl) rfl ?_
  refine g_aload_n E dX0_init_92 rfl rfl ?_
  refine g_bipush E dX0_init_93 (by decide) ?_
  refine g_newI E (n := 16) k4X0 dX0_init_95 rfl (Nat.le_of_ble_eq_true rfl) ⟨(Nat.le_of_ble_eq_true rfl), (Nat.le_of_ble_eq_true rfl)⟩ (fun a11 => ?_)
  refine g_putOF E hin2 (fs' := [_, _, _, _, _, _, _, _, _, _, _, _, _, _, _, _, _, _, _]) (ty := .array .int) inX0_init rfl flX0_init_44 dX0_init_97 tyX0_ok nmX0 (by decide) rfl rfl (by decide +kernel) rfl rfl (Nat.le_of_ble_eq_true rfl) rfl ?_
  refine g_aload_n E dX0_init_100 rfl rfl ?_
  refine g_bipush E dX0_init_101 (by decide) ?_
  refine g_newI E (n := 16) k4X0 dX0_init_103 rfl (Nat.le_of_ble_eq_true rfl) ⟨(Nat.le_of_ble_eq_true rfl), (Nat.le_of_ble_eq_true rfl)⟩ (fun a12 => ?_)
  refine g_putOF E hin2 (fs' := [_, _, _, _, _, _, _, _, _, _, _, _, _, _, _, _, _, _, _]) (ty := .array .int) inX0_init rfl flX0_init_47 dX0_init_105 tyX0_ok nmX0 (by decide) rfl rfl (by decide +kernel) rfl rfl (Nat.le_of_ble_eq_true rfl) rfl ?_
  refine g_aload_n E dX0_init_108 rfl rfl ?_
  refine g_bipush E dX0_init_109 (by decide) ?_
  refine g_newI E (n := 16) k4X0 dX0_init_111 rfl (Nat.le_of_ble_eq_true rfl) ⟨(Nat.le_of_ble_eq_true rfl), (Nat.le_of_ble_eq_true rfl)⟩ (fun a13 => ?_)
  refine g_putOF E hin2 (fs' := [_, _, _, _, _, _, _, _, _, _, _, _, _, _, _, _, _, _, _]) (ty := .array .int) inX0_init rfl flX0_init_50 dX0_init_113 tyX0_ok nmX0 (by decide) rfl rfl (by decide +kernel) rfl rfl (Nat.le_of_ble_eq_true rfl) rfl ?_
  refine g_aload_n E dX0_init_116 rfl rfl ?_
  refine g_iconst E dX0_init_117 ?_
  refine g_putO E (fs' := [_, _, _, _, _, _, _, _, _, _, _, _, _, _, _, _, _, _, _]) inX0_init rfl flX0_init_53 dX0_init_118 tyX0_ok nmX0 (by decide) rfl (by decide +kernel) (Nat.le_of_ble_eq_true rfl) rfl ?_
  refine g_aload_n E dX0_init_121 rfl rfl ?_
  refine g_iconst E dX0_init_122 ?_
  refine g_putO E (fs' := [_, _, _, _, _, _, _, _, _, _, _, _, _, _, _, _, _, _, _]) inX0_init rfl flX0_init_57 dX0_init_123 tyX0_ok nmX0 (by decide) rfl (by decide +kernel) (Nat.le_of_ble_eq_true rfl) rfl ?_
  refine g_eq (ws' := gX cI cZ q (fun k => [a0, a1, a2, a3, a4, a5, a6, a7, a8, a9, a10, a11, a12, a13].getD k 0) [((1 : Nat) : Int), ((0 : Nat) : Int), 0, -1, 0] [fun _ => 0, fun _ => 0, fun _ => 0, fun _ => 0, fun _ => 0, fun _ => 0, fun _ => 0, fun _ => 0, fun _ => 0, fun _ => 0, fun _ => 0, fun _ => 0, fun _ => 0, fun _ => 0]) ?_ rfl rfl rfl
  refine g_aload_n E dX0_init_126 rfl rfl ?_
  refine g_getR E inX0_init rfl flX0_init_22 dX0_init_127 (by decide) rfl ?_
  refine g_iconst E dX0_init_130 ?_
  refine g_iconst E dX0_init_131 ?_
  refine g_ast E (A' := [_, _, _, _, _, _, _, _, _, _, _, _, _, _]) (i := 0) dX0_init_132 rfl rfl rfl (by omega) rfl ?_
  exact hret _ _ _ dX0_init_133

