set_option maxRecDepth 100000 in
theorem flX1_clear_20 : Cond.fieldLink RX1 20 (TX1 4).1 (TX1 4).2.1 (TX1 4).2.2.1 ∈ wsX1_clear := by decide +kernel
set_option maxRecDepth 100000 in
theorem flX1_clear_57 : Cond.fieldLink RX1 57 (TX1 0).1 (TX1 0).2.1 (TX1 0).2.2.1 ∈ wsX1_clear := by decide +kernel
set_option maxRecDepth 100000 in
theorem flX1_clear_7 : Cond.fieldLink RX1 7 (TX1 1).1 (TX1 1).2.1 (TX1 1).2.2.1 ∈ wsX1_clear := by decide +kernel
set_option maxRecDepth 100000 in
theorem flX1_clear_92 : Cond.fieldLink RX1 92 (TX1 12).1 (TX1 12).2.1 (TX1 12).2.2.1 ∈ wsX1_clear := by decide +kernel
set_option maxRecDepth 100000 in
theorem flX1_decide_7 : Cond.fieldLink RX1 7 (TX1 1).1 (TX1 1).2.1 (TX1 1).2.2.1 ∈ wsX1_decide := by decide +kernel
set_option maxRecDepth 100000 in
theorem flX1_go_105 : Cond.fieldLink RX1 105 (TX1 14).1 (TX1 14).2.1 (TX1 14).2.2.1 ∈ wsX1_go := by decide +kernel
set_option maxRecDepth 100000 in
theorem flX1_go_17 : Cond.fieldLink RX1 17 (TX1 3).1 (TX1 3).2.1 (TX1 3).2.2.1 ∈ wsX1_go := by decide +kernel
set_option maxRecDepth 100000 in
theorem flX1_go_39 : Cond.fieldLink RX1 39 (TX1 11).1 (TX1 11).2.1 (TX1 11).2.2.1 ∈ wsX1_go := by decide +kernel
set_option maxRecDepth 100000 in
theorem flX1_go_42 : Cond.fieldLink RX1 42 (TX1 13).1 (TX1 13).2.1 (TX1 13).2.2.1 ∈ wsX1_go := by decide +kernel
set_option maxRecDepth 100000 in
theorem flX1_go_51 : Cond.fieldLink RX1 51 (TX1 17).1 (TX1 17).2.1 (TX1 17).2.2.1 ∈ wsX1_go := by decide +kernel
set_option maxRecDepth 100000 in
theorem flX1_go_54 : Cond.fieldLink RX1 54 (TX1 18).1 (TX1 18).2.1 (TX1 18).2.2.1 ∈ wsX1_go := by decide +kernel
set_option maxRecDepth 100000 in
theorem flX1_go_64 : Cond.fieldLink RX1 64 (TX1 5).1 (TX1 5).2.1 (TX1 5).2.2.1 ∈ wsX1_go := by decide +kernel
set_option maxRecDepth 100000 in
theorem flX1_go_92 : Cond.fieldLink RX1 92 (TX1 12).1 (TX1 12).2.1 (TX1 12).2.2.1 ∈ wsX1_go := by decide +kernel
set_option maxRecDepth 100000 in
theorem flX1_step_17 : Cond.fieldLink RX1 17 (TX1 3).1 (TX1 3).2.1 (TX1 3).2.2.1 ∈ wsX1_step := by decide +kernel
set_option maxRecDepth 100000 in
theorem hdX1_decide : yX1_decide.cls = RX1 ∧ yX1_decide.cls ≠ "java/lang/invoke/MethodHandle" ∧ yX1_decide.cls ≠ "java/lang/invoke/VarHandle" ∧ (parseMethodDescriptor yX1_decide.desc).map (fun d => d.parameters.length) = some 0 := by decide +kernel
set_option maxRecDepth 100000 in
theorem hdX1_go : yX1_go.cls = RX1 ∧ yX1_go.cls ≠ "java/lang/invoke/MethodHandle" ∧ yX1_go.cls ≠ "java/lang/invoke/VarHandle" ∧ (parseMethodDescriptor yX1_go.desc).map (fun d => d.parameters.length) = some 0 := by decide +kernel
set_option maxRecDepth 100000 in
theorem hdX1_goesWell : yX1_goesWell.cls = RX1 ∧ yX1_goesWell.cls ≠ "java/lang/invoke/MethodHandle" ∧ yX1_goesWell.cls ≠ "java/lang/invoke/VarHandle" ∧ (parseMethodDescriptor yX1_goesWell.desc).map (fun d => d.parameters.length) = some 1 := by decide +kernel
set_option maxRecDepth 100000 in
theorem hdX1_grant : yX1_grant.cls = RX1 ∧ yX1_grant.cls ≠ "java/lang/invoke/MethodHandle" ∧ yX1_grant.cls ≠ "java/lang/invoke/VarHandle" ∧ (parseMethodDescriptor yX1_grant.desc).map (fun d => d.parameters.length) = some 1 := by decide +kernel
set_option maxRecDepth 100000 in
theorem hdX1_wish : yX1_wish.cls = RX1 ∧ yX1_wish.cls ≠ "java/lang/invoke/MethodHandle" ∧ yX1_wish.cls ≠ "java/lang/invoke/VarHandle" ∧ (parseMethodDescriptor yX1_wish.desc).map (fun d => d.parameters.length) = some 0 := by decide +kernel
set_option maxRecDepth 100000 in
theorem inX1_clear : ∀ w ∈ u_ws RX1 TX1 19, w ∈ wsX1_clear := by decide +kernel
set_option maxRecDepth 100000 in
theorem inX1_decide : ∀ w ∈ u_ws RX1 TX1 19, w ∈ wsX1_decide := by decide +kernel
set_option maxRecDepth 100000 in
theorem inX1_go : ∀ w ∈ u_ws RX1 TX1 19, w ∈ wsX1_go := by decide +kernel
set_option maxRecDepth 100000 in
theorem inX1_step : ∀ w ∈ u_ws RX1 TX1 19, w ∈ wsX1_step := by decide +kernel
set_option maxHeartbeats 4000000 in
set_option maxRecDepth 100000 in
theorem cM_decide {l : Launch} {D : va_G} {cI cZ : ClassId} {q : Nat} {r : Nat → Nat} {P Dn : Nat} {th t lo wa : Int} {g0 g1 g2 g3 g4 g5 g6 g7 g8 g9 g10 g11 g12 : Nat → Int} (hP : 1 ≤ P ∧ P ≤ 11) (hDn : Dn ≤ 16) (hs2 : ∀ j : Nat, -2147483648 ≤ g2 j ∧ g2 j < 2147483648) (hs3 : ∀ j : Nat, -2147483648 ≤ g3 j ∧ g3 j < 2147483648) (hs4 : ∀ j : Nat, -2147483648 ≤ g4 j ∧ g4 j < 2147483648) (hs5 : ∀ j : Nat, -2147483648 ≤ g5 j ∧ g5 j < 2147483648) (hs7 : ∀ j : Nat, -2147483648 ≤ g7 j ∧ g7 j < 2147483648) (he3 : ∀ j : Nat, j < Dn → 0 ≤ g3 j ∧ g3 j < P) (he4 : ∀ j : Nat, j < Dn → 0 ≤ g4 j ∧ g4 j < P) (hok : mOkD P Dn g0 g2 g3 g4 g5 g6 g7 (g1, g8, g9, g10, g11, g12, t, lo, wa)) : gMV l yX1_decide wsX1_decide 3 D (gTy cI cZ) (gM cI cZ q r [th, (P : Int), (Dn : Int), t, lo, wa] [g0, g1, g2, g3, g4, g5, g6, g7, g8, g9, g10, g11, g12]) [.ref q] (gM cI cZ q r [th, (P : Int), (Dn : Int), t, lo, wa] [g0, g1, g2, g3, g4, g5, g6, g7, g8, (mFS P Dn g0 g2 g3 g4 g5 g6 g7 (g1, g8, g9, g10, g11, g12, t, lo, wa)), (mWS P Dn g0 g2 g3 g4 g5 g6 g7 (g1, g8, g9, g10, g11, g12, t, lo, wa)).1, (mGS P Dn g0 g2 g3 g4 g5 g6 g7 (g1, g8, g9, g10, g11, g12, t, lo, wa)), (mWS P Dn g0 g2 g3 g4 g5 g6 g7 (g1, g8, g9, g10, g11, g12, t, lo, wa)).2]) := by
  refine g_ofV (by decide +kernel) rfl rfl (Nat.le_of_ble_eq_true rfl) (g_cat1 rfl) ?_
  intro p e s m args below meth c Q A0 E hret
  have hts := E.1.2.2.2.2
  show gJ p l e (gR 3) s m args below meth c 0 0 Q A0 D (gM cI cZ q r [th, (P : Int), (Dn : Int), t, lo, wa] [g0, g1, g2, g3, g4, g5, g6, g7, g8, g9, g10, g11, g12]) [some (.ref q), none] 0 []
  obtain ⟨k1, k2, k3, k4, k5⟩ := hok
  have key : ∀ k : Nat, k ≤ P → gJ p l e (gR 3) s m args below meth c 0 0 Q A0 D (gM cI cZ q r [th, (P : Int), (Dn : Int), t, lo, wa] [g0, g1, g2, g3, g4, g5, g6, g7, g8, (mFS P Dn g0 g2 g3 g4 g5 g6 g7 (g1, g8, g9, g10, g11, g12, t, lo, wa)), (mWS P Dn g0 g2 g3 g4 g5 g6 g7 (g1, g8, g9, g10, g11, g12, t, lo, wa)).1, (mA (mWS P Dn g0 g2 g3 g4 g5 g6 g7 (g1, g8, g9, g10, g11, g12, t, lo, wa)).1 g6 (mWS P Dn g0 g2 g3 g4 g5 g6 g7 (g1, g8, g9, g10, g11, g12, t, lo, wa)).2 g0 g1 Dn (pZ g11 Dn) k), (mWS P Dn g0 g2 g3 g4 g5 g6 g7 (g1, g8, g9, g10, g11, g12, t, lo, wa)).2]) [some (.ref q), some (.int (iI k))] 6 [] := by
    refine g_loop _ P ?_ ?_
    · refine g_iload_n E dX1_decide_6 rfl rfl ?_
      refine g_aload_n E dX1_decide_7 rfl rfl ?_
      refine g_getI E inX1_decide rfl flX1_decide_7 dX1_decide_8 (by decide) rfl rfl ?_
      refine g_icmp_ge_t E dX1_decide_11 (tgt := 25) (by decide) (by omega) (by omega) ?_
      exact hret _ _ dX1_decide_25
    · intro k hk ih
      refine g_iload_n E dX1_decide_6 rfl rfl ?_
      refine g_aload_n E dX1_decide_7 rfl rfl ?_
      refine g_getI E inX1_decide rfl flX1_decide_7 dX1_decide_8 (by decide) rfl rfl ?_
      refine g_icmp_ge_f E dX1_decide_11 (tgt := 25) (by decide) (by omega) (by omega) ?_
      refine g_aload_n E dX1_decide_14 rfl rfl ?_
      refine g_iload_n E dX1_decide_15 rfl rfl ?_
      refine g_callV0 E (cM_grant hP hDn hk k5 (k4 k hk)) (cwV 1 hts gX1_decide_X1_grant rfl rfl rfl hdX1_grant ⟨(Nat.le_of_ble_eq_true rfl), (Nat.le_of_ble_eq_true rfl)⟩) rfl rfl rfl (Nat.le_of_ble_eq_true rfl) gW_0 rfl dX1_decide_16 ⟨Nat.zero_le _, Nat.zero_le _⟩ ?_
      refine g_iinc E (lv' := [_, _]) dX1_decide_19 rfl rfl ?_
      refine g_goto E dX1_decide_22 (tgt := 6) (by decide) ?_
      exact ih
  refine g_aload_n E dX1_decide_0 rfl rfl ?_
  refine g_callV0 E (cM_wish hP hDn k1 hs2 hs3 hs4 hs5 hs7 k3 he3 he4 k2) (cwV 0 hts gX1_decide_X1_wish rfl rfl rfl hdX1_wish ⟨(Nat.le_of_ble_eq_true rfl), (Nat.le_of_ble_eq_true rfl)⟩) rfl rfl rfl (Nat.le_of_ble_eq_true rfl) gW_0 rfl dX1_decide_1 ⟨Nat.zero_le _, Nat.zero_le _⟩ ?_
  refine g_iconst E dX1_decide_4 ?_
  refine g_istore_n E (lv' := [_, _]) dX1_decide_5 rfl (Nat.le_of_ble_eq_true rfl) rfl ?_
  exact key 0 (by omega)
set_option maxHeartbeats 4000000 in
set_option maxRecDepth 100000 in
theorem cM_go {l : Launch} {D : va_G} {cI cZ : ClassId} {q : Nat} {r : Nat → Nat} {P Dn : Nat} {th t lo wa : Int} {g0 g1 g2 g3 g4 g5 g6 g7 g8 g9 g10 g11 g12 : Nat → Int} (hP : 1 ≤ P ∧ P ≤ 11) (hDn : Dn ≤ 16) (hs2 : ∀ j : Nat, -2147483648 ≤ g2 j ∧ g2 j < 2147483648) (hs3 : ∀ j : Nat, -2147483648 ≤ g3 j ∧ g3 j < 2147483648) (hs4 : ∀ j : Nat, -2147483648 ≤ g4 j ∧ g4 j < 2147483648) (hs5 : ∀ j : Nat, -2147483648 ≤ g5 j ∧ g5 j < 2147483648) (hs7 : ∀ j : Nat, -2147483648 ≤ g7 j ∧ g7 j < 2147483648) (he3 : ∀ j : Nat, j < Dn → 0 ≤ g3 j ∧ g3 j < P) (he4 : ∀ j : Nat, j < Dn → 0 ≤ g4 j ∧ g4 j < P) (hok : mOk P Dn g0 g2 g3 g4 g5 g6 g7 (g1, g8, g9, g10, g11, g12, t, lo, wa)) : gMI l yX1_go wsX1_go 4 D (gTy cI cZ) (gM cI cZ q r [th, (P : Int), (Dn : Int), t, lo, wa] [g0, g1, g2, g3, g4, g5, g6, g7, g8, g9, g10, g11, g12]) [.ref q] (mMv P Dn g0 g2 g3 g4 g5 g6 g7 (g1, g8, g9, g10, g11, g12, t, lo, wa)) (gM cI cZ q r [th, (P : Int), (Dn : Int), (mStep P Dn g0 g2 g3 g4 g5 g6 g7 (g1, g8, g9, g10, g11, g12, t, lo, wa)).2.2.2.2.2.2.1, (mStep P Dn g0 g2 g3 g4 g5 g6 g7 (g1, g8, g9, g10, g11, g12, t, lo, wa)).2.2.2.2.2.2.2.1, (mStep P Dn g0 g2 g3 g4 g5 g6 g7 (g1, g8, g9, g10, g11, g12, t, lo, wa)).2.2.2.2.2.2.2.2] [g0, (mStep P Dn g0 g2 g3 g4 g5 g6 g7 (g1, g8, g9, g10, g11, g12, t, lo, wa)).1, g2, g3, g4, g5, g6, g7, (mStep P Dn g0 g2 g3 g4 g5 g6 g7 (g1, g8, g9, g10, g11, g12, t, lo, wa)).2.1, (mStep P Dn g0 g2 g3 g4 g5 g6 g7 (g1, g8, g9, g10, g11, g12, t, lo, wa)).2.2.1, (mStep P Dn g0 g2 g3 g4 g5 g6 g7 (g1, g8, g9, g10, g11, g12, t, lo, wa)).2.2.2.1, (mStep P Dn g0 g2 g3 g4 g5 g6 g7 (g1, g8, g9, g10, g11, g12, t, lo, wa)).2.2.2.2.1, (mStep P Dn g0 g2 g3 g4 g5 g6 g7 (g1, g8, g9, g10, g11, g12, t, lo, wa)).2.2.2.2.2.1]) := by
  refine g_ofI (by decide +kernel) rfl rfl (Nat.le_of_ble_eq_true rfl) (g_cat1 rfl) rfl ?_
  intro p e s m args below meth c Q A0 E hret
  have hts := E.1.2.2.2.2
  show gJ p l e (gR 4) s m args below meth c 0 0 Q A0 D (gM cI cZ q r [th, (P : Int), (Dn : Int), t, lo, wa] [g0, g1, g2, g3, g4, g5, g6, g7, g8, g9, g10, g11, g12]) [some (.ref q), none, none] 0 []
  obtain ⟨hokd, k2, k3, k4, k5⟩ := hok
  obtain ⟨kt, -, -, -, k6⟩ := id hokd
  have key : ∀ k : Nat, k ≤ Dn → gJ p l e (gR 4) s m args below meth c 0 0 Q A0 D (gM cI cZ q r [th, (P : Int), (Dn : Int), t, (mLast (mWS P Dn g0 g2 g3 g4 g5 g6 g7 (g1, g8, g9, g10, g11, g12, t, lo, wa)).2 (mGS P Dn g0 g2 g3 g4 g5 g6 g7 (g1, g8, g9, g10, g11, g12, t, lo, wa)) t lo k), wa] [g0, (mMove g3 g4 (mWS P Dn g0 g2 g3 g4 g5 g6 g7 (g1, g8, g9, g10, g11, g12, t, lo, wa)).2 (mGS P Dn g0 g2 g3 g4 g5 g6 g7 (g1, g8, g9, g10, g11, g12, t, lo, wa)) g1 k), g2, g3, g4, g5, g6, g7, (mPass (mGS P Dn g0 g2 g3 g4 g5 g6 g7 (g1, g8, g9, g10, g11, g12, t, lo, wa)) g8 k), (mFS P Dn g0 g2 g3 g4 g5 g6 g7 (g1, g8, g9, g10, g11, g12, t, lo, wa)), (mWS P Dn g0 g2 g3 g4 g5 g6 g7 (g1, g8, g9, g10, g11, g12, t, lo, wa)).1, (mGS P Dn g0 g2 g3 g4 g5 g6 g7 (g1, g8, g9, g10, g11, g12, t, lo, wa)), (mWS P Dn g0 g2 g3 g4 g5 g6 g7 (g1, g8, g9, g10, g11, g12, t, lo, wa)).2]) [some (.ref q), some (.int (iI (mMoved (mGS P Dn g0 g2 g3 g4 g5 g6 g7 (g1, g8, g9, g10, g11, g12, t, lo, wa)) k))), some (.int (iI k))] 8 [] := by
    refine g_loop _ Dn ?_ ?_
    · refine g_iload_n E dX1_go_8 rfl rfl ?_
      refine g_aload_n E dX1_go_9 rfl rfl ?_
      refine g_getI E inX1_go rfl flX1_go_64 dX1_go_10 (by decide) rfl rfl ?_
      refine g_icmp_ge_t E dX1_go_13 (tgt := 126) (by decide) (by omega) (by omega) ?_
      refine g_aload_n E dX1_go_126 rfl rfl ?_
      refine g_dup E dX1_go_127 rfl ?_
      refine g_getI E inX1_go rfl flX1_go_92 dX1_go_128 (by decide) rfl rfl ?_
      refine g_iconst E dX1_go_131 ?_
      refine g_iadd E dX1_go_132 ?_
      refine g_putI E (F' := [_, _, _, _, _, _]) inX1_go rfl flX1_go_92 dX1_go_133 tyX1_ok nmX1 (by decide) rfl (by decide) rfl (by decide +kernel) (Nat.le_of_ble_eq_true rfl) rfl ?_
      refine g_aload_n E dX1_go_136 rfl rfl ?_
      refine g_dup E dX1_go_137 rfl ?_
      refine g_getI E inX1_go rfl flX1_go_105 dX1_go_138 (by decide) rfl rfl ?_
      refine g_aload_n E dX1_go_141 rfl rfl ?_
      refine g_callI0 E (cM_insideNow hP) (cwV 0 hts gX1_go_X1_insideNow rfl rfl rfl hdX1_insideNow ⟨(Nat.le_of_ble_eq_true rfl), (Nat.le_of_ble_eq_true rfl)⟩) rfl rfl rfl (Nat.le_of_ble_eq_true rfl) gW_0 rfl dX1_go_142 ⟨Nat.zero_le _, Nat.zero_le _⟩ ?_
      refine g_iadd E dX1_go_145 ?_
      refine g_putI E (F' := [_, _, _, _, _, _]) inX1_go rfl flX1_go_105 dX1_go_146 tyX1_ok nmX1 (by decide) rfl (by decide) rfl (by decide +kernel) (Nat.le_of_ble_eq_true rfl) rfl ?_
      refine g_iload_n E dX1_go_149 rfl rfl ?_
      exact g_ri rfl hret dX1_go_150
    · intro k hk ih
      have h1 := k2 k
      have h2 := k6 k
      refine g_iload_n E dX1_go_8 rfl rfl ?_
      refine g_aload_n E dX1_go_9 rfl rfl ?_
      refine g_getI E inX1_go rfl flX1_go_64 dX1_go_10 (by decide) rfl rfl ?_
      refine g_icmp_ge_f E dX1_go_13 (tgt := 126) (by decide) (by omega) (by omega) ?_
      refine g_aload_n E dX1_go_16 rfl rfl ?_
      refine g_getR E inX1_go rfl flX1_go_51 dX1_go_17 (by decide) rfl ?_
      refine g_iload_n E dX1_go_20 rfl rfl ?_
      refine g_ald E dX1_go_21 rfl rfl rfl (by omega) ?_
      refine g_if_le E dX1_go_22 (tgt := 120) (by decide) h1 (fun c1 => ?_) (fun c1 => ?_)
      · have c2 : ¬ 0 < (mGS P Dn g0 g2 g3 g4 g5 g6 g7 (g1, g8, g9, g10, g11, g12, t, lo, wa)) k := by omega
        refine g_iinc E (lv' := [_, _, _]) dX1_go_120 rfl rfl ?_
        refine g_goto E dX1_go_123 (tgt := 8) (by decide) ?_
        exact g_eq ih (by simp only [mMove, mPass, mLast, if_neg c2]) (by simp only [mMoved, if_neg c2]; rfl) rfl
      · have c2 : 0 < (mGS P Dn g0 g2 g3 g4 g5 g6 g7 (g1, g8, g9, g10, g11, g12, t, lo, wa)) k := by omega
        obtain ⟨b1, b2⟩ := k3 k hk c2
        have fin : ∀ v : Int, v = mLast (mWS P Dn g0 g2 g3 g4 g5 g6 g7 (g1, g8, g9, g10, g11, g12, t, lo, wa)).2 (mGS P Dn g0 g2 g3 g4 g5 g6 g7 (g1, g8, g9, g10, g11, g12, t, lo, wa)) t lo (k + 1) → gJ p l e (gR 4) s m args below meth c 0 0 Q A0 D (gM cI cZ q r [th, (P : Int), (Dn : Int), t, (mLast (mWS P Dn g0 g2 g3 g4 g5 g6 g7 (g1, g8, g9, g10, g11, g12, t, lo, wa)).2 (mGS P Dn g0 g2 g3 g4 g5 g6 g7 (g1, g8, g9, g10, g11, g12, t, lo, wa)) t lo k), wa] [g0, (mMove g3 g4 (mWS P Dn g0 g2 g3 g4 g5 g6 g7 (g1, g8, g9, g10, g11, g12, t, lo, wa)).2 (mGS P Dn g0 g2 g3 g4 g5 g6 g7 (g1, g8, g9, g10, g11, g12, t, lo, wa)) g1 (k + 1)), g2, g3, g4, g5, g6, g7, (mPass (mGS P Dn g0 g2 g3 g4 g5 g6 g7 (g1, g8, g9, g10, g11, g12, t, lo, wa)) g8 (k + 1)), (mFS P Dn g0 g2 g3 g4 g5 g6 g7 (g1, g8, g9, g10, g11, g12, t, lo, wa)), (mWS P Dn g0 g2 g3 g4 g5 g6 g7 (g1, g8, g9, g10, g11, g12, t, lo, wa)).1, (mGS P Dn g0 g2 g3 g4 g5 g6 g7 (g1, g8, g9, g10, g11, g12, t, lo, wa)), (mWS P Dn g0 g2 g3 g4 g5 g6 g7 (g1, g8, g9, g10, g11, g12, t, lo, wa)).2]) [some (.ref q), some (.int (iI (mMoved (mGS P Dn g0 g2 g3 g4 g5 g6 g7 (g1, g8, g9, g10, g11, g12, t, lo, wa)) k + (mGS P Dn g0 g2 g3 g4 g5 g6 g7 (g1, g8, g9, g10, g11, g12, t, lo, wa)) k))), some (.int (iI k))] 117 [.int (iI v), .ref q] := by
          intro v hv
          subst hv
          refine g_putI E (F' := [_, _, _, _, _, _]) inX1_go rfl flX1_go_42 dX1_go_117 tyX1_ok nmX1 (by decide) rfl (by decide) rfl (by decide +kernel) (Nat.le_of_ble_eq_true rfl) rfl ?_
          refine g_iinc E (lv' := [_, _, _]) dX1_go_120 rfl rfl ?_
          refine g_goto E dX1_go_123 (tgt := 8) (by decide) ?_
          exact g_eq ih (by simp only [mMove, mPass, if_pos c2]) (by simp only [mMoved, if_pos c2]; rfl) rfl
        refine g_aload_n E dX1_go_25 rfl rfl ?_
        refine g_getR E inX1_go rfl flX1_go_17 dX1_go_26 (by decide) rfl ?_
        refine g_aload_n E dX1_go_29 rfl rfl ?_
        refine g_iload_n E dX1_go_30 rfl rfl ?_
        refine g_aload_n E dX1_go_31 rfl rfl ?_
        refine g_getR E inX1_go rfl flX1_go_54 dX1_go_32 (by decide) rfl ?_
        refine g_iload_n E dX1_go_35 rfl rfl ?_
        refine g_ald E dX1_go_36 rfl rfl rfl (by omega) ?_
        refine g_callI0 E (cM_beyond (by omega) (by omega) hs3 hs4) (cwV 2 hts gX1_go_X1_beyond rfl rfl rfl hdX1_beyond ⟨(Nat.le_of_ble_eq_true rfl), (Nat.le_of_ble_eq_true rfl)⟩) rfl rfl rfl (Nat.le_of_ble_eq_true rfl) gW_0 rfl dX1_go_37 ⟨Nat.zero_le _, Nat.zero_le _⟩ ?_
        refine g_dup2 E dX1_go_40 rfl rfl ?_
        refine g_ald E dX1_go_41 rfl rfl (i := (mBy g3 g4 k ((mWS P Dn g0 g2 g3 g4 g5 g6 g7 (g1, g8, g9, g10, g11, g12, t, lo, wa)).2 k)).toNat) (by omega) (by omega) ?_
        refine g_aload_n E dX1_go_42 rfl rfl ?_
        refine g_getR E inX1_go rfl flX1_go_51 dX1_go_43 (by decide) rfl ?_
        refine g_iload_n E dX1_go_46 rfl rfl ?_
        refine g_ald E dX1_go_47 rfl rfl rfl (by omega) ?_
        refine g_isub E dX1_go_48 ?_
        refine g_ast E (A' := [_, _, _, _, _, _, _, _, _, _, _, _, _]) dX1_go_49 rfl rfl (i := (mBy g3 g4 k ((mWS P Dn g0 g2 g3 g4 g5 g6 g7 (g1, g8, g9, g10, g11, g12, t, lo, wa)).2 k)).toNat) (by omega) (by omega) rfl ?_
        refine g_aload_n E dX1_go_50 rfl rfl ?_
        refine g_getR E inX1_go rfl flX1_go_17 dX1_go_51 (by decide) rfl ?_
        refine g_aload_n E dX1_go_54 rfl rfl ?_
        refine g_getR E inX1_go rfl flX1_go_54 dX1_go_55 (by decide) rfl ?_
        refine g_iload_n E dX1_go_58 rfl rfl ?_
        refine g_ald E dX1_go_59 rfl rfl rfl (by omega) ?_
        refine g_dup2 E dX1_go_60 rfl rfl ?_
        refine g_ald E dX1_go_61 rfl rfl (i := ((mWS P Dn g0 g2 g3 g4 g5 g6 g7 (g1, g8, g9, g10, g11, g12, t, lo, wa)).2 k).toNat) (by omega) (by omega) ?_
        refine g_aload_n E dX1_go_62 rfl rfl ?_
        refine g_getR E inX1_go rfl flX1_go_51 dX1_go_63 (by decide) rfl ?_
        refine g_iload_n E dX1_go_66 rfl rfl ?_
        refine g_ald E dX1_go_67 rfl rfl rfl (by omega) ?_
        refine g_iadd E dX1_go_68 ?_
        refine g_ast E (A' := [_, _, _, _, _, _, _, _, _, _, _, _, _]) dX1_go_69 rfl rfl (i := ((mWS P Dn g0 g2 g3 g4 g5 g6 g7 (g1, g8, g9, g10, g11, g12, t, lo, wa)).2 k).toNat) (by omega) (by omega) rfl ?_
        refine g_aload_n E dX1_go_70 rfl rfl ?_
        refine g_getR E inX1_go rfl flX1_go_39 dX1_go_71 (by decide) rfl ?_
        refine g_iload_n E dX1_go_74 rfl rfl ?_
        refine g_dup2 E dX1_go_75 rfl rfl ?_
        refine g_ald E dX1_go_76 rfl rfl rfl (by omega) ?_
        refine g_aload_n E dX1_go_77 rfl rfl ?_
        refine g_getR E inX1_go rfl flX1_go_51 dX1_go_78 (by decide) rfl ?_
        refine g_iload_n E dX1_go_81 rfl rfl ?_
        refine g_ald E dX1_go_82 rfl rfl rfl (by omega) ?_
        refine g_iadd E dX1_go_83 ?_
        refine g_ast E (A' := [_, _, _, _, _, _, _, _, _, _, _, _, _]) dX1_go_84 rfl rfl rfl (by omega) rfl ?_
        refine g_iload_n E dX1_go_85 rfl rfl ?_
        refine g_aload_n E dX1_go_86 rfl rfl ?_
        refine g_getR E inX1_go rfl flX1_go_51 dX1_go_87 (by decide) rfl ?_
        refine g_iload_n E dX1_go_90 rfl rfl ?_
        refine g_ald E dX1_go_91 rfl rfl rfl (by omega) ?_
        refine g_iadd E dX1_go_92 ?_
        refine g_istore_n E (lv' := [_, _, _]) dX1_go_93 rfl (Nat.le_of_ble_eq_true rfl) rfl ?_
        refine g_aload_n E dX1_go_94 rfl rfl ?_
        refine g_aload_n E dX1_go_95 rfl rfl ?_
        refine g_getR E inX1_go rfl flX1_go_54 dX1_go_96 (by decide) rfl ?_
        refine g_iload_n E dX1_go_99 rfl rfl ?_
        refine g_ald E dX1_go_100 rfl rfl rfl (by omega) ?_
        refine g_if_ne E dX1_go_101 (tgt := 113) (by decide) h2 (fun c3 => ?_) (fun c3 => ?_)
        · refine g_aload_n E dX1_go_113 rfl rfl ?_
          refine g_getI E inX1_go rfl flX1_go_42 dX1_go_114 (by decide) rfl rfl ?_
          refine g_eq (fin _ (by simp only [mLast, if_pos c2]; exact (if_neg c3).symm)) ?_ rfl rfl
          simp only [mMove, mPass, if_pos c2]
        · refine g_aload_n E dX1_go_104 rfl rfl ?_
          refine g_getI E inX1_go rfl flX1_go_92 dX1_go_105 (by decide) rfl rfl ?_
          refine g_iconst E dX1_go_108 ?_
          refine g_iadd E dX1_go_109 ?_
          refine g_goto E dX1_go_110 (tgt := 117) (by decide) ?_
          refine g_eq (fin _ (by simp only [mLast, if_pos c2]; exact (if_pos c3).symm)) ?_ rfl rfl
          simp only [mMove, mPass, if_pos c2]
  refine g_aload_n E dX1_go_0 rfl rfl ?_
  refine g_callV0 E (cM_decide hP hDn hs2 hs3 hs4 hs5 hs7 he3 he4 hokd) (cwV 0 hts gX1_go_X1_decide rfl rfl rfl hdX1_decide ⟨(Nat.le_of_ble_eq_true rfl), (Nat.le_of_ble_eq_true rfl)⟩) rfl rfl rfl (Nat.le_of_ble_eq_true rfl) gW_0 rfl dX1_go_1 ⟨Nat.zero_le _, Nat.zero_le _⟩ ?_
  refine g_iconst E dX1_go_4 ?_
  refine g_istore_n E (lv' := [_, _, _]) dX1_go_5 rfl (Nat.le_of_ble_eq_true rfl) rfl ?_
  refine g_iconst E dX1_go_6 ?_
  refine g_istore_n E (lv' := [_, _, _]) dX1_go_7 rfl (Nat.le_of_ble_eq_true rfl) rfl ?_
  exact key 0 (by omega)
set_option maxHeartbeats 4000000 in
set_option maxRecDepth 100000 in
theorem cM_step {l : Launch} {D : va_G} {cI cZ : ClassId} {q : Nat} {r : Nat → Nat} {P Dn : Nat} {th t lo wa : Int} {g0 g1 g2 g3 g4 g5 g6 g7 g8 g9 g10 g11 g12 : Nat → Int} {n : Nat} (hn : 1 ≤ n ∧ n ≤ 50) (hP : 1 ≤ P ∧ P ≤ 11) (hDn : Dn ≤ 16) (hs2 : ∀ j : Nat, -2147483648 ≤ g2 j ∧ g2 j < 2147483648) (hs3 : ∀ j : Nat, -2147483648 ≤ g3 j ∧ g3 j < 2147483648) (hs4 : ∀ j : Nat, -2147483648 ≤ g4 j ∧ g4 j < 2147483648) (hs5 : ∀ j : Nat, -2147483648 ≤ g5 j ∧ g5 j < 2147483648) (hs7 : ∀ j : Nat, -2147483648 ≤ g7 j ∧ g7 j < 2147483648) (he3 : ∀ j : Nat, j < Dn → 0 ≤ g3 j ∧ g3 j < P) (he4 : ∀ j : Nat, j < Dn → 0 ≤ g4 j ∧ g4 j < P) (hok : ∀ k, k < n → mOk P Dn g0 g2 g3 g4 g5 g6 g7 (mIt P Dn g0 g2 g3 g4 g5 g6 g7 (g1, g8, g9, g10, g11, g12, t, lo, wa) k)) : gMI l yX1_step wsX1_step 6 D (gTy cI cZ) (gM cI cZ q r [th, (P : Int), (Dn : Int), t, lo, wa] [g0, g1, g2, g3, g4, g5, g6, g7, g8, g9, g10, g11, g12]) [.ref q, .int (iI (n : Int))] ((mIt P Dn g0 g2 g3 g4 g5 g6 g7 (g1, g8, g9, g10, g11, g12, t, lo, wa) n).1 0 - g1 0) (gM cI cZ q r [0, (P : Int), (Dn : Int), (mIt P Dn g0 g2 g3 g4 g5 g6 g7 (g1, g8, g9, g10, g11, g12, t, lo, wa) n).2.2.2.2.2.2.1, (mIt P Dn g0 g2 g3 g4 g5 g6 g7 (g1, g8, g9, g10, g11, g12, t, lo, wa) n).2.2.2.2.2.2.2.1, (mIt P Dn g0 g2 g3 g4 g5 g6 g7 (g1, g8, g9, g10, g11, g12, t, lo, wa) n).2.2.2.2.2.2.2.2] [g0, (mIt P Dn g0 g2 g3 g4 g5 g6 g7 (g1, g8, g9, g10, g11, g12, t, lo, wa) n).1, g2, g3, g4, g5, g6, g7, (mIt P Dn g0 g2 g3 g4 g5 g6 g7 (g1, g8, g9, g10, g11, g12, t, lo, wa) n).2.1, (mIt P Dn g0 g2 g3 g4 g5 g6 g7 (g1, g8, g9, g10, g11, g12, t, lo, wa) n).2.2.1, (mIt P Dn g0 g2 g3 g4 g5 g6 g7 (g1, g8, g9, g10, g11, g12, t, lo, wa) n).2.2.2.1, (mIt P Dn g0 g2 g3 g4 g5 g6 g7 (g1, g8, g9, g10, g11, g12, t, lo, wa) n).2.2.2.2.1, (mIt P Dn g0 g2 g3 g4 g5 g6 g7 (g1, g8, g9, g10, g11, g12, t, lo, wa) n).2.2.2.2.2.1]) := by
  refine g_ofI (by decide +kernel) rfl rfl (Nat.le_of_ble_eq_true rfl) (g_cat1 rfl) rfl ?_
  intro p e s m args below meth c Q A0 E hret
  have hts := E.1.2.2.2.2
  show gJ p l e (gR 6) s m args below meth c 0 0 Q A0 D (gM cI cZ q r [th, (P : Int), (Dn : Int), t, lo, wa] [g0, g1, g2, g3, g4, g5, g6, g7, g8, g9, g10, g11, g12]) [some (.ref q), some (.int (iI (n : Int))), none, none, none] 0 []
  have key : ∀ k : Nat, k ≤ n → ∀ a : Option Value, gJ p l e (gR 6) s m args below meth c 0 0 Q A0 D (gM cI cZ q r [0, (P : Int), (Dn : Int), (mIt P Dn g0 g2 g3 g4 g5 g6 g7 (g1, g8, g9, g10, g11, g12, t, lo, wa) k).2.2.2.2.2.2.1, (mIt P Dn g0 g2 g3 g4 g5 g6 g7 (g1, g8, g9, g10, g11, g12, t, lo, wa) k).2.2.2.2.2.2.2.1, (mIt P Dn g0 g2 g3 g4 g5 g6 g7 (g1, g8, g9, g10, g11, g12, t, lo, wa) k).2.2.2.2.2.2.2.2] [g0, (mIt P Dn g0 g2 g3 g4 g5 g6 g7 (g1, g8, g9, g10, g11, g12, t, lo, wa) k).1, g2, g3, g4, g5, g6, g7, (mIt P Dn g0 g2 g3 g4 g5 g6 g7 (g1, g8, g9, g10, g11, g12, t, lo, wa) k).2.1, (mIt P Dn g0 g2 g3 g4 g5 g6 g7 (g1, g8, g9, g10, g11, g12, t, lo, wa) k).2.2.1, (mIt P Dn g0 g2 g3 g4 g5 g6 g7 (g1, g8, g9, g10, g11, g12, t, lo, wa) k).2.2.2.1, (mIt P Dn g0 g2 g3 g4 g5 g6 g7 (g1, g8, g9, g10, g11, g12, t, lo, wa) k).2.2.2.2.1, (mIt P Dn g0 g2 g3 g4 g5 g6 g7 (g1, g8, g9, g10, g11, g12, t, lo, wa) k).2.2.2.2.2.1]) [some (.ref q), some (.int (iI (n : Int))), some (.int (iI (g1 0))), some (.int (iI k)), a] 33 [] := by
    refine g_loop _ n ?_ ?_
    · intro a
      refine g_iload_n E dX1_step_33 rfl rfl ?_
      refine g_iload_n E dX1_step_34 rfl rfl ?_
      refine g_icmp_ge_t E dX1_step_35 (tgt := 50) (by decide) (by omega) (by omega) ?_
      refine g_aload_n E dX1_step_50 rfl rfl ?_
      refine g_getR E inX1_step rfl flX1_step_17 dX1_step_51 (by decide) rfl ?_
      refine g_iconst E dX1_step_54 ?_
      refine g_ald E dX1_step_55 rfl rfl (i := 0) rfl (by omega) ?_
      refine g_iload_n E dX1_step_56 rfl rfl ?_
      refine g_isub E dX1_step_57 ?_
      exact g_ri rfl hret dX1_step_58
    · intro k hk ih a
      refine g_iload_n E dX1_step_33 rfl rfl ?_
      refine g_iload_n E dX1_step_34 rfl rfl ?_
      refine g_icmp_ge_f E dX1_step_35 (tgt := 50) (by decide) (by omega) (by omega) ?_
      refine g_aload_n E dX1_step_38 rfl rfl ?_
      refine g_callI0 E (cM_go hP hDn hs2 hs3 hs4 hs5 hs7 he3 he4 (hok k hk)) (cwV 0 hts gX1_step_X1_go rfl rfl rfl hdX1_go ⟨(Nat.le_of_ble_eq_true rfl), (Nat.le_of_ble_eq_true rfl)⟩) rfl rfl rfl (Nat.le_of_ble_eq_true rfl) gW_0 rfl dX1_step_39 ⟨Nat.zero_le _, Nat.zero_le _⟩ ?_
      refine g_istore E (lv' := [_, _, _, _, _]) dX1_step_42 (Nat.le_of_ble_eq_true rfl) rfl ?_
      refine g_iinc E (lv' := [_, _, _, _, _]) dX1_step_44 rfl rfl ?_
      refine g_goto E dX1_step_47 (tgt := 33) (by decide) ?_
      exact ih _
  refine g_aload_n E dX1_step_0 rfl rfl ?_
  refine g_iload_n E dX1_step_1 rfl rfl ?_
  refine g_iconst E dX1_step_2 ?_
  refine g_bipush E dX1_step_3 (by decide) ?_
  refine g_callSI E (cM_in (rv := 1) (by omega) (Or.inl ⟨rfl, by omega, by omega⟩)) (va_cwS 3 hts gX1_step_X1_in rfl rfl rfl hdX1_in.2 ⟨(Nat.le_of_ble_eq_true rfl), (Nat.le_of_ble_eq_true rfl)⟩) rfl rfl rfl (Nat.le_of_ble_eq_true rfl) dX1_step_5 ⟨Nat.zero_le _, Nat.zero_le _⟩ ?_
  refine g_if_eq_f E dX1_step_8 (tgt := 15) (by decide) (by omega) (by omega) ?_
  refine g_iconst E dX1_step_11 ?_
  refine g_goto E dX1_step_12 (tgt := 16) (by decide) ?_
  refine g_callI0 E (cM_goesWell (rv := 1) (by omega) (Or.inl ⟨rfl, rfl⟩)) (cwV 1 hts gX1_step_X1_goesWell rfl rfl rfl hdX1_goesWell ⟨(Nat.le_of_ble_eq_true rfl), (Nat.le_of_ble_eq_true rfl)⟩) rfl rfl rfl (Nat.le_of_ble_eq_true rfl) gW_0 rfl dX1_step_16 ⟨Nat.zero_le _, Nat.zero_le _⟩ ?_
  refine g_if_ne_t E dX1_step_19 (tgt := 24) (by decide) (by omega) (by omega) ?_
  refine g_aload_n E dX1_step_24 rfl rfl ?_
  refine g_getR E inX1_step rfl flX1_step_17 dX1_step_25 (by decide) rfl ?_
  refine g_iconst E dX1_step_28 ?_
  refine g_ald E dX1_step_29 rfl rfl (i := 0) rfl (by omega) ?_
  refine g_istore_n E (lv' := [_, _, _, _, _]) dX1_step_30 rfl (Nat.le_of_ble_eq_true rfl) rfl ?_
  refine g_iconst E dX1_step_31 ?_
  refine g_istore_n E (lv' := [_, _, _, _, _]) dX1_step_32 rfl (Nat.le_of_ble_eq_true rfl) rfl ?_
  exact key 0 (by omega) _
set_option maxHeartbeats 4000000 in
set_option maxRecDepth 100000 in
theorem cM_clear {l : Launch} {D : va_G} {cI cZ : ClassId} {q : Nat} {r : Nat → Nat} {P Dn : Nat} {th t lo wa : Int} {g0 g1 g2 g3 g4 g5 g6 g7 g8 g9 g10 g11 g12 : Nat → Int} {n : Nat} (hP : 1 ≤ P ∧ P ≤ 11) (hDn : Dn ≤ 16) (hs2 : ∀ j : Nat, -2147483648 ≤ g2 j ∧ g2 j < 2147483648) (hs3 : ∀ j : Nat, -2147483648 ≤ g3 j ∧ g3 j < 2147483648) (hs4 : ∀ j : Nat, -2147483648 ≤ g4 j ∧ g4 j < 2147483648) (hs5 : ∀ j : Nat, -2147483648 ≤ g5 j ∧ g5 j < 2147483648) (hs7 : ∀ j : Nat, -2147483648 ≤ g7 j ∧ g7 j < 2147483648) (he3 : ∀ j : Nat, j < Dn → 0 ≤ g3 j ∧ g3 j < P) (he4 : ∀ j : Nat, j < Dn → 0 ≤ g4 j ∧ g4 j < P) (hok : ∀ k, k ≤ n → mOk P Dn g0 g2 g3 g4 g5 g6 g7 (mIt P Dn g0 g2 g3 g4 g5 g6 g7 (g1, g8, g9, g10, g11, g12, t, lo, wa) k)) (hn : n ≤ 300) (hins : ∀ k, k < n → 0 < pSum (mIt P Dn g0 g2 g3 g4 g5 g6 g7 (g1, g8, g9, g10, g11, g12, t, lo, wa) k).1 P) (hgo : ∀ k, k + 1 < n → ¬ ((mMv P Dn g0 g2 g3 g4 g5 g6 g7 (mIt P Dn g0 g2 g3 g4 g5 g6 g7 (g1, g8, g9, g10, g11, g12, t, lo, wa) k)) ≤ 0 ∧ (∀ j : Nat, j < P → g2 j ≤ (mIt P Dn g0 g2 g3 g4 g5 g6 g7 (g1, g8, g9, g10, g11, g12, t, lo, wa) k).2.2.2.2.2.2.1))) (hstop : n = 300 ∨ pSum (mIt P Dn g0 g2 g3 g4 g5 g6 g7 (g1, g8, g9, g10, g11, g12, t, lo, wa) n).1 P ≤ 0 ∨ ∃ k, n = k + 1 ∧ (mMv P Dn g0 g2 g3 g4 g5 g6 g7 (mIt P Dn g0 g2 g3 g4 g5 g6 g7 (g1, g8, g9, g10, g11, g12, t, lo, wa) k)) ≤ 0 ∧ (∀ j : Nat, j < P → g2 j ≤ (mIt P Dn g0 g2 g3 g4 g5 g6 g7 (g1, g8, g9, g10, g11, g12, t, lo, wa) k).2.2.2.2.2.2.1)) : gMI l yX1_clear wsX1_clear 6 D (gTy cI cZ) (gM cI cZ q r [th, (P : Int), (Dn : Int), t, lo, wa] [g0, g1, g2, g3, g4, g5, g6, g7, g8, g9, g10, g11, g12]) [.ref q] (n : Int) (gM cI cZ q r [0, (P : Int), (Dn : Int), (mIt P Dn g0 g2 g3 g4 g5 g6 g7 (g1, g8, g9, g10, g11, g12, t, lo, wa) n).2.2.2.2.2.2.1, (mIt P Dn g0 g2 g3 g4 g5 g6 g7 (g1, g8, g9, g10, g11, g12, t, lo, wa) n).2.2.2.2.2.2.2.1, (mIt P Dn g0 g2 g3 g4 g5 g6 g7 (g1, g8, g9, g10, g11, g12, t, lo, wa) n).2.2.2.2.2.2.2.2] [g0, (mIt P Dn g0 g2 g3 g4 g5 g6 g7 (g1, g8, g9, g10, g11, g12, t, lo, wa) n).1, g2, g3, g4, g5, g6, g7, (mIt P Dn g0 g2 g3 g4 g5 g6 g7 (g1, g8, g9, g10, g11, g12, t, lo, wa) n).2.1, (mIt P Dn g0 g2 g3 g4 g5 g6 g7 (g1, g8, g9, g10, g11, g12, t, lo, wa) n).2.2.1, (mIt P Dn g0 g2 g3 g4 g5 g6 g7 (g1, g8, g9, g10, g11, g12, t, lo, wa) n).2.2.2.1, (mIt P Dn g0 g2 g3 g4 g5 g6 g7 (g1, g8, g9, g10, g11, g12, t, lo, wa) n).2.2.2.2.1, (mIt P Dn g0 g2 g3 g4 g5 g6 g7 (g1, g8, g9, g10, g11, g12, t, lo, wa) n).2.2.2.2.2.1]) := by
  refine g_ofI (by decide +kernel) rfl rfl (Nat.le_of_ble_eq_true rfl) (g_cat1 rfl) rfl ?_
  intro p e s m args below meth c Q A0 E hret
  have hts := E.1.2.2.2.2
  show gJ p l e (gR 6) s m args below meth c 0 0 Q A0 D (gM cI cZ q r [th, (P : Int), (Dn : Int), t, lo, wa] [g0, g1, g2, g3, g4, g5, g6, g7, g8, g9, g10, g11, g12]) [some (.ref q), none, none, none, none] 0 []
  have key : ∀ k : Nat, k ≤ n → ∀ (h : Int) (a b : Option Value), (h = 0 ∨ h = 1) → (k < n → h = 1) → (k = n → h = 0 ∨ n = 300 ∨ pSum (mIt P Dn g0 g2 g3 g4 g5 g6 g7 (g1, g8, g9, g10, g11, g12, t, lo, wa) n).1 P ≤ 0) → gJ p l e (gR 6) s m args below meth c 0 0 Q A0 D (gM cI cZ q r [0, (P : Int), (Dn : Int), (mIt P Dn g0 g2 g3 g4 g5 g6 g7 (g1, g8, g9, g10, g11, g12, t, lo, wa) k).2.2.2.2.2.2.1, (mIt P Dn g0 g2 g3 g4 g5 g6 g7 (g1, g8, g9, g10, g11, g12, t, lo, wa) k).2.2.2.2.2.2.2.1, (mIt P Dn g0 g2 g3 g4 g5 g6 g7 (g1, g8, g9, g10, g11, g12, t, lo, wa) k).2.2.2.2.2.2.2.2] [g0, (mIt P Dn g0 g2 g3 g4 g5 g6 g7 (g1, g8, g9, g10, g11, g12, t, lo, wa) k).1, g2, g3, g4, g5, g6, g7, (mIt P Dn g0 g2 g3 g4 g5 g6 g7 (g1, g8, g9, g10, g11, g12, t, lo, wa) k).2.1, (mIt P Dn g0 g2 g3 g4 g5 g6 g7 (g1, g8, g9, g10, g11, g12, t, lo, wa) k).2.2.1, (mIt P Dn g0 g2 g3 g4 g5 g6 g7 (g1, g8, g9, g10, g11, g12, t, lo, wa) k).2.2.2.1, (mIt P Dn g0 g2 g3 g4 g5 g6 g7 (g1, g8, g9, g10, g11, g12, t, lo, wa) k).2.2.2.2.1, (mIt P Dn g0 g2 g3 g4 g5 g6 g7 (g1, g8, g9, g10, g11, g12, t, lo, wa) k).2.2.2.2.2.1]) [some (.ref q), some (.int (iI k)), some (.int (iI h)), a, b] 9 [] := by
    refine g_loop _ n ?_ ?_
    · intro h a b h0 h1 h2
      obtain ⟨k1, k2, k3, k4, k5⟩ := hok n (Nat.le_refl _)
      refine g_iload_n E dX1_clear_9 rfl rfl ?_
      refine g_if_eq E dX1_clear_10 (tgt := 94) (by decide) (by omega) (fun c1 => ?_) (fun c1 => ?_)
      · refine g_iload_n E dX1_clear_94 rfl rfl ?_
        exact g_ri rfl hret dX1_clear_95
      · refine g_aload_n E dX1_clear_13 rfl rfl ?_
        refine g_callI0 E (cM_insideNow hP) (cwV 0 hts gX1_clear_X1_insideNow rfl rfl rfl hdX1_insideNow ⟨(Nat.le_of_ble_eq_true rfl), (Nat.le_of_ble_eq_true rfl)⟩) rfl rfl rfl (Nat.le_of_ble_eq_true rfl) gW_0 rfl dX1_clear_14 ⟨Nat.zero_le _, Nat.zero_le _⟩ ?_
        refine g_if_le E dX1_clear_17 (tgt := 94) (by decide) k5 (fun c2 => ?_) (fun c2 => ?_)
        · refine g_iload_n E dX1_clear_94 rfl rfl ?_
          exact g_ri rfl hret dX1_clear_95
        · have c3 : n = 300 := by
            rcases h2 rfl with e | e | e
            · omega
            · exact e
            · exact absurd e c2
          refine g_iload_n E dX1_clear_20 rfl rfl ?_
          refine g_sipush E dX1_clear_21 (by decide) ?_
          refine g_icmp_ge_t E dX1_clear_24 (tgt := 94) (by decide) (by omega) (by omega) ?_
          refine g_iload_n E dX1_clear_94 rfl rfl ?_
          exact g_ri rfl hret dX1_clear_95
    · intro k hk ih h a b h0 h1 h2
      obtain ⟨k1, k2, k3, k4, k5⟩ := hok k (by omega)
      obtain ⟨kt, -, -, -, -⟩ := id k1
      have hh : h = 1 := h1 hk
      have hi := hins k hk
      -- the loop over the release times: waiting before j
      have key2 : ∀ j : Nat, j ≤ P → ∀ w9 : Int, ((w9 = 0 ∧ ∀ i : Nat, i < j → g2 i ≤ (mIt P Dn g0 g2 g3 g4 g5 g6 g7 (g1, g8, g9, g10, g11, g12, t, lo, wa) k).2.2.2.2.2.2.1) ∨ (w9 = 1 ∧ ∃ i : Nat, i < j ∧ (mIt P Dn g0 g2 g3 g4 g5 g6 g7 (g1, g8, g9, g10, g11, g12, t, lo, wa) k).2.2.2.2.2.2.1 < g2 i)) → gJ p l e (gR 6) s m args below meth c 0 0 Q A0 D (gM cI cZ q r [0, (P : Int), (Dn : Int), (mIt P Dn g0 g2 g3 g4 g5 g6 g7 (g1, g8, g9, g10, g11, g12, t, lo, wa) k).2.2.2.2.2.2.1, (mIt P Dn g0 g2 g3 g4 g5 g6 g7 (g1, g8, g9, g10, g11, g12, t, lo, wa) k).2.2.2.2.2.2.2.1, (mIt P Dn g0 g2 g3 g4 g5 g6 g7 (g1, g8, g9, g10, g11, g12, t, lo, wa) k).2.2.2.2.2.2.2.2] [g0, (mIt P Dn g0 g2 g3 g4 g5 g6 g7 (g1, g8, g9, g10, g11, g12, t, lo, wa) k).1, g2, g3, g4, g5, g6, g7, (mIt P Dn g0 g2 g3 g4 g5 g6 g7 (g1, g8, g9, g10, g11, g12, t, lo, wa) k).2.1, (mIt P Dn g0 g2 g3 g4 g5 g6 g7 (g1, g8, g9, g10, g11, g12, t, lo, wa) k).2.2.1, (mIt P Dn g0 g2 g3 g4 g5 g6 g7 (g1, g8, g9, g10, g11, g12, t, lo, wa) k).2.2.2.1, (mIt P Dn g0 g2 g3 g4 g5 g6 g7 (g1, g8, g9, g10, g11, g12, t, lo, wa) k).2.2.2.2.1, (mIt P Dn g0 g2 g3 g4 g5 g6 g7 (g1, g8, g9, g10, g11, g12, t, lo, wa) k).2.2.2.2.2.1]) [some (.ref q), some (.int (iI k)), some (.int (iI h)), some (.int (iI w9)), some (.int (iI j))] 32 [] := by
        refine g_loop _ P ?_ ?_
        · intro w9 hw
          refine g_iload E dX1_clear_32 rfl ?_
          refine g_aload_n E dX1_clear_34 rfl rfl ?_
          refine g_getI E inX1_clear rfl flX1_clear_7 dX1_clear_35 (by decide) rfl rfl ?_
          refine g_icmp_ge_t E dX1_clear_38 (tgt := 71) (by decide) (by omega) (by omega) ?_
          refine g_aload_n E dX1_clear_71 rfl rfl ?_
          refine g_callI0 E (cM_go hP hDn hs2 hs3 hs4 hs5 hs7 he3 he4 (hok k (by omega))) (cwV 0 hts gX1_clear_X1_go rfl rfl rfl hdX1_go ⟨(Nat.le_of_ble_eq_true rfl), (Nat.le_of_ble_eq_true rfl)⟩) rfl rfl rfl (Nat.le_of_ble_eq_true rfl) gW_0 rfl dX1_clear_72 ⟨Nat.zero_le _, Nat.zero_le _⟩ ?_
          have fin1 : ∀ a b : Option Value, ¬ ((mMv P Dn g0 g2 g3 g4 g5 g6 g7 (mIt P Dn g0 g2 g3 g4 g5 g6 g7 (g1, g8, g9, g10, g11, g12, t, lo, wa) k)) ≤ 0 ∧ (∀ j : Nat, j < P → g2 j ≤ (mIt P Dn g0 g2 g3 g4 g5 g6 g7 (g1, g8, g9, g10, g11, g12, t, lo, wa) k).2.2.2.2.2.2.1)) → gJ p l e (gR 6) s m args below meth c 0 0 Q A0 D (gM cI cZ q r [0, (P : Int), (Dn : Int), (mIt P Dn g0 g2 g3 g4 g5 g6 g7 (g1, g8, g9, g10, g11, g12, t, lo, wa) (k + 1)).2.2.2.2.2.2.1, (mIt P Dn g0 g2 g3 g4 g5 g6 g7 (g1, g8, g9, g10, g11, g12, t, lo, wa) (k + 1)).2.2.2.2.2.2.2.1, (mIt P Dn g0 g2 g3 g4 g5 g6 g7 (g1, g8, g9, g10, g11, g12, t, lo, wa) (k + 1)).2.2.2.2.2.2.2.2] [g0, (mIt P Dn g0 g2 g3 g4 g5 g6 g7 (g1, g8, g9, g10, g11, g12, t, lo, wa) (k + 1)).1, g2, g3, g4, g5, g6, g7, (mIt P Dn g0 g2 g3 g4 g5 g6 g7 (g1, g8, g9, g10, g11, g12, t, lo, wa) (k + 1)).2.1, (mIt P Dn g0 g2 g3 g4 g5 g6 g7 (g1, g8, g9, g10, g11, g12, t, lo, wa) (k + 1)).2.2.1, (mIt P Dn g0 g2 g3 g4 g5 g6 g7 (g1, g8, g9, g10, g11, g12, t, lo, wa) (k + 1)).2.2.2.1, (mIt P Dn g0 g2 g3 g4 g5 g6 g7 (g1, g8, g9, g10, g11, g12, t, lo, wa) (k + 1)).2.2.2.2.1, (mIt P Dn g0 g2 g3 g4 g5 g6 g7 (g1, g8, g9, g10, g11, g12, t, lo, wa) (k + 1)).2.2.2.2.2.1]) [some (.ref q), some (.int (iI k)), some (.int (iI h)), a, b] 82 [] := by
            intro a b hnot
            refine g_iconst E dX1_clear_82 ?_
            refine g_goto E dX1_clear_83 (tgt := 87) (by decide) ?_
            refine g_istore_n E (lv' := [_, _, _, _, _]) dX1_clear_87 rfl (Nat.le_of_ble_eq_true rfl) rfl ?_
            refine g_iinc E (lv' := [_, _, _, _, _]) dX1_clear_88 rfl rfl ?_
            refine g_goto E dX1_clear_91 (tgt := 9) (by decide) ?_
            refine ih 1 _ _ (Or.inr rfl) (fun _ => rfl) (fun e => ?_)
            rcases hstop with e2 | e2 | ⟨k', e2, e3, e4⟩
            · exact Or.inr (Or.inl e2)
            · exact Or.inr (Or.inr e2)
            · have : k' = k := by omega
              subst this
              exact absurd ⟨e3, e4⟩ hnot
          refine g_if_gt E dX1_clear_75 (tgt := 82) (by decide) k4 (fun c1 => ?_) (fun c1 => ?_)
          · exact fin1 _ _ (fun h9 => absurd h9.1 (Int.not_le.mpr c1))
          · rcases hw with ⟨e1, e2⟩ | ⟨e1, i, e2, e3⟩
            · refine g_iload_n E dX1_clear_78 rfl rfl ?_
              refine g_if_eq_t E dX1_clear_79 (tgt := 86) (by decide) (by omega) (by omega) ?_
              refine g_iconst E dX1_clear_86 ?_
              refine g_istore_n E (lv' := [_, _, _, _, _]) dX1_clear_87 rfl (Nat.le_of_ble_eq_true rfl) rfl ?_
              refine g_iinc E (lv' := [_, _, _, _, _]) dX1_clear_88 rfl rfl ?_
              refine g_goto E dX1_clear_91 (tgt := 9) (by decide) ?_
              refine ih 0 _ _ (Or.inl rfl) (fun e => absurd ⟨Int.not_lt.mp c1, e2⟩ (hgo k e)) (fun e => Or.inl rfl)
            · refine g_iload_n E dX1_clear_78 rfl rfl ?_
              refine g_if_eq_f E dX1_clear_79 (tgt := 86) (by decide) (by omega) (by omega) ?_
              exact fin1 _ _ (fun h9 => absurd (h9.2 i e2) (Int.not_le.mpr e3))
        · intro j hj ih2 w9 hw
          have h2j := hs2 j
          have one : ∀ b : Option Value, (∃ i : Nat, i < j + 1 ∧ (mIt P Dn g0 g2 g3 g4 g5 g6 g7 (g1, g8, g9, g10, g11, g12, t, lo, wa) k).2.2.2.2.2.2.1 < g2 i) → gJ p l e (gR 6) s m args below meth c 0 0 Q A0 D (gM cI cZ q r [0, (P : Int), (Dn : Int), (mIt P Dn g0 g2 g3 g4 g5 g6 g7 (g1, g8, g9, g10, g11, g12, t, lo, wa) k).2.2.2.2.2.2.1, (mIt P Dn g0 g2 g3 g4 g5 g6 g7 (g1, g8, g9, g10, g11, g12, t, lo, wa) k).2.2.2.2.2.2.2.1, (mIt P Dn g0 g2 g3 g4 g5 g6 g7 (g1, g8, g9, g10, g11, g12, t, lo, wa) k).2.2.2.2.2.2.2.2] [g0, (mIt P Dn g0 g2 g3 g4 g5 g6 g7 (g1, g8, g9, g10, g11, g12, t, lo, wa) k).1, g2, g3, g4, g5, g6, g7, (mIt P Dn g0 g2 g3 g4 g5 g6 g7 (g1, g8, g9, g10, g11, g12, t, lo, wa) k).2.1, (mIt P Dn g0 g2 g3 g4 g5 g6 g7 (g1, g8, g9, g10, g11, g12, t, lo, wa) k).2.2.1, (mIt P Dn g0 g2 g3 g4 g5 g6 g7 (g1, g8, g9, g10, g11, g12, t, lo, wa) k).2.2.2.1, (mIt P Dn g0 g2 g3 g4 g5 g6 g7 (g1, g8, g9, g10, g11, g12, t, lo, wa) k).2.2.2.2.1, (mIt P Dn g0 g2 g3 g4 g5 g6 g7 (g1, g8, g9, g10, g11, g12, t, lo, wa) k).2.2.2.2.2.1]) [some (.ref q), some (.int (iI k)), some (.int (iI h)), b, some (.int (iI j))] 59 [] := by
            intro b hex
            refine g_iconst E dX1_clear_59 ?_
            refine g_goto E dX1_clear_60 (tgt := 64) (by decide) ?_
            refine g_istore_n E (lv' := [_, _, _, _, _]) dX1_clear_64 rfl (Nat.le_of_ble_eq_true rfl) rfl ?_
            refine g_iinc E (lv' := [_, _, _, _, _]) dX1_clear_65 rfl rfl ?_
            refine g_goto E dX1_clear_68 (tgt := 32) (by decide) ?_
            exact ih2 1 (Or.inr ⟨rfl, hex⟩)
          rcases hw with ⟨e1, e2⟩ | ⟨e1, i, e2, e3⟩
          · refine g_iload E dX1_clear_32 rfl ?_
            refine g_aload_n E dX1_clear_34 rfl rfl ?_
            refine g_getI E inX1_clear rfl flX1_clear_7 dX1_clear_35 (by decide) rfl rfl ?_
            refine g_icmp_ge_f E dX1_clear_38 (tgt := 71) (by decide) (by omega) (by omega) ?_
            refine g_iload_n E dX1_clear_41 rfl rfl ?_
            refine g_if_ne_f E dX1_clear_42 (tgt := 59) (by decide) (by omega) (by omega) ?_
            refine g_aload_n E dX1_clear_45 rfl rfl ?_
            refine g_getR E inX1_clear rfl flX1_clear_20 dX1_clear_46 (by decide) rfl ?_
            refine g_iload E dX1_clear_49 rfl ?_
            refine g_ald E dX1_clear_51 rfl rfl rfl (by omega) ?_
            refine g_aload_n E dX1_clear_52 rfl rfl ?_
            refine g_getI E inX1_clear rfl flX1_clear_92 dX1_clear_53 (by decide) rfl rfl ?_
            refine g_icmp_le E dX1_clear_56 (tgt := 63) (by decide) ⟨h2j, by omega⟩ (fun c1 => ?_) (fun c1 => ?_)
            · refine g_iconst E dX1_clear_63 ?_
              refine g_istore_n E (lv' := [_, _, _, _, _]) dX1_clear_64 rfl (Nat.le_of_ble_eq_true rfl) rfl ?_
              refine g_iinc E (lv' := [_, _, _, _, _]) dX1_clear_65 rfl rfl ?_
              refine g_goto E dX1_clear_68 (tgt := 32) (by decide) ?_
              refine ih2 0 (Or.inl ⟨rfl, fun i hi => ?_⟩)
              rcases Nat.lt_or_ge i j with h9 | h9
              · exact e2 i h9
              · rw [show i = j by omega]
                exact c1
            · exact one _ ⟨j, by omega, Int.not_le.mp c1⟩
          · refine g_iload E dX1_clear_32 rfl ?_
            refine g_aload_n E dX1_clear_34 rfl rfl ?_
            refine g_getI E inX1_clear rfl flX1_clear_7 dX1_clear_35 (by decide) rfl rfl ?_
            refine g_icmp_ge_f E dX1_clear_38 (tgt := 71) (by decide) (by omega) (by omega) ?_
            refine g_iload_n E dX1_clear_41 rfl rfl ?_
            refine g_if_ne_t E dX1_clear_42 (tgt := 59) (by decide) (by omega) (by omega) ?_
            exact one _ ⟨i, by omega, e3⟩
      refine g_iload_n E dX1_clear_9 rfl rfl ?_
      refine g_if_eq_f E dX1_clear_10 (tgt := 94) (by decide) (by omega) (by omega) ?_
      refine g_aload_n E dX1_clear_13 rfl rfl ?_
      refine g_callI0 E (cM_insideNow hP) (cwV 0 hts gX1_clear_X1_insideNow rfl rfl rfl hdX1_insideNow ⟨(Nat.le_of_ble_eq_true rfl), (Nat.le_of_ble_eq_true rfl)⟩) rfl rfl rfl (Nat.le_of_ble_eq_true rfl) gW_0 rfl dX1_clear_14 ⟨Nat.zero_le _, Nat.zero_le _⟩ ?_
      refine g_if_le_f E dX1_clear_17 (tgt := 94) (by decide) k5 (Int.not_le.mpr hi) ?_
      refine g_iload_n E dX1_clear_20 rfl rfl ?_
      refine g_sipush E dX1_clear_21 (by decide) ?_
      refine g_icmp_ge_f E dX1_clear_24 (tgt := 94) (by decide) (by omega) (by omega) ?_
      refine g_iconst E dX1_clear_27 ?_
      refine g_istore_n E (lv' := [_, _, _, _, _]) dX1_clear_28 rfl (Nat.le_of_ble_eq_true rfl) rfl ?_
      refine g_iconst E dX1_clear_29 ?_
      refine g_istore E (lv' := [_, _, _, _, _]) dX1_clear_30 (Nat.le_of_ble_eq_true rfl) rfl ?_
      exact key2 0 (by omega) 0 (Or.inl ⟨rfl, fun i hi => absurd hi (Nat.not_lt_zero i)⟩)
  refine g_aload_n E dX1_clear_0 rfl rfl ?_
  refine g_iconst E dX1_clear_1 ?_
  refine g_putI E (F' := [_, _, _, _, _, _]) inX1_clear rfl flX1_clear_57 dX1_clear_2 tyX1_ok nmX1 (by decide) rfl (by decide) rfl (by decide +kernel) (Nat.le_of_ble_eq_true rfl) rfl ?_
  refine g_iconst E dX1_clear_5 ?_
  refine g_istore_n E (lv' := [_, _, _, _, _]) dX1_clear_6 rfl (Nat.le_of_ble_eq_true rfl) rfl ?_
  refine g_iconst E dX1_clear_7 ?_
  refine g_istore_n E (lv' := [_, _, _, _, _]) dX1_clear_8 rfl (Nat.le_of_ble_eq_true rfl) rfl ?_
  refine key 0 (by omega) 1 _ _ (Or.inr rfl) (fun _ => rfl) (fun e => ?_)
  rcases hstop with e2 | e2 | ⟨k', e2, e3, e4⟩
  · exact Or.inr (Or.inl e2)
  · exact Or.inr (Or.inr e2)
  · omega
