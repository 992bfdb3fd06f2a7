set_option maxRecDepth 100000 in
theorem tk_requireArgument1 : Cond.classLink RX0 171 gIA ∈ wsX0_requireArgument := by decide +kernel
set_option maxRecDepth 100000 in
theorem tk_requireArgument2 : Cond.initialized gIA ∈ wsX0_requireArgument := by decide +kernel
set_option maxRecDepth 100000 in
theorem tk_requireArgument3 : ∀ w ∈ (vx_atS RX0 175 gIA gNSnames).filter goodWord, w ∈ wsX0_requireArgument := by decide +kernel
set_option maxRecDepth 100000 in
theorem tk_requireArgument4 : ∀ w ∈ (vx_atS RX0 175 gIA gNSnames).filter (fun w => !goodWord w), w ∈ gBad gIA := by decide +kernel
set_option maxRecDepth 100000 in
theorem tk_requireArgument5 : ∀ w ∈ Cond.classLink RX0 171 gIA :: Cond.initialized gIA :: vx_atS RX0 175 gIA gNSnames, vx_ot w = true := by decide +kernel
set_option maxRecDepth 100000 in
theorem tk_requireDoor1 : Cond.classLink RX0 162 gIX ∈ wsX0_requireDoor := by decide +kernel
set_option maxRecDepth 100000 in
theorem tk_requireDoor2 : Cond.initialized gIX ∈ wsX0_requireDoor := by decide +kernel
set_option maxRecDepth 100000 in
theorem tk_requireDoor3 : ∀ w ∈ (vx_atS RX0 166 gIX gNSnames).filter goodWord, w ∈ wsX0_requireDoor := by decide +kernel
set_option maxRecDepth 100000 in
theorem tk_requireDoor4 : ∀ w ∈ (vx_atS RX0 166 gIX gNSnames).filter (fun w => !goodWord w), w ∈ gBad gIX := by decide +kernel
set_option maxRecDepth 100000 in
theorem tk_requireDoor5 : ∀ w ∈ Cond.classLink RX0 162 gIX :: Cond.initialized gIX :: vx_atS RX0 166 gIX gNSnames, vx_ot w = true := by decide +kernel
set_option maxRecDepth 100000 in
theorem tk_requireElement1 : Cond.classLink RX0 181 gNS ∈ wsX0_requireElement := by decide +kernel
set_option maxRecDepth 100000 in
theorem tk_requireElement2 : Cond.initialized gNS ∈ wsX0_requireElement := by decide +kernel
set_option maxRecDepth 100000 in
theorem tk_requireElement3 : ∀ w ∈ gNSat.filter goodWord, w ∈ wsX0_requireElement := by decide +kernel
set_option maxRecDepth 100000 in
theorem tk_requirePlace1 : Cond.classLink RX0 162 gIX ∈ wsX0_requirePlace := by decide +kernel
set_option maxRecDepth 100000 in
theorem tk_requirePlace2 : Cond.initialized gIX ∈ wsX0_requirePlace := by decide +kernel
set_option maxRecDepth 100000 in
theorem tk_requirePlace3 : ∀ w ∈ (vx_atS RX0 166 gIX gNSnames).filter goodWord, w ∈ wsX0_requirePlace := by decide +kernel
set_option maxRecDepth 100000 in
theorem tk_requirePlace4 : ∀ w ∈ (vx_atS RX0 166 gIX gNSnames).filter (fun w => !goodWord w), w ∈ gBad gIX := by decide +kernel
set_option maxRecDepth 100000 in
theorem tk_requirePlace5 : ∀ w ∈ Cond.classLink RX0 162 gIX :: Cond.initialized gIX :: vx_atS RX0 166 gIX gNSnames, vx_ot w = true := by decide +kernel
set_option maxRecDepth 100000 in
theorem tk_requireState1 : Cond.classLink RX0 176 gIS ∈ wsX0_requireState := by decide +kernel
set_option maxRecDepth 100000 in
theorem tk_requireState2 : Cond.initialized gIS ∈ wsX0_requireState := by decide +kernel
set_option maxRecDepth 100000 in
theorem tk_requireState3 : ∀ w ∈ (vx_atS RX0 180 gIS gNSnames).filter goodWord, w ∈ wsX0_requireState := by decide +kernel
set_option maxRecDepth 100000 in
theorem tk_requireState4 : ∀ w ∈ (vx_atS RX0 180 gIS gNSnames).filter (fun w => !goodWord w), w ∈ gBad gIS := by decide +kernel
set_option maxRecDepth 100000 in
theorem tk_requireState5 : ∀ w ∈ Cond.classLink RX0 176 gIS :: Cond.initialized gIS :: vx_atS RX0 180 gIS gNSnames, vx_ot w = true := by decide +kernel
set_option maxHeartbeats 4000000 in
set_option maxRecDepth 100000 in
theorem tX_requirePlace {l : Launch} {D : va_G} {cI cZ : ClassId} {q : Nat} {r : Nat → Nat} {P Dn : Nat} {t la wa : Int} {f0 f1 f2 f3 f4 f5 f6 f7 f8 f9 f10 f11 f12 f13 : Nat → Int} (hfl : l.stackTraces = false) {x : Int} (hg : -2147483648 ≤ x ∧ x < 2147483648) (hn : P ≤ 16) (hx : x < 0 ∨ P ≤ x) : gMT l yX0_requirePlace wsX0_requirePlace 6 D (gTy cI cZ) (gX cI cZ q r [(P : Int), (Dn : Int), t, la, wa] [f0, f1, f2, f3, f4, f5, f6, f7, f8, f9, f10, f11, f12, f13]) [.ref q, .int (iI x)] gIX := by
  refine g_ofT (by decide +kernel) rfl rfl (Nat.le_of_ble_eq_true rfl) (g_cat1 rfl) ?_
  intro p e s m args below meth c A0 E hT hlk htb
  have hts := E.1.2.2.2.2
  show gJ p l e (gRx 6) s m args below meth c 0 0 (gQT below args s D (gTy cI cZ) (gX cI cZ q r [(P : Int), (Dn : Int), t, la, wa] [f0, f1, f2, f3, f4, f5, f6, f7, f8, f9, f10, f11, f12, f13]) gIX A0) A0 D (gX cI cZ q r [(P : Int), (Dn : Int), t, la, wa] [f0, f1, f2, f3, f4, f5, f6, f7, f8, f9, f10, f11, f12, f13]) [some (.ref q), some (.int (iI x))] 0 []
  refine g_aload_n E dX0_requirePlace_0 rfl rfl ?_
  refine g_iload_n E dX0_requirePlace_1 rfl rfl ?_
  refine g_callI0 E (cX_isPlace (rv := 0) (by omega) (Or.inr ⟨rfl, by omega⟩)) (cwV 1 hts gX0_requirePlace_X0_isPlace rfl rfl rfl hdX0_isPlace ⟨(Nat.le_of_ble_eq_true rfl), (Nat.le_of_ble_eq_true rfl)⟩) rfl rfl rfl (Nat.le_of_ble_eq_true rfl) gW_0 rfl dX0_requirePlace_2 ⟨Nat.zero_le _, Nat.zero_le _⟩ ?_
  refine g_if_ne_f E dX0_requirePlace_5 (tgt := 18) (by decide) (by omega) (by omega) ?_
  exact g_throw E (names := gNSnames) (text := "no such place") hfl hT hlk htb rfl (by decide +kernel) (by decide +kernel) tk_requirePlace1 tk_requirePlace2 rfl (by decide +kernel) (by decide +kernel) tk_requirePlace3 tk_requirePlace4 tk_requirePlace5 dX0_requirePlace_8 dX0_requirePlace_11 dX0_requirePlace_12 dX0_requirePlace_14 dX0_requirePlace_17 (Nat.le_of_ble_eq_true rfl) (Nat.le_of_ble_eq_true rfl) ⟨(Nat.le_of_ble_eq_true rfl), (Nat.le_of_ble_eq_true rfl)⟩
set_option maxHeartbeats 4000000 in
set_option maxRecDepth 100000 in
theorem tX_requireDoor {l : Launch} {D : va_G} {cI cZ : ClassId} {q : Nat} {r : Nat → Nat} {P Dn : Nat} {t la wa : Int} {f0 f1 f2 f3 f4 f5 f6 f7 f8 f9 f10 f11 f12 f13 : Nat → Int} (hfl : l.stackTraces = false) {x : Int} (hg : -2147483648 ≤ x ∧ x < 2147483648) (hn : Dn ≤ 16) (hx : x < 0 ∨ Dn ≤ x) : gMT l yX0_requireDoor wsX0_requireDoor 6 D (gTy cI cZ) (gX cI cZ q r [(P : Int), (Dn : Int), t, la, wa] [f0, f1, f2, f3, f4, f5, f6, f7, f8, f9, f10, f11, f12, f13]) [.ref q, .int (iI x)] gIX := by
  refine g_ofT (by decide +kernel) rfl rfl (Nat.le_of_ble_eq_true rfl) (g_cat1 rfl) ?_
  intro p e s m args below meth c A0 E hT hlk htb
  have hts := E.1.2.2.2.2
  show gJ p l e (gRx 6) s m args below meth c 0 0 (gQT below args s D (gTy cI cZ) (gX cI cZ q r [(P : Int), (Dn : Int), t, la, wa] [f0, f1, f2, f3, f4, f5, f6, f7, f8, f9, f10, f11, f12, f13]) gIX A0) A0 D (gX cI cZ q r [(P : Int), (Dn : Int), t, la, wa] [f0, f1, f2, f3, f4, f5, f6, f7, f8, f9, f10, f11, f12, f13]) [some (.ref q), some (.int (iI x))] 0 []
  refine g_aload_n E dX0_requireDoor_0 rfl rfl ?_
  refine g_iload_n E dX0_requireDoor_1 rfl rfl ?_
  refine g_callI0 E (cX_isDoor (rv := 0) (by omega) (Or.inr ⟨rfl, by omega⟩)) (cwV 1 hts gX0_requireDoor_X0_isDoor rfl rfl rfl hdX0_isDoor ⟨(Nat.le_of_ble_eq_true rfl), (Nat.le_of_ble_eq_true rfl)⟩) rfl rfl rfl (Nat.le_of_ble_eq_true rfl) gW_0 rfl dX0_requireDoor_2 ⟨Nat.zero_le _, Nat.zero_le _⟩ ?_
  refine g_if_ne_f E dX0_requireDoor_5 (tgt := 18) (by decide) (by omega) (by omega) ?_
  exact g_throw E (names := gNSnames) (text := "no such door") hfl hT hlk htb rfl (by decide +kernel) (by decide +kernel) tk_requireDoor1 tk_requireDoor2 rfl (by decide +kernel) (by decide +kernel) tk_requireDoor3 tk_requireDoor4 tk_requireDoor5 dX0_requireDoor_8 dX0_requireDoor_11 dX0_requireDoor_12 dX0_requireDoor_14 dX0_requireDoor_17 (Nat.le_of_ble_eq_true rfl) (Nat.le_of_ble_eq_true rfl) ⟨(Nat.le_of_ble_eq_true rfl), (Nat.le_of_ble_eq_true rfl)⟩
set_option maxHeartbeats 4000000 in
set_option maxRecDepth 100000 in
theorem tX_requireArgument {l : Launch} {D : va_G} {cI cZ : ClassId} (hfl : l.stackTraces = false) {x : Int} (hx : x = 0) : gMT l yX0_requireArgument wsX0_requireArgument 6 D (gTy cI cZ) [] [.int (iI x)] gIA := by
  refine g_ofT (by decide +kernel) rfl rfl (Nat.le_of_ble_eq_true rfl) (g_cat1 rfl) ?_
  intro p e s m args below meth c A0 E hT hlk htb
  have hts := E.1.2.2.2.2
  show gJ p l e (gRx 6) s m args below meth c 0 0 (gQT below args s D (gTy cI cZ) [] gIA A0) A0 D [] [some (.int (iI x))] 0 []
  subst hx
  refine g_iload_n E dX0_requireArgument_0 rfl rfl ?_
  refine g_if_ne_f E dX0_requireArgument_1 (tgt := 14) (by decide) (by omega) (by omega) ?_
  exact g_throw E (names := gNSnames) (text := "an argument is out of range") hfl hT hlk htb rfl (by decide +kernel) (by decide +kernel) tk_requireArgument1 tk_requireArgument2 rfl (by decide +kernel) (by decide +kernel) tk_requireArgument3 tk_requireArgument4 tk_requireArgument5 dX0_requireArgument_4 dX0_requireArgument_7 dX0_requireArgument_8 dX0_requireArgument_10 dX0_requireArgument_13 (Nat.le_of_ble_eq_true rfl) (Nat.le_of_ble_eq_true rfl) ⟨(Nat.le_of_ble_eq_true rfl), (Nat.le_of_ble_eq_true rfl)⟩
set_option maxHeartbeats 4000000 in
set_option maxRecDepth 100000 in
theorem tX_requireState {l : Launch} {D : va_G} {cI cZ : ClassId} (hfl : l.stackTraces = false) {x : Int} (hx : x = 0) : gMT l yX0_requireState wsX0_requireState 6 D (gTy cI cZ) [] [.int (iI x)] gIS := by
  refine g_ofT (by decide +kernel) rfl rfl (Nat.le_of_ble_eq_true rfl) (g_cat1 rfl) ?_
  intro p e s m args below meth c A0 E hT hlk htb
  have hts := E.1.2.2.2.2
  show gJ p l e (gRx 6) s m args below meth c 0 0 (gQT below args s D (gTy cI cZ) [] gIS A0) A0 D [] [some (.int (iI x))] 0 []
  subst hx
  refine g_iload_n E dX0_requireState_0 rfl rfl ?_
  refine g_if_ne_f E dX0_requireState_1 (tgt := 14) (by decide) (by omega) (by omega) ?_
  exact g_throw E (names := gNSnames) (text := "the bench does not allow this now") hfl hT hlk htb rfl (by decide +kernel) (by decide +kernel) tk_requireState1 tk_requireState2 rfl (by decide +kernel) (by decide +kernel) tk_requireState3 tk_requireState4 tk_requireState5 dX0_requireState_4 dX0_requireState_7 dX0_requireState_8 dX0_requireState_10 dX0_requireState_13 (Nat.le_of_ble_eq_true rfl) (Nat.le_of_ble_eq_true rfl) ⟨(Nat.le_of_ble_eq_true rfl), (Nat.le_of_ble_eq_true rfl)⟩
set_option maxHeartbeats 4000000 in
set_option maxRecDepth 100000 in
theorem tX_requireElement {l : Launch} {D : va_G} {cI cZ : ClassId} (hfl : l.stackTraces = false) {x : Int} (hx : x = 0) : gMT l yX0_requireElement wsX0_requireElement 6 D (gTy cI cZ) [] [.int (iI x)] gNS := by
  refine g_ofT (by decide +kernel) rfl rfl (Nat.le_of_ble_eq_true rfl) (g_cat1 rfl) ?_
  intro p e s m args below meth c A0 E hT hlk htb
  have hts := E.1.2.2.2.2
  show gJ p l e (gRx 6) s m args below meth c 0 0 (gQT below args s D (gTy cI cZ) [] gNS A0) A0 D [] [some (.int (iI x))] 0 []
  subst hx
  refine g_iload_n E dX0_requireElement_0 rfl rfl ?_
  refine g_if_ne_f E dX0_requireElement_1 (tgt := 14) (by decide) (by omega) (by omega) ?_
  exact g_throwNS E hfl hT hlk htb rfl tk_requireElement1 tk_requireElement2 tk_requireElement3 dX0_requireElement_4 dX0_requireElement_7 dX0_requireElement_8 dX0_requireElement_10 dX0_requireElement_13 (Nat.le_of_ble_eq_true rfl) (Nat.le_of_ble_eq_true rfl) ⟨(Nat.le_of_ble_eq_true rfl), (Nat.le_of_ble_eq_true rfl)⟩
set_option maxHeartbeats 4000000 in
set_option maxRecDepth 100000 in
theorem tX_addPlace1 {l : Launch} {D : va_G} {cI cZ : ClassId} {q : Nat} {r : Nat → Nat} {P Dn : Nat} {t la wa : Int} {f0 f1 f2 f3 f4 f5 f6 f7 f8 f9 f10 f11 f12 f13 : Nat → Int} (hfl : l.stackTraces = false) {x : Int} (hgx : -2147483648 ≤ x ∧ x < 2147483648) (hx : x < 1 ∨ 30 < x) : gMT l yX0_addPlace wsX0_addPlace 7 D (gTy cI cZ) (gX cI cZ q r [(P : Int), (Dn : Int), t, la, wa] [f0, f1, f2, f3, f4, f5, f6, f7, f8, f9, f10, f11, f12, f13]) [.ref q, .int (iI x)] gIA := by
  refine g_ofT (by decide +kernel) rfl rfl (Nat.le_of_ble_eq_true rfl) (g_cat1 rfl) ?_
  intro p e s m args below meth c A0 E hT hlk htb
  have hts := E.1.2.2.2.2
  show gJ p l e (gRx 7) s m args below meth c 0 0 (gQT below args s D (gTy cI cZ) (gX cI cZ q r [(P : Int), (Dn : Int), t, la, wa] [f0, f1, f2, f3, f4, f5, f6, f7, f8, f9, f10, f11, f12, f13]) gIA A0) A0 D (gX cI cZ q r [(P : Int), (Dn : Int), t, la, wa] [f0, f1, f2, f3, f4, f5, f6, f7, f8, f9, f10, f11, f12, f13]) [some (.ref q), some (.int (iI x)), none] 0 []
  refine g_iload_n E dX0_addPlace_0 rfl rfl ?_
  refine g_iconst E dX0_addPlace_1 ?_
  refine g_bipush E dX0_addPlace_2 (by decide) ?_
  refine g_callSI E (cX_isBetween (rv := 0) (by omega) (Or.inr ⟨rfl, by omega⟩)) (va_cwS 3 hts gX0_addPlace_X0_isBetween rfl rfl rfl hdX0_isBetween.2 ⟨(Nat.le_of_ble_eq_true rfl), (Nat.le_of_ble_eq_true rfl)⟩) rfl rfl rfl (Nat.le_of_ble_eq_true rfl) dX0_addPlace_4 ⟨Nat.zero_le _, Nat.zero_le _⟩ ?_
  exact g_callTS E (tX_requireArgument hfl rfl) hT hlk htb (va_cwS 1 hts gX0_addPlace_X0_requireArgument rfl rfl rfl hdX0_requireArgument.2 ⟨(Nat.le_of_ble_eq_true rfl), (Nat.le_of_ble_eq_true rfl)⟩) rfl rfl rfl (Nat.le_of_ble_eq_true rfl) dX0_addPlace_7 ⟨(Nat.le_of_ble_eq_true rfl), (Nat.le_of_ble_eq_true rfl)⟩
set_option maxHeartbeats 4000000 in
set_option maxRecDepth 100000 in
theorem tX_addPlace2 {l : Launch} {D : va_G} {cI cZ : ClassId} {q : Nat} {r : Nat → Nat} {P Dn : Nat} {t la wa : Int} {f0 f1 f2 f3 f4 f5 f6 f7 f8 f9 f10 f11 f12 f13 : Nat → Int} (hfl : l.stackTraces = false) {x : Int} (hx : 1 ≤ x ∧ x ≤ 30) (hP : 1 ≤ P ∧ P ≤ 11) (hP11 : P = 11) : gMT l yX0_addPlace wsX0_addPlace 7 D (gTy cI cZ) (gX cI cZ q r [(P : Int), (Dn : Int), t, la, wa] [f0, f1, f2, f3, f4, f5, f6, f7, f8, f9, f10, f11, f12, f13]) [.ref q, .int (iI x)] gIS := by
  refine g_ofT (by decide +kernel) rfl rfl (Nat.le_of_ble_eq_true rfl) (g_cat1 rfl) ?_
  intro p e s m args below meth c A0 E hT hlk htb
  have hts := E.1.2.2.2.2
  show gJ p l e (gRx 7) s m args below meth c 0 0 (gQT below args s D (gTy cI cZ) (gX cI cZ q r [(P : Int), (Dn : Int), t, la, wa] [f0, f1, f2, f3, f4, f5, f6, f7, f8, f9, f10, f11, f12, f13]) gIS A0) A0 D (gX cI cZ q r [(P : Int), (Dn : Int), t, la, wa] [f0, f1, f2, f3, f4, f5, f6, f7, f8, f9, f10, f11, f12, f13]) [some (.ref q), some (.int (iI x)), none] 0 []
  refine g_iload_n E dX0_addPlace_0 rfl rfl ?_
  refine g_iconst E dX0_addPlace_1 ?_
  refine g_bipush E dX0_addPlace_2 (by decide) ?_
  refine g_callSI E (cX_isBetween (rv := 1) (by omega) (Or.inl ⟨rfl, by omega, by omega⟩)) (va_cwS 3 hts gX0_addPlace_X0_isBetween rfl rfl rfl hdX0_isBetween.2 ⟨(Nat.le_of_ble_eq_true rfl), (Nat.le_of_ble_eq_true rfl)⟩) rfl rfl rfl (Nat.le_of_ble_eq_true rfl) dX0_addPlace_4 ⟨Nat.zero_le _, Nat.zero_le _⟩ ?_
  refine g_callSV E (cX_requireArgument rfl) (va_cwS 1 hts gX0_addPlace_X0_requireArgument rfl rfl rfl hdX0_requireArgument.2 ⟨(Nat.le_of_ble_eq_true rfl), (Nat.le_of_ble_eq_true rfl)⟩) rfl rfl rfl (Nat.le_of_ble_eq_true rfl) dX0_addPlace_7 ⟨Nat.zero_le _, Nat.zero_le _⟩ ?_
  refine g_aload_n E dX0_addPlace_10 rfl rfl ?_
  refine g_getI E inX0_addPlace rfl flX0_addPlace_53 dX0_addPlace_11 (by decide) rfl rfl ?_
  refine g_bipush E dX0_addPlace_14 (by decide) ?_
  refine g_icmp_ge_t E dX0_addPlace_16 (tgt := 23) (by decide) (by omega) (by omega) ?_
  refine g_iconst E dX0_addPlace_23 ?_
  exact g_callTS E (tX_requireState hfl rfl) hT hlk htb (va_cwS 1 hts gX0_addPlace_X0_requireState rfl rfl rfl hdX0_requireState.2 ⟨(Nat.le_of_ble_eq_true rfl), (Nat.le_of_ble_eq_true rfl)⟩) rfl rfl rfl (Nat.le_of_ble_eq_true rfl) dX0_addPlace_24 ⟨(Nat.le_of_ble_eq_true rfl), (Nat.le_of_ble_eq_true rfl)⟩
set_option maxHeartbeats 4000000 in
set_option maxRecDepth 100000 in
theorem tX_addDoor1 {l : Launch} {D : va_G} {cI cZ : ClassId} {q : Nat} {r : Nat → Nat} {P Dn : Nat} {t la wa : Int} {f0 f1 f2 f3 f4 f5 f6 f7 f8 f9 f10 f11 f12 f13 : Nat → Int} (hfl : l.stackTraces = false) {x y z v : Int} (hgx : -2147483648 ≤ x ∧ x < 2147483648) (hgy : -2147483648 ≤ y ∧ y < 2147483648) (hgz : -2147483648 ≤ z ∧ z < 2147483648) (hgv : -2147483648 ≤ v ∧ v < 2147483648) (hP : 1 ≤ P ∧ P ≤ 11) (hDn : Dn ≤ 16) (hx : x < 0 ∨ P ≤ x ∨ y < 0 ∨ P ≤ y) : gMT l yX0_addDoor wsX0_addDoor 7 D (gTy cI cZ) (gX cI cZ q r [(P : Int), (Dn : Int), t, la, wa] [f0, f1, f2, f3, f4, f5, f6, f7, f8, f9, f10, f11, f12, f13]) [.ref q, .int (iI x), .int (iI y), .int (iI z), .int (iI v)] gIX := by
  refine g_ofT (by decide +kernel) rfl rfl (Nat.le_of_ble_eq_true rfl) (g_cat1 rfl) ?_
  intro p e s m args below meth c A0 E hT hlk htb
  have hts := E.1.2.2.2.2
  show gJ p l e (gRx 7) s m args below meth c 0 0 (gQT below args s D (gTy cI cZ) (gX cI cZ q r [(P : Int), (Dn : Int), t, la, wa] [f0, f1, f2, f3, f4, f5, f6, f7, f8, f9, f10, f11, f12, f13]) gIX A0) A0 D (gX cI cZ q r [(P : Int), (Dn : Int), t, la, wa] [f0, f1, f2, f3, f4, f5, f6, f7, f8, f9, f10, f11, f12, f13]) [some (.ref q), some (.int (iI x)), some (.int (iI y)), some (.int (iI z)), some (.int (iI v)), none] 0 []
  by_cases h1 : x < 0 ∨ P ≤ x
  · refine g_aload_n E dX0_addDoor_0 rfl rfl ?_
    refine g_iload_n E dX0_addDoor_1 rfl rfl ?_
    exact g_callT E (tX_requirePlace hfl hgx (by omega) h1) hT hlk htb (cwV 1 hts gX0_addDoor_X0_requirePlace rfl rfl rfl hdX0_requirePlace ⟨(Nat.le_of_ble_eq_true rfl), (Nat.le_of_ble_eq_true rfl)⟩) rfl rfl rfl (Nat.le_of_ble_eq_true rfl) gW_0 rfl dX0_addDoor_2 ⟨(Nat.le_of_ble_eq_true rfl), (Nat.le_of_ble_eq_true rfl)⟩
  · refine g_aload_n E dX0_addDoor_0 rfl rfl ?_
    refine g_iload_n E dX0_addDoor_1 rfl rfl ?_
    refine g_callV0 E (cX_requirePlace (by omega) (by omega)) (cwV 1 hts gX0_addDoor_X0_requirePlace rfl rfl rfl hdX0_requirePlace ⟨(Nat.le_of_ble_eq_true rfl), (Nat.le_of_ble_eq_true rfl)⟩) rfl rfl rfl (Nat.le_of_ble_eq_true rfl) gW_0 rfl dX0_addDoor_2 ⟨Nat.zero_le _, Nat.zero_le _⟩ ?_
    refine g_aload_n E dX0_addDoor_5 rfl rfl ?_
    refine g_iload_n E dX0_addDoor_6 rfl rfl ?_
    exact g_callT E (tX_requirePlace hfl hgy (by omega) (by omega)) hT hlk htb (cwV 1 hts gX0_addDoor_X0_requirePlace rfl rfl rfl hdX0_requirePlace ⟨(Nat.le_of_ble_eq_true rfl), (Nat.le_of_ble_eq_true rfl)⟩) rfl rfl rfl (Nat.le_of_ble_eq_true rfl) gW_0 rfl dX0_addDoor_7 ⟨(Nat.le_of_ble_eq_true rfl), (Nat.le_of_ble_eq_true rfl)⟩
set_option maxHeartbeats 4000000 in
set_option maxRecDepth 100000 in
theorem tX_addDoor2 {l : Launch} {D : va_G} {cI cZ : ClassId} {q : Nat} {r : Nat → Nat} {P Dn : Nat} {t la wa : Int} {f0 f1 f2 f3 f4 f5 f6 f7 f8 f9 f10 f11 f12 f13 : Nat → Int} (hfl : l.stackTraces = false) {x y z v : Int} (hgx : -2147483648 ≤ x ∧ x < 2147483648) (hgy : -2147483648 ≤ y ∧ y < 2147483648) (hgz : -2147483648 ≤ z ∧ z < 2147483648) (hgv : -2147483648 ≤ v ∧ v < 2147483648) (hP : 1 ≤ P ∧ P ≤ 11) (hDn : Dn ≤ 16) (hx : 0 ≤ x ∧ x < P) (hy : 0 ≤ y ∧ y < P) (hz : x = y ∨ z < 1 ∨ 9 < z ∨ v < 1 ∨ 5 < v) : gMT l yX0_addDoor wsX0_addDoor 7 D (gTy cI cZ) (gX cI cZ q r [(P : Int), (Dn : Int), t, la, wa] [f0, f1, f2, f3, f4, f5, f6, f7, f8, f9, f10, f11, f12, f13]) [.ref q, .int (iI x), .int (iI y), .int (iI z), .int (iI v)] gIA := by
  refine g_ofT (by decide +kernel) rfl rfl (Nat.le_of_ble_eq_true rfl) (g_cat1 rfl) ?_
  intro p e s m args below meth c A0 E hT hlk htb
  have hts := E.1.2.2.2.2
  show gJ p l e (gRx 7) s m args below meth c 0 0 (gQT below args s D (gTy cI cZ) (gX cI cZ q r [(P : Int), (Dn : Int), t, la, wa] [f0, f1, f2, f3, f4, f5, f6, f7, f8, f9, f10, f11, f12, f13]) gIA A0) A0 D (gX cI cZ q r [(P : Int), (Dn : Int), t, la, wa] [f0, f1, f2, f3, f4, f5, f6, f7, f8, f9, f10, f11, f12, f13]) [some (.ref q), some (.int (iI x)), some (.int (iI y)), some (.int (iI z)), some (.int (iI v)), none] 0 []
  have fin : ∀ a5 : Option Value, gJ p l e (gRx 7) s m args below meth c 0 0 (gQT below args s D (gTy cI cZ) (gX cI cZ q r [(P : Int), (Dn : Int), t, la, wa] [f0, f1, f2, f3, f4, f5, f6, f7, f8, f9, f10, f11, f12, f13]) gIA A0) A0 D (gX cI cZ q r [(P : Int), (Dn : Int), t, la, wa] [f0, f1, f2, f3, f4, f5, f6, f7, f8, f9, f10, f11, f12, f13]) [some (.ref q), some (.int (iI x)), some (.int (iI y)), some (.int (iI z)), some (.int (iI v)), a5] 39 [] := by
    intro a5
    refine g_iconst E dX0_addDoor_39 ?_
    exact g_callTS E (tX_requireArgument hfl rfl) hT hlk htb (va_cwS 1 hts gX0_addDoor_X0_requireArgument rfl rfl rfl hdX0_requireArgument.2 ⟨(Nat.le_of_ble_eq_true rfl), (Nat.le_of_ble_eq_true rfl)⟩) rfl rfl rfl (Nat.le_of_ble_eq_true rfl) dX0_addDoor_40 ⟨(Nat.le_of_ble_eq_true rfl), (Nat.le_of_ble_eq_true rfl)⟩
  by_cases h1 : x = y
  · refine g_aload_n E dX0_addDoor_0 rfl rfl ?_
    refine g_iload_n E dX0_addDoor_1 rfl rfl ?_
    refine g_callV0 E (cX_requirePlace (by omega) (by omega)) (cwV 1 hts gX0_addDoor_X0_requirePlace rfl rfl rfl hdX0_requirePlace ⟨(Nat.le_of_ble_eq_true rfl), (Nat.le_of_ble_eq_true rfl)⟩) rfl rfl rfl (Nat.le_of_ble_eq_true rfl) gW_0 rfl dX0_addDoor_2 ⟨Nat.zero_le _, Nat.zero_le _⟩ ?_
    refine g_aload_n E dX0_addDoor_5 rfl rfl ?_
    refine g_iload_n E dX0_addDoor_6 rfl rfl ?_
    refine g_callV0 E (cX_requirePlace (by omega) (by omega)) (cwV 1 hts gX0_addDoor_X0_requirePlace rfl rfl rfl hdX0_requirePlace ⟨(Nat.le_of_ble_eq_true rfl), (Nat.le_of_ble_eq_true rfl)⟩) rfl rfl rfl (Nat.le_of_ble_eq_true rfl) gW_0 rfl dX0_addDoor_7 ⟨Nat.zero_le _, Nat.zero_le _⟩ ?_
    refine g_iload_n E dX0_addDoor_10 rfl rfl ?_
    refine g_iload_n E dX0_addDoor_11 rfl rfl ?_
    refine g_icmp_eq_t E dX0_addDoor_12 (tgt := 39) (by decide) (by omega) (by omega) ?_
    exact fin _
  · by_cases h2 : 1 ≤ z ∧ z ≤ 9
    · refine g_aload_n E dX0_addDoor_0 rfl rfl ?_
      refine g_iload_n E dX0_addDoor_1 rfl rfl ?_
      refine g_callV0 E (cX_requirePlace (by omega) (by omega)) (cwV 1 hts gX0_addDoor_X0_requirePlace rfl rfl rfl hdX0_requirePlace ⟨(Nat.le_of_ble_eq_true rfl), (Nat.le_of_ble_eq_true rfl)⟩) rfl rfl rfl (Nat.le_of_ble_eq_true rfl) gW_0 rfl dX0_addDoor_2 ⟨Nat.zero_le _, Nat.zero_le _⟩ ?_
      refine g_aload_n E dX0_addDoor_5 rfl rfl ?_
      refine g_iload_n E dX0_addDoor_6 rfl rfl ?_
      refine g_callV0 E (cX_requirePlace (by omega) (by omega)) (cwV 1 hts gX0_addDoor_X0_requirePlace rfl rfl rfl hdX0_requirePlace ⟨(Nat.le_of_ble_eq_true rfl), (Nat.le_of_ble_eq_true rfl)⟩) rfl rfl rfl (Nat.le_of_ble_eq_true rfl) gW_0 rfl dX0_addDoor_7 ⟨Nat.zero_le _, Nat.zero_le _⟩ ?_
      refine g_iload_n E dX0_addDoor_10 rfl rfl ?_
      refine g_iload_n E dX0_addDoor_11 rfl rfl ?_
      refine g_icmp_eq_f E dX0_addDoor_12 (tgt := 39) (by decide) (by omega) (by omega) ?_
      refine g_iload_n E dX0_addDoor_15 rfl rfl ?_
      refine g_iconst E dX0_addDoor_16 ?_
      refine g_bipush E dX0_addDoor_17 (by decide) ?_
      refine g_callSI E (cX_isBetween (rv := 1) (by omega) (Or.inl ⟨rfl, by omega, by omega⟩)) (va_cwS 3 hts gX0_addDoor_X0_isBetween rfl rfl rfl hdX0_isBetween.2 ⟨(Nat.le_of_ble_eq_true rfl), (Nat.le_of_ble_eq_true rfl)⟩) rfl rfl rfl (Nat.le_of_ble_eq_true rfl) dX0_addDoor_19 ⟨Nat.zero_le _, Nat.zero_le _⟩ ?_
      refine g_if_eq_f E dX0_addDoor_22 (tgt := 39) (by decide) (by omega) (by omega) ?_
      refine g_iload E dX0_addDoor_25 rfl ?_
      refine g_iconst E dX0_addDoor_27 ?_
      refine g_iconst E dX0_addDoor_28 ?_
      refine g_callSI E (cX_isBetween (rv := 0) (by omega) (Or.inr ⟨rfl, by omega⟩)) (va_cwS 3 hts gX0_addDoor_X0_isBetween rfl rfl rfl hdX0_isBetween.2 ⟨(Nat.le_of_ble_eq_true rfl), (Nat.le_of_ble_eq_true rfl)⟩) rfl rfl rfl (Nat.le_of_ble_eq_true rfl) dX0_addDoor_29 ⟨Nat.zero_le _, Nat.zero_le _⟩ ?_
      refine g_if_eq_t E dX0_addDoor_32 (tgt := 39) (by decide) (by omega) (by omega) ?_
      exact fin _
    · refine g_aload_n E dX0_addDoor_0 rfl rfl ?_
      refine g_iload_n E dX0_addDoor_1 rfl rfl ?_
      refine g_callV0 E (cX_requirePlace (by omega) (by omega)) (cwV 1 hts gX0_addDoor_X0_requirePlace rfl rfl rfl hdX0_requirePlace ⟨(Nat.le_of_ble_eq_true rfl), (Nat.le_of_ble_eq_true rfl)⟩) rfl rfl rfl (Nat.le_of_ble_eq_true rfl) gW_0 rfl dX0_addDoor_2 ⟨Nat.zero_le _, Nat.zero_le _⟩ ?_
      refine g_aload_n E dX0_addDoor_5 rfl rfl ?_
      refine g_iload_n E dX0_addDoor_6 rfl rfl ?_
      refine g_callV0 E (cX_requirePlace (by omega) (by omega)) (cwV 1 hts gX0_addDoor_X0_requirePlace rfl rfl rfl hdX0_requirePlace ⟨(Nat.le_of_ble_eq_true rfl), (Nat.le_of_ble_eq_true rfl)⟩) rfl rfl rfl (Nat.le_of_ble_eq_true rfl) gW_0 rfl dX0_addDoor_7 ⟨Nat.zero_le _, Nat.zero_le _⟩ ?_
      refine g_iload_n E dX0_addDoor_10 rfl rfl ?_
      refine g_iload_n E dX0_addDoor_11 rfl rfl ?_
      refine g_icmp_eq_f E dX0_addDoor_12 (tgt := 39) (by decide) (by omega) (by omega) ?_
      refine g_iload_n E dX0_addDoor_15 rfl rfl ?_
      refine g_iconst E dX0_addDoor_16 ?_
      refine g_bipush E dX0_addDoor_17 (by decide) ?_
      refine g_callSI E (cX_isBetween (rv := 0) (by omega) (Or.inr ⟨rfl, by omega⟩)) (va_cwS 3 hts gX0_addDoor_X0_isBetween rfl rfl rfl hdX0_isBetween.2 ⟨(Nat.le_of_ble_eq_true rfl), (Nat.le_of_ble_eq_true rfl)⟩) rfl rfl rfl (Nat.le_of_ble_eq_true rfl) dX0_addDoor_19 ⟨Nat.zero_le _, Nat.zero_le _⟩ ?_
      refine g_if_eq_t E dX0_addDoor_22 (tgt := 39) (by decide) (by omega) (by omega) ?_
      exact fin _
set_option maxHeartbeats 4000000 in
set_option maxRecDepth 100000 in
theorem tX_addDoor3 {l : Launch} {D : va_G} {cI cZ : ClassId} {q : Nat} {r : Nat → Nat} {P Dn : Nat} {t la wa : Int} {f0 f1 f2 f3 f4 f5 f6 f7 f8 f9 f10 f11 f12 f13 : Nat → Int} (hfl : l.stackTraces = false) {x y z v : Int} (hgx : -2147483648 ≤ x ∧ x < 2147483648) (hgy : -2147483648 ≤ y ∧ y < 2147483648) (hgz : -2147483648 ≤ z ∧ z < 2147483648) (hgv : -2147483648 ≤ v ∧ v < 2147483648) (hP : 1 ≤ P ∧ P ≤ 11) (hDn : Dn ≤ 16) (hx : 0 ≤ x ∧ x < P) (hy : 0 ≤ y ∧ y < P) (hz : x ≠ y ∧ 1 ≤ z ∧ z ≤ 9 ∧ 1 ≤ v ∧ v ≤ 5) (hD16 : Dn = 16) : gMT l yX0_addDoor wsX0_addDoor 7 D (gTy cI cZ) (gX cI cZ q r [(P : Int), (Dn : Int), t, la, wa] [f0, f1, f2, f3, f4, f5, f6, f7, f8, f9, f10, f11, f12, f13]) [.ref q, .int (iI x), .int (iI y), .int (iI z), .int (iI v)] gIS := by
  refine g_ofT (by decide +kernel) rfl rfl (Nat.le_of_ble_eq_true rfl) (g_cat1 rfl) ?_
  intro p e s m args below meth c A0 E hT hlk htb
  have hts := E.1.2.2.2.2
  show gJ p l e (gRx 7) s m args below meth c 0 0 (gQT below args s D (gTy cI cZ) (gX cI cZ q r [(P : Int), (Dn : Int), t, la, wa] [f0, f1, f2, f3, f4, f5, f6, f7, f8, f9, f10, f11, f12, f13]) gIS A0) A0 D (gX cI cZ q r [(P : Int), (Dn : Int), t, la, wa] [f0, f1, f2, f3, f4, f5, f6, f7, f8, f9, f10, f11, f12, f13]) [some (.ref q), some (.int (iI x)), some (.int (iI y)), some (.int (iI z)), some (.int (iI v)), none] 0 []
  refine g_aload_n E dX0_addDoor_0 rfl rfl ?_
  refine g_iload_n E dX0_addDoor_1 rfl rfl ?_
  refine g_callV0 E (cX_requirePlace (by omega) (by omega)) (cwV 1 hts gX0_addDoor_X0_requirePlace rfl rfl rfl hdX0_requirePlace ⟨(Nat.le_of_ble_eq_true rfl), (Nat.le_of_ble_eq_true rfl)⟩) rfl rfl rfl (Nat.le_of_ble_eq_true rfl) gW_0 rfl dX0_addDoor_2 ⟨Nat.zero_le _, Nat.zero_le _⟩ ?_
  refine g_aload_n E dX0_addDoor_5 rfl rfl ?_
  refine g_iload_n E dX0_addDoor_6 rfl rfl ?_
  refine g_callV0 E (cX_requirePlace (by omega) (by omega)) (cwV 1 hts gX0_addDoor_X0_requirePlace rfl rfl rfl hdX0_requirePlace ⟨(Nat.le_of_ble_eq_true rfl), (Nat.le_of_ble_eq_true rfl)⟩) rfl rfl rfl (Nat.le_of_ble_eq_true rfl) gW_0 rfl dX0_addDoor_7 ⟨Nat.zero_le _, Nat.zero_le _⟩ ?_
  refine g_iload_n E dX0_addDoor_10 rfl rfl ?_
  refine g_iload_n E dX0_addDoor_11 rfl rfl ?_
  refine g_icmp_eq_f E dX0_addDoor_12 (tgt := 39) (by decide) (by omega) (by omega) ?_
  refine g_iload_n E dX0_addDoor_15 rfl rfl ?_
  refine g_iconst E dX0_addDoor_16 ?_
  refine g_bipush E dX0_addDoor_17 (by decide) ?_
  refine g_callSI E (cX_isBetween (rv := 1) (by omega) (Or.inl ⟨rfl, by omega, by omega⟩)) (va_cwS 3 hts gX0_addDoor_X0_isBetween rfl rfl rfl hdX0_isBetween.2 ⟨(Nat.le_of_ble_eq_true rfl), (Nat.le_of_ble_eq_true rfl)⟩) rfl rfl rfl (Nat.le_of_ble_eq_true rfl) dX0_addDoor_19 ⟨Nat.zero_le _, Nat.zero_le _⟩ ?_
  refine g_if_eq_f E dX0_addDoor_22 (tgt := 39) (by decide) (by omega) (by omega) ?_
  refine g_iload E dX0_addDoor_25 rfl ?_
  refine g_iconst E dX0_addDoor_27 ?_
  refine g_iconst E dX0_addDoor_28 ?_
  refine g_callSI E (cX_isBetween (rv := 1) (by omega) (Or.inl ⟨rfl, by omega, by omega⟩)) (va_cwS 3 hts gX0_addDoor_X0_isBetween rfl rfl rfl hdX0_isBetween.2 ⟨(Nat.le_of_ble_eq_true rfl), (Nat.le_of_ble_eq_true rfl)⟩) rfl rfl rfl (Nat.le_of_ble_eq_true rfl) dX0_addDoor_29 ⟨Nat.zero_le _, Nat.zero_le _⟩ ?_
  refine g_if_eq_f E dX0_addDoor_32 (tgt := 39) (by decide) (by omega) (by omega) ?_
  refine g_iconst E dX0_addDoor_35 ?_
  refine g_goto E dX0_addDoor_36 (tgt := 40) (by decide) ?_
  refine g_callSV E (cX_requireArgument rfl) (va_cwS 1 hts gX0_addDoor_X0_requireArgument rfl rfl rfl hdX0_requireArgument.2 ⟨(Nat.le_of_ble_eq_true rfl), (Nat.le_of_ble_eq_true rfl)⟩) rfl rfl rfl (Nat.le_of_ble_eq_true rfl) dX0_addDoor_40 ⟨Nat.zero_le _, Nat.zero_le _⟩ ?_
  refine g_aload_n E dX0_addDoor_43 rfl rfl ?_
  refine g_getI E inX0_addDoor rfl flX0_addDoor_78 dX0_addDoor_44 (by decide) rfl rfl ?_
  refine g_bipush E dX0_addDoor_47 (by decide) ?_
  refine g_icmp_ge_t E dX0_addDoor_49 (tgt := 56) (by decide) (by omega) (by omega) ?_
  refine g_iconst E dX0_addDoor_56 ?_
  exact g_callTS E (tX_requireState hfl rfl) hT hlk htb (va_cwS 1 hts gX0_addDoor_X0_requireState rfl rfl rfl hdX0_requireState.2 ⟨(Nat.le_of_ble_eq_true rfl), (Nat.le_of_ble_eq_true rfl)⟩) rfl rfl rfl (Nat.le_of_ble_eq_true rfl) dX0_addDoor_57 ⟨(Nat.le_of_ble_eq_true rfl), (Nat.le_of_ble_eq_true rfl)⟩
set_option maxHeartbeats 4000000 in
set_option maxRecDepth 100000 in
theorem tX_setDoor1 {l : Launch} {D : va_G} {cI cZ : ClassId} {q : Nat} {r : Nat → Nat} {P Dn : Nat} {t la wa : Int} {f0 f1 f2 f3 f4 f5 f6 f7 f8 f9 f10 f11 f12 f13 : Nat → Int} (hfl : l.stackTraces = false) {x o : Int} (hgx : -2147483648 ≤ x ∧ x < 2147483648) (hDn : Dn ≤ 16) (hx : x < 0 ∨ Dn ≤ x) : gMT l yX0_setDoor wsX0_setDoor 7 D (gTy cI cZ) (gX cI cZ q r [(P : Int), (Dn : Int), t, la, wa] [f0, f1, f2, f3, f4, f5, f6, f7, f8, f9, f10, f11, f12, f13]) [.ref q, .int (iI x), .int (iI o)] gIX := by
  refine g_ofT (by decide +kernel) rfl rfl (Nat.le_of_ble_eq_true rfl) (g_cat1 rfl) ?_
  intro p e s m args below meth c A0 E hT hlk htb
  have hts := E.1.2.2.2.2
  show gJ p l e (gRx 7) s m args below meth c 0 0 (gQT below args s D (gTy cI cZ) (gX cI cZ q r [(P : Int), (Dn : Int), t, la, wa] [f0, f1, f2, f3, f4, f5, f6, f7, f8, f9, f10, f11, f12, f13]) gIX A0) A0 D (gX cI cZ q r [(P : Int), (Dn : Int), t, la, wa] [f0, f1, f2, f3, f4, f5, f6, f7, f8, f9, f10, f11, f12, f13]) [some (.ref q), some (.int (iI x)), some (.int (iI o)), none] 0 []
  refine g_aload_n E dX0_setDoor_0 rfl rfl ?_
  refine g_iload_n E dX0_setDoor_1 rfl rfl ?_
  exact g_callT E (tX_requireDoor hfl hgx (by omega) hx) hT hlk htb (cwV 1 hts gX0_setDoor_X0_requireDoor rfl rfl rfl hdX0_requireDoor ⟨(Nat.le_of_ble_eq_true rfl), (Nat.le_of_ble_eq_true rfl)⟩) rfl rfl rfl (Nat.le_of_ble_eq_true rfl) gW_0 rfl dX0_setDoor_2 ⟨(Nat.le_of_ble_eq_true rfl), (Nat.le_of_ble_eq_true rfl)⟩
set_option maxHeartbeats 4000000 in
set_option maxRecDepth 100000 in
theorem tX_come1 {l : Launch} {D : va_G} {cI cZ : ClassId} {q : Nat} {r : Nat → Nat} {P Dn : Nat} {t la wa : Int} {f0 f1 f2 f3 f4 f5 f6 f7 f8 f9 f10 f11 f12 f13 : Nat → Int} (hfl : l.stackTraces = false) {x n : Int} (hgx : -2147483648 ≤ x ∧ x < 2147483648) (hP : 1 ≤ P ∧ P ≤ 11) (hx : x < 0 ∨ P ≤ x) : gMT l yX0_come wsX0_come 7 D (gTy cI cZ) (gX cI cZ q r [(P : Int), (Dn : Int), t, la, wa] [f0, f1, f2, f3, f4, f5, f6, f7, f8, f9, f10, f11, f12, f13]) [.ref q, .int (iI x), .int (iI n)] gIX := by
  refine g_ofT (by decide +kernel) rfl rfl (Nat.le_of_ble_eq_true rfl) (g_cat1 rfl) ?_
  intro p e s m args below meth c A0 E hT hlk htb
  have hts := E.1.2.2.2.2
  show gJ p l e (gRx 7) s m args below meth c 0 0 (gQT below args s D (gTy cI cZ) (gX cI cZ q r [(P : Int), (Dn : Int), t, la, wa] [f0, f1, f2, f3, f4, f5, f6, f7, f8, f9, f10, f11, f12, f13]) gIX A0) A0 D (gX cI cZ q r [(P : Int), (Dn : Int), t, la, wa] [f0, f1, f2, f3, f4, f5, f6, f7, f8, f9, f10, f11, f12, f13]) [some (.ref q), some (.int (iI x)), some (.int (iI n))] 0 []
  refine g_aload_n E dX0_come_0 rfl rfl ?_
  refine g_iload_n E dX0_come_1 rfl rfl ?_
  exact g_callT E (tX_requirePlace hfl hgx (by omega) hx) hT hlk htb (cwV 1 hts gX0_come_X0_requirePlace rfl rfl rfl hdX0_requirePlace ⟨(Nat.le_of_ble_eq_true rfl), (Nat.le_of_ble_eq_true rfl)⟩) rfl rfl rfl (Nat.le_of_ble_eq_true rfl) gW_0 rfl dX0_come_2 ⟨(Nat.le_of_ble_eq_true rfl), (Nat.le_of_ble_eq_true rfl)⟩
set_option maxHeartbeats 4000000 in
set_option maxRecDepth 100000 in
theorem tX_come2 {l : Launch} {D : va_G} {cI cZ : ClassId} {q : Nat} {r : Nat → Nat} {P Dn : Nat} {t la wa : Int} {f0 f1 f2 f3 f4 f5 f6 f7 f8 f9 f10 f11 f12 f13 : Nat → Int} (hfl : l.stackTraces = false) {x n : Int} (hgn : -2147483648 ≤ n ∧ n < 2147483648) (hP : 1 ≤ P ∧ P ≤ 11) (hx : 0 ≤ x ∧ x < P) (hn : x = 0 ∨ n < 1 ∨ 30 < n) : gMT l yX0_come wsX0_come 7 D (gTy cI cZ) (gX cI cZ q r [(P : Int), (Dn : Int), t, la, wa] [f0, f1, f2, f3, f4, f5, f6, f7, f8, f9, f10, f11, f12, f13]) [.ref q, .int (iI x), .int (iI n)] gIA := by
  refine g_ofT (by decide +kernel) rfl rfl (Nat.le_of_ble_eq_true rfl) (g_cat1 rfl) ?_
  intro p e s m args below meth c A0 E hT hlk htb
  have hts := E.1.2.2.2.2
  show gJ p l e (gRx 7) s m args below meth c 0 0 (gQT below args s D (gTy cI cZ) (gX cI cZ q r [(P : Int), (Dn : Int), t, la, wa] [f0, f1, f2, f3, f4, f5, f6, f7, f8, f9, f10, f11, f12, f13]) gIA A0) A0 D (gX cI cZ q r [(P : Int), (Dn : Int), t, la, wa] [f0, f1, f2, f3, f4, f5, f6, f7, f8, f9, f10, f11, f12, f13]) [some (.ref q), some (.int (iI x)), some (.int (iI n))] 0 []
  by_cases h1 : x = 0
  · refine g_aload_n E dX0_come_0 rfl rfl ?_
    refine g_iload_n E dX0_come_1 rfl rfl ?_
    refine g_callV0 E (cX_requirePlace (by omega) (by omega)) (cwV 1 hts gX0_come_X0_requirePlace rfl rfl rfl hdX0_requirePlace ⟨(Nat.le_of_ble_eq_true rfl), (Nat.le_of_ble_eq_true rfl)⟩) rfl rfl rfl (Nat.le_of_ble_eq_true rfl) gW_0 rfl dX0_come_2 ⟨Nat.zero_le _, Nat.zero_le _⟩ ?_
    refine g_iload_n E dX0_come_5 rfl rfl ?_
    refine g_if_eq_t E dX0_come_6 (tgt := 23) (by decide) (by omega) (by omega) ?_
    refine g_iconst E dX0_come_23 ?_
    exact g_callTS E (tX_requireArgument hfl rfl) hT hlk htb (va_cwS 1 hts gX0_come_X0_requireArgument rfl rfl rfl hdX0_requireArgument.2 ⟨(Nat.le_of_ble_eq_true rfl), (Nat.le_of_ble_eq_true rfl)⟩) rfl rfl rfl (Nat.le_of_ble_eq_true rfl) dX0_come_24 ⟨(Nat.le_of_ble_eq_true rfl), (Nat.le_of_ble_eq_true rfl)⟩
  · refine g_aload_n E dX0_come_0 rfl rfl ?_
    refine g_iload_n E dX0_come_1 rfl rfl ?_
    refine g_callV0 E (cX_requirePlace (by omega) (by omega)) (cwV 1 hts gX0_come_X0_requirePlace rfl rfl rfl hdX0_requirePlace ⟨(Nat.le_of_ble_eq_true rfl), (Nat.le_of_ble_eq_true rfl)⟩) rfl rfl rfl (Nat.le_of_ble_eq_true rfl) gW_0 rfl dX0_come_2 ⟨Nat.zero_le _, Nat.zero_le _⟩ ?_
    refine g_iload_n E dX0_come_5 rfl rfl ?_
    refine g_if_eq_f E dX0_come_6 (tgt := 23) (by decide) (by omega) (by omega) ?_
    refine g_iload_n E dX0_come_9 rfl rfl ?_
    refine g_iconst E dX0_come_10 ?_
    refine g_bipush E dX0_come_11 (by decide) ?_
    refine g_callSI E (cX_isBetween (rv := 0) (by omega) (Or.inr ⟨rfl, by omega⟩)) (va_cwS 3 hts gX0_come_X0_isBetween rfl rfl rfl hdX0_isBetween.2 ⟨(Nat.le_of_ble_eq_true rfl), (Nat.le_of_ble_eq_true rfl)⟩) rfl rfl rfl (Nat.le_of_ble_eq_true rfl) dX0_come_13 ⟨Nat.zero_le _, Nat.zero_le _⟩ ?_
    refine g_if_eq_t E dX0_come_16 (tgt := 23) (by decide) (by omega) (by omega) ?_
    refine g_iconst E dX0_come_23 ?_
    exact g_callTS E (tX_requireArgument hfl rfl) hT hlk htb (va_cwS 1 hts gX0_come_X0_requireArgument rfl rfl rfl hdX0_requireArgument.2 ⟨(Nat.le_of_ble_eq_true rfl), (Nat.le_of_ble_eq_true rfl)⟩) rfl rfl rfl (Nat.le_of_ble_eq_true rfl) dX0_come_24 ⟨(Nat.le_of_ble_eq_true rfl), (Nat.le_of_ble_eq_true rfl)⟩
set_option maxHeartbeats 4000000 in
set_option maxRecDepth 100000 in
theorem tX_come3 {l : Launch} {D : va_G} {cI cZ : ClassId} {q : Nat} {r : Nat → Nat} {P Dn : Nat} {t la wa : Int} {f0 f1 f2 f3 f4 f5 f6 f7 f8 f9 f10 f11 f12 f13 : Nat → Int} (hfl : l.stackTraces = false) {i : Nat} {n : Int} (hP : 1 ≤ P ∧ P ≤ 11) (hi : 1 ≤ i ∧ i < P) (hn : 1 ≤ n ∧ n ≤ 30) (hf : 0 ≤ f1 i ∧ f1 i ≤ f0 i ∧ f0 i ≤ 30) (hle : f0 i < f1 i + n) : gMT l yX0_come wsX0_come 7 D (gTy cI cZ) (gX cI cZ q r [(P : Int), (Dn : Int), t, la, wa] [f0, f1, f2, f3, f4, f5, f6, f7, f8, f9, f10, f11, f12, f13]) [.ref q, .int (iI (i : Int)), .int (iI n)] gIS := by
  refine g_ofT (by decide +kernel) rfl rfl (Nat.le_of_ble_eq_true rfl) (g_cat1 rfl) ?_
  intro p e s m args below meth c A0 E hT hlk htb
  have hts := E.1.2.2.2.2
  show gJ p l e (gRx 7) s m args below meth c 0 0 (gQT below args s D (gTy cI cZ) (gX cI cZ q r [(P : Int), (Dn : Int), t, la, wa] [f0, f1, f2, f3, f4, f5, f6, f7, f8, f9, f10, f11, f12, f13]) gIS A0) A0 D (gX cI cZ q r [(P : Int), (Dn : Int), t, la, wa] [f0, f1, f2, f3, f4, f5, f6, f7, f8, f9, f10, f11, f12, f13]) [some (.ref q), some (.int (iI (i : Int))), some (.int (iI n))] 0 []
  have e9 : pRoom f0 f1 i = f0 i - f1 i := if_neg (by omega)
  refine g_aload_n E dX0_come_0 rfl rfl ?_
  refine g_iload_n E dX0_come_1 rfl rfl ?_
  refine g_callV0 E (cX_requirePlace (by omega) (by omega)) (cwV 1 hts gX0_come_X0_requirePlace rfl rfl rfl hdX0_requirePlace ⟨(Nat.le_of_ble_eq_true rfl), (Nat.le_of_ble_eq_true rfl)⟩) rfl rfl rfl (Nat.le_of_ble_eq_true rfl) gW_0 rfl dX0_come_2 ⟨Nat.zero_le _, Nat.zero_le _⟩ ?_
  refine g_iload_n E dX0_come_5 rfl rfl ?_
  refine g_if_eq_f E dX0_come_6 (tgt := 23) (by decide) (by omega) (by omega) ?_
  refine g_iload_n E dX0_come_9 rfl rfl ?_
  refine g_iconst E dX0_come_10 ?_
  refine g_bipush E dX0_come_11 (by decide) ?_
  refine g_callSI E (cX_isBetween (rv := 1) (by omega) (Or.inl ⟨rfl, by omega, by omega⟩)) (va_cwS 3 hts gX0_come_X0_isBetween rfl rfl rfl hdX0_isBetween.2 ⟨(Nat.le_of_ble_eq_true rfl), (Nat.le_of_ble_eq_true rfl)⟩) rfl rfl rfl (Nat.le_of_ble_eq_true rfl) dX0_come_13 ⟨Nat.zero_le _, Nat.zero_le _⟩ ?_
  refine g_if_eq_f E dX0_come_16 (tgt := 23) (by decide) (by omega) (by omega) ?_
  refine g_iconst E dX0_come_19 ?_
  refine g_goto E dX0_come_20 (tgt := 24) (by decide) ?_
  refine g_callSV E (cX_requireArgument rfl) (va_cwS 1 hts gX0_come_X0_requireArgument rfl rfl rfl hdX0_requireArgument.2 ⟨(Nat.le_of_ble_eq_true rfl), (Nat.le_of_ble_eq_true rfl)⟩) rfl rfl rfl (Nat.le_of_ble_eq_true rfl) dX0_come_24 ⟨Nat.zero_le _, Nat.zero_le _⟩ ?_
  refine g_iload_n E dX0_come_27 rfl rfl ?_
  refine g_aload_n E dX0_come_28 rfl rfl ?_
  refine g_iload_n E dX0_come_29 rfl rfl ?_
  refine g_callI0 E (cX_roomLeft (i := i) ⟨rfl, by omega⟩ rfl) (cwV 1 hts gX0_come_X0_roomLeft rfl rfl rfl hdX0_roomLeft ⟨(Nat.le_of_ble_eq_true rfl), (Nat.le_of_ble_eq_true rfl)⟩) rfl rfl rfl (Nat.le_of_ble_eq_true rfl) gW_0 rfl dX0_come_30 ⟨Nat.zero_le _, Nat.zero_le _⟩ ?_
  refine g_icmp_gt_t E dX0_come_33 (tgt := 40) (by decide) (by omega) (by omega) ?_
  refine g_iconst E dX0_come_40 ?_
  exact g_callTS E (tX_requireState hfl rfl) hT hlk htb (va_cwS 1 hts gX0_come_X0_requireState rfl rfl rfl hdX0_requireState.2 ⟨(Nat.le_of_ble_eq_true rfl), (Nat.le_of_ble_eq_true rfl)⟩) rfl rfl rfl (Nat.le_of_ble_eq_true rfl) dX0_come_41 ⟨(Nat.le_of_ble_eq_true rfl), (Nat.le_of_ble_eq_true rfl)⟩
set_option maxHeartbeats 4000000 in
set_option maxRecDepth 100000 in
theorem tX_setRelease1 {l : Launch} {D : va_G} {cI cZ : ClassId} {q : Nat} {r : Nat → Nat} {P Dn : Nat} {t la wa : Int} {f0 f1 f2 f3 f4 f5 f6 f7 f8 f9 f10 f11 f12 f13 : Nat → Int} (hfl : l.stackTraces = false) {x n : Int} (hgx : -2147483648 ≤ x ∧ x < 2147483648) (hP : 1 ≤ P ∧ P ≤ 11) (hx : x < 0 ∨ P ≤ x) : gMT l yX0_setRelease wsX0_setRelease 7 D (gTy cI cZ) (gX cI cZ q r [(P : Int), (Dn : Int), t, la, wa] [f0, f1, f2, f3, f4, f5, f6, f7, f8, f9, f10, f11, f12, f13]) [.ref q, .int (iI x), .int (iI n)] gIX := by
  refine g_ofT (by decide +kernel) rfl rfl (Nat.le_of_ble_eq_true rfl) (g_cat1 rfl) ?_
  intro p e s m args below meth c A0 E hT hlk htb
  have hts := E.1.2.2.2.2
  show gJ p l e (gRx 7) s m args below meth c 0 0 (gQT below args s D (gTy cI cZ) (gX cI cZ q r [(P : Int), (Dn : Int), t, la, wa] [f0, f1, f2, f3, f4, f5, f6, f7, f8, f9, f10, f11, f12, f13]) gIX A0) A0 D (gX cI cZ q r [(P : Int), (Dn : Int), t, la, wa] [f0, f1, f2, f3, f4, f5, f6, f7, f8, f9, f10, f11, f12, f13]) [some (.ref q), some (.int (iI x)), some (.int (iI n)), none] 0 []
  refine g_aload_n E dX0_setRelease_0 rfl rfl ?_
  refine g_iload_n E dX0_setRelease_1 rfl rfl ?_
  exact g_callT E (tX_requirePlace hfl hgx (by omega) hx) hT hlk htb (cwV 1 hts gX0_setRelease_X0_requirePlace rfl rfl rfl hdX0_requirePlace ⟨(Nat.le_of_ble_eq_true rfl), (Nat.le_of_ble_eq_true rfl)⟩) rfl rfl rfl (Nat.le_of_ble_eq_true rfl) gW_0 rfl dX0_setRelease_2 ⟨(Nat.le_of_ble_eq_true rfl), (Nat.le_of_ble_eq_true rfl)⟩
set_option maxHeartbeats 4000000 in
set_option maxRecDepth 100000 in
theorem tX_setRelease2 {l : Launch} {D : va_G} {cI cZ : ClassId} {q : Nat} {r : Nat → Nat} {P Dn : Nat} {t la wa : Int} {f0 f1 f2 f3 f4 f5 f6 f7 f8 f9 f10 f11 f12 f13 : Nat → Int} (hfl : l.stackTraces = false) {x n : Int} (hgn : -2147483648 ≤ n ∧ n < 2147483648) (hP : 1 ≤ P ∧ P ≤ 11) (hx : 0 ≤ x ∧ x < P) (hn : n < 0 ∨ 1000 < n) : gMT l yX0_setRelease wsX0_setRelease 7 D (gTy cI cZ) (gX cI cZ q r [(P : Int), (Dn : Int), t, la, wa] [f0, f1, f2, f3, f4, f5, f6, f7, f8, f9, f10, f11, f12, f13]) [.ref q, .int (iI x), .int (iI n)] gIA := by
  refine g_ofT (by decide +kernel) rfl rfl (Nat.le_of_ble_eq_true rfl) (g_cat1 rfl) ?_
  intro p e s m args below meth c A0 E hT hlk htb
  have hts := E.1.2.2.2.2
  show gJ p l e (gRx 7) s m args below meth c 0 0 (gQT below args s D (gTy cI cZ) (gX cI cZ q r [(P : Int), (Dn : Int), t, la, wa] [f0, f1, f2, f3, f4, f5, f6, f7, f8, f9, f10, f11, f12, f13]) gIA A0) A0 D (gX cI cZ q r [(P : Int), (Dn : Int), t, la, wa] [f0, f1, f2, f3, f4, f5, f6, f7, f8, f9, f10, f11, f12, f13]) [some (.ref q), some (.int (iI x)), some (.int (iI n)), none] 0 []
  refine g_aload_n E dX0_setRelease_0 rfl rfl ?_
  refine g_iload_n E dX0_setRelease_1 rfl rfl ?_
  refine g_callV0 E (cX_requirePlace (by omega) (by omega)) (cwV 1 hts gX0_setRelease_X0_requirePlace rfl rfl rfl hdX0_requirePlace ⟨(Nat.le_of_ble_eq_true rfl), (Nat.le_of_ble_eq_true rfl)⟩) rfl rfl rfl (Nat.le_of_ble_eq_true rfl) gW_0 rfl dX0_setRelease_2 ⟨Nat.zero_le _, Nat.zero_le _⟩ ?_
  refine g_iload_n E dX0_setRelease_5 rfl rfl ?_
  refine g_iconst E dX0_setRelease_6 ?_
  refine g_sipush E dX0_setRelease_7 (by decide) ?_
  refine g_callSI E (cX_isBetween (rv := 0) (by omega) (Or.inr ⟨rfl, by omega⟩)) (va_cwS 3 hts gX0_setRelease_X0_isBetween rfl rfl rfl hdX0_isBetween.2 ⟨(Nat.le_of_ble_eq_true rfl), (Nat.le_of_ble_eq_true rfl)⟩) rfl rfl rfl (Nat.le_of_ble_eq_true rfl) dX0_setRelease_10 ⟨Nat.zero_le _, Nat.zero_le _⟩ ?_
  exact g_callTS E (tX_requireArgument hfl rfl) hT hlk htb (va_cwS 1 hts gX0_setRelease_X0_requireArgument rfl rfl rfl hdX0_requireArgument.2 ⟨(Nat.le_of_ble_eq_true rfl), (Nat.le_of_ble_eq_true rfl)⟩) rfl rfl rfl (Nat.le_of_ble_eq_true rfl) dX0_setRelease_13 ⟨(Nat.le_of_ble_eq_true rfl), (Nat.le_of_ble_eq_true rfl)⟩
set_option maxHeartbeats 4000000 in
set_option maxRecDepth 100000 in
theorem tX_step1 {l : Launch} {D : va_G} {cI cZ : ClassId} {q : Nat} {r : Nat → Nat} {P Dn : Nat} {t la wa : Int} {f0 f1 f2 f3 f4 f5 f6 f7 f8 f9 f10 f11 f12 f13 : Nat → Int} (hfl : l.stackTraces = false) {n : Int} (hgn : -2147483648 ≤ n ∧ n < 2147483648) (hn : n < 1 ∨ 50 < n) : gMT l yX0_step wsX0_step 7 D (gTy cI cZ) (gX cI cZ q r [(P : Int), (Dn : Int), t, la, wa] [f0, f1, f2, f3, f4, f5, f6, f7, f8, f9, f10, f11, f12, f13]) [.ref q, .int (iI n)] gIA := by
  refine g_ofT (by decide +kernel) rfl rfl (Nat.le_of_ble_eq_true rfl) (g_cat1 rfl) ?_
  intro p e s m args below meth c A0 E hT hlk htb
  have hts := E.1.2.2.2.2
  show gJ p l e (gRx 7) s m args below meth c 0 0 (gQT below args s D (gTy cI cZ) (gX cI cZ q r [(P : Int), (Dn : Int), t, la, wa] [f0, f1, f2, f3, f4, f5, f6, f7, f8, f9, f10, f11, f12, f13]) gIA A0) A0 D (gX cI cZ q r [(P : Int), (Dn : Int), t, la, wa] [f0, f1, f2, f3, f4, f5, f6, f7, f8, f9, f10, f11, f12, f13]) [some (.ref q), some (.int (iI n)), none, none] 0 []
  refine g_iload_n E dX0_step_0 rfl rfl ?_
  refine g_iconst E dX0_step_1 ?_
  refine g_bipush E dX0_step_2 (by decide) ?_
  refine g_callSI E (cX_isBetween (rv := 0) (by omega) (Or.inr ⟨rfl, by omega⟩)) (va_cwS 3 hts gX0_step_X0_isBetween rfl rfl rfl hdX0_isBetween.2 ⟨(Nat.le_of_ble_eq_true rfl), (Nat.le_of_ble_eq_true rfl)⟩) rfl rfl rfl (Nat.le_of_ble_eq_true rfl) dX0_step_4 ⟨Nat.zero_le _, Nat.zero_le _⟩ ?_
  exact g_callTS E (tX_requireArgument hfl rfl) hT hlk htb (va_cwS 1 hts gX0_step_X0_requireArgument rfl rfl rfl hdX0_requireArgument.2 ⟨(Nat.le_of_ble_eq_true rfl), (Nat.le_of_ble_eq_true rfl)⟩) rfl rfl rfl (Nat.le_of_ble_eq_true rfl) dX0_step_7 ⟨(Nat.le_of_ble_eq_true rfl), (Nat.le_of_ble_eq_true rfl)⟩
set_option maxHeartbeats 4000000 in
set_option maxRecDepth 100000 in
theorem tX_people1 {l : Launch} {D : va_G} {cI cZ : ClassId} {q : Nat} {r : Nat → Nat} {P Dn : Nat} {t la wa : Int} {f0 f1 f2 f3 f4 f5 f6 f7 f8 f9 f10 f11 f12 f13 : Nat → Int} (hfl : l.stackTraces = false) {x : Int} (hgx : -2147483648 ≤ x ∧ x < 2147483648) (hP : 1 ≤ P ∧ P ≤ 11) (hx : x < 0 ∨ P ≤ x) : gMT l yX0_people wsX0_people 7 D (gTy cI cZ) (gX cI cZ q r [(P : Int), (Dn : Int), t, la, wa] [f0, f1, f2, f3, f4, f5, f6, f7, f8, f9, f10, f11, f12, f13]) [.ref q, .int (iI x)] gIX := by
  refine g_ofT (by decide +kernel) rfl rfl (Nat.le_of_ble_eq_true rfl) (g_cat1 rfl) ?_
  intro p e s m args below meth c A0 E hT hlk htb
  have hts := E.1.2.2.2.2
  show gJ p l e (gRx 7) s m args below meth c 0 0 (gQT below args s D (gTy cI cZ) (gX cI cZ q r [(P : Int), (Dn : Int), t, la, wa] [f0, f1, f2, f3, f4, f5, f6, f7, f8, f9, f10, f11, f12, f13]) gIX A0) A0 D (gX cI cZ q r [(P : Int), (Dn : Int), t, la, wa] [f0, f1, f2, f3, f4, f5, f6, f7, f8, f9, f10, f11, f12, f13]) [some (.ref q), some (.int (iI x))] 0 []
  refine g_aload_n E dX0_people_0 rfl rfl ?_
  refine g_iload_n E dX0_people_1 rfl rfl ?_
  exact g_callT E (tX_requirePlace hfl hgx (by omega) hx) hT hlk htb (cwV 1 hts gX0_people_X0_requirePlace rfl rfl rfl hdX0_requirePlace ⟨(Nat.le_of_ble_eq_true rfl), (Nat.le_of_ble_eq_true rfl)⟩) rfl rfl rfl (Nat.le_of_ble_eq_true rfl) gW_0 rfl dX0_people_2 ⟨(Nat.le_of_ble_eq_true rfl), (Nat.le_of_ble_eq_true rfl)⟩
set_option maxHeartbeats 4000000 in
set_option maxRecDepth 100000 in
theorem tX_distance1 {l : Launch} {D : va_G} {cI cZ : ClassId} {q : Nat} {r : Nat → Nat} {P Dn : Nat} {t la wa : Int} {f0 f1 f2 f3 f4 f5 f6 f7 f8 f9 f10 f11 f12 f13 : Nat → Int} (hfl : l.stackTraces = false) {x : Int} (hgx : -2147483648 ≤ x ∧ x < 2147483648) (hP : 1 ≤ P ∧ P ≤ 11) (hx : x < 0 ∨ P ≤ x) : gMT l yX0_distance wsX0_distance 7 D (gTy cI cZ) (gX cI cZ q r [(P : Int), (Dn : Int), t, la, wa] [f0, f1, f2, f3, f4, f5, f6, f7, f8, f9, f10, f11, f12, f13]) [.ref q, .int (iI x)] gIX := by
  refine g_ofT (by decide +kernel) rfl rfl (Nat.le_of_ble_eq_true rfl) (g_cat1 rfl) ?_
  intro p e s m args below meth c A0 E hT hlk htb
  have hts := E.1.2.2.2.2
  show gJ p l e (gRx 7) s m args below meth c 0 0 (gQT below args s D (gTy cI cZ) (gX cI cZ q r [(P : Int), (Dn : Int), t, la, wa] [f0, f1, f2, f3, f4, f5, f6, f7, f8, f9, f10, f11, f12, f13]) gIX A0) A0 D (gX cI cZ q r [(P : Int), (Dn : Int), t, la, wa] [f0, f1, f2, f3, f4, f5, f6, f7, f8, f9, f10, f11, f12, f13]) [some (.ref q), some (.int (iI x))] 0 []
  refine g_aload_n E dX0_distance_0 rfl rfl ?_
  refine g_iload_n E dX0_distance_1 rfl rfl ?_
  exact g_callT E (tX_requirePlace hfl hgx (by omega) hx) hT hlk htb (cwV 1 hts gX0_distance_X0_requirePlace rfl rfl rfl hdX0_requirePlace ⟨(Nat.le_of_ble_eq_true rfl), (Nat.le_of_ble_eq_true rfl)⟩) rfl rfl rfl (Nat.le_of_ble_eq_true rfl) gW_0 rfl dX0_distance_2 ⟨(Nat.le_of_ble_eq_true rfl), (Nat.le_of_ble_eq_true rfl)⟩
set_option maxHeartbeats 4000000 in
set_option maxRecDepth 100000 in
theorem tX_door1 {l : Launch} {D : va_G} {cI cZ : ClassId} {q : Nat} {r : Nat → Nat} {P Dn : Nat} {t la wa : Int} {f0 f1 f2 f3 f4 f5 f6 f7 f8 f9 f10 f11 f12 f13 : Nat → Int} (hfl : l.stackTraces = false) {x : Int} (hgx : -2147483648 ≤ x ∧ x < 2147483648) (hP : 1 ≤ P ∧ P ≤ 11) (hx : x < 0 ∨ P ≤ x) : gMT l yX0_door wsX0_door 7 D (gTy cI cZ) (gX cI cZ q r [(P : Int), (Dn : Int), t, la, wa] [f0, f1, f2, f3, f4, f5, f6, f7, f8, f9, f10, f11, f12, f13]) [.ref q, .int (iI x)] gIX := by
  refine g_ofT (by decide +kernel) rfl rfl (Nat.le_of_ble_eq_true rfl) (g_cat1 rfl) ?_
  intro p e s m args below meth c A0 E hT hlk htb
  have hts := E.1.2.2.2.2
  show gJ p l e (gRx 7) s m args below meth c 0 0 (gQT below args s D (gTy cI cZ) (gX cI cZ q r [(P : Int), (Dn : Int), t, la, wa] [f0, f1, f2, f3, f4, f5, f6, f7, f8, f9, f10, f11, f12, f13]) gIX A0) A0 D (gX cI cZ q r [(P : Int), (Dn : Int), t, la, wa] [f0, f1, f2, f3, f4, f5, f6, f7, f8, f9, f10, f11, f12, f13]) [some (.ref q), some (.int (iI x))] 0 []
  refine g_aload_n E dX0_door_0 rfl rfl ?_
  refine g_iload_n E dX0_door_1 rfl rfl ?_
  exact g_callT E (tX_requirePlace hfl hgx (by omega) hx) hT hlk htb (cwV 1 hts gX0_door_X0_requirePlace rfl rfl rfl hdX0_requirePlace ⟨(Nat.le_of_ble_eq_true rfl), (Nat.le_of_ble_eq_true rfl)⟩) rfl rfl rfl (Nat.le_of_ble_eq_true rfl) gW_0 rfl dX0_door_2 ⟨(Nat.le_of_ble_eq_true rfl), (Nat.le_of_ble_eq_true rfl)⟩
set_option maxHeartbeats 4000000 in
set_option maxRecDepth 100000 in
theorem tX_wouldMove1 {l : Launch} {D : va_G} {cI cZ : ClassId} {q : Nat} {r : Nat → Nat} {P Dn : Nat} {t la wa : Int} {f0 f1 f2 f3 f4 f5 f6 f7 f8 f9 f10 f11 f12 f13 : Nat → Int} (hfl : l.stackTraces = false) {x : Int} (hgx : -2147483648 ≤ x ∧ x < 2147483648) (hP : 1 ≤ P ∧ P ≤ 11) (hx : x < 0 ∨ P ≤ x) : gMT l yX0_wouldMove wsX0_wouldMove 7 D (gTy cI cZ) (gX cI cZ q r [(P : Int), (Dn : Int), t, la, wa] [f0, f1, f2, f3, f4, f5, f6, f7, f8, f9, f10, f11, f12, f13]) [.ref q, .int (iI x)] gIX := by
  refine g_ofT (by decide +kernel) rfl rfl (Nat.le_of_ble_eq_true rfl) (g_cat1 rfl) ?_
  intro p e s m args below meth c A0 E hT hlk htb
  have hts := E.1.2.2.2.2
  show gJ p l e (gRx 7) s m args below meth c 0 0 (gQT below args s D (gTy cI cZ) (gX cI cZ q r [(P : Int), (Dn : Int), t, la, wa] [f0, f1, f2, f3, f4, f5, f6, f7, f8, f9, f10, f11, f12, f13]) gIX A0) A0 D (gX cI cZ q r [(P : Int), (Dn : Int), t, la, wa] [f0, f1, f2, f3, f4, f5, f6, f7, f8, f9, f10, f11, f12, f13]) [some (.ref q), some (.int (iI x)), none] 0 []
  refine g_aload_n E dX0_wouldMove_0 rfl rfl ?_
  refine g_iload_n E dX0_wouldMove_1 rfl rfl ?_
  exact g_callT E (tX_requirePlace hfl hgx (by omega) hx) hT hlk htb (cwV 1 hts gX0_wouldMove_X0_requirePlace rfl rfl rfl hdX0_requirePlace ⟨(Nat.le_of_ble_eq_true rfl), (Nat.le_of_ble_eq_true rfl)⟩) rfl rfl rfl (Nat.le_of_ble_eq_true rfl) gW_0 rfl dX0_wouldMove_2 ⟨(Nat.le_of_ble_eq_true rfl), (Nat.le_of_ble_eq_true rfl)⟩
set_option maxHeartbeats 4000000 in
set_option maxRecDepth 100000 in
theorem tX_passed1 {l : Launch} {D : va_G} {cI cZ : ClassId} {q : Nat} {r : Nat → Nat} {P Dn : Nat} {t la wa : Int} {f0 f1 f2 f3 f4 f5 f6 f7 f8 f9 f10 f11 f12 f13 : Nat → Int} (hfl : l.stackTraces = false) {x : Int} (hgx : -2147483648 ≤ x ∧ x < 2147483648) (hDn : Dn ≤ 16) (hx : x < 0 ∨ Dn ≤ x) : gMT l yX0_passed wsX0_passed 7 D (gTy cI cZ) (gX cI cZ q r [(P : Int), (Dn : Int), t, la, wa] [f0, f1, f2, f3, f4, f5, f6, f7, f8, f9, f10, f11, f12, f13]) [.ref q, .int (iI x)] gIX := by
  refine g_ofT (by decide +kernel) rfl rfl (Nat.le_of_ble_eq_true rfl) (g_cat1 rfl) ?_
  intro p e s m args below meth c A0 E hT hlk htb
  have hts := E.1.2.2.2.2
  show gJ p l e (gRx 7) s m args below meth c 0 0 (gQT below args s D (gTy cI cZ) (gX cI cZ q r [(P : Int), (Dn : Int), t, la, wa] [f0, f1, f2, f3, f4, f5, f6, f7, f8, f9, f10, f11, f12, f13]) gIX A0) A0 D (gX cI cZ q r [(P : Int), (Dn : Int), t, la, wa] [f0, f1, f2, f3, f4, f5, f6, f7, f8, f9, f10, f11, f12, f13]) [some (.ref q), some (.int (iI x))] 0 []
  refine g_aload_n E dX0_passed_0 rfl rfl ?_
  refine g_iload_n E dX0_passed_1 rfl rfl ?_
  exact g_callT E (tX_requireDoor hfl hgx (by omega) hx) hT hlk htb (cwV 1 hts gX0_passed_X0_requireDoor rfl rfl rfl hdX0_requireDoor ⟨(Nat.le_of_ble_eq_true rfl), (Nat.le_of_ble_eq_true rfl)⟩) rfl rfl rfl (Nat.le_of_ble_eq_true rfl) gW_0 rfl dX0_passed_2 ⟨(Nat.le_of_ble_eq_true rfl), (Nat.le_of_ble_eq_true rfl)⟩
set_option maxHeartbeats 4000000 in
set_option maxRecDepth 100000 in
theorem tX_latest1 {l : Launch} {D : va_G} {cI cZ : ClassId} {q : Nat} {r : Nat → Nat} {P Dn : Nat} {t la wa : Int} {f0 f1 f2 f3 f4 f5 f6 f7 f8 f9 f10 f11 f12 f13 : Nat → Int} (hfl : l.stackTraces = false) (hla : la = -1) : gMT l yX0_latest wsX0_latest 7 D (gTy cI cZ) (gX cI cZ q r [(P : Int), (Dn : Int), t, la, wa] [f0, f1, f2, f3, f4, f5, f6, f7, f8, f9, f10, f11, f12, f13]) [.ref q] gNS := by
  refine g_ofT (by decide +kernel) rfl rfl (Nat.le_of_ble_eq_true rfl) (g_cat1 rfl) ?_
  intro p e s m args below meth c A0 E hT hlk htb
  have hts := E.1.2.2.2.2
  show gJ p l e (gRx 7) s m args below meth c 0 0 (gQT below args s D (gTy cI cZ) (gX cI cZ q r [(P : Int), (Dn : Int), t, la, wa] [f0, f1, f2, f3, f4, f5, f6, f7, f8, f9, f10, f11, f12, f13]) gNS A0) A0 D (gX cI cZ q r [(P : Int), (Dn : Int), t, la, wa] [f0, f1, f2, f3, f4, f5, f6, f7, f8, f9, f10, f11, f12, f13]) [some (.ref q)] 0 []
  refine g_aload_n E dX0_latest_0 rfl rfl ?_
  refine g_getI E inX0_latest rfl flX0_latest_57 dX0_latest_1 (by decide) rfl rfl ?_
  refine g_iconst E dX0_latest_4 ?_
  refine g_icmp_eq_t E dX0_latest_5 (tgt := 12) (by decide) (by omega) (by omega) ?_
  refine g_iconst E dX0_latest_12 ?_
  exact g_callTS E (tX_requireElement hfl rfl) hT hlk htb (va_cwS 1 hts gX0_latest_X0_requireElement rfl rfl rfl hdX0_requireElement.2 ⟨(Nat.le_of_ble_eq_true rfl), (Nat.le_of_ble_eq_true rfl)⟩) rfl rfl rfl (Nat.le_of_ble_eq_true rfl) dX0_latest_13 ⟨(Nat.le_of_ble_eq_true rfl), (Nat.le_of_ble_eq_true rfl)⟩
set_option maxHeartbeats 4000000 in
set_option maxRecDepth 100000 in
theorem tX_distance2 {l : Launch} {D : va_G} {cI cZ : ClassId} {q : Nat} {r : Nat → Nat} {P Dn : Nat} {t la wa : Int} {f0 f1 f2 f3 f4 f5 f6 f7 f8 f9 f10 f11 f12 f13 : Nat → Int} (hfl : l.stackTraces = false) {i : Nat} (hP : 1 ≤ P ∧ P ≤ 11) (hi : i < P) (hne : f3 i = -1) : gMT l yX0_distance wsX0_distance 7 D (gTy cI cZ) (gX cI cZ q r [(P : Int), (Dn : Int), t, la, wa] [f0, f1, f2, f3, f4, f5, f6, f7, f8, f9, f10, f11, f12, f13]) [.ref q, .int (iI (i : Int))] gNS := by
  refine g_ofT (by decide +kernel) rfl rfl (Nat.le_of_ble_eq_true rfl) (g_cat1 rfl) ?_
  intro p e s m args below meth c A0 E hT hlk htb
  have hts := E.1.2.2.2.2
  show gJ p l e (gRx 7) s m args below meth c 0 0 (gQT below args s D (gTy cI cZ) (gX cI cZ q r [(P : Int), (Dn : Int), t, la, wa] [f0, f1, f2, f3, f4, f5, f6, f7, f8, f9, f10, f11, f12, f13]) gNS A0) A0 D (gX cI cZ q r [(P : Int), (Dn : Int), t, la, wa] [f0, f1, f2, f3, f4, f5, f6, f7, f8, f9, f10, f11, f12, f13]) [some (.ref q), some (.int (iI (i : Int)))] 0 []
  refine g_aload_n E dX0_distance_0 rfl rfl ?_
  refine g_iload_n E dX0_distance_1 rfl rfl ?_
  refine g_callV0 E (cX_requirePlace (by omega) (by omega)) (cwV 1 hts gX0_distance_X0_requirePlace rfl rfl rfl hdX0_requirePlace ⟨(Nat.le_of_ble_eq_true rfl), (Nat.le_of_ble_eq_true rfl)⟩) rfl rfl rfl (Nat.le_of_ble_eq_true rfl) gW_0 rfl dX0_distance_2 ⟨Nat.zero_le _, Nat.zero_le _⟩ ?_
  refine g_aload_n E dX0_distance_5 rfl rfl ?_
  refine g_getR E inX0_distance rfl flX0_distance_19 dX0_distance_6 (by decide) rfl ?_
  refine g_iload_n E dX0_distance_9 rfl rfl ?_
  refine g_ald E dX0_distance_10 rfl rfl rfl (by omega) ?_
  refine g_iconst E dX0_distance_11 ?_
  refine g_icmp_eq_t E dX0_distance_12 (tgt := 19) (by decide) (by omega) (by omega) ?_
  refine g_iconst E dX0_distance_19 ?_
  exact g_callTS E (tX_requireElement hfl rfl) hT hlk htb (va_cwS 1 hts gX0_distance_X0_requireElement rfl rfl rfl hdX0_requireElement.2 ⟨(Nat.le_of_ble_eq_true rfl), (Nat.le_of_ble_eq_true rfl)⟩) rfl rfl rfl (Nat.le_of_ble_eq_true rfl) dX0_distance_20 ⟨(Nat.le_of_ble_eq_true rfl), (Nat.le_of_ble_eq_true rfl)⟩
set_option maxHeartbeats 4000000 in
set_option maxRecDepth 100000 in
theorem tX_door2 {l : Launch} {D : va_G} {cI cZ : ClassId} {q : Nat} {r : Nat → Nat} {P Dn : Nat} {t la wa : Int} {f0 f1 f2 f3 f4 f5 f6 f7 f8 f9 f10 f11 f12 f13 : Nat → Int} (hfl : l.stackTraces = false) {i : Nat} (hP : 1 ≤ P ∧ P ≤ 11) (hi : i < P) (hne : f4 i = -1) : gMT l yX0_door wsX0_door 7 D (gTy cI cZ) (gX cI cZ q r [(P : Int), (Dn : Int), t, la, wa] [f0, f1, f2, f3, f4, f5, f6, f7, f8, f9, f10, f11, f12, f13]) [.ref q, .int (iI (i : Int))] gNS := by
  refine g_ofT (by decide +kernel) rfl rfl (Nat.le_of_ble_eq_true rfl) (g_cat1 rfl) ?_
  intro p e s m args below meth c A0 E hT hlk htb
  have hts := E.1.2.2.2.2
  show gJ p l e (gRx 7) s m args below meth c 0 0 (gQT below args s D (gTy cI cZ) (gX cI cZ q r [(P : Int), (Dn : Int), t, la, wa] [f0, f1, f2, f3, f4, f5, f6, f7, f8, f9, f10, f11, f12, f13]) gNS A0) A0 D (gX cI cZ q r [(P : Int), (Dn : Int), t, la, wa] [f0, f1, f2, f3, f4, f5, f6, f7, f8, f9, f10, f11, f12, f13]) [some (.ref q), some (.int (iI (i : Int)))] 0 []
  refine g_aload_n E dX0_door_0 rfl rfl ?_
  refine g_iload_n E dX0_door_1 rfl rfl ?_
  refine g_callV0 E (cX_requirePlace (by omega) (by omega)) (cwV 1 hts gX0_door_X0_requirePlace rfl rfl rfl hdX0_requirePlace ⟨(Nat.le_of_ble_eq_true rfl), (Nat.le_of_ble_eq_true rfl)⟩) rfl rfl rfl (Nat.le_of_ble_eq_true rfl) gW_0 rfl dX0_door_2 ⟨Nat.zero_le _, Nat.zero_le _⟩ ?_
  refine g_aload_n E dX0_door_5 rfl rfl ?_
  refine g_getR E inX0_door rfl flX0_door_22 dX0_door_6 (by decide) rfl ?_
  refine g_iload_n E dX0_door_9 rfl rfl ?_
  refine g_ald E dX0_door_10 rfl rfl rfl (by omega) ?_
  refine g_iconst E dX0_door_11 ?_
  refine g_icmp_eq_t E dX0_door_12 (tgt := 19) (by decide) (by omega) (by omega) ?_
  refine g_iconst E dX0_door_19 ?_
  exact g_callTS E (tX_requireElement hfl rfl) hT hlk htb (va_cwS 1 hts gX0_door_X0_requireElement rfl rfl rfl hdX0_requireElement.2 ⟨(Nat.le_of_ble_eq_true rfl), (Nat.le_of_ble_eq_true rfl)⟩) rfl rfl rfl (Nat.le_of_ble_eq_true rfl) dX0_door_20 ⟨(Nat.le_of_ble_eq_true rfl), (Nat.le_of_ble_eq_true rfl)⟩
set_option maxHeartbeats 4000000 in
set_option maxRecDepth 100000 in
theorem tX_bound1 {l : Launch} {D : va_G} {cI cZ : ClassId} {q : Nat} {r : Nat → Nat} {P Dn : Nat} {t la wa : Int} {f0 f1 f2 f3 f4 f5 f6 f7 f8 f9 f10 f11 f12 f13 : Nat → Int} (hfl : l.stackTraces = false) (hP : 1 ≤ P ∧ P ≤ 11) (hs3 : ∀ j : Nat, -2147483648 ≤ f3 j ∧ f3 j < 2147483648) (hr : -2147483648 ≤ pSum (fun j => if f3 j = -1 then f1 j else 0) P ∧ pSum (fun j => if f3 j = -1 then f1 j else 0) P < 2147483648) (htr : pSum (fun j => if f3 j = -1 then f1 j else 0) P ≠ 0) : gMT l yX0_bound wsX0_bound 7 D (gTy cI cZ) (gX cI cZ q r [(P : Int), (Dn : Int), t, la, wa] [f0, f1, f2, f3, f4, f5, f6, f7, f8, f9, f10, f11, f12, f13]) [.ref q] gIS := by
  refine g_ofT (by decide +kernel) rfl rfl (Nat.le_of_ble_eq_true rfl) (g_cat1 rfl) ?_
  intro p e s m args below meth c A0 E hT hlk htb
  have hts := E.1.2.2.2.2
  show gJ p l e (gRx 7) s m args below meth c 0 0 (gQT below args s D (gTy cI cZ) (gX cI cZ q r [(P : Int), (Dn : Int), t, la, wa] [f0, f1, f2, f3, f4, f5, f6, f7, f8, f9, f10, f11, f12, f13]) gIS A0) A0 D (gX cI cZ q r [(P : Int), (Dn : Int), t, la, wa] [f0, f1, f2, f3, f4, f5, f6, f7, f8, f9, f10, f11, f12, f13]) [some (.ref q), none, none] 0 []
  refine g_aload_n E dX0_bound_0 rfl rfl ?_
  refine g_callI0 E (cX_trapped hP hs3) (cwV 0 hts gX0_bound_X0_trapped rfl rfl rfl hdX0_trapped ⟨(Nat.le_of_ble_eq_true rfl), (Nat.le_of_ble_eq_true rfl)⟩) rfl rfl rfl (Nat.le_of_ble_eq_true rfl) gW_0 rfl dX0_bound_1 ⟨Nat.zero_le _, Nat.zero_le _⟩ ?_
  refine g_if_ne_t E dX0_bound_4 (tgt := 11) (by decide) (by omega) (by omega) ?_
  refine g_iconst E dX0_bound_11 ?_
  exact g_callTS E (tX_requireState hfl rfl) hT hlk htb (va_cwS 1 hts gX0_bound_X0_requireState rfl rfl rfl hdX0_requireState.2 ⟨(Nat.le_of_ble_eq_true rfl), (Nat.le_of_ble_eq_true rfl)⟩) rfl rfl rfl (Nat.le_of_ble_eq_true rfl) dX0_bound_12 ⟨(Nat.le_of_ble_eq_true rfl), (Nat.le_of_ble_eq_true rfl)⟩
