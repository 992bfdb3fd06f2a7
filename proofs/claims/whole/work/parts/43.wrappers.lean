set_option maxRecDepth 100000 in
theorem hdL_X0_addPlace : yX0_addPlace.cls = RX0 ∧ yX0_addPlace.cls ≠ "java/lang/invoke/MethodHandle" ∧ yX0_addPlace.cls ≠ "java/lang/invoke/VarHandle" ∧ (parseMethodDescriptor yX0_addPlace.desc).map (fun d => d.parameters.length) = some 1 := by decide +kernel
set_option maxRecDepth 100000 in
theorem cl_addPlace_13 : Cond.classLink RL 13 gIA ∈ wsL_addPlace := by decide +kernel
set_option maxRecDepth 100000 in
theorem cl_addPlace_15 : Cond.classLink RL 15 gIS ∈ wsL_addPlace := by decide +kernel
set_option maxRecDepth 100000 in
theorem hdL_X0_addDoor : yX0_addDoor.cls = RX0 ∧ yX0_addDoor.cls ≠ "java/lang/invoke/MethodHandle" ∧ yX0_addDoor.cls ≠ "java/lang/invoke/VarHandle" ∧ (parseMethodDescriptor yX0_addDoor.desc).map (fun d => d.parameters.length) = some 4 := by decide +kernel
set_option maxRecDepth 100000 in
theorem cl_addDoor_21 : Cond.classLink RL 21 gIX ∈ wsL_addDoor := by decide +kernel
set_option maxRecDepth 100000 in
theorem cl_addDoor_13 : Cond.classLink RL 13 gIA ∈ wsL_addDoor := by decide +kernel
set_option maxRecDepth 100000 in
theorem cl_addDoor_15 : Cond.classLink RL 15 gIS ∈ wsL_addDoor := by decide +kernel
set_option maxRecDepth 100000 in
theorem hdL_X0_setDoor : yX0_setDoor.cls = RX0 ∧ yX0_setDoor.cls ≠ "java/lang/invoke/MethodHandle" ∧ yX0_setDoor.cls ≠ "java/lang/invoke/VarHandle" ∧ (parseMethodDescriptor yX0_setDoor.desc).map (fun d => d.parameters.length) = some 2 := by decide +kernel
set_option maxRecDepth 100000 in
theorem cl_setDoor_21 : Cond.classLink RL 21 gIX ∈ wsL_setDoor := by decide +kernel
set_option maxRecDepth 100000 in
theorem hdL_X0_come : yX0_come.cls = RX0 ∧ yX0_come.cls ≠ "java/lang/invoke/MethodHandle" ∧ yX0_come.cls ≠ "java/lang/invoke/VarHandle" ∧ (parseMethodDescriptor yX0_come.desc).map (fun d => d.parameters.length) = some 2 := by decide +kernel
set_option maxRecDepth 100000 in
theorem cl_come_21 : Cond.classLink RL 21 gIX ∈ wsL_come := by decide +kernel
set_option maxRecDepth 100000 in
theorem cl_come_13 : Cond.classLink RL 13 gIA ∈ wsL_come := by decide +kernel
set_option maxRecDepth 100000 in
theorem cl_come_15 : Cond.classLink RL 15 gIS ∈ wsL_come := by decide +kernel
set_option maxRecDepth 100000 in
theorem hdL_X0_setRelease : yX0_setRelease.cls = RX0 ∧ yX0_setRelease.cls ≠ "java/lang/invoke/MethodHandle" ∧ yX0_setRelease.cls ≠ "java/lang/invoke/VarHandle" ∧ (parseMethodDescriptor yX0_setRelease.desc).map (fun d => d.parameters.length) = some 2 := by decide +kernel
set_option maxRecDepth 100000 in
theorem cl_setRelease_21 : Cond.classLink RL 21 gIX ∈ wsL_setRelease := by decide +kernel
set_option maxRecDepth 100000 in
theorem cl_setRelease_13 : Cond.classLink RL 13 gIA ∈ wsL_setRelease := by decide +kernel
set_option maxRecDepth 100000 in
theorem hdL_X0_step : yX0_step.cls = RX0 ∧ yX0_step.cls ≠ "java/lang/invoke/MethodHandle" ∧ yX0_step.cls ≠ "java/lang/invoke/VarHandle" ∧ (parseMethodDescriptor yX0_step.desc).map (fun d => d.parameters.length) = some 1 := by decide +kernel
set_option maxRecDepth 100000 in
theorem cl_step_13 : Cond.classLink RL 13 gIA ∈ wsL_step := by decide +kernel
set_option maxRecDepth 100000 in
theorem hdL_X0_people : yX0_people.cls = RX0 ∧ yX0_people.cls ≠ "java/lang/invoke/MethodHandle" ∧ yX0_people.cls ≠ "java/lang/invoke/VarHandle" ∧ (parseMethodDescriptor yX0_people.desc).map (fun d => d.parameters.length) = some 1 := by decide +kernel
set_option maxRecDepth 100000 in
theorem cl_people_21 : Cond.classLink RL 21 gIX ∈ wsL_people := by decide +kernel
set_option maxRecDepth 100000 in
theorem hdL_X0_latest : yX0_latest.cls = RX0 ∧ yX0_latest.cls ≠ "java/lang/invoke/MethodHandle" ∧ yX0_latest.cls ≠ "java/lang/invoke/VarHandle" ∧ (parseMethodDescriptor yX0_latest.desc).map (fun d => d.parameters.length) = some 0 := by decide +kernel
set_option maxRecDepth 100000 in
theorem cl_latest_44 : Cond.classLink RL 44 gNS ∈ wsL_latest := by decide +kernel
set_option maxRecDepth 100000 in
theorem hdL_X0_passed : yX0_passed.cls = RX0 ∧ yX0_passed.cls ≠ "java/lang/invoke/MethodHandle" ∧ yX0_passed.cls ≠ "java/lang/invoke/VarHandle" ∧ (parseMethodDescriptor yX0_passed.desc).map (fun d => d.parameters.length) = some 1 := by decide +kernel
set_option maxRecDepth 100000 in
theorem cl_passed_21 : Cond.classLink RL 21 gIX ∈ wsL_passed := by decide +kernel
set_option maxRecDepth 100000 in
theorem hdL_X0_distance : yX0_distance.cls = RX0 ∧ yX0_distance.cls ≠ "java/lang/invoke/MethodHandle" ∧ yX0_distance.cls ≠ "java/lang/invoke/VarHandle" ∧ (parseMethodDescriptor yX0_distance.desc).map (fun d => d.parameters.length) = some 1 := by decide +kernel
set_option maxRecDepth 100000 in
theorem cl_distance_21 : Cond.classLink RL 21 gIX ∈ wsL_distance := by decide +kernel
set_option maxRecDepth 100000 in
theorem cl_distance_44 : Cond.classLink RL 44 gNS ∈ wsL_distance := by decide +kernel
set_option maxRecDepth 100000 in
theorem hdL_X0_door : yX0_door.cls = RX0 ∧ yX0_door.cls ≠ "java/lang/invoke/MethodHandle" ∧ yX0_door.cls ≠ "java/lang/invoke/VarHandle" ∧ (parseMethodDescriptor yX0_door.desc).map (fun d => d.parameters.length) = some 1 := by decide +kernel
set_option maxRecDepth 100000 in
theorem cl_door_21 : Cond.classLink RL 21 gIX ∈ wsL_door := by decide +kernel
set_option maxRecDepth 100000 in
theorem cl_door_44 : Cond.classLink RL 44 gNS ∈ wsL_door := by decide +kernel
set_option maxRecDepth 100000 in
theorem hdL_X0_wouldMove : yX0_wouldMove.cls = RX0 ∧ yX0_wouldMove.cls ≠ "java/lang/invoke/MethodHandle" ∧ yX0_wouldMove.cls ≠ "java/lang/invoke/VarHandle" ∧ (parseMethodDescriptor yX0_wouldMove.desc).map (fun d => d.parameters.length) = some 1 := by decide +kernel
set_option maxRecDepth 100000 in
theorem cl_wouldMove_21 : Cond.classLink RL 21 gIX ∈ wsL_wouldMove := by decide +kernel
set_option maxRecDepth 100000 in
theorem hdL_X0_bound : yX0_bound.cls = RX0 ∧ yX0_bound.cls ≠ "java/lang/invoke/MethodHandle" ∧ yX0_bound.cls ≠ "java/lang/invoke/VarHandle" ∧ (parseMethodDescriptor yX0_bound.desc).map (fun d => d.parameters.length) = some 0 := by decide +kernel
set_option maxRecDepth 100000 in
theorem cl_bound_15 : Cond.classLink RL 15 gIS ∈ wsL_bound := by decide +kernel
set_option maxHeartbeats 4000000 in
set_option maxRecDepth 100000 in
theorem wL_addPlace0 {l : Launch} {D : va_G} {cI cZ cL : ClassId} {o q : Nat} {fL : Nat → Int64} {wX wX' : va_W} {fs : List Value} (he : wX[0]? = some (q, .inr (0, fs))) {x0 : Int} {rv : Int} (hM : gMI l yX0_addPlace wsX0_addPlace 6 D (gTy cI cZ) wX [.ref q, .int (iI x0)] rv wX') : gMW l yL_addPlace wsL_addPlace D (gTyL cI cZ cL) (gO cL o fL :: wX) [.ref q, .int (iI x0), .ref o] 0 (gO cL o (vp_updL fL 0 (iI rv).toInt64) :: wX') := by
  refine g_ofW (by decide +kernel) rfl rfl (Nat.le_of_ble_eq_true rfl) (g_cat1 rfl) ?_
  intro p e s m args below meth c Q A0 E hT htab hret
  have hts := E.1.2.2.2.2
  show gJ p l e (gRx 8) s m args below meth c 0 0 Q A0 D (gO cL o fL :: wX) [some (.ref q), some (.int (iI x0)), some (.ref o), none] 0 []
  refine g_aload_n E dL_addPlace_0 rfl rfl ?_
  refine g_iconst E dL_addPlace_1 ?_
  refine g_aload_n E dL_addPlace_2 rfl rfl ?_
  refine g_iload_n E dL_addPlace_3 rfl rfl ?_
  refine g_callIW E [0, 1] rfl (wr := [gO cL o fL]) hM (cwV 1 hts gL_addPlace_X0_addPlace rfl rfl rfl hdL_X0_addPlace ⟨(Nat.le_of_ble_eq_true rfl), (Nat.le_of_ble_eq_true rfl)⟩) rfl rfl rfl (Nat.le_of_ble_eq_true rfl) he rfl dL_addPlace_4 ⟨Nat.zero_le _, Nat.zero_le _⟩ ?_
  refine g_i2l E dL_addPlace_7 ?_
  refine g_last E 0 (ws' := gO cL o (vp_updL fL 0 (iI rv).toInt64) :: wX') rfl rfl dL_addPlace_8 ?_
  refine g_goto E dL_addPlace_9 (tgt := 18) (by decide) ?_
  refine g_iconst E dL_addPlace_18 ?_
  exact g_wid (Nat.zero_le _) (Nat.zero_le _) (hret _ _ dL_addPlace_19)
set_option maxHeartbeats 4000000 in
set_option maxRecDepth 100000 in
theorem wL_addPlace1 {l : Launch} {D : va_G} {cI cZ cL : ClassId} {o q : Nat} {fL : Nat → Int64} {wX : va_W} {fs : List Value} (he : wX[0]? = some (q, .inr (0, fs))) {x0 : Int} (hM : gMT l yX0_addPlace wsX0_addPlace 7 D (gTy cI cZ) wX [.ref q, .int (iI x0)] gIA) : gMW l yL_addPlace wsL_addPlace D (gTyL cI cZ cL) (gO cL o fL :: wX) [.ref q, .int (iI x0), .ref o] 1 (gO cL o fL :: wX) := by
  refine g_ofW (by decide +kernel) rfl rfl (Nat.le_of_ble_eq_true rfl) (g_cat1 rfl) ?_
  intro p e s m args below meth c Q A0 E hT htab hret
  have hts := E.1.2.2.2.2
  show gJ p l e (gRx 8) s m args below meth c 0 0 Q A0 D (gO cL o fL :: wX) [some (.ref q), some (.int (iI x0)), some (.ref o), none] 0 []
  refine g_aload_n E dL_addPlace_0 rfl rfl ?_
  refine g_iconst E dL_addPlace_1 ?_
  refine g_aload_n E dL_addPlace_2 rfl rfl ?_
  refine g_iload_n E dL_addPlace_3 rfl rfl ?_
  refine g_callCW E [0, 1] rfl (wr := [gO cL o fL]) hM hT htab [] ⟨0, 9, 12, 13⟩ [⟨0, 9, 15, 15⟩] rfl (fun z hz => nomatch hz) (by decide) (by decide) cl_addPlace_13 (by decide +kernel) (cwV 1 hts gL_addPlace_X0_addPlace rfl rfl rfl hdL_X0_addPlace ⟨(Nat.le_of_ble_eq_true rfl), (Nat.le_of_ble_eq_true rfl)⟩) rfl rfl rfl (Nat.le_of_ble_eq_true rfl) he rfl dL_addPlace_4 ⟨(Nat.le_of_ble_eq_true rfl), (Nat.le_of_ble_eq_true rfl)⟩ (fun a => ?_)
  refine g_astore_n E (lv' := [_, _, _, _]) dL_addPlace_12 rfl (Nat.le_of_ble_eq_true rfl) rfl ?_
  refine g_iconst E dL_addPlace_13 ?_
  exact hret _ _ dL_addPlace_14
set_option maxHeartbeats 4000000 in
set_option maxRecDepth 100000 in
theorem wL_addPlace2 {l : Launch} {D : va_G} {cI cZ cL : ClassId} {o q : Nat} {fL : Nat → Int64} {wX : va_W} {fs : List Value} (he : wX[0]? = some (q, .inr (0, fs))) {x0 : Int} (hM : gMT l yX0_addPlace wsX0_addPlace 7 D (gTy cI cZ) wX [.ref q, .int (iI x0)] gIS) : gMW l yL_addPlace wsL_addPlace D (gTyL cI cZ cL) (gO cL o fL :: wX) [.ref q, .int (iI x0), .ref o] 2 (gO cL o fL :: wX) := by
  refine g_ofW (by decide +kernel) rfl rfl (Nat.le_of_ble_eq_true rfl) (g_cat1 rfl) ?_
  intro p e s m args below meth c Q A0 E hT htab hret
  have hts := E.1.2.2.2.2
  show gJ p l e (gRx 8) s m args below meth c 0 0 Q A0 D (gO cL o fL :: wX) [some (.ref q), some (.int (iI x0)), some (.ref o), none] 0 []
  have hpass : ∀ z ∈ ([⟨0, 9, 12, 13⟩] : List ExceptionTableEntry), z.catchType ≠ 0 ∧ ∃ nm : String, Cond.classLink RL z.catchType nm ∈ wsL_addPlace ∧ (gIS, nm) ∈ gNcs := by
    intro z hz
    simp only [List.mem_cons, List.not_mem_nil, or_false] at hz
    subst hz
    exact ⟨by decide, gIA, cl_addPlace_13, by decide +kernel⟩
  refine g_aload_n E dL_addPlace_0 rfl rfl ?_
  refine g_iconst E dL_addPlace_1 ?_
  refine g_aload_n E dL_addPlace_2 rfl rfl ?_
  refine g_iload_n E dL_addPlace_3 rfl rfl ?_
  refine g_callCW E [0, 1] rfl (wr := [gO cL o fL]) hM hT htab [⟨0, 9, 12, 13⟩] ⟨0, 9, 15, 15⟩ [] rfl hpass (by decide) (by decide) cl_addPlace_15 (by decide +kernel) (cwV 1 hts gL_addPlace_X0_addPlace rfl rfl rfl hdL_X0_addPlace ⟨(Nat.le_of_ble_eq_true rfl), (Nat.le_of_ble_eq_true rfl)⟩) rfl rfl rfl (Nat.le_of_ble_eq_true rfl) he rfl dL_addPlace_4 ⟨(Nat.le_of_ble_eq_true rfl), (Nat.le_of_ble_eq_true rfl)⟩ (fun a => ?_)
  refine g_astore_n E (lv' := [_, _, _, _]) dL_addPlace_15 rfl (Nat.le_of_ble_eq_true rfl) rfl ?_
  refine g_iconst E dL_addPlace_16 ?_
  exact hret _ _ dL_addPlace_17
set_option maxHeartbeats 4000000 in
set_option maxRecDepth 100000 in
theorem wL_addDoor0 {l : Launch} {D : va_G} {cI cZ cL : ClassId} {o q : Nat} {fL : Nat → Int64} {wX wX' : va_W} {fs : List Value} (he : wX[0]? = some (q, .inr (0, fs))) {x0 x1 x2 x3 : Int} {rv : Int} (hM : gMI l yX0_addDoor wsX0_addDoor 6 D (gTy cI cZ) wX [.ref q, .int (iI x0), .int (iI x1), .int (iI x2), .int (iI x3)] rv wX') : gMW l yL_addDoor wsL_addDoor D (gTyL cI cZ cL) (gO cL o fL :: wX) [.ref q, .int (iI x0), .int (iI x1), .int (iI x2), .int (iI x3), .ref o] 0 (gO cL o (vp_updL fL 0 (iI rv).toInt64) :: wX') := by
  refine g_ofW (by decide +kernel) rfl rfl (Nat.le_of_ble_eq_true rfl) (g_cat1 rfl) ?_
  intro p e s m args below meth c Q A0 E hT htab hret
  have hts := E.1.2.2.2.2
  show gJ p l e (gRx 8) s m args below meth c 0 0 Q A0 D (gO cL o fL :: wX) [some (.ref q), some (.int (iI x0)), some (.int (iI x1)), some (.int (iI x2)), some (.int (iI x3)), some (.ref o), none] 0 []
  refine g_aload E dL_addDoor_0 rfl ?_
  refine g_iconst E dL_addDoor_2 ?_
  refine g_aload_n E dL_addDoor_3 rfl rfl ?_
  refine g_iload_n E dL_addDoor_4 rfl rfl ?_
  refine g_iload_n E dL_addDoor_5 rfl rfl ?_
  refine g_iload_n E dL_addDoor_6 rfl rfl ?_
  refine g_iload E dL_addDoor_7 rfl ?_
  refine g_callIW E [0, 1] rfl (wr := [gO cL o fL]) hM (cwV 4 hts gL_addDoor_X0_addDoor rfl rfl rfl hdL_X0_addDoor ⟨(Nat.le_of_ble_eq_true rfl), (Nat.le_of_ble_eq_true rfl)⟩) rfl rfl rfl (Nat.le_of_ble_eq_true rfl) he rfl dL_addDoor_9 ⟨Nat.zero_le _, Nat.zero_le _⟩ ?_
  refine g_i2l E dL_addDoor_12 ?_
  refine g_last E 0 (ws' := gO cL o (vp_updL fL 0 (iI rv).toInt64) :: wX') rfl rfl dL_addDoor_13 ?_
  refine g_goto E dL_addDoor_14 (tgt := 29) (by decide) ?_
  refine g_iconst E dL_addDoor_29 ?_
  exact g_wid (Nat.zero_le _) (Nat.zero_le _) (hret _ _ dL_addDoor_30)
set_option maxHeartbeats 4000000 in
set_option maxRecDepth 100000 in
theorem wL_addDoor1 {l : Launch} {D : va_G} {cI cZ cL : ClassId} {o q : Nat} {fL : Nat → Int64} {wX : va_W} {fs : List Value} (he : wX[0]? = some (q, .inr (0, fs))) {x0 x1 x2 x3 : Int} (hM : gMT l yX0_addDoor wsX0_addDoor 7 D (gTy cI cZ) wX [.ref q, .int (iI x0), .int (iI x1), .int (iI x2), .int (iI x3)] gIX) : gMW l yL_addDoor wsL_addDoor D (gTyL cI cZ cL) (gO cL o fL :: wX) [.ref q, .int (iI x0), .int (iI x1), .int (iI x2), .int (iI x3), .ref o] 1 (gO cL o fL :: wX) := by
  refine g_ofW (by decide +kernel) rfl rfl (Nat.le_of_ble_eq_true rfl) (g_cat1 rfl) ?_
  intro p e s m args below meth c Q A0 E hT htab hret
  have hts := E.1.2.2.2.2
  show gJ p l e (gRx 8) s m args below meth c 0 0 Q A0 D (gO cL o fL :: wX) [some (.ref q), some (.int (iI x0)), some (.int (iI x1)), some (.int (iI x2)), some (.int (iI x3)), some (.ref o), none] 0 []
  refine g_aload E dL_addDoor_0 rfl ?_
  refine g_iconst E dL_addDoor_2 ?_
  refine g_aload_n E dL_addDoor_3 rfl rfl ?_
  refine g_iload_n E dL_addDoor_4 rfl rfl ?_
  refine g_iload_n E dL_addDoor_5 rfl rfl ?_
  refine g_iload_n E dL_addDoor_6 rfl rfl ?_
  refine g_iload E dL_addDoor_7 rfl ?_
  refine g_callCW E [0, 1] rfl (wr := [gO cL o fL]) hM hT htab [] ⟨0, 14, 17, 21⟩ [⟨0, 14, 21, 13⟩, ⟨0, 14, 25, 15⟩] rfl (fun z hz => nomatch hz) (by decide) (by decide) cl_addDoor_21 (by decide +kernel) (cwV 4 hts gL_addDoor_X0_addDoor rfl rfl rfl hdL_X0_addDoor ⟨(Nat.le_of_ble_eq_true rfl), (Nat.le_of_ble_eq_true rfl)⟩) rfl rfl rfl (Nat.le_of_ble_eq_true rfl) he rfl dL_addDoor_9 ⟨(Nat.le_of_ble_eq_true rfl), (Nat.le_of_ble_eq_true rfl)⟩ (fun a => ?_)
  refine g_astore E (lv' := [_, _, _, _, _, _, _]) dL_addDoor_17 (Nat.le_of_ble_eq_true rfl) rfl ?_
  refine g_iconst E dL_addDoor_19 ?_
  exact hret _ _ dL_addDoor_20
set_option maxHeartbeats 4000000 in
set_option maxRecDepth 100000 in
theorem wL_addDoor2 {l : Launch} {D : va_G} {cI cZ cL : ClassId} {o q : Nat} {fL : Nat → Int64} {wX : va_W} {fs : List Value} (he : wX[0]? = some (q, .inr (0, fs))) {x0 x1 x2 x3 : Int} (hM : gMT l yX0_addDoor wsX0_addDoor 7 D (gTy cI cZ) wX [.ref q, .int (iI x0), .int (iI x1), .int (iI x2), .int (iI x3)] gIA) : gMW l yL_addDoor wsL_addDoor D (gTyL cI cZ cL) (gO cL o fL :: wX) [.ref q, .int (iI x0), .int (iI x1), .int (iI x2), .int (iI x3), .ref o] 2 (gO cL o fL :: wX) := by
  refine g_ofW (by decide +kernel) rfl rfl (Nat.le_of_ble_eq_true rfl) (g_cat1 rfl) ?_
  intro p e s m args below meth c Q A0 E hT htab hret
  have hts := E.1.2.2.2.2
  show gJ p l e (gRx 8) s m args below meth c 0 0 Q A0 D (gO cL o fL :: wX) [some (.ref q), some (.int (iI x0)), some (.int (iI x1)), some (.int (iI x2)), some (.int (iI x3)), some (.ref o), none] 0 []
  have hpass : ∀ z ∈ ([⟨0, 14, 17, 21⟩] : List ExceptionTableEntry), z.catchType ≠ 0 ∧ ∃ nm : String, Cond.classLink RL z.catchType nm ∈ wsL_addDoor ∧ (gIA, nm) ∈ gNcs := by
    intro z hz
    simp only [List.mem_cons, List.not_mem_nil, or_false] at hz
    subst hz
    exact ⟨by decide, gIX, cl_addDoor_21, by decide +kernel⟩
  refine g_aload E dL_addDoor_0 rfl ?_
  refine g_iconst E dL_addDoor_2 ?_
  refine g_aload_n E dL_addDoor_3 rfl rfl ?_
  refine g_iload_n E dL_addDoor_4 rfl rfl ?_
  refine g_iload_n E dL_addDoor_5 rfl rfl ?_
  refine g_iload_n E dL_addDoor_6 rfl rfl ?_
  refine g_iload E dL_addDoor_7 rfl ?_
  refine g_callCW E [0, 1] rfl (wr := [gO cL o fL]) hM hT htab [⟨0, 14, 17, 21⟩] ⟨0, 14, 21, 13⟩ [⟨0, 14, 25, 15⟩] rfl hpass (by decide) (by decide) cl_addDoor_13 (by decide +kernel) (cwV 4 hts gL_addDoor_X0_addDoor rfl rfl rfl hdL_X0_addDoor ⟨(Nat.le_of_ble_eq_true rfl), (Nat.le_of_ble_eq_true rfl)⟩) rfl rfl rfl (Nat.le_of_ble_eq_true rfl) he rfl dL_addDoor_9 ⟨(Nat.le_of_ble_eq_true rfl), (Nat.le_of_ble_eq_true rfl)⟩ (fun a => ?_)
  refine g_astore E (lv' := [_, _, _, _, _, _, _]) dL_addDoor_21 (Nat.le_of_ble_eq_true rfl) rfl ?_
  refine g_iconst E dL_addDoor_23 ?_
  exact hret _ _ dL_addDoor_24
set_option maxHeartbeats 4000000 in
set_option maxRecDepth 100000 in
theorem wL_addDoor3 {l : Launch} {D : va_G} {cI cZ cL : ClassId} {o q : Nat} {fL : Nat → Int64} {wX : va_W} {fs : List Value} (he : wX[0]? = some (q, .inr (0, fs))) {x0 x1 x2 x3 : Int} (hM : gMT l yX0_addDoor wsX0_addDoor 7 D (gTy cI cZ) wX [.ref q, .int (iI x0), .int (iI x1), .int (iI x2), .int (iI x3)] gIS) : gMW l yL_addDoor wsL_addDoor D (gTyL cI cZ cL) (gO cL o fL :: wX) [.ref q, .int (iI x0), .int (iI x1), .int (iI x2), .int (iI x3), .ref o] 3 (gO cL o fL :: wX) := by
  refine g_ofW (by decide +kernel) rfl rfl (Nat.le_of_ble_eq_true rfl) (g_cat1 rfl) ?_
  intro p e s m args below meth c Q A0 E hT htab hret
  have hts := E.1.2.2.2.2
  show gJ p l e (gRx 8) s m args below meth c 0 0 Q A0 D (gO cL o fL :: wX) [some (.ref q), some (.int (iI x0)), some (.int (iI x1)), some (.int (iI x2)), some (.int (iI x3)), some (.ref o), none] 0 []
  have hpass : ∀ z ∈ ([⟨0, 14, 17, 21⟩, ⟨0, 14, 21, 13⟩] : List ExceptionTableEntry), z.catchType ≠ 0 ∧ ∃ nm : String, Cond.classLink RL z.catchType nm ∈ wsL_addDoor ∧ (gIS, nm) ∈ gNcs := by
    intro z hz
    simp only [List.mem_cons, List.not_mem_nil, or_false] at hz
    rcases hz with rfl | rfl
    · exact ⟨by decide, gIX, cl_addDoor_21, by decide +kernel⟩
    · exact ⟨by decide, gIA, cl_addDoor_13, by decide +kernel⟩
  refine g_aload E dL_addDoor_0 rfl ?_
  refine g_iconst E dL_addDoor_2 ?_
  refine g_aload_n E dL_addDoor_3 rfl rfl ?_
  refine g_iload_n E dL_addDoor_4 rfl rfl ?_
  refine g_iload_n E dL_addDoor_5 rfl rfl ?_
  refine g_iload_n E dL_addDoor_6 rfl rfl ?_
  refine g_iload E dL_addDoor_7 rfl ?_
  refine g_callCW E [0, 1] rfl (wr := [gO cL o fL]) hM hT htab [⟨0, 14, 17, 21⟩, ⟨0, 14, 21, 13⟩] ⟨0, 14, 25, 15⟩ [] rfl hpass (by decide) (by decide) cl_addDoor_15 (by decide +kernel) (cwV 4 hts gL_addDoor_X0_addDoor rfl rfl rfl hdL_X0_addDoor ⟨(Nat.le_of_ble_eq_true rfl), (Nat.le_of_ble_eq_true rfl)⟩) rfl rfl rfl (Nat.le_of_ble_eq_true rfl) he rfl dL_addDoor_9 ⟨(Nat.le_of_ble_eq_true rfl), (Nat.le_of_ble_eq_true rfl)⟩ (fun a => ?_)
  refine g_astore E (lv' := [_, _, _, _, _, _, _]) dL_addDoor_25 (Nat.le_of_ble_eq_true rfl) rfl ?_
  refine g_iconst E dL_addDoor_27 ?_
  exact hret _ _ dL_addDoor_28
set_option maxHeartbeats 4000000 in
set_option maxRecDepth 100000 in
theorem wL_setDoor0 {l : Launch} {D : va_G} {cI cZ cL : ClassId} {o q : Nat} {fL : Nat → Int64} {wX wX' : va_W} {fs : List Value} (he : wX[0]? = some (q, .inr (0, fs))) {x0 x1 : Int} {rv : Int} (hrv : rv = 0 ∨ rv = 1) (hM : gMI l yX0_setDoor wsX0_setDoor 6 D (gTy cI cZ) wX [.ref q, .int (iI x0), .int (iI x1)] rv wX') : gMW l yL_setDoor wsL_setDoor D (gTyL cI cZ cL) (gO cL o fL :: wX) [.ref q, .int (iI x0), .int (iI x1), .ref o] 0 (gO cL o (vp_updL fL 0 (iI rv).toInt64) :: wX') := by
  refine g_ofW (by decide +kernel) rfl rfl (Nat.le_of_ble_eq_true rfl) (g_cat1 rfl) ?_
  intro p e s m args below meth c Q A0 E hT htab hret
  have hts := E.1.2.2.2.2
  show gJ p l e (gRx 8) s m args below meth c 0 0 Q A0 D (gO cL o fL :: wX) [some (.ref q), some (.int (iI x0)), some (.int (iI x1)), some (.ref o), none] 0 []
  refine g_aload_n E dL_setDoor_0 rfl rfl ?_
  refine g_iconst E dL_setDoor_1 ?_
  refine g_aload_n E dL_setDoor_2 rfl rfl ?_
  refine g_iload_n E dL_setDoor_3 rfl rfl ?_
  refine g_iload_n E dL_setDoor_4 rfl rfl ?_
  refine g_callIW E [0, 1] rfl (wr := [gO cL o fL]) hM (cwV 2 hts gL_setDoor_X0_setDoor rfl rfl rfl hdL_X0_setDoor ⟨(Nat.le_of_ble_eq_true rfl), (Nat.le_of_ble_eq_true rfl)⟩) rfl rfl rfl (Nat.le_of_ble_eq_true rfl) he rfl dL_setDoor_5 ⟨Nat.zero_le _, Nat.zero_le _⟩ ?_
  rcases hrv with rfl | rfl
  · refine g_if_eq_t E dL_setDoor_8 (tgt := 15) (by decide) (by omega) (by omega) ?_
    refine g_lconst E dL_setDoor_15 (v := (iI 0).toInt64) rfl ?_
    refine g_last E 0 (ws' := gO cL o (vp_updL fL 0 (iI 0).toInt64) :: wX') rfl rfl dL_setDoor_16 ?_
    refine g_goto E dL_setDoor_17 (tgt := 24) (by decide) ?_
    refine g_iconst E dL_setDoor_24 ?_
    exact g_wid (Nat.zero_le _) (Nat.zero_le _) (hret _ _ dL_setDoor_25)
  · refine g_if_eq_f E dL_setDoor_8 (tgt := 15) (by decide) (by omega) (by omega) ?_
    refine g_lconst E dL_setDoor_11 (v := (iI 1).toInt64) rfl ?_
    refine g_goto E dL_setDoor_12 (tgt := 16) (by decide) ?_
    refine g_last E 0 (ws' := gO cL o (vp_updL fL 0 (iI 1).toInt64) :: wX') rfl rfl dL_setDoor_16 ?_
    refine g_goto E dL_setDoor_17 (tgt := 24) (by decide) ?_
    refine g_iconst E dL_setDoor_24 ?_
    exact g_wid (Nat.zero_le _) (Nat.zero_le _) (hret _ _ dL_setDoor_25)
set_option maxHeartbeats 4000000 in
set_option maxRecDepth 100000 in
theorem wL_setDoor1 {l : Launch} {D : va_G} {cI cZ cL : ClassId} {o q : Nat} {fL : Nat → Int64} {wX : va_W} {fs : List Value} (he : wX[0]? = some (q, .inr (0, fs))) {x0 x1 : Int} (hM : gMT l yX0_setDoor wsX0_setDoor 7 D (gTy cI cZ) wX [.ref q, .int (iI x0), .int (iI x1)] gIX) : gMW l yL_setDoor wsL_setDoor D (gTyL cI cZ cL) (gO cL o fL :: wX) [.ref q, .int (iI x0), .int (iI x1), .ref o] 1 (gO cL o fL :: wX) := by
  refine g_ofW (by decide +kernel) rfl rfl (Nat.le_of_ble_eq_true rfl) (g_cat1 rfl) ?_
  intro p e s m args below meth c Q A0 E hT htab hret
  have hts := E.1.2.2.2.2
  show gJ p l e (gRx 8) s m args below meth c 0 0 Q A0 D (gO cL o fL :: wX) [some (.ref q), some (.int (iI x0)), some (.int (iI x1)), some (.ref o), none] 0 []
  refine g_aload_n E dL_setDoor_0 rfl rfl ?_
  refine g_iconst E dL_setDoor_1 ?_
  refine g_aload_n E dL_setDoor_2 rfl rfl ?_
  refine g_iload_n E dL_setDoor_3 rfl rfl ?_
  refine g_iload_n E dL_setDoor_4 rfl rfl ?_
  refine g_callCW E [0, 1] rfl (wr := [gO cL o fL]) hM hT htab [] ⟨0, 17, 20, 21⟩ [] rfl (fun z hz => nomatch hz) (by decide) (by decide) cl_setDoor_21 (by decide +kernel) (cwV 2 hts gL_setDoor_X0_setDoor rfl rfl rfl hdL_X0_setDoor ⟨(Nat.le_of_ble_eq_true rfl), (Nat.le_of_ble_eq_true rfl)⟩) rfl rfl rfl (Nat.le_of_ble_eq_true rfl) he rfl dL_setDoor_5 ⟨(Nat.le_of_ble_eq_true rfl), (Nat.le_of_ble_eq_true rfl)⟩ (fun a => ?_)
  refine g_astore E (lv' := [_, _, _, _, _]) dL_setDoor_20 (Nat.le_of_ble_eq_true rfl) rfl ?_
  refine g_iconst E dL_setDoor_22 ?_
  exact hret _ _ dL_setDoor_23
set_option maxHeartbeats 4000000 in
set_option maxRecDepth 100000 in
theorem wL_come0 {l : Launch} {D : va_G} {cI cZ cL : ClassId} {o q : Nat} {fL : Nat → Int64} {wX wX' : va_W} {fs : List Value} (he : wX[0]? = some (q, .inr (0, fs))) {x0 x1 : Int} {rv : Int} (hM : gMI l yX0_come wsX0_come 6 D (gTy cI cZ) wX [.ref q, .int (iI x0), .int (iI x1)] rv wX') : gMW l yL_come wsL_come D (gTyL cI cZ cL) (gO cL o fL :: wX) [.ref q, .int (iI x0), .int (iI x1), .ref o] 0 (gO cL o (vp_updL fL 0 (iI rv).toInt64) :: wX') := by
  refine g_ofW (by decide +kernel) rfl rfl (Nat.le_of_ble_eq_true rfl) (g_cat1 rfl) ?_
  intro p e s m args below meth c Q A0 E hT htab hret
  have hts := E.1.2.2.2.2
  show gJ p l e (gRx 8) s m args below meth c 0 0 Q A0 D (gO cL o fL :: wX) [some (.ref q), some (.int (iI x0)), some (.int (iI x1)), some (.ref o), none] 0 []
  refine g_aload_n E dL_come_0 rfl rfl ?_
  refine g_iconst E dL_come_1 ?_
  refine g_aload_n E dL_come_2 rfl rfl ?_
  refine g_iload_n E dL_come_3 rfl rfl ?_
  refine g_iload_n E dL_come_4 rfl rfl ?_
  refine g_callIW E [0, 1] rfl (wr := [gO cL o fL]) hM (cwV 2 hts gL_come_X0_come rfl rfl rfl hdL_X0_come ⟨(Nat.le_of_ble_eq_true rfl), (Nat.le_of_ble_eq_true rfl)⟩) rfl rfl rfl (Nat.le_of_ble_eq_true rfl) he rfl dL_come_5 ⟨Nat.zero_le _, Nat.zero_le _⟩ ?_
  refine g_i2l E dL_come_8 ?_
  refine g_last E 0 (ws' := gO cL o (vp_updL fL 0 (iI rv).toInt64) :: wX') rfl rfl dL_come_9 ?_
  refine g_goto E dL_come_10 (tgt := 25) (by decide) ?_
  refine g_iconst E dL_come_25 ?_
  exact g_wid (Nat.zero_le _) (Nat.zero_le _) (hret _ _ dL_come_26)
set_option maxHeartbeats 4000000 in
set_option maxRecDepth 100000 in
theorem wL_come1 {l : Launch} {D : va_G} {cI cZ cL : ClassId} {o q : Nat} {fL : Nat → Int64} {wX : va_W} {fs : List Value} (he : wX[0]? = some (q, .inr (0, fs))) {x0 x1 : Int} (hM : gMT l yX0_come wsX0_come 7 D (gTy cI cZ) wX [.ref q, .int (iI x0), .int (iI x1)] gIX) : gMW l yL_come wsL_come D (gTyL cI cZ cL) (gO cL o fL :: wX) [.ref q, .int (iI x0), .int (iI x1), .ref o] 1 (gO cL o fL :: wX) := by
  refine g_ofW (by decide +kernel) rfl rfl (Nat.le_of_ble_eq_true rfl) (g_cat1 rfl) ?_
  intro p e s m args below meth c Q A0 E hT htab hret
  have hts := E.1.2.2.2.2
  show gJ p l e (gRx 8) s m args below meth c 0 0 Q A0 D (gO cL o fL :: wX) [some (.ref q), some (.int (iI x0)), some (.int (iI x1)), some (.ref o), none] 0 []
  refine g_aload_n E dL_come_0 rfl rfl ?_
  refine g_iconst E dL_come_1 ?_
  refine g_aload_n E dL_come_2 rfl rfl ?_
  refine g_iload_n E dL_come_3 rfl rfl ?_
  refine g_iload_n E dL_come_4 rfl rfl ?_
  refine g_callCW E [0, 1] rfl (wr := [gO cL o fL]) hM hT htab [] ⟨0, 10, 13, 21⟩ [⟨0, 10, 17, 13⟩, ⟨0, 10, 21, 15⟩] rfl (fun z hz => nomatch hz) (by decide) (by decide) cl_come_21 (by decide +kernel) (cwV 2 hts gL_come_X0_come rfl rfl rfl hdL_X0_come ⟨(Nat.le_of_ble_eq_true rfl), (Nat.le_of_ble_eq_true rfl)⟩) rfl rfl rfl (Nat.le_of_ble_eq_true rfl) he rfl dL_come_5 ⟨(Nat.le_of_ble_eq_true rfl), (Nat.le_of_ble_eq_true rfl)⟩ (fun a => ?_)
  refine g_astore E (lv' := [_, _, _, _, _]) dL_come_13 (Nat.le_of_ble_eq_true rfl) rfl ?_
  refine g_iconst E dL_come_15 ?_
  exact hret _ _ dL_come_16
set_option maxHeartbeats 4000000 in
set_option maxRecDepth 100000 in
theorem wL_come2 {l : Launch} {D : va_G} {cI cZ cL : ClassId} {o q : Nat} {fL : Nat → Int64} {wX : va_W} {fs : List Value} (he : wX[0]? = some (q, .inr (0, fs))) {x0 x1 : Int} (hM : gMT l yX0_come wsX0_come 7 D (gTy cI cZ) wX [.ref q, .int (iI x0), .int (iI x1)] gIA) : gMW l yL_come wsL_come D (gTyL cI cZ cL) (gO cL o fL :: wX) [.ref q, .int (iI x0), .int (iI x1), .ref o] 2 (gO cL o fL :: wX) := by
  refine g_ofW (by decide +kernel) rfl rfl (Nat.le_of_ble_eq_true rfl) (g_cat1 rfl) ?_
  intro p e s m args below meth c Q A0 E hT htab hret
  have hts := E.1.2.2.2.2
  show gJ p l e (gRx 8) s m args below meth c 0 0 Q A0 D (gO cL o fL :: wX) [some (.ref q), some (.int (iI x0)), some (.int (iI x1)), some (.ref o), none] 0 []
  have hpass : ∀ z ∈ ([⟨0, 10, 13, 21⟩] : List ExceptionTableEntry), z.catchType ≠ 0 ∧ ∃ nm : String, Cond.classLink RL z.catchType nm ∈ wsL_come ∧ (gIA, nm) ∈ gNcs := by
    intro z hz
    simp only [List.mem_cons, List.not_mem_nil, or_false] at hz
    subst hz
    exact ⟨by decide, gIX, cl_come_21, by decide +kernel⟩
  refine g_aload_n E dL_come_0 rfl rfl ?_
  refine g_iconst E dL_come_1 ?_
  refine g_aload_n E dL_come_2 rfl rfl ?_
  refine g_iload_n E dL_come_3 rfl rfl ?_
  refine g_iload_n E dL_come_4 rfl rfl ?_
  refine g_callCW E [0, 1] rfl (wr := [gO cL o fL]) hM hT htab [⟨0, 10, 13, 21⟩] ⟨0, 10, 17, 13⟩ [⟨0, 10, 21, 15⟩] rfl hpass (by decide) (by decide) cl_come_13 (by decide +kernel) (cwV 2 hts gL_come_X0_come rfl rfl rfl hdL_X0_come ⟨(Nat.le_of_ble_eq_true rfl), (Nat.le_of_ble_eq_true rfl)⟩) rfl rfl rfl (Nat.le_of_ble_eq_true rfl) he rfl dL_come_5 ⟨(Nat.le_of_ble_eq_true rfl), (Nat.le_of_ble_eq_true rfl)⟩ (fun a => ?_)
  refine g_astore E (lv' := [_, _, _, _, _]) dL_come_17 (Nat.le_of_ble_eq_true rfl) rfl ?_
  refine g_iconst E dL_come_19 ?_
  exact hret _ _ dL_come_20
set_option maxHeartbeats 4000000 in
set_option maxRecDepth 100000 in
theorem wL_come3 {l : Launch} {D : va_G} {cI cZ cL : ClassId} {o q : Nat} {fL : Nat → Int64} {wX : va_W} {fs : List Value} (he : wX[0]? = some (q, .inr (0, fs))) {x0 x1 : Int} (hM : gMT l yX0_come wsX0_come 7 D (gTy cI cZ) wX [.ref q, .int (iI x0), .int (iI x1)] gIS) : gMW l yL_come wsL_come D (gTyL cI cZ cL) (gO cL o fL :: wX) [.ref q, .int (iI x0), .int (iI x1), .ref o] 3 (gO cL o fL :: wX) := by
  refine g_ofW (by decide +kernel) rfl rfl (Nat.le_of_ble_eq_true rfl) (g_cat1 rfl) ?_
  intro p e s m args below meth c Q A0 E hT htab hret
  have hts := E.1.2.2.2.2
  show gJ p l e (gRx 8) s m args below meth c 0 0 Q A0 D (gO cL o fL :: wX) [some (.ref q), some (.int (iI x0)), some (.int (iI x1)), some (.ref o), none] 0 []
  have hpass : ∀ z ∈ ([⟨0, 10, 13, 21⟩, ⟨0, 10, 17, 13⟩] : List ExceptionTableEntry), z.catchType ≠ 0 ∧ ∃ nm : String, Cond.classLink RL z.catchType nm ∈ wsL_come ∧ (gIS, nm) ∈ gNcs := by
    intro z hz
    simp only [List.mem_cons, List.not_mem_nil, or_false] at hz
    rcases hz with rfl | rfl
    · exact ⟨by decide, gIX, cl_come_21, by decide +kernel⟩
    · exact ⟨by decide, gIA, cl_come_13, by decide +kernel⟩
  refine g_aload_n E dL_come_0 rfl rfl ?_
  refine g_iconst E dL_come_1 ?_
  refine g_aload_n E dL_come_2 rfl rfl ?_
  refine g_iload_n E dL_come_3 rfl rfl ?_
  refine g_iload_n E dL_come_4 rfl rfl ?_
  refine g_callCW E [0, 1] rfl (wr := [gO cL o fL]) hM hT htab [⟨0, 10, 13, 21⟩, ⟨0, 10, 17, 13⟩] ⟨0, 10, 21, 15⟩ [] rfl hpass (by decide) (by decide) cl_come_15 (by decide +kernel) (cwV 2 hts gL_come_X0_come rfl rfl rfl hdL_X0_come ⟨(Nat.le_of_ble_eq_true rfl), (Nat.le_of_ble_eq_true rfl)⟩) rfl rfl rfl (Nat.le_of_ble_eq_true rfl) he rfl dL_come_5 ⟨(Nat.le_of_ble_eq_true rfl), (Nat.le_of_ble_eq_true rfl)⟩ (fun a => ?_)
  refine g_astore E (lv' := [_, _, _, _, _]) dL_come_21 (Nat.le_of_ble_eq_true rfl) rfl ?_
  refine g_iconst E dL_come_23 ?_
  exact hret _ _ dL_come_24
set_option maxHeartbeats 4000000 in
set_option maxRecDepth 100000 in
theorem wL_setRelease0 {l : Launch} {D : va_G} {cI cZ cL : ClassId} {o q : Nat} {fL : Nat → Int64} {wX wX' : va_W} {fs : List Value} (he : wX[0]? = some (q, .inr (0, fs))) {x0 x1 : Int} {rv : Int} (hM : gMI l yX0_setRelease wsX0_setRelease 6 D (gTy cI cZ) wX [.ref q, .int (iI x0), .int (iI x1)] rv wX') : gMW l yL_setRelease wsL_setRelease D (gTyL cI cZ cL) (gO cL o fL :: wX) [.ref q, .int (iI x0), .int (iI x1), .ref o] 0 (gO cL o (vp_updL fL 0 (iI rv).toInt64) :: wX') := by
  refine g_ofW (by decide +kernel) rfl rfl (Nat.le_of_ble_eq_true rfl) (g_cat1 rfl) ?_
  intro p e s m args below meth c Q A0 E hT htab hret
  have hts := E.1.2.2.2.2
  show gJ p l e (gRx 8) s m args below meth c 0 0 Q A0 D (gO cL o fL :: wX) [some (.ref q), some (.int (iI x0)), some (.int (iI x1)), some (.ref o), none] 0 []
  refine g_aload_n E dL_setRelease_0 rfl rfl ?_
  refine g_iconst E dL_setRelease_1 ?_
  refine g_aload_n E dL_setRelease_2 rfl rfl ?_
  refine g_iload_n E dL_setRelease_3 rfl rfl ?_
  refine g_iload_n E dL_setRelease_4 rfl rfl ?_
  refine g_callIW E [0, 1] rfl (wr := [gO cL o fL]) hM (cwV 2 hts gL_setRelease_X0_setRelease rfl rfl rfl hdL_X0_setRelease ⟨(Nat.le_of_ble_eq_true rfl), (Nat.le_of_ble_eq_true rfl)⟩) rfl rfl rfl (Nat.le_of_ble_eq_true rfl) he rfl dL_setRelease_5 ⟨Nat.zero_le _, Nat.zero_le _⟩ ?_
  refine g_i2l E dL_setRelease_8 ?_
  refine g_last E 0 (ws' := gO cL o (vp_updL fL 0 (iI rv).toInt64) :: wX') rfl rfl dL_setRelease_9 ?_
  refine g_goto E dL_setRelease_10 (tgt := 21) (by decide) ?_
  refine g_iconst E dL_setRelease_21 ?_
  exact g_wid (Nat.zero_le _) (Nat.zero_le _) (hret _ _ dL_setRelease_22)
set_option maxHeartbeats 4000000 in
set_option maxRecDepth 100000 in
theorem wL_setRelease1 {l : Launch} {D : va_G} {cI cZ cL : ClassId} {o q : Nat} {fL : Nat → Int64} {wX : va_W} {fs : List Value} (he : wX[0]? = some (q, .inr (0, fs))) {x0 x1 : Int} (hM : gMT l yX0_setRelease wsX0_setRelease 7 D (gTy cI cZ) wX [.ref q, .int (iI x0), .int (iI x1)] gIX) : gMW l yL_setRelease wsL_setRelease D (gTyL cI cZ cL) (gO cL o fL :: wX) [.ref q, .int (iI x0), .int (iI x1), .ref o] 1 (gO cL o fL :: wX) := by
  refine g_ofW (by decide +kernel) rfl rfl (Nat.le_of_ble_eq_true rfl) (g_cat1 rfl) ?_
  intro p e s m args below meth c Q A0 E hT htab hret
  have hts := E.1.2.2.2.2
  show gJ p l e (gRx 8) s m args below meth c 0 0 Q A0 D (gO cL o fL :: wX) [some (.ref q), some (.int (iI x0)), some (.int (iI x1)), some (.ref o), none] 0 []
  refine g_aload_n E dL_setRelease_0 rfl rfl ?_
  refine g_iconst E dL_setRelease_1 ?_
  refine g_aload_n E dL_setRelease_2 rfl rfl ?_
  refine g_iload_n E dL_setRelease_3 rfl rfl ?_
  refine g_iload_n E dL_setRelease_4 rfl rfl ?_
  refine g_callCW E [0, 1] rfl (wr := [gO cL o fL]) hM hT htab [] ⟨0, 10, 13, 21⟩ [⟨0, 10, 17, 13⟩] rfl (fun z hz => nomatch hz) (by decide) (by decide) cl_setRelease_21 (by decide +kernel) (cwV 2 hts gL_setRelease_X0_setRelease rfl rfl rfl hdL_X0_setRelease ⟨(Nat.le_of_ble_eq_true rfl), (Nat.le_of_ble_eq_true rfl)⟩) rfl rfl rfl (Nat.le_of_ble_eq_true rfl) he rfl dL_setRelease_5 ⟨(Nat.le_of_ble_eq_true rfl), (Nat.le_of_ble_eq_true rfl)⟩ (fun a => ?_)
  refine g_astore E (lv' := [_, _, _, _, _]) dL_setRelease_13 (Nat.le_of_ble_eq_true rfl) rfl ?_
  refine g_iconst E dL_setRelease_15 ?_
  exact hret _ _ dL_setRelease_16
set_option maxHeartbeats 4000000 in
set_option maxRecDepth 100000 in
theorem wL_setRelease2 {l : Launch} {D : va_G} {cI cZ cL : ClassId} {o q : Nat} {fL : Nat → Int64} {wX : va_W} {fs : List Value} (he : wX[0]? = some (q, .inr (0, fs))) {x0 x1 : Int} (hM : gMT l yX0_setRelease wsX0_setRelease 7 D (gTy cI cZ) wX [.ref q, .int (iI x0), .int (iI x1)] gIA) : gMW l yL_setRelease wsL_setRelease D (gTyL cI cZ cL) (gO cL o fL :: wX) [.ref q, .int (iI x0), .int (iI x1), .ref o] 2 (gO cL o fL :: wX) := by
  refine g_ofW (by decide +kernel) rfl rfl (Nat.le_of_ble_eq_true rfl) (g_cat1 rfl) ?_
  intro p e s m args below meth c Q A0 E hT htab hret
  have hts := E.1.2.2.2.2
  show gJ p l e (gRx 8) s m args below meth c 0 0 Q A0 D (gO cL o fL :: wX) [some (.ref q), some (.int (iI x0)), some (.int (iI x1)), some (.ref o), none] 0 []
  have hpass : ∀ z ∈ ([⟨0, 10, 13, 21⟩] : List ExceptionTableEntry), z.catchType ≠ 0 ∧ ∃ nm : String, Cond.classLink RL z.catchType nm ∈ wsL_setRelease ∧ (gIA, nm) ∈ gNcs := by
    intro z hz
    simp only [List.mem_cons, List.not_mem_nil, or_false] at hz
    subst hz
    exact ⟨by decide, gIX, cl_setRelease_21, by decide +kernel⟩
  refine g_aload_n E dL_setRelease_0 rfl rfl ?_
  refine g_iconst E dL_setRelease_1 ?_
  refine g_aload_n E dL_setRelease_2 rfl rfl ?_
  refine g_iload_n E dL_setRelease_3 rfl rfl ?_
  refine g_iload_n E dL_setRelease_4 rfl rfl ?_
  refine g_callCW E [0, 1] rfl (wr := [gO cL o fL]) hM hT htab [⟨0, 10, 13, 21⟩] ⟨0, 10, 17, 13⟩ [] rfl hpass (by decide) (by decide) cl_setRelease_13 (by decide +kernel) (cwV 2 hts gL_setRelease_X0_setRelease rfl rfl rfl hdL_X0_setRelease ⟨(Nat.le_of_ble_eq_true rfl), (Nat.le_of_ble_eq_true rfl)⟩) rfl rfl rfl (Nat.le_of_ble_eq_true rfl) he rfl dL_setRelease_5 ⟨(Nat.le_of_ble_eq_true rfl), (Nat.le_of_ble_eq_true rfl)⟩ (fun a => ?_)
  refine g_astore E (lv' := [_, _, _, _, _]) dL_setRelease_17 (Nat.le_of_ble_eq_true rfl) rfl ?_
  refine g_iconst E dL_setRelease_19 ?_
  exact hret _ _ dL_setRelease_20
set_option maxHeartbeats 4000000 in
set_option maxRecDepth 100000 in
theorem wL_step0 {l : Launch} {D : va_G} {cI cZ cL : ClassId} {o q : Nat} {fL : Nat → Int64} {wX wX' : va_W} {fs : List Value} (he : wX[0]? = some (q, .inr (0, fs))) {x0 : Int} {rv : Int} (hM : gMI l yX0_step wsX0_step 6 D (gTy cI cZ) wX [.ref q, .int (iI x0)] rv wX') : gMW l yL_step wsL_step D (gTyL cI cZ cL) (gO cL o fL :: wX) [.ref q, .int (iI x0), .ref o] 0 (gO cL o (vp_updL fL 0 (iI rv).toInt64) :: wX') := by
  refine g_ofW (by decide +kernel) rfl rfl (Nat.le_of_ble_eq_true rfl) (g_cat1 rfl) ?_
  intro p e s m args below meth c Q A0 E hT htab hret
  have hts := E.1.2.2.2.2
  show gJ p l e (gRx 8) s m args below meth c 0 0 Q A0 D (gO cL o fL :: wX) [some (.ref q), some (.int (iI x0)), some (.ref o), none] 0 []
  refine g_aload_n E dL_step_0 rfl rfl ?_
  refine g_iconst E dL_step_1 ?_
  refine g_aload_n E dL_step_2 rfl rfl ?_
  refine g_iload_n E dL_step_3 rfl rfl ?_
  refine g_callIW E [0, 1] rfl (wr := [gO cL o fL]) hM (cwV 1 hts gL_step_X0_step rfl rfl rfl hdL_X0_step ⟨(Nat.le_of_ble_eq_true rfl), (Nat.le_of_ble_eq_true rfl)⟩) rfl rfl rfl (Nat.le_of_ble_eq_true rfl) he rfl dL_step_4 ⟨Nat.zero_le _, Nat.zero_le _⟩ ?_
  refine g_i2l E dL_step_7 ?_
  refine g_last E 0 (ws' := gO cL o (vp_updL fL 0 (iI rv).toInt64) :: wX') rfl rfl dL_step_8 ?_
  refine g_goto E dL_step_9 (tgt := 15) (by decide) ?_
  refine g_iconst E dL_step_15 ?_
  exact g_wid (Nat.zero_le _) (Nat.zero_le _) (hret _ _ dL_step_16)
set_option maxHeartbeats 4000000 in
set_option maxRecDepth 100000 in
theorem wL_step1 {l : Launch} {D : va_G} {cI cZ cL : ClassId} {o q : Nat} {fL : Nat → Int64} {wX : va_W} {fs : List Value} (he : wX[0]? = some (q, .inr (0, fs))) {x0 : Int} (hM : gMT l yX0_step wsX0_step 7 D (gTy cI cZ) wX [.ref q, .int (iI x0)] gIA) : gMW l yL_step wsL_step D (gTyL cI cZ cL) (gO cL o fL :: wX) [.ref q, .int (iI x0), .ref o] 1 (gO cL o fL :: wX) := by
  refine g_ofW (by decide +kernel) rfl rfl (Nat.le_of_ble_eq_true rfl) (g_cat1 rfl) ?_
  intro p e s m args below meth c Q A0 E hT htab hret
  have hts := E.1.2.2.2.2
  show gJ p l e (gRx 8) s m args below meth c 0 0 Q A0 D (gO cL o fL :: wX) [some (.ref q), some (.int (iI x0)), some (.ref o), none] 0 []
  refine g_aload_n E dL_step_0 rfl rfl ?_
  refine g_iconst E dL_step_1 ?_
  refine g_aload_n E dL_step_2 rfl rfl ?_
  refine g_iload_n E dL_step_3 rfl rfl ?_
  refine g_callCW E [0, 1] rfl (wr := [gO cL o fL]) hM hT htab [] ⟨0, 9, 12, 13⟩ [] rfl (fun z hz => nomatch hz) (by decide) (by decide) cl_step_13 (by decide +kernel) (cwV 1 hts gL_step_X0_step rfl rfl rfl hdL_X0_step ⟨(Nat.le_of_ble_eq_true rfl), (Nat.le_of_ble_eq_true rfl)⟩) rfl rfl rfl (Nat.le_of_ble_eq_true rfl) he rfl dL_step_4 ⟨(Nat.le_of_ble_eq_true rfl), (Nat.le_of_ble_eq_true rfl)⟩ (fun a => ?_)
  refine g_astore_n E (lv' := [_, _, _, _]) dL_step_12 rfl (Nat.le_of_ble_eq_true rfl) rfl ?_
  refine g_iconst E dL_step_13 ?_
  exact hret _ _ dL_step_14
set_option maxHeartbeats 4000000 in
set_option maxRecDepth 100000 in
theorem wL_people0 {l : Launch} {D : va_G} {cI cZ cL : ClassId} {o q : Nat} {fL : Nat → Int64} {wX wX' : va_W} {fs : List Value} (he : wX[0]? = some (q, .inr (0, fs))) {x0 : Int} {rv : Int} (hM : gMI l yX0_people wsX0_people 6 D (gTy cI cZ) wX [.ref q, .int (iI x0)] rv wX') : gMW l yL_people wsL_people D (gTyL cI cZ cL) (gO cL o fL :: wX) [.ref q, .int (iI x0), .ref o] 0 (gO cL o (vp_updL fL 0 (iI rv).toInt64) :: wX') := by
  refine g_ofW (by decide +kernel) rfl rfl (Nat.le_of_ble_eq_true rfl) (g_cat1 rfl) ?_
  intro p e s m args below meth c Q A0 E hT htab hret
  have hts := E.1.2.2.2.2
  show gJ p l e (gRx 8) s m args below meth c 0 0 Q A0 D (gO cL o fL :: wX) [some (.ref q), some (.int (iI x0)), some (.ref o), none] 0 []
  refine g_aload_n E dL_people_0 rfl rfl ?_
  refine g_iconst E dL_people_1 ?_
  refine g_aload_n E dL_people_2 rfl rfl ?_
  refine g_iload_n E dL_people_3 rfl rfl ?_
  refine g_callIW E [0, 1] rfl (wr := [gO cL o fL]) hM (cwV 1 hts gL_people_X0_people rfl rfl rfl hdL_X0_people ⟨(Nat.le_of_ble_eq_true rfl), (Nat.le_of_ble_eq_true rfl)⟩) rfl rfl rfl (Nat.le_of_ble_eq_true rfl) he rfl dL_people_4 ⟨Nat.zero_le _, Nat.zero_le _⟩ ?_
  refine g_i2l E dL_people_7 ?_
  refine g_last E 0 (ws' := gO cL o (vp_updL fL 0 (iI rv).toInt64) :: wX') rfl rfl dL_people_8 ?_
  refine g_goto E dL_people_9 (tgt := 15) (by decide) ?_
  refine g_iconst E dL_people_15 ?_
  exact g_wid (Nat.zero_le _) (Nat.zero_le _) (hret _ _ dL_people_16)
set_option maxHeartbeats 4000000 in
set_option maxRecDepth 100000 in
theorem wL_people1 {l : Launch} {D : va_G} {cI cZ cL : ClassId} {o q : Nat} {fL : Nat → Int64} {wX : va_W} {fs : List Value} (he : wX[0]? = some (q, .inr (0, fs))) {x0 : Int} (hM : gMT l yX0_people wsX0_people 7 D (gTy cI cZ) wX [.ref q, .int (iI x0)] gIX) : gMW l yL_people wsL_people D (gTyL cI cZ cL) (gO cL o fL :: wX) [.ref q, .int (iI x0), .ref o] 1 (gO cL o fL :: wX) := by
  refine g_ofW (by decide +kernel) rfl rfl (Nat.le_of_ble_eq_true rfl) (g_cat1 rfl) ?_
  intro p e s m args below meth c Q A0 E hT htab hret
  have hts := E.1.2.2.2.2
  show gJ p l e (gRx 8) s m args below meth c 0 0 Q A0 D (gO cL o fL :: wX) [some (.ref q), some (.int (iI x0)), some (.ref o), none] 0 []
  refine g_aload_n E dL_people_0 rfl rfl ?_
  refine g_iconst E dL_people_1 ?_
  refine g_aload_n E dL_people_2 rfl rfl ?_
  refine g_iload_n E dL_people_3 rfl rfl ?_
  refine g_callCW E [0, 1] rfl (wr := [gO cL o fL]) hM hT htab [] ⟨0, 9, 12, 21⟩ [] rfl (fun z hz => nomatch hz) (by decide) (by decide) cl_people_21 (by decide +kernel) (cwV 1 hts gL_people_X0_people rfl rfl rfl hdL_X0_people ⟨(Nat.le_of_ble_eq_true rfl), (Nat.le_of_ble_eq_true rfl)⟩) rfl rfl rfl (Nat.le_of_ble_eq_true rfl) he rfl dL_people_4 ⟨(Nat.le_of_ble_eq_true rfl), (Nat.le_of_ble_eq_true rfl)⟩ (fun a => ?_)
  refine g_astore_n E (lv' := [_, _, _, _]) dL_people_12 rfl (Nat.le_of_ble_eq_true rfl) rfl ?_
  refine g_iconst E dL_people_13 ?_
  exact hret _ _ dL_people_14
set_option maxHeartbeats 4000000 in
set_option maxRecDepth 100000 in
theorem wL_latest0 {l : Launch} {D : va_G} {cI cZ cL : ClassId} {o q : Nat} {fL : Nat → Int64} {wX wX' : va_W} {fs : List Value} (he : wX[0]? = some (q, .inr (0, fs))) {rv : Int} (hM : gMI l yX0_latest wsX0_latest 6 D (gTy cI cZ) wX [.ref q] rv wX') : gMW l yL_latest wsL_latest D (gTyL cI cZ cL) (gO cL o fL :: wX) [.ref q, .ref o] 0 (gO cL o (vp_updL fL 0 (iI rv).toInt64) :: wX') := by
  refine g_ofW (by decide +kernel) rfl rfl (Nat.le_of_ble_eq_true rfl) (g_cat1 rfl) ?_
  intro p e s m args below meth c Q A0 E hT htab hret
  have hts := E.1.2.2.2.2
  show gJ p l e (gRx 8) s m args below meth c 0 0 Q A0 D (gO cL o fL :: wX) [some (.ref q), some (.ref o), none] 0 []
  refine g_aload_n E dL_latest_0 rfl rfl ?_
  refine g_iconst E dL_latest_1 ?_
  refine g_aload_n E dL_latest_2 rfl rfl ?_
  refine g_callIW E [0, 1] rfl (wr := [gO cL o fL]) hM (cwV 0 hts gL_latest_X0_latest rfl rfl rfl hdL_X0_latest ⟨(Nat.le_of_ble_eq_true rfl), (Nat.le_of_ble_eq_true rfl)⟩) rfl rfl rfl (Nat.le_of_ble_eq_true rfl) he rfl dL_latest_3 ⟨Nat.zero_le _, Nat.zero_le _⟩ ?_
  refine g_i2l E dL_latest_6 ?_
  refine g_last E 0 (ws' := gO cL o (vp_updL fL 0 (iI rv).toInt64) :: wX') rfl rfl dL_latest_7 ?_
  refine g_goto E dL_latest_8 (tgt := 14) (by decide) ?_
  refine g_iconst E dL_latest_14 ?_
  exact g_wid (Nat.zero_le _) (Nat.zero_le _) (hret _ _ dL_latest_15)
set_option maxHeartbeats 4000000 in
set_option maxRecDepth 100000 in
theorem wL_latest1 {l : Launch} {D : va_G} {cI cZ cL : ClassId} {o q : Nat} {fL : Nat → Int64} {wX : va_W} {fs : List Value} (he : wX[0]? = some (q, .inr (0, fs))) (hM : gMT l yX0_latest wsX0_latest 7 D (gTy cI cZ) wX [.ref q] gNS) : gMW l yL_latest wsL_latest D (gTyL cI cZ cL) (gO cL o fL :: wX) [.ref q, .ref o] 1 (gO cL o fL :: wX) := by
  refine g_ofW (by decide +kernel) rfl rfl (Nat.le_of_ble_eq_true rfl) (g_cat1 rfl) ?_
  intro p e s m args below meth c Q A0 E hT htab hret
  have hts := E.1.2.2.2.2
  show gJ p l e (gRx 8) s m args below meth c 0 0 Q A0 D (gO cL o fL :: wX) [some (.ref q), some (.ref o), none] 0 []
  refine g_aload_n E dL_latest_0 rfl rfl ?_
  refine g_iconst E dL_latest_1 ?_
  refine g_aload_n E dL_latest_2 rfl rfl ?_
  refine g_callCW E [0, 1] rfl (wr := [gO cL o fL]) hM hT htab [] ⟨0, 8, 11, 44⟩ [] rfl (fun z hz => nomatch hz) (by decide) (by decide) cl_latest_44 (by decide +kernel) (cwV 0 hts gL_latest_X0_latest rfl rfl rfl hdL_X0_latest ⟨(Nat.le_of_ble_eq_true rfl), (Nat.le_of_ble_eq_true rfl)⟩) rfl rfl rfl (Nat.le_of_ble_eq_true rfl) he rfl dL_latest_3 ⟨(Nat.le_of_ble_eq_true rfl), (Nat.le_of_ble_eq_true rfl)⟩ (fun a => ?_)
  refine g_astore_n E (lv' := [_, _, _]) dL_latest_11 rfl (Nat.le_of_ble_eq_true rfl) rfl ?_
  refine g_iconst E dL_latest_12 ?_
  exact hret _ _ dL_latest_13
set_option maxHeartbeats 4000000 in
set_option maxRecDepth 100000 in
theorem wL_passed0 {l : Launch} {D : va_G} {cI cZ cL : ClassId} {o q : Nat} {fL : Nat → Int64} {wX wX' : va_W} {fs : List Value} (he : wX[0]? = some (q, .inr (0, fs))) {x0 : Int} {rv : Int} (hM : gMI l yX0_passed wsX0_passed 6 D (gTy cI cZ) wX [.ref q, .int (iI x0)] rv wX') : gMW l yL_passed wsL_passed D (gTyL cI cZ cL) (gO cL o fL :: wX) [.ref q, .int (iI x0), .ref o] 0 (gO cL o (vp_updL fL 0 (iI rv).toInt64) :: wX') := by
  refine g_ofW (by decide +kernel) rfl rfl (Nat.le_of_ble_eq_true rfl) (g_cat1 rfl) ?_
  intro p e s m args below meth c Q A0 E hT htab hret
  have hts := E.1.2.2.2.2
  show gJ p l e (gRx 8) s m args below meth c 0 0 Q A0 D (gO cL o fL :: wX) [some (.ref q), some (.int (iI x0)), some (.ref o), none] 0 []
  refine g_aload_n E dL_passed_0 rfl rfl ?_
  refine g_iconst E dL_passed_1 ?_
  refine g_aload_n E dL_passed_2 rfl rfl ?_
  refine g_iload_n E dL_passed_3 rfl rfl ?_
  refine g_callIW E [0, 1] rfl (wr := [gO cL o fL]) hM (cwV 1 hts gL_passed_X0_passed rfl rfl rfl hdL_X0_passed ⟨(Nat.le_of_ble_eq_true rfl), (Nat.le_of_ble_eq_true rfl)⟩) rfl rfl rfl (Nat.le_of_ble_eq_true rfl) he rfl dL_passed_4 ⟨Nat.zero_le _, Nat.zero_le _⟩ ?_
  refine g_i2l E dL_passed_7 ?_
  refine g_last E 0 (ws' := gO cL o (vp_updL fL 0 (iI rv).toInt64) :: wX') rfl rfl dL_passed_8 ?_
  refine g_goto E dL_passed_9 (tgt := 15) (by decide) ?_
  refine g_iconst E dL_passed_15 ?_
  exact g_wid (Nat.zero_le _) (Nat.zero_le _) (hret _ _ dL_passed_16)
set_option maxHeartbeats 4000000 in
set_option maxRecDepth 100000 in
theorem wL_passed1 {l : Launch} {D : va_G} {cI cZ cL : ClassId} {o q : Nat} {fL : Nat → Int64} {wX : va_W} {fs : List Value} (he : wX[0]? = some (q, .inr (0, fs))) {x0 : Int} (hM : gMT l yX0_passed wsX0_passed 7 D (gTy cI cZ) wX [.ref q, .int (iI x0)] gIX) : gMW l yL_passed wsL_passed D (gTyL cI cZ cL) (gO cL o fL :: wX) [.ref q, .int (iI x0), .ref o] 1 (gO cL o fL :: wX) := by
  refine g_ofW (by decide +kernel) rfl rfl (Nat.le_of_ble_eq_true rfl) (g_cat1 rfl) ?_
  intro p e s m args below meth c Q A0 E hT htab hret
  have hts := E.1.2.2.2.2
  show gJ p l e (gRx 8) s m args below meth c 0 0 Q A0 D (gO cL o fL :: wX) [some (.ref q), some (.int (iI x0)), some (.ref o), none] 0 []
  refine g_aload_n E dL_passed_0 rfl rfl ?_
  refine g_iconst E dL_passed_1 ?_
  refine g_aload_n E dL_passed_2 rfl rfl ?_
  refine g_iload_n E dL_passed_3 rfl rfl ?_
  refine g_callCW E [0, 1] rfl (wr := [gO cL o fL]) hM hT htab [] ⟨0, 9, 12, 21⟩ [] rfl (fun z hz => nomatch hz) (by decide) (by decide) cl_passed_21 (by decide +kernel) (cwV 1 hts gL_passed_X0_passed rfl rfl rfl hdL_X0_passed ⟨(Nat.le_of_ble_eq_true rfl), (Nat.le_of_ble_eq_true rfl)⟩) rfl rfl rfl (Nat.le_of_ble_eq_true rfl) he rfl dL_passed_4 ⟨(Nat.le_of_ble_eq_true rfl), (Nat.le_of_ble_eq_true rfl)⟩ (fun a => ?_)
  refine g_astore_n E (lv' := [_, _, _, _]) dL_passed_12 rfl (Nat.le_of_ble_eq_true rfl) rfl ?_
  refine g_iconst E dL_passed_13 ?_
  exact hret _ _ dL_passed_14
set_option maxHeartbeats 4000000 in
set_option maxRecDepth 100000 in
theorem wL_distance0 {l : Launch} {D : va_G} {cI cZ cL : ClassId} {o q : Nat} {fL : Nat → Int64} {wX wX' : va_W} {fs : List Value} (he : wX[0]? = some (q, .inr (0, fs))) {x0 : Int} {rv : Int} (hM : gMI l yX0_distance wsX0_distance 6 D (gTy cI cZ) wX [.ref q, .int (iI x0)] rv wX') : gMW l yL_distance wsL_distance D (gTyL cI cZ cL) (gO cL o fL :: wX) [.ref q, .int (iI x0), .ref o] 0 (gO cL o (vp_updL fL 0 (iI rv).toInt64) :: wX') := by
  refine g_ofW (by decide +kernel) rfl rfl (Nat.le_of_ble_eq_true rfl) (g_cat1 rfl) ?_
  intro p e s m args below meth c Q A0 E hT htab hret
  have hts := E.1.2.2.2.2
  show gJ p l e (gRx 8) s m args below meth c 0 0 Q A0 D (gO cL o fL :: wX) [some (.ref q), some (.int (iI x0)), some (.ref o), none] 0 []
  refine g_aload_n E dL_distance_0 rfl rfl ?_
  refine g_iconst E dL_distance_1 ?_
  refine g_aload_n E dL_distance_2 rfl rfl ?_
  refine g_iload_n E dL_distance_3 rfl rfl ?_
  refine g_callIW E [0, 1] rfl (wr := [gO cL o fL]) hM (cwV 1 hts gL_distance_X0_distance rfl rfl rfl hdL_X0_distance ⟨(Nat.le_of_ble_eq_true rfl), (Nat.le_of_ble_eq_true rfl)⟩) rfl rfl rfl (Nat.le_of_ble_eq_true rfl) he rfl dL_distance_4 ⟨Nat.zero_le _, Nat.zero_le _⟩ ?_
  refine g_i2l E dL_distance_7 ?_
  refine g_last E 0 (ws' := gO cL o (vp_updL fL 0 (iI rv).toInt64) :: wX') rfl rfl dL_distance_8 ?_
  refine g_goto E dL_distance_9 (tgt := 18) (by decide) ?_
  refine g_iconst E dL_distance_18 ?_
  exact g_wid (Nat.zero_le _) (Nat.zero_le _) (hret _ _ dL_distance_19)
set_option maxHeartbeats 4000000 in
set_option maxRecDepth 100000 in
theorem wL_distance1 {l : Launch} {D : va_G} {cI cZ cL : ClassId} {o q : Nat} {fL : Nat → Int64} {wX : va_W} {fs : List Value} (he : wX[0]? = some (q, .inr (0, fs))) {x0 : Int} (hM : gMT l yX0_distance wsX0_distance 7 D (gTy cI cZ) wX [.ref q, .int (iI x0)] gIX) : gMW l yL_distance wsL_distance D (gTyL cI cZ cL) (gO cL o fL :: wX) [.ref q, .int (iI x0), .ref o] 1 (gO cL o fL :: wX) := by
  refine g_ofW (by decide +kernel) rfl rfl (Nat.le_of_ble_eq_true rfl) (g_cat1 rfl) ?_
  intro p e s m args below meth c Q A0 E hT htab hret
  have hts := E.1.2.2.2.2
  show gJ p l e (gRx 8) s m args below meth c 0 0 Q A0 D (gO cL o fL :: wX) [some (.ref q), some (.int (iI x0)), some (.ref o), none] 0 []
  refine g_aload_n E dL_distance_0 rfl rfl ?_
  refine g_iconst E dL_distance_1 ?_
  refine g_aload_n E dL_distance_2 rfl rfl ?_
  refine g_iload_n E dL_distance_3 rfl rfl ?_
  refine g_callCW E [0, 1] rfl (wr := [gO cL o fL]) hM hT htab [] ⟨0, 9, 12, 21⟩ [⟨0, 9, 15, 44⟩] rfl (fun z hz => nomatch hz) (by decide) (by decide) cl_distance_21 (by decide +kernel) (cwV 1 hts gL_distance_X0_distance rfl rfl rfl hdL_X0_distance ⟨(Nat.le_of_ble_eq_true rfl), (Nat.le_of_ble_eq_true rfl)⟩) rfl rfl rfl (Nat.le_of_ble_eq_true rfl) he rfl dL_distance_4 ⟨(Nat.le_of_ble_eq_true rfl), (Nat.le_of_ble_eq_true rfl)⟩ (fun a => ?_)
  refine g_astore_n E (lv' := [_, _, _, _]) dL_distance_12 rfl (Nat.le_of_ble_eq_true rfl) rfl ?_
  refine g_iconst E dL_distance_13 ?_
  exact hret _ _ dL_distance_14
set_option maxHeartbeats 4000000 in
set_option maxRecDepth 100000 in
theorem wL_distance2 {l : Launch} {D : va_G} {cI cZ cL : ClassId} {o q : Nat} {fL : Nat → Int64} {wX : va_W} {fs : List Value} (he : wX[0]? = some (q, .inr (0, fs))) {x0 : Int} (hM : gMT l yX0_distance wsX0_distance 7 D (gTy cI cZ) wX [.ref q, .int (iI x0)] gNS) : gMW l yL_distance wsL_distance D (gTyL cI cZ cL) (gO cL o fL :: wX) [.ref q, .int (iI x0), .ref o] 2 (gO cL o fL :: wX) := by
  refine g_ofW (by decide +kernel) rfl rfl (Nat.le_of_ble_eq_true rfl) (g_cat1 rfl) ?_
  intro p e s m args below meth c Q A0 E hT htab hret
  have hts := E.1.2.2.2.2
  show gJ p l e (gRx 8) s m args below meth c 0 0 Q A0 D (gO cL o fL :: wX) [some (.ref q), some (.int (iI x0)), some (.ref o), none] 0 []
  have hpass : ∀ z ∈ ([⟨0, 9, 12, 21⟩] : List ExceptionTableEntry), z.catchType ≠ 0 ∧ ∃ nm : String, Cond.classLink RL z.catchType nm ∈ wsL_distance ∧ (gNS, nm) ∈ gNcs := by
    intro z hz
    simp only [List.mem_cons, List.not_mem_nil, or_false] at hz
    subst hz
    exact ⟨by decide, gIX, cl_distance_21, by decide +kernel⟩
  refine g_aload_n E dL_distance_0 rfl rfl ?_
  refine g_iconst E dL_distance_1 ?_
  refine g_aload_n E dL_distance_2 rfl rfl ?_
  refine g_iload_n E dL_distance_3 rfl rfl ?_
  refine g_callCW E [0, 1] rfl (wr := [gO cL o fL]) hM hT htab [⟨0, 9, 12, 21⟩] ⟨0, 9, 15, 44⟩ [] rfl hpass (by decide) (by decide) cl_distance_44 (by decide +kernel) (cwV 1 hts gL_distance_X0_distance rfl rfl rfl hdL_X0_distance ⟨(Nat.le_of_ble_eq_true rfl), (Nat.le_of_ble_eq_true rfl)⟩) rfl rfl rfl (Nat.le_of_ble_eq_true rfl) he rfl dL_distance_4 ⟨(Nat.le_of_ble_eq_true rfl), (Nat.le_of_ble_eq_true rfl)⟩ (fun a => ?_)
  refine g_astore_n E (lv' := [_, _, _, _]) dL_distance_15 rfl (Nat.le_of_ble_eq_true rfl) rfl ?_
  refine g_iconst E dL_distance_16 ?_
  exact hret _ _ dL_distance_17
set_option maxHeartbeats 4000000 in
set_option maxRecDepth 100000 in
theorem wL_door0 {l : Launch} {D : va_G} {cI cZ cL : ClassId} {o q : Nat} {fL : Nat → Int64} {wX wX' : va_W} {fs : List Value} (he : wX[0]? = some (q, .inr (0, fs))) {x0 : Int} {rv : Int} (hM : gMI l yX0_door wsX0_door 6 D (gTy cI cZ) wX [.ref q, .int (iI x0)] rv wX') : gMW l yL_door wsL_door D (gTyL cI cZ cL) (gO cL o fL :: wX) [.ref q, .int (iI x0), .ref o] 0 (gO cL o (vp_updL fL 0 (iI rv).toInt64) :: wX') := by
  refine g_ofW (by decide +kernel) rfl rfl (Nat.le_of_ble_eq_true rfl) (g_cat1 rfl) ?_
  intro p e s m args below meth c Q A0 E hT htab hret
  have hts := E.1.2.2.2.2
  show gJ p l e (gRx 8) s m args below meth c 0 0 Q A0 D (gO cL o fL :: wX) [some (.ref q), some (.int (iI x0)), some (.ref o), none] 0 []
  refine g_aload_n E dL_door_0 rfl rfl ?_
  refine g_iconst E dL_door_1 ?_
  refine g_aload_n E dL_door_2 rfl rfl ?_
  refine g_iload_n E dL_door_3 rfl rfl ?_
  refine g_callIW E [0, 1] rfl (wr := [gO cL o fL]) hM (cwV 1 hts gL_door_X0_door rfl rfl rfl hdL_X0_door ⟨(Nat.le_of_ble_eq_true rfl), (Nat.le_of_ble_eq_true rfl)⟩) rfl rfl rfl (Nat.le_of_ble_eq_true rfl) he rfl dL_door_4 ⟨Nat.zero_le _, Nat.zero_le _⟩ ?_
  refine g_i2l E dL_door_7 ?_
  refine g_last E 0 (ws' := gO cL o (vp_updL fL 0 (iI rv).toInt64) :: wX') rfl rfl dL_door_8 ?_
  refine g_goto E dL_door_9 (tgt := 18) (by decide) ?_
  refine g_iconst E dL_door_18 ?_
  exact g_wid (Nat.zero_le _) (Nat.zero_le _) (hret _ _ dL_door_19)
set_option maxHeartbeats 4000000 in
set_option maxRecDepth 100000 in
theorem wL_door1 {l : Launch} {D : va_G} {cI cZ cL : ClassId} {o q : Nat} {fL : Nat → Int64} {wX : va_W} {fs : List Value} (he : wX[0]? = some (q, .inr (0, fs))) {x0 : Int} (hM : gMT l yX0_door wsX0_door 7 D (gTy cI cZ) wX [.ref q, .int (iI x0)] gIX) : gMW l yL_door wsL_door D (gTyL cI cZ cL) (gO cL o fL :: wX) [.ref q, .int (iI x0), .ref o] 1 (gO cL o fL :: wX) := by
  refine g_ofW (by decide +kernel) rfl rfl (Nat.le_of_ble_eq_true rfl) (g_cat1 rfl) ?_
  intro p e s m args below meth c Q A0 E hT htab hret
  have hts := E.1.2.2.2.2
  show gJ p l e (gRx 8) s m args below meth c 0 0 Q A0 D (gO cL o fL :: wX) [some (.ref q), some (.int (iI x0)), some (.ref o), none] 0 []
  refine g_aload_n E dL_door_0 rfl rfl ?_
  refine g_iconst E dL_door_1 ?_
  refine g_aload_n E dL_door_2 rfl rfl ?_
  refine g_iload_n E dL_door_3 rfl rfl ?_
  refine g_callCW E [0, 1] rfl (wr := [gO cL o fL]) hM hT htab [] ⟨0, 9, 12, 21⟩ [⟨0, 9, 15, 44⟩] rfl (fun z hz => nomatch hz) (by decide) (by decide) cl_door_21 (by decide +kernel) (cwV 1 hts gL_door_X0_door rfl rfl rfl hdL_X0_door ⟨(Nat.le_of_ble_eq_true rfl), (Nat.le_of_ble_eq_true rfl)⟩) rfl rfl rfl (Nat.le_of_ble_eq_true rfl) he rfl dL_door_4 ⟨(Nat.le_of_ble_eq_true rfl), (Nat.le_of_ble_eq_true rfl)⟩ (fun a => ?_)
  refine g_astore_n E (lv' := [_, _, _, _]) dL_door_12 rfl (Nat.le_of_ble_eq_true rfl) rfl ?_
  refine g_iconst E dL_door_13 ?_
  exact hret _ _ dL_door_14
set_option maxHeartbeats 4000000 in
set_option maxRecDepth 100000 in
theorem wL_door2 {l : Launch} {D : va_G} {cI cZ cL : ClassId} {o q : Nat} {fL : Nat → Int64} {wX : va_W} {fs : List Value} (he : wX[0]? = some (q, .inr (0, fs))) {x0 : Int} (hM : gMT l yX0_door wsX0_door 7 D (gTy cI cZ) wX [.ref q, .int (iI x0)] gNS) : gMW l yL_door wsL_door D (gTyL cI cZ cL) (gO cL o fL :: wX) [.ref q, .int (iI x0), .ref o] 2 (gO cL o fL :: wX) := by
  refine g_ofW (by decide +kernel) rfl rfl (Nat.le_of_ble_eq_true rfl) (g_cat1 rfl) ?_
  intro p e s m args below meth c Q A0 E hT htab hret
  have hts := E.1.2.2.2.2
  show gJ p l e (gRx 8) s m args below meth c 0 0 Q A0 D (gO cL o fL :: wX) [some (.ref q), some (.int (iI x0)), some (.ref o), none] 0 []
  have hpass : ∀ z ∈ ([⟨0, 9, 12, 21⟩] : List ExceptionTableEntry), z.catchType ≠ 0 ∧ ∃ nm : String, Cond.classLink RL z.catchType nm ∈ wsL_door ∧ (gNS, nm) ∈ gNcs := by
    intro z hz
    simp only [List.mem_cons, List.not_mem_nil, or_false] at hz
    subst hz
    exact ⟨by decide, gIX, cl_door_21, by decide +kernel⟩
  refine g_aload_n E dL_door_0 rfl rfl ?_
  refine g_iconst E dL_door_1 ?_
  refine g_aload_n E dL_door_2 rfl rfl ?_
  refine g_iload_n E dL_door_3 rfl rfl ?_
  refine g_callCW E [0, 1] rfl (wr := [gO cL o fL]) hM hT htab [⟨0, 9, 12, 21⟩] ⟨0, 9, 15, 44⟩ [] rfl hpass (by decide) (by decide) cl_door_44 (by decide +kernel) (cwV 1 hts gL_door_X0_door rfl rfl rfl hdL_X0_door ⟨(Nat.le_of_ble_eq_true rfl), (Nat.le_of_ble_eq_true rfl)⟩) rfl rfl rfl (Nat.le_of_ble_eq_true rfl) he rfl dL_door_4 ⟨(Nat.le_of_ble_eq_true rfl), (Nat.le_of_ble_eq_true rfl)⟩ (fun a => ?_)
  refine g_astore_n E (lv' := [_, _, _, _]) dL_door_15 rfl (Nat.le_of_ble_eq_true rfl) rfl ?_
  refine g_iconst E dL_door_16 ?_
  exact hret _ _ dL_door_17
set_option maxHeartbeats 4000000 in
set_option maxRecDepth 100000 in
theorem wL_wouldMove0 {l : Launch} {D : va_G} {cI cZ cL : ClassId} {o q : Nat} {fL : Nat → Int64} {wX wX' : va_W} {fs : List Value} (he : wX[0]? = some (q, .inr (0, fs))) {x0 : Int} {rv : Int} (hM : gMI l yX0_wouldMove wsX0_wouldMove 6 D (gTy cI cZ) wX [.ref q, .int (iI x0)] rv wX') : gMW l yL_wouldMove wsL_wouldMove D (gTyL cI cZ cL) (gO cL o fL :: wX) [.ref q, .int (iI x0), .ref o] 0 (gO cL o (vp_updL fL 0 (iI rv).toInt64) :: wX') := by
  refine g_ofW (by decide +kernel) rfl rfl (Nat.le_of_ble_eq_true rfl) (g_cat1 rfl) ?_
  intro p e s m args below meth c Q A0 E hT htab hret
  have hts := E.1.2.2.2.2
  show gJ p l e (gRx 8) s m args below meth c 0 0 Q A0 D (gO cL o fL :: wX) [some (.ref q), some (.int (iI x0)), some (.ref o), none] 0 []
  refine g_aload_n E dL_wouldMove_0 rfl rfl ?_
  refine g_iconst E dL_wouldMove_1 ?_
  refine g_aload_n E dL_wouldMove_2 rfl rfl ?_
  refine g_iload_n E dL_wouldMove_3 rfl rfl ?_
  refine g_callIW E [0, 1] rfl (wr := [gO cL o fL]) hM (cwV 1 hts gL_wouldMove_X0_wouldMove rfl rfl rfl hdL_X0_wouldMove ⟨(Nat.le_of_ble_eq_true rfl), (Nat.le_of_ble_eq_true rfl)⟩) rfl rfl rfl (Nat.le_of_ble_eq_true rfl) he rfl dL_wouldMove_4 ⟨Nat.zero_le _, Nat.zero_le _⟩ ?_
  refine g_i2l E dL_wouldMove_7 ?_
  refine g_last E 0 (ws' := gO cL o (vp_updL fL 0 (iI rv).toInt64) :: wX') rfl rfl dL_wouldMove_8 ?_
  refine g_goto E dL_wouldMove_9 (tgt := 15) (by decide) ?_
  refine g_iconst E dL_wouldMove_15 ?_
  exact g_wid (Nat.zero_le _) (Nat.zero_le _) (hret _ _ dL_wouldMove_16)
set_option maxHeartbeats 4000000 in
set_option maxRecDepth 100000 in
theorem wL_wouldMove1 {l : Launch} {D : va_G} {cI cZ cL : ClassId} {o q : Nat} {fL : Nat → Int64} {wX : va_W} {fs : List Value} (he : wX[0]? = some (q, .inr (0, fs))) {x0 : Int} (hM : gMT l yX0_wouldMove wsX0_wouldMove 7 D (gTy cI cZ) wX [.ref q, .int (iI x0)] gIX) : gMW l yL_wouldMove wsL_wouldMove D (gTyL cI cZ cL) (gO cL o fL :: wX) [.ref q, .int (iI x0), .ref o] 1 (gO cL o fL :: wX) := by
  refine g_ofW (by decide +kernel) rfl rfl (Nat.le_of_ble_eq_true rfl) (g_cat1 rfl) ?_
  intro p e s m args below meth c Q A0 E hT htab hret
  have hts := E.1.2.2.2.2
  show gJ p l e (gRx 8) s m args below meth c 0 0 Q A0 D (gO cL o fL :: wX) [some (.ref q), some (.int (iI x0)), some (.ref o), none] 0 []
  refine g_aload_n E dL_wouldMove_0 rfl rfl ?_
  refine g_iconst E dL_wouldMove_1 ?_
  refine g_aload_n E dL_wouldMove_2 rfl rfl ?_
  refine g_iload_n E dL_wouldMove_3 rfl rfl ?_
  refine g_callCW E [0, 1] rfl (wr := [gO cL o fL]) hM hT htab [] ⟨0, 9, 12, 21⟩ [] rfl (fun z hz => nomatch hz) (by decide) (by decide) cl_wouldMove_21 (by decide +kernel) (cwV 1 hts gL_wouldMove_X0_wouldMove rfl rfl rfl hdL_X0_wouldMove ⟨(Nat.le_of_ble_eq_true rfl), (Nat.le_of_ble_eq_true rfl)⟩) rfl rfl rfl (Nat.le_of_ble_eq_true rfl) he rfl dL_wouldMove_4 ⟨(Nat.le_of_ble_eq_true rfl), (Nat.le_of_ble_eq_true rfl)⟩ (fun a => ?_)
  refine g_astore_n E (lv' := [_, _, _, _]) dL_wouldMove_12 rfl (Nat.le_of_ble_eq_true rfl) rfl ?_
  refine g_iconst E dL_wouldMove_13 ?_
  exact hret _ _ dL_wouldMove_14
set_option maxHeartbeats 4000000 in
set_option maxRecDepth 100000 in
theorem wL_bound0 {l : Launch} {D : va_G} {cI cZ cL : ClassId} {o q : Nat} {fL : Nat → Int64} {wX wX' : va_W} {fs : List Value} (he : wX[0]? = some (q, .inr (0, fs))) {rv : Int} (hM : gMI l yX0_bound wsX0_bound 6 D (gTy cI cZ) wX [.ref q] rv wX') : gMW l yL_bound wsL_bound D (gTyL cI cZ cL) (gO cL o fL :: wX) [.ref q, .ref o] 0 (gO cL o (vp_updL fL 0 (iI rv).toInt64) :: wX') := by
  refine g_ofW (by decide +kernel) rfl rfl (Nat.le_of_ble_eq_true rfl) (g_cat1 rfl) ?_
  intro p e s m args below meth c Q A0 E hT htab hret
  have hts := E.1.2.2.2.2
  show gJ p l e (gRx 8) s m args below meth c 0 0 Q A0 D (gO cL o fL :: wX) [some (.ref q), some (.ref o), none] 0 []
  refine g_aload_n E dL_bound_0 rfl rfl ?_
  refine g_iconst E dL_bound_1 ?_
  refine g_aload_n E dL_bound_2 rfl rfl ?_
  refine g_callIW E [0, 1] rfl (wr := [gO cL o fL]) hM (cwV 0 hts gL_bound_X0_bound rfl rfl rfl hdL_X0_bound ⟨(Nat.le_of_ble_eq_true rfl), (Nat.le_of_ble_eq_true rfl)⟩) rfl rfl rfl (Nat.le_of_ble_eq_true rfl) he rfl dL_bound_3 ⟨Nat.zero_le _, Nat.zero_le _⟩ ?_
  refine g_i2l E dL_bound_6 ?_
  refine g_last E 0 (ws' := gO cL o (vp_updL fL 0 (iI rv).toInt64) :: wX') rfl rfl dL_bound_7 ?_
  refine g_goto E dL_bound_8 (tgt := 14) (by decide) ?_
  refine g_iconst E dL_bound_14 ?_
  exact g_wid (Nat.zero_le _) (Nat.zero_le _) (hret _ _ dL_bound_15)
set_option maxHeartbeats 4000000 in
set_option maxRecDepth 100000 in
theorem wL_bound1 {l : Launch} {D : va_G} {cI cZ cL : ClassId} {o q : Nat} {fL : Nat → Int64} {wX : va_W} {fs : List Value} (he : wX[0]? = some (q, .inr (0, fs))) (hM : gMT l yX0_bound wsX0_bound 7 D (gTy cI cZ) wX [.ref q] gIS) : gMW l yL_bound wsL_bound D (gTyL cI cZ cL) (gO cL o fL :: wX) [.ref q, .ref o] 1 (gO cL o fL :: wX) := by
  refine g_ofW (by decide +kernel) rfl rfl (Nat.le_of_ble_eq_true rfl) (g_cat1 rfl) ?_
  intro p e s m args below meth c Q A0 E hT htab hret
  have hts := E.1.2.2.2.2
  show gJ p l e (gRx 8) s m args below meth c 0 0 Q A0 D (gO cL o fL :: wX) [some (.ref q), some (.ref o), none] 0 []
  refine g_aload_n E dL_bound_0 rfl rfl ?_
  refine g_iconst E dL_bound_1 ?_
  refine g_aload_n E dL_bound_2 rfl rfl ?_
  refine g_callCW E [0, 1] rfl (wr := [gO cL o fL]) hM hT htab [] ⟨0, 8, 11, 15⟩ [] rfl (fun z hz => nomatch hz) (by decide) (by decide) cl_bound_15 (by decide +kernel) (cwV 0 hts gL_bound_X0_bound rfl rfl rfl hdL_X0_bound ⟨(Nat.le_of_ble_eq_true rfl), (Nat.le_of_ble_eq_true rfl)⟩) rfl rfl rfl (Nat.le_of_ble_eq_true rfl) he rfl dL_bound_3 ⟨(Nat.le_of_ble_eq_true rfl), (Nat.le_of_ble_eq_true rfl)⟩ (fun a => ?_)
  refine g_astore_n E (lv' := [_, _, _]) dL_bound_11 rfl (Nat.le_of_ble_eq_true rfl) rfl ?_
  refine g_iconst E dL_bound_12 ?_
  exact hret _ _ dL_bound_13
