set_option maxRecDepth 100000 in
theorem hdS_addPlace : yL_addPlace.cls ≠ "java/lang/invoke/MethodHandle" ∧ yL_addPlace.cls ≠ "java/lang/invoke/VarHandle" ∧ (parseMethodDescriptor yL_addPlace.desc).map (fun d => d.parameters.length) = some 3 := by decide +kernel
set_option maxRecDepth 100000 in
theorem hdL_X1_addPlace : yX1_addPlace.cls = RX1 ∧ yX1_addPlace.cls ≠ "java/lang/invoke/MethodHandle" ∧ yX1_addPlace.cls ≠ "java/lang/invoke/VarHandle" ∧ (parseMethodDescriptor yX1_addPlace.desc).map (fun d => d.parameters.length) = some 1 := by decide +kernel
set_option maxRecDepth 100000 in
theorem hdL_X1_thrown : yX1_thrown.cls = RX1 ∧ yX1_thrown.cls ≠ "java/lang/invoke/MethodHandle" ∧ yX1_thrown.cls ≠ "java/lang/invoke/VarHandle" ∧ (parseMethodDescriptor yX1_thrown.desc).map (fun d => d.parameters.length) = some 0 := by decide +kernel
set_option maxRecDepth 100000 in
theorem hdS_addDoor : yL_addDoor.cls ≠ "java/lang/invoke/MethodHandle" ∧ yL_addDoor.cls ≠ "java/lang/invoke/VarHandle" ∧ (parseMethodDescriptor yL_addDoor.desc).map (fun d => d.parameters.length) = some 6 := by decide +kernel
set_option maxRecDepth 100000 in
theorem hdL_X1_addDoor : yX1_addDoor.cls = RX1 ∧ yX1_addDoor.cls ≠ "java/lang/invoke/MethodHandle" ∧ yX1_addDoor.cls ≠ "java/lang/invoke/VarHandle" ∧ (parseMethodDescriptor yX1_addDoor.desc).map (fun d => d.parameters.length) = some 4 := by decide +kernel
set_option maxRecDepth 100000 in
theorem hdS_setDoor : yL_setDoor.cls ≠ "java/lang/invoke/MethodHandle" ∧ yL_setDoor.cls ≠ "java/lang/invoke/VarHandle" ∧ (parseMethodDescriptor yL_setDoor.desc).map (fun d => d.parameters.length) = some 4 := by decide +kernel
set_option maxRecDepth 100000 in
theorem hdL_X1_setDoor : yX1_setDoor.cls = RX1 ∧ yX1_setDoor.cls ≠ "java/lang/invoke/MethodHandle" ∧ yX1_setDoor.cls ≠ "java/lang/invoke/VarHandle" ∧ (parseMethodDescriptor yX1_setDoor.desc).map (fun d => d.parameters.length) = some 2 := by decide +kernel
set_option maxRecDepth 100000 in
theorem hdS_come : yL_come.cls ≠ "java/lang/invoke/MethodHandle" ∧ yL_come.cls ≠ "java/lang/invoke/VarHandle" ∧ (parseMethodDescriptor yL_come.desc).map (fun d => d.parameters.length) = some 4 := by decide +kernel
set_option maxRecDepth 100000 in
theorem hdL_X1_come : yX1_come.cls = RX1 ∧ yX1_come.cls ≠ "java/lang/invoke/MethodHandle" ∧ yX1_come.cls ≠ "java/lang/invoke/VarHandle" ∧ (parseMethodDescriptor yX1_come.desc).map (fun d => d.parameters.length) = some 2 := by decide +kernel
set_option maxRecDepth 100000 in
theorem hdS_setRelease : yL_setRelease.cls ≠ "java/lang/invoke/MethodHandle" ∧ yL_setRelease.cls ≠ "java/lang/invoke/VarHandle" ∧ (parseMethodDescriptor yL_setRelease.desc).map (fun d => d.parameters.length) = some 4 := by decide +kernel
set_option maxRecDepth 100000 in
theorem hdL_X1_setRelease : yX1_setRelease.cls = RX1 ∧ yX1_setRelease.cls ≠ "java/lang/invoke/MethodHandle" ∧ yX1_setRelease.cls ≠ "java/lang/invoke/VarHandle" ∧ (parseMethodDescriptor yX1_setRelease.desc).map (fun d => d.parameters.length) = some 2 := by decide +kernel
set_option maxRecDepth 100000 in
theorem hdL_X0_places : yX0_places.cls = RX0 ∧ yX0_places.cls ≠ "java/lang/invoke/MethodHandle" ∧ yX0_places.cls ≠ "java/lang/invoke/VarHandle" ∧ (parseMethodDescriptor yX0_places.desc).map (fun d => d.parameters.length) = some 0 := by decide +kernel
set_option maxRecDepth 100000 in
theorem hdL_X1_places : yX1_places.cls = RX1 ∧ yX1_places.cls ≠ "java/lang/invoke/MethodHandle" ∧ yX1_places.cls ≠ "java/lang/invoke/VarHandle" ∧ (parseMethodDescriptor yX1_places.desc).map (fun d => d.parameters.length) = some 0 := by decide +kernel
set_option maxRecDepth 100000 in
theorem hdL_X0_doors : yX0_doors.cls = RX0 ∧ yX0_doors.cls ≠ "java/lang/invoke/MethodHandle" ∧ yX0_doors.cls ≠ "java/lang/invoke/VarHandle" ∧ (parseMethodDescriptor yX0_doors.desc).map (fun d => d.parameters.length) = some 0 := by decide +kernel
set_option maxRecDepth 100000 in
theorem hdL_X1_doors : yX1_doors.cls = RX1 ∧ yX1_doors.cls ≠ "java/lang/invoke/MethodHandle" ∧ yX1_doors.cls ≠ "java/lang/invoke/VarHandle" ∧ (parseMethodDescriptor yX1_doors.desc).map (fun d => d.parameters.length) = some 0 := by decide +kernel
set_option maxRecDepth 100000 in
theorem hdS_step : yL_step.cls ≠ "java/lang/invoke/MethodHandle" ∧ yL_step.cls ≠ "java/lang/invoke/VarHandle" ∧ (parseMethodDescriptor yL_step.desc).map (fun d => d.parameters.length) = some 3 := by decide +kernel
set_option maxRecDepth 100000 in
theorem hdL_X1_step : yX1_step.cls = RX1 ∧ yX1_step.cls ≠ "java/lang/invoke/MethodHandle" ∧ yX1_step.cls ≠ "java/lang/invoke/VarHandle" ∧ (parseMethodDescriptor yX1_step.desc).map (fun d => d.parameters.length) = some 1 := by decide +kernel
set_option maxRecDepth 100000 in
theorem hdL_X0_clear : yX0_clear.cls = RX0 ∧ yX0_clear.cls ≠ "java/lang/invoke/MethodHandle" ∧ yX0_clear.cls ≠ "java/lang/invoke/VarHandle" ∧ (parseMethodDescriptor yX0_clear.desc).map (fun d => d.parameters.length) = some 0 := by decide +kernel
set_option maxRecDepth 100000 in
theorem hdL_X1_clear : yX1_clear.cls = RX1 ∧ yX1_clear.cls ≠ "java/lang/invoke/MethodHandle" ∧ yX1_clear.cls ≠ "java/lang/invoke/VarHandle" ∧ (parseMethodDescriptor yX1_clear.desc).map (fun d => d.parameters.length) = some 0 := by decide +kernel
set_option maxRecDepth 100000 in
theorem hdL_X0_now : yX0_now.cls = RX0 ∧ yX0_now.cls ≠ "java/lang/invoke/MethodHandle" ∧ yX0_now.cls ≠ "java/lang/invoke/VarHandle" ∧ (parseMethodDescriptor yX0_now.desc).map (fun d => d.parameters.length) = some 0 := by decide +kernel
set_option maxRecDepth 100000 in
theorem hdL_X1_now : yX1_now.cls = RX1 ∧ yX1_now.cls ≠ "java/lang/invoke/MethodHandle" ∧ yX1_now.cls ≠ "java/lang/invoke/VarHandle" ∧ (parseMethodDescriptor yX1_now.desc).map (fun d => d.parameters.length) = some 0 := by decide +kernel
set_option maxRecDepth 100000 in
theorem hdS_people : yL_people.cls ≠ "java/lang/invoke/MethodHandle" ∧ yL_people.cls ≠ "java/lang/invoke/VarHandle" ∧ (parseMethodDescriptor yL_people.desc).map (fun d => d.parameters.length) = some 3 := by decide +kernel
set_option maxRecDepth 100000 in
theorem hdL_X1_people : yX1_people.cls = RX1 ∧ yX1_people.cls ≠ "java/lang/invoke/MethodHandle" ∧ yX1_people.cls ≠ "java/lang/invoke/VarHandle" ∧ (parseMethodDescriptor yX1_people.desc).map (fun d => d.parameters.length) = some 1 := by decide +kernel
set_option maxRecDepth 100000 in
theorem hdL_X0_inside : yX0_inside.cls = RX0 ∧ yX0_inside.cls ≠ "java/lang/invoke/MethodHandle" ∧ yX0_inside.cls ≠ "java/lang/invoke/VarHandle" ∧ (parseMethodDescriptor yX0_inside.desc).map (fun d => d.parameters.length) = some 0 := by decide +kernel
set_option maxRecDepth 100000 in
theorem hdL_X1_inside : yX1_inside.cls = RX1 ∧ yX1_inside.cls ≠ "java/lang/invoke/MethodHandle" ∧ yX1_inside.cls ≠ "java/lang/invoke/VarHandle" ∧ (parseMethodDescriptor yX1_inside.desc).map (fun d => d.parameters.length) = some 0 := by decide +kernel
set_option maxRecDepth 100000 in
theorem hdS_latest : yL_latest.cls ≠ "java/lang/invoke/MethodHandle" ∧ yL_latest.cls ≠ "java/lang/invoke/VarHandle" ∧ (parseMethodDescriptor yL_latest.desc).map (fun d => d.parameters.length) = some 2 := by decide +kernel
set_option maxRecDepth 100000 in
theorem hdL_X1_latest : yX1_latest.cls = RX1 ∧ yX1_latest.cls ≠ "java/lang/invoke/MethodHandle" ∧ yX1_latest.cls ≠ "java/lang/invoke/VarHandle" ∧ (parseMethodDescriptor yX1_latest.desc).map (fun d => d.parameters.length) = some 0 := by decide +kernel
set_option maxRecDepth 100000 in
theorem hdS_passed : yL_passed.cls ≠ "java/lang/invoke/MethodHandle" ∧ yL_passed.cls ≠ "java/lang/invoke/VarHandle" ∧ (parseMethodDescriptor yL_passed.desc).map (fun d => d.parameters.length) = some 3 := by decide +kernel
set_option maxRecDepth 100000 in
theorem hdL_X1_passed : yX1_passed.cls = RX1 ∧ yX1_passed.cls ≠ "java/lang/invoke/MethodHandle" ∧ yX1_passed.cls ≠ "java/lang/invoke/VarHandle" ∧ (parseMethodDescriptor yX1_passed.desc).map (fun d => d.parameters.length) = some 1 := by decide +kernel
set_option maxRecDepth 100000 in
theorem hdL_X0_waited : yX0_waited.cls = RX0 ∧ yX0_waited.cls ≠ "java/lang/invoke/MethodHandle" ∧ yX0_waited.cls ≠ "java/lang/invoke/VarHandle" ∧ (parseMethodDescriptor yX0_waited.desc).map (fun d => d.parameters.length) = some 0 := by decide +kernel
set_option maxRecDepth 100000 in
theorem hdL_X1_waited : yX1_waited.cls = RX1 ∧ yX1_waited.cls ≠ "java/lang/invoke/MethodHandle" ∧ yX1_waited.cls ≠ "java/lang/invoke/VarHandle" ∧ (parseMethodDescriptor yX1_waited.desc).map (fun d => d.parameters.length) = some 0 := by decide +kernel
set_option maxRecDepth 100000 in
theorem hdS_distance : yL_distance.cls ≠ "java/lang/invoke/MethodHandle" ∧ yL_distance.cls ≠ "java/lang/invoke/VarHandle" ∧ (parseMethodDescriptor yL_distance.desc).map (fun d => d.parameters.length) = some 3 := by decide +kernel
set_option maxRecDepth 100000 in
theorem hdL_X1_distance : yX1_distance.cls = RX1 ∧ yX1_distance.cls ≠ "java/lang/invoke/MethodHandle" ∧ yX1_distance.cls ≠ "java/lang/invoke/VarHandle" ∧ (parseMethodDescriptor yX1_distance.desc).map (fun d => d.parameters.length) = some 1 := by decide +kernel
set_option maxRecDepth 100000 in
theorem hdS_door : yL_door.cls ≠ "java/lang/invoke/MethodHandle" ∧ yL_door.cls ≠ "java/lang/invoke/VarHandle" ∧ (parseMethodDescriptor yL_door.desc).map (fun d => d.parameters.length) = some 3 := by decide +kernel
set_option maxRecDepth 100000 in
theorem hdL_X1_door : yX1_door.cls = RX1 ∧ yX1_door.cls ≠ "java/lang/invoke/MethodHandle" ∧ yX1_door.cls ≠ "java/lang/invoke/VarHandle" ∧ (parseMethodDescriptor yX1_door.desc).map (fun d => d.parameters.length) = some 1 := by decide +kernel
set_option maxRecDepth 100000 in
theorem hdL_X0_trapped : yX0_trapped.cls = RX0 ∧ yX0_trapped.cls ≠ "java/lang/invoke/MethodHandle" ∧ yX0_trapped.cls ≠ "java/lang/invoke/VarHandle" ∧ (parseMethodDescriptor yX0_trapped.desc).map (fun d => d.parameters.length) = some 0 := by decide +kernel
set_option maxRecDepth 100000 in
theorem hdL_X1_trapped : yX1_trapped.cls = RX1 ∧ yX1_trapped.cls ≠ "java/lang/invoke/MethodHandle" ∧ yX1_trapped.cls ≠ "java/lang/invoke/VarHandle" ∧ (parseMethodDescriptor yX1_trapped.desc).map (fun d => d.parameters.length) = some 0 := by decide +kernel
set_option maxRecDepth 100000 in
theorem hdS_wouldMove : yL_wouldMove.cls ≠ "java/lang/invoke/MethodHandle" ∧ yL_wouldMove.cls ≠ "java/lang/invoke/VarHandle" ∧ (parseMethodDescriptor yL_wouldMove.desc).map (fun d => d.parameters.length) = some 3 := by decide +kernel
set_option maxRecDepth 100000 in
theorem hdL_X1_wouldMove : yX1_wouldMove.cls = RX1 ∧ yX1_wouldMove.cls ≠ "java/lang/invoke/MethodHandle" ∧ yX1_wouldMove.cls ≠ "java/lang/invoke/VarHandle" ∧ (parseMethodDescriptor yX1_wouldMove.desc).map (fun d => d.parameters.length) = some 1 := by decide +kernel
set_option maxRecDepth 100000 in
theorem hdS_bound : yL_bound.cls ≠ "java/lang/invoke/MethodHandle" ∧ yL_bound.cls ≠ "java/lang/invoke/VarHandle" ∧ (parseMethodDescriptor yL_bound.desc).map (fun d => d.parameters.length) = some 2 := by decide +kernel
set_option maxRecDepth 100000 in
theorem hdL_X1_bound : yX1_bound.cls = RX1 ∧ yX1_bound.cls ≠ "java/lang/invoke/MethodHandle" ∧ yX1_bound.cls ≠ "java/lang/invoke/VarHandle" ∧ (parseMethodDescriptor yX1_bound.desc).map (fun d => d.parameters.length) = some 0 := by decide +kernel
set_option maxHeartbeats 4000000 in
set_option maxRecDepth 100000 in
theorem law_c0 {p : Program} {l : Launch} {e : Env} {s : State} {m : MethodId} {args : Array Value} {below : List Frame} {meth : Method} {c : Code} {cells slots : Nat} {Q : State → Prop} {A0 : Nat → Prop} {D : va_G} {cI cZ cL : ClassId} {b L o q qm : Nat} {xs : Nat → Int32} {fL : Nat → Int64} {wX wX' wM wM' : va_W} {fs fs2 fs3 : List Value} {i : Nat}
    (E : gE p s m args c RL cL_law 7 wsL_law D (gTyL cI cZ cL) A0) (hT : gKT A0 s s.heap) (hX : va_X b L xs s s.heap) (hbl : b < s.heap.size) (hbA : ¬ A0 b) (hi : i + 5 ≤ L ∧ L ≤ 2560) (hcs : cells + 1 ≤ 1059 ∧ slots + 6 ≤ 8648) (heX : wX[0]? = some (q, .inr (0, fs))) (heM : wM[0]? = some (qm, .inr (1, fs2))) (heM' : wM'[0]? = some (qm, .inr (1, fs3))) {fL' : Nat → Int64} {k9 bv : Int} (hk9 : 0 ≤ k9 ∧ k9 ≤ 3) (hkb : k9 = 0 → fL' 0 = (iI bv).toInt64)
    (hW : gMW l yL_addPlace wsL_addPlace D (gTyL cI cZ cL) (gO cL o fL :: wX) [.ref q, .int (iI (xs (i + 1)).toInt), .ref o] k9 (gO cL o fL' :: wX')) (hM : gMI l yX1_addPlace wsX1_addPlace 6 D (gTy cI cZ) wM [.ref qm, .int (iI (xs (i + 1)).toInt)] bv wM') (hth : gMI l yX1_thrown wsX1_thrown 6 D (gTy cI cZ) wM' [.ref qm] k9 wM')
    (K : ∀ a5 a6 : Option Value, gJ p l e room_1 s m args below meth c (cells + 1) (slots + 6) Q A0 D (wM' ++ (gO cL o fL' :: wX')) [some (.ref b), some (.ref q), some (.ref qm), some (.ref o), some (.int (iI (i : Int))), a5, a6] 1022 []) : ∀ a5 a6 : Option Value, gJ p l e room_1 s m args below meth c cells slots Q A0 D (wM ++ (gO cL o fL :: wX)) [some (.ref b), some (.ref q), some (.ref qm), some (.ref o), some (.int (iI (i : Int))), a5, a6] 132 [] := by
  have hts := E.1.2.2.2.2
  intro a5 a6
  have hx0 := gsm_of (xs (i + 1))
  refine g_aload_n E dL_law_132 rfl rfl ?_
  refine g_aload_n E dL_law_133 rfl rfl ?_
  refine g_iload E dL_law_134 rfl ?_
  refine g_iconst E dL_law_136 ?_
  refine g_iadd E dL_law_137 ?_
  refine g_sld E hX hbl hbA dL_law_138 (j := i + 1) (by omega) (by omega) ?_
  refine g_aload_n E dL_law_139 rfl rfl ?_
  refine g_callSW E hT (wr := wM) hW (vx_cwSW 3 hts gL_law_L_addPlace rfl rfl rfl hdS_addPlace ⟨(Nat.le_of_ble_eq_true rfl), (Nat.le_of_ble_eq_true rfl)⟩) rfl rfl rfl (Nat.le_of_ble_eq_true rfl) dL_law_140 hcs ?_
  refine g_istore E (lv' := [_, _, _, _, _, _, _]) dL_law_143 (Nat.le_of_ble_eq_true rfl) rfl ?_
  refine g_aload_n E dL_law_145 rfl rfl ?_
  refine g_aload_n E dL_law_146 rfl rfl ?_
  refine g_iload E dL_law_147 rfl ?_
  refine g_iconst E dL_law_149 ?_
  refine g_iadd E dL_law_150 ?_
  refine g_sld E hX hbl hbA dL_law_151 (j := i + 1) (by omega) (by omega) ?_
  refine g_callM E [0, 1] rfl hM (cwV 1 hts gL_law_X1_addPlace rfl rfl rfl hdL_X1_addPlace ⟨(Nat.le_of_ble_eq_true rfl), (Nat.le_of_ble_eq_true rfl)⟩) rfl rfl rfl (Nat.le_of_ble_eq_true rfl) heM rfl dL_law_152 hcs ?_
  refine g_istore E (lv' := [_, _, _, _, _, _, _]) dL_law_155 (Nat.le_of_ble_eq_true rfl) rfl ?_
  refine g_aload_n E dL_law_157 rfl rfl ?_
  refine g_callM E [0, 1] rfl hth (cwV 0 hts gL_law_X1_thrown rfl rfl rfl hdL_X1_thrown ⟨(Nat.le_of_ble_eq_true rfl), (Nat.le_of_ble_eq_true rfl)⟩) rfl rfl rfl (Nat.le_of_ble_eq_true rfl) heM' rfl dL_law_158 hcs ?_
  refine g_iload E dL_law_161 rfl ?_
  refine g_icmp_eq_t E dL_law_163 (tgt := 168) (by decide) (by omega) rfl ?_
  refine g_iload E dL_law_168 rfl ?_
  refine g_if_ne E dL_law_170 (tgt := 185) (by decide) (by omega) (fun hk => ?_) (fun hk => ?_)
  · exact g_goto E dL_law_185 (tgt := 1022) (by decide) (K _ _)
  · refine g_aload_n E dL_law_173 rfl rfl ?_
    refine g_iconst E dL_law_174 ?_
    refine g_swap ?_
    refine g_lald E 0 (o := o) (fL := fL') rfl dL_law_175 ?_
    refine g_swap ?_
    refine g_iload E dL_law_176 rfl ?_
    refine g_i2l E dL_law_178 ?_
    refine g_lcmp0 E (hkb hk) dL_law_179 ?_
    refine g_if_eq_t E dL_law_180 (tgt := 185) (by decide) (by omega) rfl ?_
    exact g_goto E dL_law_185 (tgt := 1022) (by decide) (K _ _)
set_option maxHeartbeats 4000000 in
set_option maxRecDepth 100000 in
theorem law_c1 {p : Program} {l : Launch} {e : Env} {s : State} {m : MethodId} {args : Array Value} {below : List Frame} {meth : Method} {c : Code} {cells slots : Nat} {Q : State → Prop} {A0 : Nat → Prop} {D : va_G} {cI cZ cL : ClassId} {b L o q qm : Nat} {xs : Nat → Int32} {fL : Nat → Int64} {wX wX' wM wM' : va_W} {fs fs2 fs3 : List Value} {i : Nat}
    (E : gE p s m args c RL cL_law 7 wsL_law D (gTyL cI cZ cL) A0) (hT : gKT A0 s s.heap) (hX : va_X b L xs s s.heap) (hbl : b < s.heap.size) (hbA : ¬ A0 b) (hi : i + 5 ≤ L ∧ L ≤ 2560) (hcs : cells + 1 ≤ 1059 ∧ slots + 6 ≤ 8648) (heX : wX[0]? = some (q, .inr (0, fs))) (heM : wM[0]? = some (qm, .inr (1, fs2))) (heM' : wM'[0]? = some (qm, .inr (1, fs3))) {fL' : Nat → Int64} {k9 bv : Int} (hk9 : 0 ≤ k9 ∧ k9 ≤ 3) (hkb : k9 = 0 → fL' 0 = (iI bv).toInt64)
    (hW : gMW l yL_addDoor wsL_addDoor D (gTyL cI cZ cL) (gO cL o fL :: wX) [.ref q, .int (iI (xs (i + 1)).toInt), .int (iI (xs (i + 2)).toInt), .int (iI (xs (i + 3)).toInt), .int (iI (xs (i + 4)).toInt), .ref o] k9 (gO cL o fL' :: wX')) (hM : gMI l yX1_addDoor wsX1_addDoor 6 D (gTy cI cZ) wM [.ref qm, .int (iI (xs (i + 1)).toInt), .int (iI (xs (i + 2)).toInt), .int (iI (xs (i + 3)).toInt), .int (iI (xs (i + 4)).toInt)] bv wM') (hth : gMI l yX1_thrown wsX1_thrown 6 D (gTy cI cZ) wM' [.ref qm] k9 wM')
    (K : ∀ a5 a6 : Option Value, gJ p l e room_1 s m args below meth c (cells + 1) (slots + 6) Q A0 D (wM' ++ (gO cL o fL' :: wX')) [some (.ref b), some (.ref q), some (.ref qm), some (.ref o), some (.int (iI (i : Int))), a5, a6] 1022 []) : ∀ a5 a6 : Option Value, gJ p l e room_1 s m args below meth c cells slots Q A0 D (wM ++ (gO cL o fL :: wX)) [some (.ref b), some (.ref q), some (.ref qm), some (.ref o), some (.int (iI (i : Int))), a5, a6] 188 [] := by
  have hts := E.1.2.2.2.2
  intro a5 a6
  have hx0 := gsm_of (xs (i + 1))
  have hx1 := gsm_of (xs (i + 2))
  have hx2 := gsm_of (xs (i + 3))
  have hx3 := gsm_of (xs (i + 4))
  refine g_aload_n E dL_law_188 rfl rfl ?_
  refine g_aload_n E dL_law_189 rfl rfl ?_
  refine g_iload E dL_law_190 rfl ?_
  refine g_iconst E dL_law_192 ?_
  refine g_iadd E dL_law_193 ?_
  refine g_sld E hX hbl hbA dL_law_194 (j := i + 1) (by omega) (by omega) ?_
  refine g_aload_n E dL_law_195 rfl rfl ?_
  refine g_iload E dL_law_196 rfl ?_
  refine g_iconst E dL_law_198 ?_
  refine g_iadd E dL_law_199 ?_
  refine g_sld E hX hbl hbA dL_law_200 (j := i + 2) (by omega) (by omega) ?_
  refine g_aload_n E dL_law_201 rfl rfl ?_
  refine g_iload E dL_law_202 rfl ?_
  refine g_iconst E dL_law_204 ?_
  refine g_iadd E dL_law_205 ?_
  refine g_sld E hX hbl hbA dL_law_206 (j := i + 3) (by omega) (by omega) ?_
  refine g_aload_n E dL_law_207 rfl rfl ?_
  refine g_iload E dL_law_208 rfl ?_
  refine g_iconst E dL_law_210 ?_
  refine g_iadd E dL_law_211 ?_
  refine g_sld E hX hbl hbA dL_law_212 (j := i + 4) (by omega) (by omega) ?_
  refine g_aload_n E dL_law_213 rfl rfl ?_
  refine g_callSW E hT (wr := wM) hW (vx_cwSW 6 hts gL_law_L_addDoor rfl rfl rfl hdS_addDoor ⟨(Nat.le_of_ble_eq_true rfl), (Nat.le_of_ble_eq_true rfl)⟩) rfl rfl rfl (Nat.le_of_ble_eq_true rfl) dL_law_214 hcs ?_
  refine g_istore E (lv' := [_, _, _, _, _, _, _]) dL_law_217 (Nat.le_of_ble_eq_true rfl) rfl ?_
  refine g_aload_n E dL_law_219 rfl rfl ?_
  refine g_aload_n E dL_law_220 rfl rfl ?_
  refine g_iload E dL_law_221 rfl ?_
  refine g_iconst E dL_law_223 ?_
  refine g_iadd E dL_law_224 ?_
  refine g_sld E hX hbl hbA dL_law_225 (j := i + 1) (by omega) (by omega) ?_
  refine g_aload_n E dL_law_226 rfl rfl ?_
  refine g_iload E dL_law_227 rfl ?_
  refine g_iconst E dL_law_229 ?_
  refine g_iadd E dL_law_230 ?_
  refine g_sld E hX hbl hbA dL_law_231 (j := i + 2) (by omega) (by omega) ?_
  refine g_aload_n E dL_law_232 rfl rfl ?_
  refine g_iload E dL_law_233 rfl ?_
  refine g_iconst E dL_law_235 ?_
  refine g_iadd E dL_law_236 ?_
  refine g_sld E hX hbl hbA dL_law_237 (j := i + 3) (by omega) (by omega) ?_
  refine g_aload_n E dL_law_238 rfl rfl ?_
  refine g_iload E dL_law_239 rfl ?_
  refine g_iconst E dL_law_241 ?_
  refine g_iadd E dL_law_242 ?_
  refine g_sld E hX hbl hbA dL_law_243 (j := i + 4) (by omega) (by omega) ?_
  refine g_callM E [0, 1] rfl hM (cwV 4 hts gL_law_X1_addDoor rfl rfl rfl hdL_X1_addDoor ⟨(Nat.le_of_ble_eq_true rfl), (Nat.le_of_ble_eq_true rfl)⟩) rfl rfl rfl (Nat.le_of_ble_eq_true rfl) heM rfl dL_law_244 hcs ?_
  refine g_istore E (lv' := [_, _, _, _, _, _, _]) dL_law_247 (Nat.le_of_ble_eq_true rfl) rfl ?_
  refine g_aload_n E dL_law_249 rfl rfl ?_
  refine g_callM E [0, 1] rfl hth (cwV 0 hts gL_law_X1_thrown rfl rfl rfl hdL_X1_thrown ⟨(Nat.le_of_ble_eq_true rfl), (Nat.le_of_ble_eq_true rfl)⟩) rfl rfl rfl (Nat.le_of_ble_eq_true rfl) heM' rfl dL_law_250 hcs ?_
  refine g_iload E dL_law_253 rfl ?_
  refine g_icmp_eq_t E dL_law_255 (tgt := 260) (by decide) (by omega) rfl ?_
  refine g_iload E dL_law_260 rfl ?_
  refine g_if_ne E dL_law_262 (tgt := 277) (by decide) (by omega) (fun hk => ?_) (fun hk => ?_)
  · exact g_goto E dL_law_277 (tgt := 1022) (by decide) (K _ _)
  · refine g_aload_n E dL_law_265 rfl rfl ?_
    refine g_iconst E dL_law_266 ?_
    refine g_swap ?_
    refine g_lald E 0 (o := o) (fL := fL') rfl dL_law_267 ?_
    refine g_swap ?_
    refine g_iload E dL_law_268 rfl ?_
    refine g_i2l E dL_law_270 ?_
    refine g_lcmp0 E (hkb hk) dL_law_271 ?_
    refine g_if_eq_t E dL_law_272 (tgt := 277) (by decide) (by omega) rfl ?_
    exact g_goto E dL_law_277 (tgt := 1022) (by decide) (K _ _)
set_option maxHeartbeats 4000000 in
set_option maxRecDepth 100000 in
theorem law_c2 {p : Program} {l : Launch} {e : Env} {s : State} {m : MethodId} {args : Array Value} {below : List Frame} {meth : Method} {c : Code} {cells slots : Nat} {Q : State → Prop} {A0 : Nat → Prop} {D : va_G} {cI cZ cL : ClassId} {b L o q qm : Nat} {xs : Nat → Int32} {fL : Nat → Int64} {wX wX' wM wM' : va_W} {fs fs2 fs3 : List Value} {i : Nat}
    (E : gE p s m args c RL cL_law 7 wsL_law D (gTyL cI cZ cL) A0) (hT : gKT A0 s s.heap) (hX : va_X b L xs s s.heap) (hbl : b < s.heap.size) (hbA : ¬ A0 b) (hi : i + 5 ≤ L ∧ L ≤ 2560) (hcs : cells + 1 ≤ 1059 ∧ slots + 6 ≤ 8648) (heX : wX[0]? = some (q, .inr (0, fs))) (heM : wM[0]? = some (qm, .inr (1, fs2))) (heM' : wM'[0]? = some (qm, .inr (1, fs3))) {fL' : Nat → Int64} {k9 bv : Int} {o9 : Int} (ho9 : o9 = if (xs (i + 2)).toInt = 0 then 0 else 1) (hb01 : bv = 0 ∨ bv = 1) (hk9 : 0 ≤ k9 ∧ k9 ≤ 3) (hkb : k9 = 0 → fL' 0 = (iI bv).toInt64)
    (hW : gMW l yL_setDoor wsL_setDoor D (gTyL cI cZ cL) (gO cL o fL :: wX) [.ref q, .int (iI (xs (i + 1)).toInt), .int (iI o9), .ref o] k9 (gO cL o fL' :: wX')) (hM : gMI l yX1_setDoor wsX1_setDoor 6 D (gTy cI cZ) wM [.ref qm, .int (iI (xs (i + 1)).toInt), .int (iI o9)] bv wM') (hth : gMI l yX1_thrown wsX1_thrown 6 D (gTy cI cZ) wM' [.ref qm] k9 wM')
    (K : ∀ a5 a6 : Option Value, gJ p l e room_1 s m args below meth c (cells + 1) (slots + 6) Q A0 D (wM' ++ (gO cL o fL' :: wX')) [some (.ref b), some (.ref q), some (.ref qm), some (.ref o), some (.int (iI (i : Int))), a5, a6] 1022 []) : ∀ a5 a6 : Option Value, gJ p l e room_1 s m args below meth c cells slots Q A0 D (wM ++ (gO cL o fL :: wX)) [some (.ref b), some (.ref q), some (.ref qm), some (.ref o), some (.int (iI (i : Int))), a5, a6] 280 [] := by
  have hts := E.1.2.2.2.2
  intro a5 a6
  have hx0 := gsm_of (xs (i + 1))
  have hx1 := gsm_of (xs (i + 2))
  by_cases hz : (xs (i + 2)).toInt = 0
  · rw [if_pos hz] at ho9
    subst ho9
    refine g_aload_n E dL_law_280 rfl rfl ?_
    refine g_aload_n E dL_law_281 rfl rfl ?_
    refine g_iload E dL_law_282 rfl ?_
    refine g_iconst E dL_law_284 ?_
    refine g_iadd E dL_law_285 ?_
    refine g_sld E hX hbl hbA dL_law_286 (j := i + 1) (by omega) (by omega) ?_
    refine g_aload_n E dL_law_287 rfl rfl ?_
    refine g_iload E dL_law_288 rfl ?_
    refine g_iconst E dL_law_290 ?_
    refine g_iadd E dL_law_291 ?_
    refine g_sld E hX hbl hbA dL_law_292 (j := i + 2) (by omega) (by omega) ?_
    refine g_if_eq_t E dL_law_293 (tgt := 300) (by decide)  (by omega) hz ?_
    refine g_iconst E dL_law_300 ?_
    refine g_aload_n E dL_law_301 rfl rfl ?_
    refine g_callSW E hT (wr := wM) hW (vx_cwSW 4 hts gL_law_L_setDoor rfl rfl rfl hdS_setDoor ⟨(Nat.le_of_ble_eq_true rfl), (Nat.le_of_ble_eq_true rfl)⟩) rfl rfl rfl (Nat.le_of_ble_eq_true rfl) dL_law_302 hcs ?_
    refine g_istore E (lv' := [_, _, _, _, _, _, _]) dL_law_305 (Nat.le_of_ble_eq_true rfl) rfl ?_
    refine g_aload_n E dL_law_307 rfl rfl ?_
    refine g_aload_n E dL_law_308 rfl rfl ?_
    refine g_iload E dL_law_309 rfl ?_
    refine g_iconst E dL_law_311 ?_
    refine g_iadd E dL_law_312 ?_
    refine g_sld E hX hbl hbA dL_law_313 (j := i + 1) (by omega) (by omega) ?_
    refine g_aload_n E dL_law_314 rfl rfl ?_
    refine g_iload E dL_law_315 rfl ?_
    refine g_iconst E dL_law_317 ?_
    refine g_iadd E dL_law_318 ?_
    refine g_sld E hX hbl hbA dL_law_319 (j := i + 2) (by omega) (by omega) ?_
    refine g_if_eq_t E dL_law_320 (tgt := 327) (by decide)  (by omega) hz ?_
    refine g_iconst E dL_law_327 ?_
    refine g_callM E [0, 1] rfl hM (cwV 2 hts gL_law_X1_setDoor rfl rfl rfl hdL_X1_setDoor ⟨(Nat.le_of_ble_eq_true rfl), (Nat.le_of_ble_eq_true rfl)⟩) rfl rfl rfl (Nat.le_of_ble_eq_true rfl) heM rfl dL_law_328 hcs ?_
    refine g_istore E (lv' := [_, _, _, _, _, _, _]) dL_law_331 (Nat.le_of_ble_eq_true rfl) rfl ?_
    refine g_aload_n E dL_law_333 rfl rfl ?_
    refine g_callM E [0, 1] rfl hth (cwV 0 hts gL_law_X1_thrown rfl rfl rfl hdL_X1_thrown ⟨(Nat.le_of_ble_eq_true rfl), (Nat.le_of_ble_eq_true rfl)⟩) rfl rfl rfl (Nat.le_of_ble_eq_true rfl) heM' rfl dL_law_334 hcs ?_
    refine g_iload E dL_law_337 rfl ?_
    refine g_icmp_eq_t E dL_law_339 (tgt := 344) (by decide) (by omega) rfl ?_
    refine g_iload E dL_law_344 rfl ?_
    refine g_if_ne E dL_law_346 (tgt := 368) (by decide) (by omega) (fun hk => ?_) (fun hk => ?_)
    · exact g_goto E dL_law_368 (tgt := 1022) (by decide) (K _ _)
    · refine g_aload_n E dL_law_349 rfl rfl ?_
      refine g_iconst E dL_law_350 ?_
      refine g_swap ?_
      refine g_lald E 0 (o := o) (fL := fL') rfl dL_law_351 ?_
      refine g_swap ?_
      refine g_iload E dL_law_352 rfl ?_
      rcases hb01 with hb | hb
      · subst hb
        refine g_if_eq_t E dL_law_354 (tgt := 361) (by decide) (by omega) (by omega) ?_
        refine g_lconst E dL_law_361 (v := (iI 0).toInt64) rfl ?_
        refine g_lcmp0 E (hkb hk) dL_law_362 ?_
        refine g_if_eq_t E dL_law_363 (tgt := 368) (by decide) (by omega) rfl ?_
        exact g_goto E dL_law_368 (tgt := 1022) (by decide) (K _ _)
      · subst hb
        refine g_if_eq_f E dL_law_354 (tgt := 361) (by decide) (by omega) (by omega) ?_
        refine g_lconst E dL_law_357 (v := (iI 1).toInt64) rfl ?_
        refine g_goto E dL_law_358 (tgt := 362) (by decide) ?_
        refine g_lcmp0 E (hkb hk) dL_law_362 ?_
        refine g_if_eq_t E dL_law_363 (tgt := 368) (by decide) (by omega) rfl ?_
        exact g_goto E dL_law_368 (tgt := 1022) (by decide) (K _ _)
  · rw [if_neg hz] at ho9
    subst ho9
    refine g_aload_n E dL_law_280 rfl rfl ?_
    refine g_aload_n E dL_law_281 rfl rfl ?_
    refine g_iload E dL_law_282 rfl ?_
    refine g_iconst E dL_law_284 ?_
    refine g_iadd E dL_law_285 ?_
    refine g_sld E hX hbl hbA dL_law_286 (j := i + 1) (by omega) (by omega) ?_
    refine g_aload_n E dL_law_287 rfl rfl ?_
    refine g_iload E dL_law_288 rfl ?_
    refine g_iconst E dL_law_290 ?_
    refine g_iadd E dL_law_291 ?_
    refine g_sld E hX hbl hbA dL_law_292 (j := i + 2) (by omega) (by omega) ?_
    refine g_if_eq_f E dL_law_293 (tgt := 300) (by decide)  hx1 hz ?_
    refine g_iconst E dL_law_296 ?_
    refine g_goto E dL_law_297 (tgt := 301) (by decide) ?_
    refine g_aload_n E dL_law_301 rfl rfl ?_
    refine g_callSW E hT (wr := wM) hW (vx_cwSW 4 hts gL_law_L_setDoor rfl rfl rfl hdS_setDoor ⟨(Nat.le_of_ble_eq_true rfl), (Nat.le_of_ble_eq_true rfl)⟩) rfl rfl rfl (Nat.le_of_ble_eq_true rfl) dL_law_302 hcs ?_
    refine g_istore E (lv' := [_, _, _, _, _, _, _]) dL_law_305 (Nat.le_of_ble_eq_true rfl) rfl ?_
    refine g_aload_n E dL_law_307 rfl rfl ?_
    refine g_aload_n E dL_law_308 rfl rfl ?_
    refine g_iload E dL_law_309 rfl ?_
    refine g_iconst E dL_law_311 ?_
    refine g_iadd E dL_law_312 ?_
    refine g_sld E hX hbl hbA dL_law_313 (j := i + 1) (by omega) (by omega) ?_
    refine g_aload_n E dL_law_314 rfl rfl ?_
    refine g_iload E dL_law_315 rfl ?_
    refine g_iconst E dL_law_317 ?_
    refine g_iadd E dL_law_318 ?_
    refine g_sld E hX hbl hbA dL_law_319 (j := i + 2) (by omega) (by omega) ?_
    refine g_if_eq_f E dL_law_320 (tgt := 327) (by decide)  hx1 hz ?_
    refine g_iconst E dL_law_323 ?_
    refine g_goto E dL_law_324 (tgt := 328) (by decide) ?_
    refine g_callM E [0, 1] rfl hM (cwV 2 hts gL_law_X1_setDoor rfl rfl rfl hdL_X1_setDoor ⟨(Nat.le_of_ble_eq_true rfl), (Nat.le_of_ble_eq_true rfl)⟩) rfl rfl rfl (Nat.le_of_ble_eq_true rfl) heM rfl dL_law_328 hcs ?_
    refine g_istore E (lv' := [_, _, _, _, _, _, _]) dL_law_331 (Nat.le_of_ble_eq_true rfl) rfl ?_
    refine g_aload_n E dL_law_333 rfl rfl ?_
    refine g_callM E [0, 1] rfl hth (cwV 0 hts gL_law_X1_thrown rfl rfl rfl hdL_X1_thrown ⟨(Nat.le_of_ble_eq_true rfl), (Nat.le_of_ble_eq_true rfl)⟩) rfl rfl rfl (Nat.le_of_ble_eq_true rfl) heM' rfl dL_law_334 hcs ?_
    refine g_iload E dL_law_337 rfl ?_
    refine g_icmp_eq_t E dL_law_339 (tgt := 344) (by decide) (by omega) rfl ?_
    refine g_iload E dL_law_344 rfl ?_
    refine g_if_ne E dL_law_346 (tgt := 368) (by decide) (by omega) (fun hk => ?_) (fun hk => ?_)
    · exact g_goto E dL_law_368 (tgt := 1022) (by decide) (K _ _)
    · refine g_aload_n E dL_law_349 rfl rfl ?_
      refine g_iconst E dL_law_350 ?_
      refine g_swap ?_
      refine g_lald E 0 (o := o) (fL := fL') rfl dL_law_351 ?_
      refine g_swap ?_
      refine g_iload E dL_law_352 rfl ?_
      rcases hb01 with hb | hb
      · subst hb
        refine g_if_eq_t E dL_law_354 (tgt := 361) (by decide) (by omega) (by omega) ?_
        refine g_lconst E dL_law_361 (v := (iI 0).toInt64) rfl ?_
        refine g_lcmp0 E (hkb hk) dL_law_362 ?_
        refine g_if_eq_t E dL_law_363 (tgt := 368) (by decide) (by omega) rfl ?_
        exact g_goto E dL_law_368 (tgt := 1022) (by decide) (K _ _)
      · subst hb
        refine g_if_eq_f E dL_law_354 (tgt := 361) (by decide) (by omega) (by omega) ?_
        refine g_lconst E dL_law_357 (v := (iI 1).toInt64) rfl ?_
        refine g_goto E dL_law_358 (tgt := 362) (by decide) ?_
        refine g_lcmp0 E (hkb hk) dL_law_362 ?_
        refine g_if_eq_t E dL_law_363 (tgt := 368) (by decide) (by omega) rfl ?_
        exact g_goto E dL_law_368 (tgt := 1022) (by decide) (K _ _)
set_option maxHeartbeats 4000000 in
set_option maxRecDepth 100000 in
theorem law_c3 {p : Program} {l : Launch} {e : Env} {s : State} {m : MethodId} {args : Array Value} {below : List Frame} {meth : Method} {c : Code} {cells slots : Nat} {Q : State → Prop} {A0 : Nat → Prop} {D : va_G} {cI cZ cL : ClassId} {b L o q qm : Nat} {xs : Nat → Int32} {fL : Nat → Int64} {wX wX' wM wM' : va_W} {fs fs2 fs3 : List Value} {i : Nat}
    (E : gE p s m args c RL cL_law 7 wsL_law D (gTyL cI cZ cL) A0) (hT : gKT A0 s s.heap) (hX : va_X b L xs s s.heap) (hbl : b < s.heap.size) (hbA : ¬ A0 b) (hi : i + 5 ≤ L ∧ L ≤ 2560) (hcs : cells + 1 ≤ 1059 ∧ slots + 6 ≤ 8648) (heX : wX[0]? = some (q, .inr (0, fs))) (heM : wM[0]? = some (qm, .inr (1, fs2))) (heM' : wM'[0]? = some (qm, .inr (1, fs3))) {fL' : Nat → Int64} {k9 bv : Int} (hk9 : 0 ≤ k9 ∧ k9 ≤ 3) (hkb : k9 = 0 → fL' 0 = (iI bv).toInt64)
    (hW : gMW l yL_come wsL_come D (gTyL cI cZ cL) (gO cL o fL :: wX) [.ref q, .int (iI (xs (i + 1)).toInt), .int (iI (xs (i + 2)).toInt), .ref o] k9 (gO cL o fL' :: wX')) (hM : gMI l yX1_come wsX1_come 6 D (gTy cI cZ) wM [.ref qm, .int (iI (xs (i + 1)).toInt), .int (iI (xs (i + 2)).toInt)] bv wM') (hth : gMI l yX1_thrown wsX1_thrown 6 D (gTy cI cZ) wM' [.ref qm] k9 wM')
    (K : ∀ a5 a6 : Option Value, gJ p l e room_1 s m args below meth c (cells + 1) (slots + 6) Q A0 D (wM' ++ (gO cL o fL' :: wX')) [some (.ref b), some (.ref q), some (.ref qm), some (.ref o), some (.int (iI (i : Int))), a5, a6] 1022 []) : ∀ a5 a6 : Option Value, gJ p l e room_1 s m args below meth c cells slots Q A0 D (wM ++ (gO cL o fL :: wX)) [some (.ref b), some (.ref q), some (.ref qm), some (.ref o), some (.int (iI (i : Int))), a5, a6] 371 [] := by
  have hts := E.1.2.2.2.2
  intro a5 a6
  have hx0 := gsm_of (xs (i + 1))
  have hx1 := gsm_of (xs (i + 2))
  refine g_aload_n E dL_law_371 rfl rfl ?_
  refine g_aload_n E dL_law_372 rfl rfl ?_
  refine g_iload E dL_law_373 rfl ?_
  refine g_iconst E dL_law_375 ?_
  refine g_iadd E dL_law_376 ?_
  refine g_sld E hX hbl hbA dL_law_377 (j := i + 1) (by omega) (by omega) ?_
  refine g_aload_n E dL_law_378 rfl rfl ?_
  refine g_iload E dL_law_379 rfl ?_
  refine g_iconst E dL_law_381 ?_
  refine g_iadd E dL_law_382 ?_
  refine g_sld E hX hbl hbA dL_law_383 (j := i + 2) (by omega) (by omega) ?_
  refine g_aload_n E dL_law_384 rfl rfl ?_
  refine g_callSW E hT (wr := wM) hW (vx_cwSW 4 hts gL_law_L_come rfl rfl rfl hdS_come ⟨(Nat.le_of_ble_eq_true rfl), (Nat.le_of_ble_eq_true rfl)⟩) rfl rfl rfl (Nat.le_of_ble_eq_true rfl) dL_law_385 hcs ?_
  refine g_istore E (lv' := [_, _, _, _, _, _, _]) dL_law_388 (Nat.le_of_ble_eq_true rfl) rfl ?_
  refine g_aload_n E dL_law_390 rfl rfl ?_
  refine g_aload_n E dL_law_391 rfl rfl ?_
  refine g_iload E dL_law_392 rfl ?_
  refine g_iconst E dL_law_394 ?_
  refine g_iadd E dL_law_395 ?_
  refine g_sld E hX hbl hbA dL_law_396 (j := i + 1) (by omega) (by omega) ?_
  refine g_aload_n E dL_law_397 rfl rfl ?_
  refine g_iload E dL_law_398 rfl ?_
  refine g_iconst E dL_law_400 ?_
  refine g_iadd E dL_law_401 ?_
  refine g_sld E hX hbl hbA dL_law_402 (j := i + 2) (by omega) (by omega) ?_
  refine g_callM E [0, 1] rfl hM (cwV 2 hts gL_law_X1_come rfl rfl rfl hdL_X1_come ⟨(Nat.le_of_ble_eq_true rfl), (Nat.le_of_ble_eq_true rfl)⟩) rfl rfl rfl (Nat.le_of_ble_eq_true rfl) heM rfl dL_law_403 hcs ?_
  refine g_istore E (lv' := [_, _, _, _, _, _, _]) dL_law_406 (Nat.le_of_ble_eq_true rfl) rfl ?_
  refine g_aload_n E dL_law_408 rfl rfl ?_
  refine g_callM E [0, 1] rfl hth (cwV 0 hts gL_law_X1_thrown rfl rfl rfl hdL_X1_thrown ⟨(Nat.le_of_ble_eq_true rfl), (Nat.le_of_ble_eq_true rfl)⟩) rfl rfl rfl (Nat.le_of_ble_eq_true rfl) heM' rfl dL_law_409 hcs ?_
  refine g_iload E dL_law_412 rfl ?_
  refine g_icmp_eq_t E dL_law_414 (tgt := 419) (by decide) (by omega) rfl ?_
  refine g_iload E dL_law_419 rfl ?_
  refine g_if_ne E dL_law_421 (tgt := 436) (by decide) (by omega) (fun hk => ?_) (fun hk => ?_)
  · exact g_goto E dL_law_436 (tgt := 1022) (by decide) (K _ _)
  · refine g_aload_n E dL_law_424 rfl rfl ?_
    refine g_iconst E dL_law_425 ?_
    refine g_swap ?_
    refine g_lald E 0 (o := o) (fL := fL') rfl dL_law_426 ?_
    refine g_swap ?_
    refine g_iload E dL_law_427 rfl ?_
    refine g_i2l E dL_law_429 ?_
    refine g_lcmp0 E (hkb hk) dL_law_430 ?_
    refine g_if_eq_t E dL_law_431 (tgt := 436) (by decide) (by omega) rfl ?_
    exact g_goto E dL_law_436 (tgt := 1022) (by decide) (K _ _)
set_option maxHeartbeats 4000000 in
set_option maxRecDepth 100000 in
theorem law_c4 {p : Program} {l : Launch} {e : Env} {s : State} {m : MethodId} {args : Array Value} {below : List Frame} {meth : Method} {c : Code} {cells slots : Nat} {Q : State → Prop} {A0 : Nat → Prop} {D : va_G} {cI cZ cL : ClassId} {b L o q qm : Nat} {xs : Nat → Int32} {fL : Nat → Int64} {wX wX' wM wM' : va_W} {fs fs2 fs3 : List Value} {i : Nat}
    (E : gE p s m args c RL cL_law 7 wsL_law D (gTyL cI cZ cL) A0) (hT : gKT A0 s s.heap) (hX : va_X b L xs s s.heap) (hbl : b < s.heap.size) (hbA : ¬ A0 b) (hi : i + 5 ≤ L ∧ L ≤ 2560) (hcs : cells + 1 ≤ 1059 ∧ slots + 6 ≤ 8648) (heX : wX[0]? = some (q, .inr (0, fs))) (heM : wM[0]? = some (qm, .inr (1, fs2))) (heM' : wM'[0]? = some (qm, .inr (1, fs3))) {fL' : Nat → Int64} {k9 bv : Int} (hk9 : 0 ≤ k9 ∧ k9 ≤ 3) (hkb : k9 = 0 → fL' 0 = (iI bv).toInt64)
    (hW : gMW l yL_setRelease wsL_setRelease D (gTyL cI cZ cL) (gO cL o fL :: wX) [.ref q, .int (iI (xs (i + 1)).toInt), .int (iI (xs (i + 2)).toInt), .ref o] k9 (gO cL o fL' :: wX')) (hM : gMI l yX1_setRelease wsX1_setRelease 6 D (gTy cI cZ) wM [.ref qm, .int (iI (xs (i + 1)).toInt), .int (iI (xs (i + 2)).toInt)] bv wM') (hth : gMI l yX1_thrown wsX1_thrown 6 D (gTy cI cZ) wM' [.ref qm] k9 wM')
    (K : ∀ a5 a6 : Option Value, gJ p l e room_1 s m args below meth c (cells + 1) (slots + 6) Q A0 D (wM' ++ (gO cL o fL' :: wX')) [some (.ref b), some (.ref q), some (.ref qm), some (.ref o), some (.int (iI (i : Int))), a5, a6] 1022 []) : ∀ a5 a6 : Option Value, gJ p l e room_1 s m args below meth c cells slots Q A0 D (wM ++ (gO cL o fL :: wX)) [some (.ref b), some (.ref q), some (.ref qm), some (.ref o), some (.int (iI (i : Int))), a5, a6] 439 [] := by
  have hts := E.1.2.2.2.2
  intro a5 a6
  have hx0 := gsm_of (xs (i + 1))
  have hx1 := gsm_of (xs (i + 2))
  refine g_aload_n E dL_law_439 rfl rfl ?_
  refine g_aload_n E dL_law_440 rfl rfl ?_
  refine g_iload E dL_law_441 rfl ?_
  refine g_iconst E dL_law_443 ?_
  refine g_iadd E dL_law_444 ?_
  refine g_sld E hX hbl hbA dL_law_445 (j := i + 1) (by omega) (by omega) ?_
  refine g_aload_n E dL_law_446 rfl rfl ?_
  refine g_iload E dL_law_447 rfl ?_
  refine g_iconst E dL_law_449 ?_
  refine g_iadd E dL_law_450 ?_
  refine g_sld E hX hbl hbA dL_law_451 (j := i + 2) (by omega) (by omega) ?_
  refine g_aload_n E dL_law_452 rfl rfl ?_
  refine g_callSW E hT (wr := wM) hW (vx_cwSW 4 hts gL_law_L_setRelease rfl rfl rfl hdS_setRelease ⟨(Nat.le_of_ble_eq_true rfl), (Nat.le_of_ble_eq_true rfl)⟩) rfl rfl rfl (Nat.le_of_ble_eq_true rfl) dL_law_453 hcs ?_
  refine g_istore E (lv' := [_, _, _, _, _, _, _]) dL_law_456 (Nat.le_of_ble_eq_true rfl) rfl ?_
  refine g_aload_n E dL_law_458 rfl rfl ?_
  refine g_aload_n E dL_law_459 rfl rfl ?_
  refine g_iload E dL_law_460 rfl ?_
  refine g_iconst E dL_law_462 ?_
  refine g_iadd E dL_law_463 ?_
  refine g_sld E hX hbl hbA dL_law_464 (j := i + 1) (by omega) (by omega) ?_
  refine g_aload_n E dL_law_465 rfl rfl ?_
  refine g_iload E dL_law_466 rfl ?_
  refine g_iconst E dL_law_468 ?_
  refine g_iadd E dL_law_469 ?_
  refine g_sld E hX hbl hbA dL_law_470 (j := i + 2) (by omega) (by omega) ?_
  refine g_callM E [0, 1] rfl hM (cwV 2 hts gL_law_X1_setRelease rfl rfl rfl hdL_X1_setRelease ⟨(Nat.le_of_ble_eq_true rfl), (Nat.le_of_ble_eq_true rfl)⟩) rfl rfl rfl (Nat.le_of_ble_eq_true rfl) heM rfl dL_law_471 hcs ?_
  refine g_istore E (lv' := [_, _, _, _, _, _, _]) dL_law_474 (Nat.le_of_ble_eq_true rfl) rfl ?_
  refine g_aload_n E dL_law_476 rfl rfl ?_
  refine g_callM E [0, 1] rfl hth (cwV 0 hts gL_law_X1_thrown rfl rfl rfl hdL_X1_thrown ⟨(Nat.le_of_ble_eq_true rfl), (Nat.le_of_ble_eq_true rfl)⟩) rfl rfl rfl (Nat.le_of_ble_eq_true rfl) heM' rfl dL_law_477 hcs ?_
  refine g_iload E dL_law_480 rfl ?_
  refine g_icmp_eq_t E dL_law_482 (tgt := 487) (by decide) (by omega) rfl ?_
  refine g_iload E dL_law_487 rfl ?_
  refine g_if_ne E dL_law_489 (tgt := 504) (by decide) (by omega) (fun hk => ?_) (fun hk => ?_)
  · exact g_goto E dL_law_504 (tgt := 1022) (by decide) (K _ _)
  · refine g_aload_n E dL_law_492 rfl rfl ?_
    refine g_iconst E dL_law_493 ?_
    refine g_swap ?_
    refine g_lald E 0 (o := o) (fL := fL') rfl dL_law_494 ?_
    refine g_swap ?_
    refine g_iload E dL_law_495 rfl ?_
    refine g_i2l E dL_law_497 ?_
    refine g_lcmp0 E (hkb hk) dL_law_498 ?_
    refine g_if_eq_t E dL_law_499 (tgt := 504) (by decide) (by omega) rfl ?_
    exact g_goto E dL_law_504 (tgt := 1022) (by decide) (K _ _)
set_option maxHeartbeats 4000000 in
set_option maxRecDepth 100000 in
theorem law_c5 {p : Program} {l : Launch} {e : Env} {s : State} {m : MethodId} {args : Array Value} {below : List Frame} {meth : Method} {c : Code} {cells slots : Nat} {Q : State → Prop} {A0 : Nat → Prop} {D : va_G} {cI cZ cL : ClassId} {b L o q qm : Nat} {xs : Nat → Int32} {fL : Nat → Int64} {wX wX' wM wM' : va_W} {fs fs2 fs3 : List Value} {i : Nat}
    (E : gE p s m args c RL cL_law 7 wsL_law D (gTyL cI cZ cL) A0) (hT : gKT A0 s s.heap) (hX : va_X b L xs s s.heap) (hbl : b < s.heap.size) (hbA : ¬ A0 b) (hi : i + 5 ≤ L ∧ L ≤ 2560) (hcs : cells + 1 ≤ 1059 ∧ slots + 6 ≤ 8648) (heX : wX[0]? = some (q, .inr (0, fs))) (heM : wM[0]? = some (qm, .inr (1, fs2))) (heM' : wM'[0]? = some (qm, .inr (1, fs3))) {v : Int} (hv : -2147483648 ≤ v ∧ v < 2147483648)
    (hW : gMI l yX0_places wsX0_places 6 D (gTy cI cZ) wX [.ref q] v wX') (hM : gMI l yX1_places wsX1_places 6 D (gTy cI cZ) wM [.ref qm] v wM')
    (K : ∀ a5 a6 : Option Value, gJ p l e room_1 s m args below meth c (cells + 1) (slots + 6) Q A0 D (wM' ++ (gO cL o fL :: wX')) [some (.ref b), some (.ref q), some (.ref qm), some (.ref o), some (.int (iI (i : Int))), a5, a6] 1022 []) : ∀ a5 a6 : Option Value, gJ p l e room_1 s m args below meth c cells slots Q A0 D (wM ++ (gO cL o fL :: wX)) [some (.ref b), some (.ref q), some (.ref qm), some (.ref o), some (.int (iI (i : Int))), a5, a6] 507 [] := by
  have hts := E.1.2.2.2.2
  intro a5 a6
  refine g_wid (Nat.le_succ cells) (show slots ≤ slots + 6 by omega) ?_
  refine g_aload_n E dL_law_507 rfl rfl ?_
  refine g_callX E [0, 1] rfl hW (cwV 0 hts gL_law_X0_places rfl rfl rfl hdL_X0_places ⟨(Nat.le_of_ble_eq_true rfl), (Nat.le_of_ble_eq_true rfl)⟩) rfl rfl rfl (Nat.le_of_ble_eq_true rfl) heX rfl dL_law_508 hcs ?_
  refine g_aload_n E dL_law_511 rfl rfl ?_
  refine g_callM E [0, 1] rfl hM (cwV 0 hts gL_law_X1_places rfl rfl rfl hdL_X1_places ⟨(Nat.le_of_ble_eq_true rfl), (Nat.le_of_ble_eq_true rfl)⟩) rfl rfl rfl (Nat.le_of_ble_eq_true rfl) heM rfl dL_law_512 hcs ?_
  exact g_icmp_eq_t E dL_law_515 (tgt := 1022) (by decide) ⟨hv, hv⟩ rfl (K a5 a6)
set_option maxHeartbeats 4000000 in
set_option maxRecDepth 100000 in
theorem law_c6 {p : Program} {l : Launch} {e : Env} {s : State} {m : MethodId} {args : Array Value} {below : List Frame} {meth : Method} {c : Code} {cells slots : Nat} {Q : State → Prop} {A0 : Nat → Prop} {D : va_G} {cI cZ cL : ClassId} {b L o q qm : Nat} {xs : Nat → Int32} {fL : Nat → Int64} {wX wX' wM wM' : va_W} {fs fs2 fs3 : List Value} {i : Nat}
    (E : gE p s m args c RL cL_law 7 wsL_law D (gTyL cI cZ cL) A0) (hT : gKT A0 s s.heap) (hX : va_X b L xs s s.heap) (hbl : b < s.heap.size) (hbA : ¬ A0 b) (hi : i + 5 ≤ L ∧ L ≤ 2560) (hcs : cells + 1 ≤ 1059 ∧ slots + 6 ≤ 8648) (heX : wX[0]? = some (q, .inr (0, fs))) (heM : wM[0]? = some (qm, .inr (1, fs2))) (heM' : wM'[0]? = some (qm, .inr (1, fs3))) {v : Int} (hv : -2147483648 ≤ v ∧ v < 2147483648)
    (hW : gMI l yX0_doors wsX0_doors 6 D (gTy cI cZ) wX [.ref q] v wX') (hM : gMI l yX1_doors wsX1_doors 6 D (gTy cI cZ) wM [.ref qm] v wM')
    (K : ∀ a5 a6 : Option Value, gJ p l e room_1 s m args below meth c (cells + 1) (slots + 6) Q A0 D (wM' ++ (gO cL o fL :: wX')) [some (.ref b), some (.ref q), some (.ref qm), some (.ref o), some (.int (iI (i : Int))), a5, a6] 1022 []) : ∀ a5 a6 : Option Value, gJ p l e room_1 s m args below meth c cells slots Q A0 D (wM ++ (gO cL o fL :: wX)) [some (.ref b), some (.ref q), some (.ref qm), some (.ref o), some (.int (iI (i : Int))), a5, a6] 520 [] := by
  have hts := E.1.2.2.2.2
  intro a5 a6
  refine g_wid (Nat.le_succ cells) (show slots ≤ slots + 6 by omega) ?_
  refine g_aload_n E dL_law_520 rfl rfl ?_
  refine g_callX E [0, 1] rfl hW (cwV 0 hts gL_law_X0_doors rfl rfl rfl hdL_X0_doors ⟨(Nat.le_of_ble_eq_true rfl), (Nat.le_of_ble_eq_true rfl)⟩) rfl rfl rfl (Nat.le_of_ble_eq_true rfl) heX rfl dL_law_521 hcs ?_
  refine g_aload_n E dL_law_524 rfl rfl ?_
  refine g_callM E [0, 1] rfl hM (cwV 0 hts gL_law_X1_doors rfl rfl rfl hdL_X1_doors ⟨(Nat.le_of_ble_eq_true rfl), (Nat.le_of_ble_eq_true rfl)⟩) rfl rfl rfl (Nat.le_of_ble_eq_true rfl) heM rfl dL_law_525 hcs ?_
  exact g_icmp_eq_t E dL_law_528 (tgt := 1022) (by decide) ⟨hv, hv⟩ rfl (K a5 a6)
set_option maxHeartbeats 4000000 in
set_option maxRecDepth 100000 in
theorem law_c7 {p : Program} {l : Launch} {e : Env} {s : State} {m : MethodId} {args : Array Value} {below : List Frame} {meth : Method} {c : Code} {cells slots : Nat} {Q : State → Prop} {A0 : Nat → Prop} {D : va_G} {cI cZ cL : ClassId} {b L o q qm : Nat} {xs : Nat → Int32} {fL : Nat → Int64} {wX wX' wM wM' : va_W} {fs fs2 fs3 : List Value} {i : Nat}
    (E : gE p s m args c RL cL_law 7 wsL_law D (gTyL cI cZ cL) A0) (hT : gKT A0 s s.heap) (hX : va_X b L xs s s.heap) (hbl : b < s.heap.size) (hbA : ¬ A0 b) (hi : i + 5 ≤ L ∧ L ≤ 2560) (hcs : cells + 1 ≤ 1059 ∧ slots + 6 ≤ 8648) (heX : wX[0]? = some (q, .inr (0, fs))) (heM : wM[0]? = some (qm, .inr (1, fs2))) (heM' : wM'[0]? = some (qm, .inr (1, fs3))) {fL' : Nat → Int64} {k9 bv : Int} (hk9 : 0 ≤ k9 ∧ k9 ≤ 3) (hkb : k9 = 0 → fL' 0 = (iI bv).toInt64)
    (hW : gMW l yL_step wsL_step D (gTyL cI cZ cL) (gO cL o fL :: wX) [.ref q, .int (iI (xs (i + 1)).toInt), .ref o] k9 (gO cL o fL' :: wX')) (hM : gMI l yX1_step wsX1_step 6 D (gTy cI cZ) wM [.ref qm, .int (iI (xs (i + 1)).toInt)] bv wM') (hth : gMI l yX1_thrown wsX1_thrown 6 D (gTy cI cZ) wM' [.ref qm] k9 wM')
    (K : ∀ a5 a6 : Option Value, gJ p l e room_1 s m args below meth c (cells + 1) (slots + 6) Q A0 D (wM' ++ (gO cL o fL' :: wX')) [some (.ref b), some (.ref q), some (.ref qm), some (.ref o), some (.int (iI (i : Int))), a5, a6] 1022 []) : ∀ a5 a6 : Option Value, gJ p l e room_1 s m args below meth c cells slots Q A0 D (wM ++ (gO cL o fL :: wX)) [some (.ref b), some (.ref q), some (.ref qm), some (.ref o), some (.int (iI (i : Int))), a5, a6] 533 [] := by
  have hts := E.1.2.2.2.2
  intro a5 a6
  have hx0 := gsm_of (xs (i + 1))
  refine g_aload_n E dL_law_533 rfl rfl ?_
  refine g_aload_n E dL_law_534 rfl rfl ?_
  refine g_iload E dL_law_535 rfl ?_
  refine g_iconst E dL_law_537 ?_
  refine g_iadd E dL_law_538 ?_
  refine g_sld E hX hbl hbA dL_law_539 (j := i + 1) (by omega) (by omega) ?_
  refine g_aload_n E dL_law_540 rfl rfl ?_
  refine g_callSW E hT (wr := wM) hW (vx_cwSW 3 hts gL_law_L_step rfl rfl rfl hdS_step ⟨(Nat.le_of_ble_eq_true rfl), (Nat.le_of_ble_eq_true rfl)⟩) rfl rfl rfl (Nat.le_of_ble_eq_true rfl) dL_law_541 hcs ?_
  refine g_istore E (lv' := [_, _, _, _, _, _, _]) dL_law_544 (Nat.le_of_ble_eq_true rfl) rfl ?_
  refine g_aload_n E dL_law_546 rfl rfl ?_
  refine g_aload_n E dL_law_547 rfl rfl ?_
  refine g_iload E dL_law_548 rfl ?_
  refine g_iconst E dL_law_550 ?_
  refine g_iadd E dL_law_551 ?_
  refine g_sld E hX hbl hbA dL_law_552 (j := i + 1) (by omega) (by omega) ?_
  refine g_callM E [0, 1] rfl hM (cwV 1 hts gL_law_X1_step rfl rfl rfl hdL_X1_step ⟨(Nat.le_of_ble_eq_true rfl), (Nat.le_of_ble_eq_true rfl)⟩) rfl rfl rfl (Nat.le_of_ble_eq_true rfl) heM rfl dL_law_553 hcs ?_
  refine g_istore E (lv' := [_, _, _, _, _, _, _]) dL_law_556 (Nat.le_of_ble_eq_true rfl) rfl ?_
  refine g_aload_n E dL_law_558 rfl rfl ?_
  refine g_callM E [0, 1] rfl hth (cwV 0 hts gL_law_X1_thrown rfl rfl rfl hdL_X1_thrown ⟨(Nat.le_of_ble_eq_true rfl), (Nat.le_of_ble_eq_true rfl)⟩) rfl rfl rfl (Nat.le_of_ble_eq_true rfl) heM' rfl dL_law_559 hcs ?_
  refine g_iload E dL_law_562 rfl ?_
  refine g_icmp_eq_t E dL_law_564 (tgt := 569) (by decide) (by omega) rfl ?_
  refine g_iload E dL_law_569 rfl ?_
  refine g_if_ne E dL_law_571 (tgt := 586) (by decide) (by omega) (fun hk => ?_) (fun hk => ?_)
  · exact g_goto E dL_law_586 (tgt := 1022) (by decide) (K _ _)
  · refine g_aload_n E dL_law_574 rfl rfl ?_
    refine g_iconst E dL_law_575 ?_
    refine g_swap ?_
    refine g_lald E 0 (o := o) (fL := fL') rfl dL_law_576 ?_
    refine g_swap ?_
    refine g_iload E dL_law_577 rfl ?_
    refine g_i2l E dL_law_579 ?_
    refine g_lcmp0 E (hkb hk) dL_law_580 ?_
    refine g_if_eq_t E dL_law_581 (tgt := 586) (by decide) (by omega) rfl ?_
    exact g_goto E dL_law_586 (tgt := 1022) (by decide) (K _ _)
set_option maxHeartbeats 4000000 in
set_option maxRecDepth 100000 in
theorem law_c8 {p : Program} {l : Launch} {e : Env} {s : State} {m : MethodId} {args : Array Value} {below : List Frame} {meth : Method} {c : Code} {cells slots : Nat} {Q : State → Prop} {A0 : Nat → Prop} {D : va_G} {cI cZ cL : ClassId} {b L o q qm : Nat} {xs : Nat → Int32} {fL : Nat → Int64} {wX wX' wM wM' : va_W} {fs fs2 fs3 : List Value} {i : Nat}
    (E : gE p s m args c RL cL_law 7 wsL_law D (gTyL cI cZ cL) A0) (hT : gKT A0 s s.heap) (hX : va_X b L xs s s.heap) (hbl : b < s.heap.size) (hbA : ¬ A0 b) (hi : i + 5 ≤ L ∧ L ≤ 2560) (hcs : cells + 1 ≤ 1059 ∧ slots + 6 ≤ 8648) (heX : wX[0]? = some (q, .inr (0, fs))) (heM : wM[0]? = some (qm, .inr (1, fs2))) (heM' : wM'[0]? = some (qm, .inr (1, fs3))) {v : Int} (hv : -2147483648 ≤ v ∧ v < 2147483648)
    (hW : gMI l yX0_clear wsX0_clear 6 D (gTy cI cZ) wX [.ref q] v wX') (hM : gMI l yX1_clear wsX1_clear 6 D (gTy cI cZ) wM [.ref qm] v wM')
    (K : ∀ a5 a6 : Option Value, gJ p l e room_1 s m args below meth c (cells + 1) (slots + 6) Q A0 D (wM' ++ (gO cL o fL :: wX')) [some (.ref b), some (.ref q), some (.ref qm), some (.ref o), some (.int (iI (i : Int))), a5, a6] 1022 []) : ∀ a5 a6 : Option Value, gJ p l e room_1 s m args below meth c cells slots Q A0 D (wM ++ (gO cL o fL :: wX)) [some (.ref b), some (.ref q), some (.ref qm), some (.ref o), some (.int (iI (i : Int))), a5, a6] 589 [] := by
  have hts := E.1.2.2.2.2
  intro a5 a6
  refine g_wid (Nat.le_succ cells) (show slots ≤ slots + 6 by omega) ?_
  refine g_aload_n E dL_law_589 rfl rfl ?_
  refine g_callX E [0, 1] rfl hW (cwV 0 hts gL_law_X0_clear rfl rfl rfl hdL_X0_clear ⟨(Nat.le_of_ble_eq_true rfl), (Nat.le_of_ble_eq_true rfl)⟩) rfl rfl rfl (Nat.le_of_ble_eq_true rfl) heX rfl dL_law_590 hcs ?_
  refine g_aload_n E dL_law_593 rfl rfl ?_
  refine g_callM E [0, 1] rfl hM (cwV 0 hts gL_law_X1_clear rfl rfl rfl hdL_X1_clear ⟨(Nat.le_of_ble_eq_true rfl), (Nat.le_of_ble_eq_true rfl)⟩) rfl rfl rfl (Nat.le_of_ble_eq_true rfl) heM rfl dL_law_594 hcs ?_
  exact g_icmp_eq_t E dL_law_597 (tgt := 1022) (by decide) ⟨hv, hv⟩ rfl (K a5 a6)
set_option maxHeartbeats 4000000 in
set_option maxRecDepth 100000 in
theorem law_c9 {p : Program} {l : Launch} {e : Env} {s : State} {m : MethodId} {args : Array Value} {below : List Frame} {meth : Method} {c : Code} {cells slots : Nat} {Q : State → Prop} {A0 : Nat → Prop} {D : va_G} {cI cZ cL : ClassId} {b L o q qm : Nat} {xs : Nat → Int32} {fL : Nat → Int64} {wX wX' wM wM' : va_W} {fs fs2 fs3 : List Value} {i : Nat}
    (E : gE p s m args c RL cL_law 7 wsL_law D (gTyL cI cZ cL) A0) (hT : gKT A0 s s.heap) (hX : va_X b L xs s s.heap) (hbl : b < s.heap.size) (hbA : ¬ A0 b) (hi : i + 5 ≤ L ∧ L ≤ 2560) (hcs : cells + 1 ≤ 1059 ∧ slots + 6 ≤ 8648) (heX : wX[0]? = some (q, .inr (0, fs))) (heM : wM[0]? = some (qm, .inr (1, fs2))) (heM' : wM'[0]? = some (qm, .inr (1, fs3))) {v : Int} (hv : -2147483648 ≤ v ∧ v < 2147483648)
    (hW : gMI l yX0_now wsX0_now 6 D (gTy cI cZ) wX [.ref q] v wX') (hM : gMI l yX1_now wsX1_now 6 D (gTy cI cZ) wM [.ref qm] v wM')
    (K : ∀ a5 a6 : Option Value, gJ p l e room_1 s m args below meth c (cells + 1) (slots + 6) Q A0 D (wM' ++ (gO cL o fL :: wX')) [some (.ref b), some (.ref q), some (.ref qm), some (.ref o), some (.int (iI (i : Int))), a5, a6] 1022 []) : ∀ a5 a6 : Option Value, gJ p l e room_1 s m args below meth c cells slots Q A0 D (wM ++ (gO cL o fL :: wX)) [some (.ref b), some (.ref q), some (.ref qm), some (.ref o), some (.int (iI (i : Int))), a5, a6] 602 [] := by
  have hts := E.1.2.2.2.2
  intro a5 a6
  refine g_wid (Nat.le_succ cells) (show slots ≤ slots + 6 by omega) ?_
  refine g_aload_n E dL_law_602 rfl rfl ?_
  refine g_callX E [0, 1] rfl hW (cwV 0 hts gL_law_X0_now rfl rfl rfl hdL_X0_now ⟨(Nat.le_of_ble_eq_true rfl), (Nat.le_of_ble_eq_true rfl)⟩) rfl rfl rfl (Nat.le_of_ble_eq_true rfl) heX rfl dL_law_603 hcs ?_
  refine g_aload_n E dL_law_606 rfl rfl ?_
  refine g_callM E [0, 1] rfl hM (cwV 0 hts gL_law_X1_now rfl rfl rfl hdL_X1_now ⟨(Nat.le_of_ble_eq_true rfl), (Nat.le_of_ble_eq_true rfl)⟩) rfl rfl rfl (Nat.le_of_ble_eq_true rfl) heM rfl dL_law_607 hcs ?_
  exact g_icmp_eq_t E dL_law_610 (tgt := 1022) (by decide) ⟨hv, hv⟩ rfl (K a5 a6)
set_option maxHeartbeats 4000000 in
set_option maxRecDepth 100000 in
theorem law_c10 {p : Program} {l : Launch} {e : Env} {s : State} {m : MethodId} {args : Array Value} {below : List Frame} {meth : Method} {c : Code} {cells slots : Nat} {Q : State → Prop} {A0 : Nat → Prop} {D : va_G} {cI cZ cL : ClassId} {b L o q qm : Nat} {xs : Nat → Int32} {fL : Nat → Int64} {wX wX' wM wM' : va_W} {fs fs2 fs3 : List Value} {i : Nat}
    (E : gE p s m args c RL cL_law 7 wsL_law D (gTyL cI cZ cL) A0) (hT : gKT A0 s s.heap) (hX : va_X b L xs s s.heap) (hbl : b < s.heap.size) (hbA : ¬ A0 b) (hi : i + 5 ≤ L ∧ L ≤ 2560) (hcs : cells + 1 ≤ 1059 ∧ slots + 6 ≤ 8648) (heX : wX[0]? = some (q, .inr (0, fs))) (heM : wM[0]? = some (qm, .inr (1, fs2))) (heM' : wM'[0]? = some (qm, .inr (1, fs3))) {fL' : Nat → Int64} {k9 bv : Int} (hk9 : 0 ≤ k9 ∧ k9 ≤ 3) (hkb : k9 = 0 → fL' 0 = (iI bv).toInt64)
    (hW : gMW l yL_people wsL_people D (gTyL cI cZ cL) (gO cL o fL :: wX) [.ref q, .int (iI (xs (i + 1)).toInt), .ref o] k9 (gO cL o fL' :: wX')) (hM : gMI l yX1_people wsX1_people 6 D (gTy cI cZ) wM [.ref qm, .int (iI (xs (i + 1)).toInt)] bv wM') (hth : gMI l yX1_thrown wsX1_thrown 6 D (gTy cI cZ) wM' [.ref qm] k9 wM')
    (K : ∀ a5 a6 : Option Value, gJ p l e room_1 s m args below meth c (cells + 1) (slots + 6) Q A0 D (wM' ++ (gO cL o fL' :: wX')) [some (.ref b), some (.ref q), some (.ref qm), some (.ref o), some (.int (iI (i : Int))), a5, a6] 1022 []) : ∀ a5 a6 : Option Value, gJ p l e room_1 s m args below meth c cells slots Q A0 D (wM ++ (gO cL o fL :: wX)) [some (.ref b), some (.ref q), some (.ref qm), some (.ref o), some (.int (iI (i : Int))), a5, a6] 615 [] := by
  have hts := E.1.2.2.2.2
  intro a5 a6
  have hx0 := gsm_of (xs (i + 1))
  refine g_aload_n E dL_law_615 rfl rfl ?_
  refine g_aload_n E dL_law_616 rfl rfl ?_
  refine g_iload E dL_law_617 rfl ?_
  refine g_iconst E dL_law_619 ?_
  refine g_iadd E dL_law_620 ?_
  refine g_sld E hX hbl hbA dL_law_621 (j := i + 1) (by omega) (by omega) ?_
  refine g_aload_n E dL_law_622 rfl rfl ?_
  refine g_callSW E hT (wr := wM) hW (vx_cwSW 3 hts gL_law_L_people rfl rfl rfl hdS_people ⟨(Nat.le_of_ble_eq_true rfl), (Nat.le_of_ble_eq_true rfl)⟩) rfl rfl rfl (Nat.le_of_ble_eq_true rfl) dL_law_623 hcs ?_
  refine g_istore E (lv' := [_, _, _, _, _, _, _]) dL_law_626 (Nat.le_of_ble_eq_true rfl) rfl ?_
  refine g_aload_n E dL_law_628 rfl rfl ?_
  refine g_aload_n E dL_law_629 rfl rfl ?_
  refine g_iload E dL_law_630 rfl ?_
  refine g_iconst E dL_law_632 ?_
  refine g_iadd E dL_law_633 ?_
  refine g_sld E hX hbl hbA dL_law_634 (j := i + 1) (by omega) (by omega) ?_
  refine g_callM E [0, 1] rfl hM (cwV 1 hts gL_law_X1_people rfl rfl rfl hdL_X1_people ⟨(Nat.le_of_ble_eq_true rfl), (Nat.le_of_ble_eq_true rfl)⟩) rfl rfl rfl (Nat.le_of_ble_eq_true rfl) heM rfl dL_law_635 hcs ?_
  refine g_istore E (lv' := [_, _, _, _, _, _, _]) dL_law_638 (Nat.le_of_ble_eq_true rfl) rfl ?_
  refine g_aload_n E dL_law_640 rfl rfl ?_
  refine g_callM E [0, 1] rfl hth (cwV 0 hts gL_law_X1_thrown rfl rfl rfl hdL_X1_thrown ⟨(Nat.le_of_ble_eq_true rfl), (Nat.le_of_ble_eq_true rfl)⟩) rfl rfl rfl (Nat.le_of_ble_eq_true rfl) heM' rfl dL_law_641 hcs ?_
  refine g_iload E dL_law_644 rfl ?_
  refine g_icmp_eq_t E dL_law_646 (tgt := 651) (by decide) (by omega) rfl ?_
  refine g_iload E dL_law_651 rfl ?_
  refine g_if_ne E dL_law_653 (tgt := 668) (by decide) (by omega) (fun hk => ?_) (fun hk => ?_)
  · exact g_goto E dL_law_668 (tgt := 1022) (by decide) (K _ _)
  · refine g_aload_n E dL_law_656 rfl rfl ?_
    refine g_iconst E dL_law_657 ?_
    refine g_swap ?_
    refine g_lald E 0 (o := o) (fL := fL') rfl dL_law_658 ?_
    refine g_swap ?_
    refine g_iload E dL_law_659 rfl ?_
    refine g_i2l E dL_law_661 ?_
    refine g_lcmp0 E (hkb hk) dL_law_662 ?_
    refine g_if_eq_t E dL_law_663 (tgt := 668) (by decide) (by omega) rfl ?_
    exact g_goto E dL_law_668 (tgt := 1022) (by decide) (K _ _)
set_option maxHeartbeats 4000000 in
set_option maxRecDepth 100000 in
theorem law_c11 {p : Program} {l : Launch} {e : Env} {s : State} {m : MethodId} {args : Array Value} {below : List Frame} {meth : Method} {c : Code} {cells slots : Nat} {Q : State → Prop} {A0 : Nat → Prop} {D : va_G} {cI cZ cL : ClassId} {b L o q qm : Nat} {xs : Nat → Int32} {fL : Nat → Int64} {wX wX' wM wM' : va_W} {fs fs2 fs3 : List Value} {i : Nat}
    (E : gE p s m args c RL cL_law 7 wsL_law D (gTyL cI cZ cL) A0) (hT : gKT A0 s s.heap) (hX : va_X b L xs s s.heap) (hbl : b < s.heap.size) (hbA : ¬ A0 b) (hi : i + 5 ≤ L ∧ L ≤ 2560) (hcs : cells + 1 ≤ 1059 ∧ slots + 6 ≤ 8648) (heX : wX[0]? = some (q, .inr (0, fs))) (heM : wM[0]? = some (qm, .inr (1, fs2))) (heM' : wM'[0]? = some (qm, .inr (1, fs3))) {v : Int} (hv : -2147483648 ≤ v ∧ v < 2147483648)
    (hW : gMI l yX0_inside wsX0_inside 0 D (gTy cI cZ) wX [.ref q] v wX') (hM : gMI l yX1_inside wsX1_inside 6 D (gTy cI cZ) wM [.ref qm] v wM')
    (K : ∀ a5 a6 : Option Value, gJ p l e room_1 s m args below meth c (cells + 1) (slots + 6) Q A0 D (wM' ++ (gO cL o fL :: wX')) [some (.ref b), some (.ref q), some (.ref qm), some (.ref o), some (.int (iI (i : Int))), a5, a6] 1022 []) : ∀ a5 a6 : Option Value, gJ p l e room_1 s m args below meth c cells slots Q A0 D (wM ++ (gO cL o fL :: wX)) [some (.ref b), some (.ref q), some (.ref qm), some (.ref o), some (.int (iI (i : Int))), a5, a6] 671 [] := by
  have hts := E.1.2.2.2.2
  intro a5 a6
  refine g_wid (Nat.le_succ cells) (show slots ≤ slots + 6 by omega) ?_
  refine g_aload_n E dL_law_671 rfl rfl ?_
  refine g_callX E [0, 1] rfl hW (cwV 0 hts gL_law_X0_inside rfl rfl rfl hdL_X0_inside ⟨(Nat.le_of_ble_eq_true rfl), (Nat.le_of_ble_eq_true rfl)⟩) rfl rfl rfl (Nat.le_of_ble_eq_true rfl) heX rfl dL_law_672 hcs ?_
  refine g_aload_n E dL_law_675 rfl rfl ?_
  refine g_callM E [0, 1] rfl hM (cwV 0 hts gL_law_X1_inside rfl rfl rfl hdL_X1_inside ⟨(Nat.le_of_ble_eq_true rfl), (Nat.le_of_ble_eq_true rfl)⟩) rfl rfl rfl (Nat.le_of_ble_eq_true rfl) heM rfl dL_law_676 hcs ?_
  exact g_icmp_eq_t E dL_law_679 (tgt := 1022) (by decide) ⟨hv, hv⟩ rfl (K a5 a6)
set_option maxHeartbeats 4000000 in
set_option maxRecDepth 100000 in
theorem law_c12 {p : Program} {l : Launch} {e : Env} {s : State} {m : MethodId} {args : Array Value} {below : List Frame} {meth : Method} {c : Code} {cells slots : Nat} {Q : State → Prop} {A0 : Nat → Prop} {D : va_G} {cI cZ cL : ClassId} {b L o q qm : Nat} {xs : Nat → Int32} {fL : Nat → Int64} {wX wX' wM wM' : va_W} {fs fs2 fs3 : List Value} {i : Nat}
    (E : gE p s m args c RL cL_law 7 wsL_law D (gTyL cI cZ cL) A0) (hT : gKT A0 s s.heap) (hX : va_X b L xs s s.heap) (hbl : b < s.heap.size) (hbA : ¬ A0 b) (hi : i + 5 ≤ L ∧ L ≤ 2560) (hcs : cells + 1 ≤ 1059 ∧ slots + 6 ≤ 8648) (heX : wX[0]? = some (q, .inr (0, fs))) (heM : wM[0]? = some (qm, .inr (1, fs2))) (heM' : wM'[0]? = some (qm, .inr (1, fs3))) {fL' : Nat → Int64} {k9 bv : Int} (hk9 : 0 ≤ k9 ∧ k9 ≤ 3) (hkb : k9 = 0 → fL' 0 = (iI bv).toInt64)
    (hW : gMW l yL_latest wsL_latest D (gTyL cI cZ cL) (gO cL o fL :: wX) [.ref q, .ref o] k9 (gO cL o fL' :: wX')) (hM : gMI l yX1_latest wsX1_latest 6 D (gTy cI cZ) wM [.ref qm] bv wM') (hth : gMI l yX1_thrown wsX1_thrown 6 D (gTy cI cZ) wM' [.ref qm] k9 wM')
    (K : ∀ a5 a6 : Option Value, gJ p l e room_1 s m args below meth c (cells + 1) (slots + 6) Q A0 D (wM' ++ (gO cL o fL' :: wX')) [some (.ref b), some (.ref q), some (.ref qm), some (.ref o), some (.int (iI (i : Int))), a5, a6] 1022 []) : ∀ a5 a6 : Option Value, gJ p l e room_1 s m args below meth c cells slots Q A0 D (wM ++ (gO cL o fL :: wX)) [some (.ref b), some (.ref q), some (.ref qm), some (.ref o), some (.int (iI (i : Int))), a5, a6] 684 [] := by
  have hts := E.1.2.2.2.2
  intro a5 a6
  refine g_aload_n E dL_law_684 rfl rfl ?_
  refine g_aload_n E dL_law_685 rfl rfl ?_
  refine g_callSW E hT (wr := wM) hW (vx_cwSW 2 hts gL_law_L_latest rfl rfl rfl hdS_latest ⟨(Nat.le_of_ble_eq_true rfl), (Nat.le_of_ble_eq_true rfl)⟩) rfl rfl rfl (Nat.le_of_ble_eq_true rfl) dL_law_686 hcs ?_
  refine g_istore E (lv' := [_, _, _, _, _, _, _]) dL_law_689 (Nat.le_of_ble_eq_true rfl) rfl ?_
  refine g_aload_n E dL_law_691 rfl rfl ?_
  refine g_callM E [0, 1] rfl hM (cwV 0 hts gL_law_X1_latest rfl rfl rfl hdL_X1_latest ⟨(Nat.le_of_ble_eq_true rfl), (Nat.le_of_ble_eq_true rfl)⟩) rfl rfl rfl (Nat.le_of_ble_eq_true rfl) heM rfl dL_law_692 hcs ?_
  refine g_istore E (lv' := [_, _, _, _, _, _, _]) dL_law_695 (Nat.le_of_ble_eq_true rfl) rfl ?_
  refine g_aload_n E dL_law_697 rfl rfl ?_
  refine g_callM E [0, 1] rfl hth (cwV 0 hts gL_law_X1_thrown rfl rfl rfl hdL_X1_thrown ⟨(Nat.le_of_ble_eq_true rfl), (Nat.le_of_ble_eq_true rfl)⟩) rfl rfl rfl (Nat.le_of_ble_eq_true rfl) heM' rfl dL_law_698 hcs ?_
  refine g_iload E dL_law_701 rfl ?_
  refine g_icmp_eq_t E dL_law_703 (tgt := 708) (by decide) (by omega) rfl ?_
  refine g_iload E dL_law_708 rfl ?_
  refine g_if_ne E dL_law_710 (tgt := 725) (by decide) (by omega) (fun hk => ?_) (fun hk => ?_)
  · exact g_goto E dL_law_725 (tgt := 1022) (by decide) (K _ _)
  · refine g_aload_n E dL_law_713 rfl rfl ?_
    refine g_iconst E dL_law_714 ?_
    refine g_swap ?_
    refine g_lald E 0 (o := o) (fL := fL') rfl dL_law_715 ?_
    refine g_swap ?_
    refine g_iload E dL_law_716 rfl ?_
    refine g_i2l E dL_law_718 ?_
    refine g_lcmp0 E (hkb hk) dL_law_719 ?_
    refine g_if_eq_t E dL_law_720 (tgt := 725) (by decide) (by omega) rfl ?_
    exact g_goto E dL_law_725 (tgt := 1022) (by decide) (K _ _)
set_option maxHeartbeats 4000000 in
set_option maxRecDepth 100000 in
theorem law_c13 {p : Program} {l : Launch} {e : Env} {s : State} {m : MethodId} {args : Array Value} {below : List Frame} {meth : Method} {c : Code} {cells slots : Nat} {Q : State → Prop} {A0 : Nat → Prop} {D : va_G} {cI cZ cL : ClassId} {b L o q qm : Nat} {xs : Nat → Int32} {fL : Nat → Int64} {wX wX' wM wM' : va_W} {fs fs2 fs3 : List Value} {i : Nat}
    (E : gE p s m args c RL cL_law 7 wsL_law D (gTyL cI cZ cL) A0) (hT : gKT A0 s s.heap) (hX : va_X b L xs s s.heap) (hbl : b < s.heap.size) (hbA : ¬ A0 b) (hi : i + 5 ≤ L ∧ L ≤ 2560) (hcs : cells + 1 ≤ 1059 ∧ slots + 6 ≤ 8648) (heX : wX[0]? = some (q, .inr (0, fs))) (heM : wM[0]? = some (qm, .inr (1, fs2))) (heM' : wM'[0]? = some (qm, .inr (1, fs3))) {fL' : Nat → Int64} {k9 bv : Int} (hk9 : 0 ≤ k9 ∧ k9 ≤ 3) (hkb : k9 = 0 → fL' 0 = (iI bv).toInt64)
    (hW : gMW l yL_passed wsL_passed D (gTyL cI cZ cL) (gO cL o fL :: wX) [.ref q, .int (iI (xs (i + 1)).toInt), .ref o] k9 (gO cL o fL' :: wX')) (hM : gMI l yX1_passed wsX1_passed 6 D (gTy cI cZ) wM [.ref qm, .int (iI (xs (i + 1)).toInt)] bv wM') (hth : gMI l yX1_thrown wsX1_thrown 6 D (gTy cI cZ) wM' [.ref qm] k9 wM')
    (K : ∀ a5 a6 : Option Value, gJ p l e room_1 s m args below meth c (cells + 1) (slots + 6) Q A0 D (wM' ++ (gO cL o fL' :: wX')) [some (.ref b), some (.ref q), some (.ref qm), some (.ref o), some (.int (iI (i : Int))), a5, a6] 1022 []) : ∀ a5 a6 : Option Value, gJ p l e room_1 s m args below meth c cells slots Q A0 D (wM ++ (gO cL o fL :: wX)) [some (.ref b), some (.ref q), some (.ref qm), some (.ref o), some (.int (iI (i : Int))), a5, a6] 728 [] := by
  have hts := E.1.2.2.2.2
  intro a5 a6
  have hx0 := gsm_of (xs (i + 1))
  refine g_aload_n E dL_law_728 rfl rfl ?_
  refine g_aload_n E dL_law_729 rfl rfl ?_
  refine g_iload E dL_law_730 rfl ?_
  refine g_iconst E dL_law_732 ?_
  refine g_iadd E dL_law_733 ?_
  refine g_sld E hX hbl hbA dL_law_734 (j := i + 1) (by omega) (by omega) ?_
  refine g_aload_n E dL_law_735 rfl rfl ?_
  refine g_callSW E hT (wr := wM) hW (vx_cwSW 3 hts gL_law_L_passed rfl rfl rfl hdS_passed ⟨(Nat.le_of_ble_eq_true rfl), (Nat.le_of_ble_eq_true rfl)⟩) rfl rfl rfl (Nat.le_of_ble_eq_true rfl) dL_law_736 hcs ?_
  refine g_istore E (lv' := [_, _, _, _, _, _, _]) dL_law_739 (Nat.le_of_ble_eq_true rfl) rfl ?_
  refine g_aload_n E dL_law_741 rfl rfl ?_
  refine g_aload_n E dL_law_742 rfl rfl ?_
  refine g_iload E dL_law_743 rfl ?_
  refine g_iconst E dL_law_745 ?_
  refine g_iadd E dL_law_746 ?_
  refine g_sld E hX hbl hbA dL_law_747 (j := i + 1) (by omega) (by omega) ?_
  refine g_callM E [0, 1] rfl hM (cwV 1 hts gL_law_X1_passed rfl rfl rfl hdL_X1_passed ⟨(Nat.le_of_ble_eq_true rfl), (Nat.le_of_ble_eq_true rfl)⟩) rfl rfl rfl (Nat.le_of_ble_eq_true rfl) heM rfl dL_law_748 hcs ?_
  refine g_istore E (lv' := [_, _, _, _, _, _, _]) dL_law_751 (Nat.le_of_ble_eq_true rfl) rfl ?_
  refine g_aload_n E dL_law_753 rfl rfl ?_
  refine g_callM E [0, 1] rfl hth (cwV 0 hts gL_law_X1_thrown rfl rfl rfl hdL_X1_thrown ⟨(Nat.le_of_ble_eq_true rfl), (Nat.le_of_ble_eq_true rfl)⟩) rfl rfl rfl (Nat.le_of_ble_eq_true rfl) heM' rfl dL_law_754 hcs ?_
  refine g_iload E dL_law_757 rfl ?_
  refine g_icmp_eq_t E dL_law_759 (tgt := 764) (by decide) (by omega) rfl ?_
  refine g_iload E dL_law_764 rfl ?_
  refine g_if_ne E dL_law_766 (tgt := 781) (by decide) (by omega) (fun hk => ?_) (fun hk => ?_)
  · exact g_goto E dL_law_781 (tgt := 1022) (by decide) (K _ _)
  · refine g_aload_n E dL_law_769 rfl rfl ?_
    refine g_iconst E dL_law_770 ?_
    refine g_swap ?_
    refine g_lald E 0 (o := o) (fL := fL') rfl dL_law_771 ?_
    refine g_swap ?_
    refine g_iload E dL_law_772 rfl ?_
    refine g_i2l E dL_law_774 ?_
    refine g_lcmp0 E (hkb hk) dL_law_775 ?_
    refine g_if_eq_t E dL_law_776 (tgt := 781) (by decide) (by omega) rfl ?_
    exact g_goto E dL_law_781 (tgt := 1022) (by decide) (K _ _)
set_option maxHeartbeats 4000000 in
set_option maxRecDepth 100000 in
theorem law_c14 {p : Program} {l : Launch} {e : Env} {s : State} {m : MethodId} {args : Array Value} {below : List Frame} {meth : Method} {c : Code} {cells slots : Nat} {Q : State → Prop} {A0 : Nat → Prop} {D : va_G} {cI cZ cL : ClassId} {b L o q qm : Nat} {xs : Nat → Int32} {fL : Nat → Int64} {wX wX' wM wM' : va_W} {fs fs2 fs3 : List Value} {i : Nat}
    (E : gE p s m args c RL cL_law 7 wsL_law D (gTyL cI cZ cL) A0) (hT : gKT A0 s s.heap) (hX : va_X b L xs s s.heap) (hbl : b < s.heap.size) (hbA : ¬ A0 b) (hi : i + 5 ≤ L ∧ L ≤ 2560) (hcs : cells + 1 ≤ 1059 ∧ slots + 6 ≤ 8648) (heX : wX[0]? = some (q, .inr (0, fs))) (heM : wM[0]? = some (qm, .inr (1, fs2))) (heM' : wM'[0]? = some (qm, .inr (1, fs3))) {v : Int} (hv : -2147483648 ≤ v ∧ v < 2147483648)
    (hW : gMI l yX0_waited wsX0_waited 6 D (gTy cI cZ) wX [.ref q] v wX') (hM : gMI l yX1_waited wsX1_waited 6 D (gTy cI cZ) wM [.ref qm] v wM')
    (K : ∀ a5 a6 : Option Value, gJ p l e room_1 s m args below meth c (cells + 1) (slots + 6) Q A0 D (wM' ++ (gO cL o fL :: wX')) [some (.ref b), some (.ref q), some (.ref qm), some (.ref o), some (.int (iI (i : Int))), a5, a6] 1022 []) : ∀ a5 a6 : Option Value, gJ p l e room_1 s m args below meth c cells slots Q A0 D (wM ++ (gO cL o fL :: wX)) [some (.ref b), some (.ref q), some (.ref qm), some (.ref o), some (.int (iI (i : Int))), a5, a6] 784 [] := by
  have hts := E.1.2.2.2.2
  intro a5 a6
  refine g_wid (Nat.le_succ cells) (show slots ≤ slots + 6 by omega) ?_
  refine g_aload_n E dL_law_784 rfl rfl ?_
  refine g_callX E [0, 1] rfl hW (cwV 0 hts gL_law_X0_waited rfl rfl rfl hdL_X0_waited ⟨(Nat.le_of_ble_eq_true rfl), (Nat.le_of_ble_eq_true rfl)⟩) rfl rfl rfl (Nat.le_of_ble_eq_true rfl) heX rfl dL_law_785 hcs ?_
  refine g_aload_n E dL_law_788 rfl rfl ?_
  refine g_callM E [0, 1] rfl hM (cwV 0 hts gL_law_X1_waited rfl rfl rfl hdL_X1_waited ⟨(Nat.le_of_ble_eq_true rfl), (Nat.le_of_ble_eq_true rfl)⟩) rfl rfl rfl (Nat.le_of_ble_eq_true rfl) heM rfl dL_law_789 hcs ?_
  exact g_icmp_eq_t E dL_law_792 (tgt := 1022) (by decide) ⟨hv, hv⟩ rfl (K a5 a6)
set_option maxHeartbeats 4000000 in
set_option maxRecDepth 100000 in
theorem law_c15 {p : Program} {l : Launch} {e : Env} {s : State} {m : MethodId} {args : Array Value} {below : List Frame} {meth : Method} {c : Code} {cells slots : Nat} {Q : State → Prop} {A0 : Nat → Prop} {D : va_G} {cI cZ cL : ClassId} {b L o q qm : Nat} {xs : Nat → Int32} {fL : Nat → Int64} {wX wX' wM wM' : va_W} {fs fs2 fs3 : List Value} {i : Nat}
    (E : gE p s m args c RL cL_law 7 wsL_law D (gTyL cI cZ cL) A0) (hT : gKT A0 s s.heap) (hX : va_X b L xs s s.heap) (hbl : b < s.heap.size) (hbA : ¬ A0 b) (hi : i + 5 ≤ L ∧ L ≤ 2560) (hcs : cells + 1 ≤ 1059 ∧ slots + 6 ≤ 8648) (heX : wX[0]? = some (q, .inr (0, fs))) (heM : wM[0]? = some (qm, .inr (1, fs2))) (heM' : wM'[0]? = some (qm, .inr (1, fs3))) {fL' : Nat → Int64} {k9 bv : Int} (hk9 : 0 ≤ k9 ∧ k9 ≤ 3) (hkb : k9 = 0 → fL' 0 = (iI bv).toInt64)
    (hW : gMW l yL_distance wsL_distance D (gTyL cI cZ cL) (gO cL o fL :: wX) [.ref q, .int (iI (xs (i + 1)).toInt), .ref o] k9 (gO cL o fL' :: wX')) (hM : gMI l yX1_distance wsX1_distance 6 D (gTy cI cZ) wM [.ref qm, .int (iI (xs (i + 1)).toInt)] bv wM') (hth : gMI l yX1_thrown wsX1_thrown 6 D (gTy cI cZ) wM' [.ref qm] k9 wM')
    (K : ∀ a5 a6 : Option Value, gJ p l e room_1 s m args below meth c (cells + 1) (slots + 6) Q A0 D (wM' ++ (gO cL o fL' :: wX')) [some (.ref b), some (.ref q), some (.ref qm), some (.ref o), some (.int (iI (i : Int))), a5, a6] 1022 []) : ∀ a5 a6 : Option Value, gJ p l e room_1 s m args below meth c cells slots Q A0 D (wM ++ (gO cL o fL :: wX)) [some (.ref b), some (.ref q), some (.ref qm), some (.ref o), some (.int (iI (i : Int))), a5, a6] 797 [] := by
  have hts := E.1.2.2.2.2
  intro a5 a6
  have hx0 := gsm_of (xs (i + 1))
  refine g_aload_n E dL_law_797 rfl rfl ?_
  refine g_aload_n E dL_law_798 rfl rfl ?_
  refine g_iload E dL_law_799 rfl ?_
  refine g_iconst E dL_law_801 ?_
  refine g_iadd E dL_law_802 ?_
  refine g_sld E hX hbl hbA dL_law_803 (j := i + 1) (by omega) (by omega) ?_
  refine g_aload_n E dL_law_804 rfl rfl ?_
  refine g_callSW E hT (wr := wM) hW (vx_cwSW 3 hts gL_law_L_distance rfl rfl rfl hdS_distance ⟨(Nat.le_of_ble_eq_true rfl), (Nat.le_of_ble_eq_true rfl)⟩) rfl rfl rfl (Nat.le_of_ble_eq_true rfl) dL_law_805 hcs ?_
  refine g_istore E (lv' := [_, _, _, _, _, _, _]) dL_law_808 (Nat.le_of_ble_eq_true rfl) rfl ?_
  refine g_aload_n E dL_law_810 rfl rfl ?_
  refine g_aload_n E dL_law_811 rfl rfl ?_
  refine g_iload E dL_law_812 rfl ?_
  refine g_iconst E dL_law_814 ?_
  refine g_iadd E dL_law_815 ?_
  refine g_sld E hX hbl hbA dL_law_816 (j := i + 1) (by omega) (by omega) ?_
  refine g_callM E [0, 1] rfl hM (cwV 1 hts gL_law_X1_distance rfl rfl rfl hdL_X1_distance ⟨(Nat.le_of_ble_eq_true rfl), (Nat.le_of_ble_eq_true rfl)⟩) rfl rfl rfl (Nat.le_of_ble_eq_true rfl) heM rfl dL_law_817 hcs ?_
  refine g_istore E (lv' := [_, _, _, _, _, _, _]) dL_law_820 (Nat.le_of_ble_eq_true rfl) rfl ?_
  refine g_aload_n E dL_law_822 rfl rfl ?_
  refine g_callM E [0, 1] rfl hth (cwV 0 hts gL_law_X1_thrown rfl rfl rfl hdL_X1_thrown ⟨(Nat.le_of_ble_eq_true rfl), (Nat.le_of_ble_eq_true rfl)⟩) rfl rfl rfl (Nat.le_of_ble_eq_true rfl) heM' rfl dL_law_823 hcs ?_
  refine g_iload E dL_law_826 rfl ?_
  refine g_icmp_eq_t E dL_law_828 (tgt := 833) (by decide) (by omega) rfl ?_
  refine g_iload E dL_law_833 rfl ?_
  refine g_if_ne E dL_law_835 (tgt := 850) (by decide) (by omega) (fun hk => ?_) (fun hk => ?_)
  · exact g_goto E dL_law_850 (tgt := 1022) (by decide) (K _ _)
  · refine g_aload_n E dL_law_838 rfl rfl ?_
    refine g_iconst E dL_law_839 ?_
    refine g_swap ?_
    refine g_lald E 0 (o := o) (fL := fL') rfl dL_law_840 ?_
    refine g_swap ?_
    refine g_iload E dL_law_841 rfl ?_
    refine g_i2l E dL_law_843 ?_
    refine g_lcmp0 E (hkb hk) dL_law_844 ?_
    refine g_if_eq_t E dL_law_845 (tgt := 850) (by decide) (by omega) rfl ?_
    exact g_goto E dL_law_850 (tgt := 1022) (by decide) (K _ _)
set_option maxHeartbeats 4000000 in
set_option maxRecDepth 100000 in
theorem law_c16 {p : Program} {l : Launch} {e : Env} {s : State} {m : MethodId} {args : Array Value} {below : List Frame} {meth : Method} {c : Code} {cells slots : Nat} {Q : State → Prop} {A0 : Nat → Prop} {D : va_G} {cI cZ cL : ClassId} {b L o q qm : Nat} {xs : Nat → Int32} {fL : Nat → Int64} {wX wX' wM wM' : va_W} {fs fs2 fs3 : List Value} {i : Nat}
    (E : gE p s m args c RL cL_law 7 wsL_law D (gTyL cI cZ cL) A0) (hT : gKT A0 s s.heap) (hX : va_X b L xs s s.heap) (hbl : b < s.heap.size) (hbA : ¬ A0 b) (hi : i + 5 ≤ L ∧ L ≤ 2560) (hcs : cells + 1 ≤ 1059 ∧ slots + 6 ≤ 8648) (heX : wX[0]? = some (q, .inr (0, fs))) (heM : wM[0]? = some (qm, .inr (1, fs2))) (heM' : wM'[0]? = some (qm, .inr (1, fs3))) {fL' : Nat → Int64} {k9 bv : Int} (hk9 : 0 ≤ k9 ∧ k9 ≤ 3) (hkb : k9 = 0 → fL' 0 = (iI bv).toInt64)
    (hW : gMW l yL_door wsL_door D (gTyL cI cZ cL) (gO cL o fL :: wX) [.ref q, .int (iI (xs (i + 1)).toInt), .ref o] k9 (gO cL o fL' :: wX')) (hM : gMI l yX1_door wsX1_door 6 D (gTy cI cZ) wM [.ref qm, .int (iI (xs (i + 1)).toInt)] bv wM') (hth : gMI l yX1_thrown wsX1_thrown 6 D (gTy cI cZ) wM' [.ref qm] k9 wM')
    (K : ∀ a5 a6 : Option Value, gJ p l e room_1 s m args below meth c (cells + 1) (slots + 6) Q A0 D (wM' ++ (gO cL o fL' :: wX')) [some (.ref b), some (.ref q), some (.ref qm), some (.ref o), some (.int (iI (i : Int))), a5, a6] 1022 []) : ∀ a5 a6 : Option Value, gJ p l e room_1 s m args below meth c cells slots Q A0 D (wM ++ (gO cL o fL :: wX)) [some (.ref b), some (.ref q), some (.ref qm), some (.ref o), some (.int (iI (i : Int))), a5, a6] 853 [] := by
  have hts := E.1.2.2.2.2
  intro a5 a6
  have hx0 := gsm_of (xs (i + 1))
  refine g_aload_n E dL_law_853 rfl rfl ?_
  refine g_aload_n E dL_law_854 rfl rfl ?_
  refine g_iload E dL_law_855 rfl ?_
  refine g_iconst E dL_law_857 ?_
  refine g_iadd E dL_law_858 ?_
  refine g_sld E hX hbl hbA dL_law_859 (j := i + 1) (by omega) (by omega) ?_
  refine g_aload_n E dL_law_860 rfl rfl ?_
  refine g_callSW E hT (wr := wM) hW (vx_cwSW 3 hts gL_law_L_door rfl rfl rfl hdS_door ⟨(Nat.le_of_ble_eq_true rfl), (Nat.le_of_ble_eq_true rfl)⟩) rfl rfl rfl (Nat.le_of_ble_eq_true rfl) dL_law_861 hcs ?_
  refine g_istore E (lv' := [_, _, _, _, _, _, _]) dL_law_864 (Nat.le_of_ble_eq_true rfl) rfl ?_
  refine g_aload_n E dL_law_866 rfl rfl ?_
  refine g_aload_n E dL_law_867 rfl rfl ?_
  refine g_iload E dL_law_868 rfl ?_
  refine g_iconst E dL_law_870 ?_
  refine g_iadd E dL_law_871 ?_
  refine g_sld E hX hbl hbA dL_law_872 (j := i + 1) (by omega) (by omega) ?_
  refine g_callM E [0, 1] rfl hM (cwV 1 hts gL_law_X1_door rfl rfl rfl hdL_X1_door ⟨(Nat.le_of_ble_eq_true rfl), (Nat.le_of_ble_eq_true rfl)⟩) rfl rfl rfl (Nat.le_of_ble_eq_true rfl) heM rfl dL_law_873 hcs ?_
  refine g_istore E (lv' := [_, _, _, _, _, _, _]) dL_law_876 (Nat.le_of_ble_eq_true rfl) rfl ?_
  refine g_aload_n E dL_law_878 rfl rfl ?_
  refine g_callM E [0, 1] rfl hth (cwV 0 hts gL_law_X1_thrown rfl rfl rfl hdL_X1_thrown ⟨(Nat.le_of_ble_eq_true rfl), (Nat.le_of_ble_eq_true rfl)⟩) rfl rfl rfl (Nat.le_of_ble_eq_true rfl) heM' rfl dL_law_879 hcs ?_
  refine g_iload E dL_law_882 rfl ?_
  refine g_icmp_eq_t E dL_law_884 (tgt := 889) (by decide) (by omega) rfl ?_
  refine g_iload E dL_law_889 rfl ?_
  refine g_if_ne E dL_law_891 (tgt := 906) (by decide) (by omega) (fun hk => ?_) (fun hk => ?_)
  · exact g_goto E dL_law_906 (tgt := 1022) (by decide) (K _ _)
  · refine g_aload_n E dL_law_894 rfl rfl ?_
    refine g_iconst E dL_law_895 ?_
    refine g_swap ?_
    refine g_lald E 0 (o := o) (fL := fL') rfl dL_law_896 ?_
    refine g_swap ?_
    refine g_iload E dL_law_897 rfl ?_
    refine g_i2l E dL_law_899 ?_
    refine g_lcmp0 E (hkb hk) dL_law_900 ?_
    refine g_if_eq_t E dL_law_901 (tgt := 906) (by decide) (by omega) rfl ?_
    exact g_goto E dL_law_906 (tgt := 1022) (by decide) (K _ _)
set_option maxHeartbeats 4000000 in
set_option maxRecDepth 100000 in
theorem law_c17 {p : Program} {l : Launch} {e : Env} {s : State} {m : MethodId} {args : Array Value} {below : List Frame} {meth : Method} {c : Code} {cells slots : Nat} {Q : State → Prop} {A0 : Nat → Prop} {D : va_G} {cI cZ cL : ClassId} {b L o q qm : Nat} {xs : Nat → Int32} {fL : Nat → Int64} {wX wX' wM wM' : va_W} {fs fs2 fs3 : List Value} {i : Nat}
    (E : gE p s m args c RL cL_law 7 wsL_law D (gTyL cI cZ cL) A0) (hT : gKT A0 s s.heap) (hX : va_X b L xs s s.heap) (hbl : b < s.heap.size) (hbA : ¬ A0 b) (hi : i + 5 ≤ L ∧ L ≤ 2560) (hcs : cells + 1 ≤ 1059 ∧ slots + 6 ≤ 8648) (heX : wX[0]? = some (q, .inr (0, fs))) (heM : wM[0]? = some (qm, .inr (1, fs2))) (heM' : wM'[0]? = some (qm, .inr (1, fs3))) {v : Int} (hv : -2147483648 ≤ v ∧ v < 2147483648)
    (hW : gMI l yX0_trapped wsX0_trapped 0 D (gTy cI cZ) wX [.ref q] v wX') (hM : gMI l yX1_trapped wsX1_trapped 6 D (gTy cI cZ) wM [.ref qm] v wM')
    (K : ∀ a5 a6 : Option Value, gJ p l e room_1 s m args below meth c (cells + 1) (slots + 6) Q A0 D (wM' ++ (gO cL o fL :: wX')) [some (.ref b), some (.ref q), some (.ref qm), some (.ref o), some (.int (iI (i : Int))), a5, a6] 1022 []) : ∀ a5 a6 : Option Value, gJ p l e room_1 s m args below meth c cells slots Q A0 D (wM ++ (gO cL o fL :: wX)) [some (.ref b), some (.ref q), some (.ref qm), some (.ref o), some (.int (iI (i : Int))), a5, a6] 909 [] := by
  have hts := E.1.2.2.2.2
  intro a5 a6
  refine g_wid (Nat.le_succ cells) (show slots ≤ slots + 6 by omega) ?_
  refine g_aload_n E dL_law_909 rfl rfl ?_
  refine g_callX E [0, 1] rfl hW (cwV 0 hts gL_law_X0_trapped rfl rfl rfl hdL_X0_trapped ⟨(Nat.le_of_ble_eq_true rfl), (Nat.le_of_ble_eq_true rfl)⟩) rfl rfl rfl (Nat.le_of_ble_eq_true rfl) heX rfl dL_law_910 hcs ?_
  refine g_aload_n E dL_law_913 rfl rfl ?_
  refine g_callM E [0, 1] rfl hM (cwV 0 hts gL_law_X1_trapped rfl rfl rfl hdL_X1_trapped ⟨(Nat.le_of_ble_eq_true rfl), (Nat.le_of_ble_eq_true rfl)⟩) rfl rfl rfl (Nat.le_of_ble_eq_true rfl) heM rfl dL_law_914 hcs ?_
  exact g_icmp_eq_t E dL_law_917 (tgt := 1022) (by decide) ⟨hv, hv⟩ rfl (K a5 a6)
set_option maxHeartbeats 4000000 in
set_option maxRecDepth 100000 in
theorem law_c18 {p : Program} {l : Launch} {e : Env} {s : State} {m : MethodId} {args : Array Value} {below : List Frame} {meth : Method} {c : Code} {cells slots : Nat} {Q : State → Prop} {A0 : Nat → Prop} {D : va_G} {cI cZ cL : ClassId} {b L o q qm : Nat} {xs : Nat → Int32} {fL : Nat → Int64} {wX wX' wM wM' : va_W} {fs fs2 fs3 : List Value} {i : Nat}
    (E : gE p s m args c RL cL_law 7 wsL_law D (gTyL cI cZ cL) A0) (hT : gKT A0 s s.heap) (hX : va_X b L xs s s.heap) (hbl : b < s.heap.size) (hbA : ¬ A0 b) (hi : i + 5 ≤ L ∧ L ≤ 2560) (hcs : cells + 1 ≤ 1059 ∧ slots + 6 ≤ 8648) (heX : wX[0]? = some (q, .inr (0, fs))) (heM : wM[0]? = some (qm, .inr (1, fs2))) (heM' : wM'[0]? = some (qm, .inr (1, fs3))) {fL' : Nat → Int64} {k9 bv : Int} (hk9 : 0 ≤ k9 ∧ k9 ≤ 3) (hkb : k9 = 0 → fL' 0 = (iI bv).toInt64)
    (hW : gMW l yL_wouldMove wsL_wouldMove D (gTyL cI cZ cL) (gO cL o fL :: wX) [.ref q, .int (iI (xs (i + 1)).toInt), .ref o] k9 (gO cL o fL' :: wX')) (hM : gMI l yX1_wouldMove wsX1_wouldMove 6 D (gTy cI cZ) wM [.ref qm, .int (iI (xs (i + 1)).toInt)] bv wM') (hth : gMI l yX1_thrown wsX1_thrown 6 D (gTy cI cZ) wM' [.ref qm] k9 wM')
    (K : ∀ a5 a6 : Option Value, gJ p l e room_1 s m args below meth c (cells + 1) (slots + 6) Q A0 D (wM' ++ (gO cL o fL' :: wX')) [some (.ref b), some (.ref q), some (.ref qm), some (.ref o), some (.int (iI (i : Int))), a5, a6] 1022 []) : ∀ a5 a6 : Option Value, gJ p l e room_1 s m args below meth c cells slots Q A0 D (wM ++ (gO cL o fL :: wX)) [some (.ref b), some (.ref q), some (.ref qm), some (.ref o), some (.int (iI (i : Int))), a5, a6] 922 [] := by
  have hts := E.1.2.2.2.2
  intro a5 a6
  have hx0 := gsm_of (xs (i + 1))
  refine g_aload_n E dL_law_922 rfl rfl ?_
  refine g_aload_n E dL_law_923 rfl rfl ?_
  refine g_iload E dL_law_924 rfl ?_
  refine g_iconst E dL_law_926 ?_
  refine g_iadd E dL_law_927 ?_
  refine g_sld E hX hbl hbA dL_law_928 (j := i + 1) (by omega) (by omega) ?_
  refine g_aload_n E dL_law_929 rfl rfl ?_
  refine g_callSW E hT (wr := wM) hW (vx_cwSW 3 hts gL_law_L_wouldMove rfl rfl rfl hdS_wouldMove ⟨(Nat.le_of_ble_eq_true rfl), (Nat.le_of_ble_eq_true rfl)⟩) rfl rfl rfl (Nat.le_of_ble_eq_true rfl) dL_law_930 hcs ?_
  refine g_istore E (lv' := [_, _, _, _, _, _, _]) dL_law_933 (Nat.le_of_ble_eq_true rfl) rfl ?_
  refine g_aload_n E dL_law_935 rfl rfl ?_
  refine g_aload_n E dL_law_936 rfl rfl ?_
  refine g_iload E dL_law_937 rfl ?_
  refine g_iconst E dL_law_939 ?_
  refine g_iadd E dL_law_940 ?_
  refine g_sld E hX hbl hbA dL_law_941 (j := i + 1) (by omega) (by omega) ?_
  refine g_callM E [0, 1] rfl hM (cwV 1 hts gL_law_X1_wouldMove rfl rfl rfl hdL_X1_wouldMove ⟨(Nat.le_of_ble_eq_true rfl), (Nat.le_of_ble_eq_true rfl)⟩) rfl rfl rfl (Nat.le_of_ble_eq_true rfl) heM rfl dL_law_942 hcs ?_
  refine g_istore E (lv' := [_, _, _, _, _, _, _]) dL_law_945 (Nat.le_of_ble_eq_true rfl) rfl ?_
  refine g_aload_n E dL_law_947 rfl rfl ?_
  refine g_callM E [0, 1] rfl hth (cwV 0 hts gL_law_X1_thrown rfl rfl rfl hdL_X1_thrown ⟨(Nat.le_of_ble_eq_true rfl), (Nat.le_of_ble_eq_true rfl)⟩) rfl rfl rfl (Nat.le_of_ble_eq_true rfl) heM' rfl dL_law_948 hcs ?_
  refine g_iload E dL_law_951 rfl ?_
  refine g_icmp_eq_t E dL_law_953 (tgt := 958) (by decide) (by omega) rfl ?_
  refine g_iload E dL_law_958 rfl ?_
  refine g_if_ne E dL_law_960 (tgt := 975) (by decide) (by omega) (fun hk => ?_) (fun hk => ?_)
  · exact g_goto E dL_law_975 (tgt := 1022) (by decide) (K _ _)
  · refine g_aload_n E dL_law_963 rfl rfl ?_
    refine g_iconst E dL_law_964 ?_
    refine g_swap ?_
    refine g_lald E 0 (o := o) (fL := fL') rfl dL_law_965 ?_
    refine g_swap ?_
    refine g_iload E dL_law_966 rfl ?_
    refine g_i2l E dL_law_968 ?_
    refine g_lcmp0 E (hkb hk) dL_law_969 ?_
    refine g_if_eq_t E dL_law_970 (tgt := 975) (by decide) (by omega) rfl ?_
    exact g_goto E dL_law_975 (tgt := 1022) (by decide) (K _ _)
set_option maxHeartbeats 4000000 in
set_option maxRecDepth 100000 in
theorem law_c19 {p : Program} {l : Launch} {e : Env} {s : State} {m : MethodId} {args : Array Value} {below : List Frame} {meth : Method} {c : Code} {cells slots : Nat} {Q : State → Prop} {A0 : Nat → Prop} {D : va_G} {cI cZ cL : ClassId} {b L o q qm : Nat} {xs : Nat → Int32} {fL : Nat → Int64} {wX wX' wM wM' : va_W} {fs fs2 fs3 : List Value} {i : Nat}
    (E : gE p s m args c RL cL_law 7 wsL_law D (gTyL cI cZ cL) A0) (hT : gKT A0 s s.heap) (hX : va_X b L xs s s.heap) (hbl : b < s.heap.size) (hbA : ¬ A0 b) (hi : i + 5 ≤ L ∧ L ≤ 2560) (hcs : cells + 1 ≤ 1059 ∧ slots + 6 ≤ 8648) (heX : wX[0]? = some (q, .inr (0, fs))) (heM : wM[0]? = some (qm, .inr (1, fs2))) (heM' : wM'[0]? = some (qm, .inr (1, fs3))) {fL' : Nat → Int64} {k9 bv : Int} (hk9 : 0 ≤ k9 ∧ k9 ≤ 3) (hkb : k9 = 0 → fL' 0 = (iI bv).toInt64)
    (hW : gMW l yL_bound wsL_bound D (gTyL cI cZ cL) (gO cL o fL :: wX) [.ref q, .ref o] k9 (gO cL o fL' :: wX')) (hM : gMI l yX1_bound wsX1_bound 6 D (gTy cI cZ) wM [.ref qm] bv wM') (hth : gMI l yX1_thrown wsX1_thrown 6 D (gTy cI cZ) wM' [.ref qm] k9 wM')
    (K : ∀ a5 a6 : Option Value, gJ p l e room_1 s m args below meth c (cells + 1) (slots + 6) Q A0 D (wM' ++ (gO cL o fL' :: wX')) [some (.ref b), some (.ref q), some (.ref qm), some (.ref o), some (.int (iI (i : Int))), a5, a6] 1022 []) : ∀ a5 a6 : Option Value, gJ p l e room_1 s m args below meth c cells slots Q A0 D (wM ++ (gO cL o fL :: wX)) [some (.ref b), some (.ref q), some (.ref qm), some (.ref o), some (.int (iI (i : Int))), a5, a6] 978 [] := by
  have hts := E.1.2.2.2.2
  intro a5 a6
  refine g_aload_n E dL_law_978 rfl rfl ?_
  refine g_aload_n E dL_law_979 rfl rfl ?_
  refine g_callSW E hT (wr := wM) hW (vx_cwSW 2 hts gL_law_L_bound rfl rfl rfl hdS_bound ⟨(Nat.le_of_ble_eq_true rfl), (Nat.le_of_ble_eq_true rfl)⟩) rfl rfl rfl (Nat.le_of_ble_eq_true rfl) dL_law_980 hcs ?_
  refine g_istore E (lv' := [_, _, _, _, _, _, _]) dL_law_983 (Nat.le_of_ble_eq_true rfl) rfl ?_
  refine g_aload_n E dL_law_985 rfl rfl ?_
  refine g_callM E [0, 1] rfl hM (cwV 0 hts gL_law_X1_bound rfl rfl rfl hdL_X1_bound ⟨(Nat.le_of_ble_eq_true rfl), (Nat.le_of_ble_eq_true rfl)⟩) rfl rfl rfl (Nat.le_of_ble_eq_true rfl) heM rfl dL_law_986 hcs ?_
  refine g_istore E (lv' := [_, _, _, _, _, _, _]) dL_law_989 (Nat.le_of_ble_eq_true rfl) rfl ?_
  refine g_aload_n E dL_law_991 rfl rfl ?_
  refine g_callM E [0, 1] rfl hth (cwV 0 hts gL_law_X1_thrown rfl rfl rfl hdL_X1_thrown ⟨(Nat.le_of_ble_eq_true rfl), (Nat.le_of_ble_eq_true rfl)⟩) rfl rfl rfl (Nat.le_of_ble_eq_true rfl) heM' rfl dL_law_992 hcs ?_
  refine g_iload E dL_law_995 rfl ?_
  refine g_icmp_eq_t E dL_law_997 (tgt := 1002) (by decide) (by omega) rfl ?_
  refine g_iload E dL_law_1002 rfl ?_
  refine g_if_ne E dL_law_1004 (tgt := 1019) (by decide) (by omega) (fun hk => ?_) (fun hk => ?_)
  · exact g_goto E dL_law_1019 (tgt := 1022) (by decide) (K _ _)
  · refine g_aload_n E dL_law_1007 rfl rfl ?_
    refine g_iconst E dL_law_1008 ?_
    refine g_swap ?_
    refine g_lald E 0 (o := o) (fL := fL') rfl dL_law_1009 ?_
    refine g_swap ?_
    refine g_iload E dL_law_1010 rfl ?_
    refine g_i2l E dL_law_1012 ?_
    refine g_lcmp0 E (hkb hk) dL_law_1013 ?_
    refine g_if_eq_t E dL_law_1014 (tgt := 1019) (by decide) (by omega) rfl ?_
    exact g_goto E dL_law_1019 (tgt := 1022) (by decide) (K _ _)
