set_option maxRecDepth 100000 in
theorem cl_addPlace_14 : Cond.classLink RL 14 gIA ∈ wsL_addPlace := by decide +kernel
set_option maxRecDepth 100000 in
theorem hdL_X0_addPlace : yX0_addPlace.cls = RX0 ∧ yX0_addPlace.cls ≠ "java/lang/invoke/MethodHandle" ∧ yX0_addPlace.cls ≠ "java/lang/invoke/VarHandle" ∧ (parseMethodDescriptor yX0_addPlace.desc).map (fun d => d.parameters.length) = some 1 := by decide +kernel
set_option maxRecDepth 100000 in
theorem kc_addPlace_16 : Cond.constant RL 16 (iI (-99999)) ∈ wsL_addPlace := by decide +kernel
set_option maxRecDepth 100000 in
theorem cl_latest_42 : Cond.classLink RL 42 gNS ∈ wsL_latest := by decide +kernel
set_option maxRecDepth 100000 in
theorem hdL_X0_latest : yX0_latest.cls = RX0 ∧ yX0_latest.cls ≠ "java/lang/invoke/MethodHandle" ∧ yX0_latest.cls ≠ "java/lang/invoke/VarHandle" ∧ (parseMethodDescriptor yX0_latest.desc).map (fun d => d.parameters.length) = some 0 := by decide +kernel
set_option maxRecDepth 100000 in
theorem cl_door_23 : Cond.classLink RL 23 gIX ∈ wsL_door := by decide +kernel
set_option maxRecDepth 100000 in
theorem cl_door_42 : Cond.classLink RL 42 gNS ∈ wsL_door := by decide +kernel
set_option maxRecDepth 100000 in
theorem hdL_X0_door : yX0_door.cls = RX0 ∧ yX0_door.cls ≠ "java/lang/invoke/MethodHandle" ∧ yX0_door.cls ≠ "java/lang/invoke/VarHandle" ∧ (parseMethodDescriptor yX0_door.desc).map (fun d => d.parameters.length) = some 1 := by decide +kernel
set_option maxRecDepth 100000 in
theorem hdL_X0_distance : yX0_distance.cls = RX0 ∧ yX0_distance.cls ≠ "java/lang/invoke/MethodHandle" ∧ yX0_distance.cls ≠ "java/lang/invoke/VarHandle" ∧ (parseMethodDescriptor yX0_distance.desc).map (fun d => d.parameters.length) = some 1 := by decide +kernel
set_option maxRecDepth 100000 in
theorem hdL_X0_bound : yX0_bound.cls = RX0 ∧ yX0_bound.cls ≠ "java/lang/invoke/MethodHandle" ∧ yX0_bound.cls ≠ "java/lang/invoke/VarHandle" ∧ (parseMethodDescriptor yX0_bound.desc).map (fun d => d.parameters.length) = some 0 := by decide +kernel
set_option maxRecDepth 100000 in
theorem kc_low_7 : Cond.constant RL 7 (iI 2147483647) ∈ wsL_low := by decide +kernel
set_option maxRecDepth 100000 in
theorem hdS_low : yL_low.cls ≠ "java/lang/invoke/MethodHandle" ∧ yL_low.cls ≠ "java/lang/invoke/VarHandle" ∧ (parseMethodDescriptor yL_low.desc).map (fun d => d.parameters.length) = some 2 := by decide +kernel
set_option maxRecDepth 100000 in
theorem hdL_X0_places : yX0_places.cls = RX0 ∧ yX0_places.cls ≠ "java/lang/invoke/MethodHandle" ∧ yX0_places.cls ≠ "java/lang/invoke/VarHandle" ∧ (parseMethodDescriptor yX0_places.desc).map (fun d => d.parameters.length) = some 0 := by decide +kernel
set_option maxRecDepth 100000 in
theorem hdS_addPlace : yL_addPlace.cls ≠ "java/lang/invoke/MethodHandle" ∧ yL_addPlace.cls ≠ "java/lang/invoke/VarHandle" ∧ (parseMethodDescriptor yL_addPlace.desc).map (fun d => d.parameters.length) = some 2 := by decide +kernel
set_option maxRecDepth 100000 in
theorem hdL_X0_doors : yX0_doors.cls = RX0 ∧ yX0_doors.cls ≠ "java/lang/invoke/MethodHandle" ∧ yX0_doors.cls ≠ "java/lang/invoke/VarHandle" ∧ (parseMethodDescriptor yX0_doors.desc).map (fun d => d.parameters.length) = some 0 := by decide +kernel
set_option maxRecDepth 100000 in
theorem hdL_X0_now : yX0_now.cls = RX0 ∧ yX0_now.cls ≠ "java/lang/invoke/MethodHandle" ∧ yX0_now.cls ≠ "java/lang/invoke/VarHandle" ∧ (parseMethodDescriptor yX0_now.desc).map (fun d => d.parameters.length) = some 0 := by decide +kernel
set_option maxRecDepth 100000 in
theorem hdL_X0_inside : yX0_inside.cls = RX0 ∧ yX0_inside.cls ≠ "java/lang/invoke/MethodHandle" ∧ yX0_inside.cls ≠ "java/lang/invoke/VarHandle" ∧ (parseMethodDescriptor yX0_inside.desc).map (fun d => d.parameters.length) = some 0 := by decide +kernel
set_option maxRecDepth 100000 in
theorem hdL_X0_waited : yX0_waited.cls = RX0 ∧ yX0_waited.cls ≠ "java/lang/invoke/MethodHandle" ∧ yX0_waited.cls ≠ "java/lang/invoke/VarHandle" ∧ (parseMethodDescriptor yX0_waited.desc).map (fun d => d.parameters.length) = some 0 := by decide +kernel
set_option maxRecDepth 100000 in
theorem hdL_X0_trapped : yX0_trapped.cls = RX0 ∧ yX0_trapped.cls ≠ "java/lang/invoke/MethodHandle" ∧ yX0_trapped.cls ≠ "java/lang/invoke/VarHandle" ∧ (parseMethodDescriptor yX0_trapped.desc).map (fun d => d.parameters.length) = some 0 := by decide +kernel
set_option maxRecDepth 100000 in
theorem hdL_X0_people : yX0_people.cls = RX0 ∧ yX0_people.cls ≠ "java/lang/invoke/MethodHandle" ∧ yX0_people.cls ≠ "java/lang/invoke/VarHandle" ∧ (parseMethodDescriptor yX0_people.desc).map (fun d => d.parameters.length) = some 1 := by decide +kernel
set_option maxRecDepth 100000 in
theorem hdL_X0_wouldMove : yX0_wouldMove.cls = RX0 ∧ yX0_wouldMove.cls ≠ "java/lang/invoke/MethodHandle" ∧ yX0_wouldMove.cls ≠ "java/lang/invoke/VarHandle" ∧ (parseMethodDescriptor yX0_wouldMove.desc).map (fun d => d.parameters.length) = some 1 := by decide +kernel
set_option maxRecDepth 100000 in
theorem hdS_latest : yL_latest.cls ≠ "java/lang/invoke/MethodHandle" ∧ yL_latest.cls ≠ "java/lang/invoke/VarHandle" ∧ (parseMethodDescriptor yL_latest.desc).map (fun d => d.parameters.length) = some 1 := by decide +kernel
set_option maxRecDepth 100000 in
theorem hdS_distance : yL_distance.cls ≠ "java/lang/invoke/MethodHandle" ∧ yL_distance.cls ≠ "java/lang/invoke/VarHandle" ∧ (parseMethodDescriptor yL_distance.desc).map (fun d => d.parameters.length) = some 2 := by decide +kernel
set_option maxRecDepth 100000 in
theorem hdS_door : yL_door.cls ≠ "java/lang/invoke/MethodHandle" ∧ yL_door.cls ≠ "java/lang/invoke/VarHandle" ∧ (parseMethodDescriptor yL_door.desc).map (fun d => d.parameters.length) = some 2 := by decide +kernel
set_option maxRecDepth 100000 in
theorem hdS_bound : yL_bound.cls ≠ "java/lang/invoke/MethodHandle" ∧ yL_bound.cls ≠ "java/lang/invoke/VarHandle" ∧ (parseMethodDescriptor yL_bound.desc).map (fun d => d.parameters.length) = some 1 := by decide +kernel
set_option maxRecDepth 100000 in
theorem hdL_X0_step : yX0_step.cls = RX0 ∧ yX0_step.cls ≠ "java/lang/invoke/MethodHandle" ∧ yX0_step.cls ≠ "java/lang/invoke/VarHandle" ∧ (parseMethodDescriptor yX0_step.desc).map (fun d => d.parameters.length) = some 1 := by decide +kernel
/-! ===== a fresh bench: the outside alone, nobody, no door, time t ===== -/
abbrev zX (cI cZ : ClassId) (q : Nat) (r : Nat → Nat) (t : Int) : va_W := gX cI cZ q r [((1 : Nat) : Int), ((0 : Nat) : Int), t, -1, 0] [fun _ => 0, fun _ => 0, fun _ => 0, fun _ => 0, gu (fun _ => 0) 0 (-1), fun _ => 0, fun _ => 0, fun _ => 0, fun _ => 0, fun _ => 0, fun _ => 0, fun _ => 0, fun _ => 0, fun _ => 0]
theorem zB0 : ∀ j : Nat, -2147483648 ≤ (fun _ : Nat => (0 : Int)) j ∧ (fun _ : Nat => (0 : Int)) j < 2147483648 := fun j => by show -2147483648 ≤ (0 : Int) ∧ (0 : Int) < 2147483648; omega
theorem zB4 : ∀ j : Nat, -2147483648 ≤ (gu (fun _ => 0) 0 (-1)) j ∧ (gu (fun _ => 0) 0 (-1)) j < 2147483648 := gu_B zB0 (by omega)
theorem z4 : (gu (fun _ => (0 : Int)) 0 (-1)) 0 = -1 := rfl
theorem zok {t : Int} (ht : 0 ≤ t ∧ t ≤ 1000) : xOk 1 0 (fun _ => 0) (fun _ => 0) (fun _ => 0) (fun _ => 0) (fun _ => 0) (fun _ => 0) (fun _ => 0, fun _ => 0, fun _ => 0, t, -1, 0) := by
  refine ⟨⟨?_, ?_⟩, fun j h1 h2 => absurd h2 (by omega), ⟨?_, ?_⟩, ⟨?_, ?_⟩, ⟨?_, ?_⟩, ?_, ?_⟩
  · show -2147483648 ≤ t; omega
  · show t < 2147483647; omega
  · show (0 : Int) ≤ 0; omega
  · show (0 : Int) < 1073741824; omega
  · show -2147483648 ≤ (0 : Int); omega
  · show (0 : Int) < 2147483648; omega
  · show -2147483648 ≤ (0 : Int); omega
  · show (0 : Int) < 2147483648; omega
  · show -2147483648 ≤ (0 : Int); omega
  · show (0 : Int) < 2147483648; omega
theorem zX_places {l : Launch} {D : va_G} {cI cZ : ClassId} {q : Nat} {r : Nat → Nat} {t : Int} : gMI l yX0_places wsX0_places 6 D (gTy cI cZ) (zX cI cZ q r t) [.ref q] 1 (zX cI cZ q r t) := cX_places
theorem zX_doors {l : Launch} {D : va_G} {cI cZ : ClassId} {q : Nat} {r : Nat → Nat} {t : Int} : gMI l yX0_doors wsX0_doors 6 D (gTy cI cZ) (zX cI cZ q r t) [.ref q] 0 (zX cI cZ q r t) := cX_doors
theorem zX_now {l : Launch} {D : va_G} {cI cZ : ClassId} {q : Nat} {r : Nat → Nat} {t : Int} : gMI l yX0_now wsX0_now 6 D (gTy cI cZ) (zX cI cZ q r t) [.ref q] t (zX cI cZ q r t) := cX_now
theorem zX_waited {l : Launch} {D : va_G} {cI cZ : ClassId} {q : Nat} {r : Nat → Nat} {t : Int} : gMI l yX0_waited wsX0_waited 6 D (gTy cI cZ) (zX cI cZ q r t) [.ref q] 0 (zX cI cZ q r t) := cX_waited
theorem zX_inside {l : Launch} {D : va_G} {cI cZ : ClassId} {q : Nat} {r : Nat → Nat} {t : Int} : gMI l yX0_inside wsX0_inside 0 D (gTy cI cZ) (zX cI cZ q r t) [.ref q] 0 (zX cI cZ q r t) := cX_inside ⟨by omega, by omega⟩
theorem zX_trapped {l : Launch} {D : va_G} {cI cZ : ClassId} {q : Nat} {r : Nat → Nat} {t : Int} : gMI l yX0_trapped wsX0_trapped 0 D (gTy cI cZ) (zX cI cZ q r t) [.ref q] 0 (zX cI cZ q r t) := cX_trapped ⟨by omega, by omega⟩ zB0
theorem zX_people {l : Launch} {D : va_G} {cI cZ : ClassId} {q : Nat} {r : Nat → Nat} {t : Int} : gMI l yX0_people wsX0_people 6 D (gTy cI cZ) (zX cI cZ q r t) [.ref q, .int (iI 0)] 0 (zX cI cZ q r t) := cX_people (i := 0) ⟨by omega, by omega⟩ (by omega)
theorem zX_wouldMove {l : Launch} {D : va_G} {cI cZ : ClassId} {q : Nat} {r : Nat → Nat} {t : Int} : gMI l yX0_wouldMove wsX0_wouldMove 6 D (gTy cI cZ) (zX cI cZ q r t) [.ref q, .int (iI 0)] 0 (zX cI cZ q r t) := cX_wouldMove0 (i := 0) ⟨by omega, by omega⟩ (by omega) (by omega) zB4 (by rw [z4]; omega)
theorem zX_distance {l : Launch} {D : va_G} {cI cZ : ClassId} {q : Nat} {r : Nat → Nat} {t : Int} : gMI l yX0_distance wsX0_distance 6 D (gTy cI cZ) (zX cI cZ q r t) [.ref q, .int (iI 0)] 0 (zX cI cZ q r t) := cX_distance (i := 0) ⟨by omega, by omega⟩ (by omega) zB0 (by show (0 : Int) ≠ -1; omega)
theorem zX_bound {l : Launch} {D : va_G} {cI cZ : ClassId} {q : Nat} {r : Nat → Nat} {t : Int} : gMI l yX0_bound wsX0_bound 6 D (gTy cI cZ) (zX cI cZ q r t) [.ref q] 0 (zX cI cZ q r t) := cX_bound ⟨by omega, by omega⟩ (by omega) zB0 zB0 (fun j h => absurd h (by omega)) (fun j h => absurd h (by omega)) (fun d h1 h2 => absurd h2 (by omega)) rfl
theorem zX_step {l : Launch} {D : va_G} {cI cZ : ClassId} {q : Nat} {r : Nat → Nat} {t : Int} (ht : 0 ≤ t ∧ t ≤ 1000) : gMI l yX0_step wsX0_step 6 D (gTy cI cZ) (zX cI cZ q r t) [.ref q, .int (iI 1)] 0 (zX cI cZ q r (t + 1)) := cX_step (n := 1) ⟨by omega, by omega⟩ ⟨by omega, by omega⟩ (by omega) zB0 zB0 zB0 (fun j h => absurd h (by omega)) (fun k hk => by have hk0 : k = 0 := (by omega); subst hk0; exact zok ht)
theorem zX_clear {l : Launch} {D : va_G} {cI cZ : ClassId} {q : Nat} {r : Nat → Nat} {t : Int} (ht : 0 ≤ t ∧ t ≤ 1000) : gMI l yX0_clear wsX0_clear 6 D (gTy cI cZ) (zX cI cZ q r t) [.ref q] 0 (zX cI cZ q r t) := cX_clear (n := 0) ⟨by omega, by omega⟩ (by omega) zB0 zB0 zB0 (fun j h => absurd h (by omega)) (fun k hk => by have hk0 : k = 0 := (by omega); subst hk0; exact zok ht) (by omega) (fun k hk => absurd hk (by omega)) (fun k hk => absurd hk (by omega)) (Or.inr (Or.inl (by show (0 : Int) ≤ 0; omega)))
theorem zT_addPlace {l : Launch} {D : va_G} {cI cZ : ClassId} {q : Nat} {r : Nat → Nat} {t : Int} (hfl : l.stackTraces = false) : gMT l yX0_addPlace wsX0_addPlace 7 D (gTy cI cZ) (zX cI cZ q r t) [.ref q, .int (iI 0)] gIA := tX_addPlace1 hfl (by omega) (by omega)
theorem zT_latest {l : Launch} {D : va_G} {cI cZ : ClassId} {q : Nat} {r : Nat → Nat} {t : Int} (hfl : l.stackTraces = false) : gMT l yX0_latest wsX0_latest 7 D (gTy cI cZ) (zX cI cZ q r t) [.ref q] gNS := tX_latest1 hfl rfl
theorem zT_door {l : Launch} {D : va_G} {cI cZ : ClassId} {q : Nat} {r : Nat → Nat} {t : Int} (hfl : l.stackTraces = false) : gMT l yX0_door wsX0_door 7 D (gTy cI cZ) (zX cI cZ q r t) [.ref q, .int (iI 0)] gNS := tX_door2 (i := 0) hfl ⟨by omega, by omega⟩ (by omega) rfl
set_option maxHeartbeats 4000000 in
set_option maxRecDepth 100000 in
theorem wL_addPlace {l : Launch} {D : va_G} {cI cZ cL : ClassId} {q : Nat} {r : Nat → Nat} {t : Int} (hfl : l.stackTraces = false) : gMN l yL_addPlace wsL_addPlace (rK 8 1) 1 D (gTyL cI cZ cL) (zX cI cZ q r t) [.ref q, .int (iI 0)] (-99999) (zX cI cZ q r t) := by
  refine g_ofNW (by decide +kernel) rfl rfl (Nat.le_of_ble_eq_true rfl) (g_cat1 rfl) ?_
  intro p e s m args below meth c Q A0 E C htab hret
  have hts := E.1.2.2.2.2
  show gJ p l e (rK 8 1) s m args below meth c 0 0 Q A0 D (zX cI cZ q r t) [some (.ref q), some (.int (iI 0)), none] 0 []
  refine g_aload_n E dL_addPlace_0 rfl rfl ?_
  refine g_iload_n E dL_addPlace_1 rfl rfl ?_
  refine g_callCW E [0, 1] rfl (wr := []) (zT_addPlace hfl) C htab [] ⟨0, 5, 6, 14⟩ [⟨0, 5, 10, 17⟩] rfl (fun z hz => nomatch hz) (by decide) (by decide) cl_addPlace_14 (by decide +kernel) (cwV 1 hts gL_addPlace_X0_addPlace rfl rfl rfl hdL_X0_addPlace ⟨(Nat.le_of_ble_eq_true rfl), (Nat.le_of_ble_eq_true rfl)⟩) rfl rfl rfl (Nat.le_of_ble_eq_true rfl) rfl rfl dL_addPlace_2 (by decide) (fun a Hb' C E => ?_)
  refine g_astore_n E (lv' := [_, _, _]) dL_addPlace_6 rfl (Nat.le_of_ble_eq_true rfl) rfl ?_
  refine g_ldcI E kc_addPlace_16 dL_addPlace_7 ?_
  exact hret _ _ _ (C.mono (by omega)) dL_addPlace_9
set_option maxHeartbeats 4000000 in
set_option maxRecDepth 100000 in
theorem wL_latest {l : Launch} {D : va_G} {cI cZ cL : ClassId} {q : Nat} {r : Nat → Nat} {t : Int} (hfl : l.stackTraces = false) : gMN l yL_latest wsL_latest (rK 8 1) 1 D (gTyL cI cZ cL) (zX cI cZ q r t) [.ref q] (-1) (zX cI cZ q r t) := by
  refine g_ofNW (by decide +kernel) rfl rfl (Nat.le_of_ble_eq_true rfl) (g_cat1 rfl) ?_
  intro p e s m args below meth c Q A0 E C htab hret
  have hts := E.1.2.2.2.2
  show gJ p l e (rK 8 1) s m args below meth c 0 0 Q A0 D (zX cI cZ q r t) [some (.ref q), none] 0 []
  refine g_aload_n E dL_latest_0 rfl rfl ?_
  refine g_callCW E [0, 1] rfl (wr := []) (zT_latest hfl) C htab [] ⟨0, 4, 5, 42⟩ [] rfl (fun z hz => nomatch hz) (by decide) (by decide) cl_latest_42 (by decide +kernel) (cwV 0 hts gL_latest_X0_latest rfl rfl rfl hdL_X0_latest ⟨(Nat.le_of_ble_eq_true rfl), (Nat.le_of_ble_eq_true rfl)⟩) rfl rfl rfl (Nat.le_of_ble_eq_true rfl) rfl rfl dL_latest_1 (by decide) (fun a Hb' C E => ?_)
  refine g_astore_n E (lv' := [_, _]) dL_latest_5 rfl (Nat.le_of_ble_eq_true rfl) rfl ?_
  refine g_iconst E dL_latest_6 ?_
  exact hret _ _ _ (C.mono (by omega)) dL_latest_7
set_option maxHeartbeats 4000000 in
set_option maxRecDepth 100000 in
theorem wL_door {l : Launch} {D : va_G} {cI cZ cL : ClassId} {q : Nat} {r : Nat → Nat} {t : Int} (hfl : l.stackTraces = false) : gMN l yL_door wsL_door (rK 8 1) 1 D (gTyL cI cZ cL) (zX cI cZ q r t) [.ref q, .int (iI 0)] (-1) (zX cI cZ q r t) := by
  refine g_ofNW (by decide +kernel) rfl rfl (Nat.le_of_ble_eq_true rfl) (g_cat1 rfl) ?_
  intro p e s m args below meth c Q A0 E C htab hret
  have hts := E.1.2.2.2.2
  show gJ p l e (rK 8 1) s m args below meth c 0 0 Q A0 D (zX cI cZ q r t) [some (.ref q), some (.int (iI 0)), none] 0 []
  refine g_aload_n E dL_door_0 rfl rfl ?_
  refine g_iload_n E dL_door_1 rfl rfl ?_
  refine g_callCW E [0, 1] rfl (wr := []) (zT_door hfl) C htab [⟨0, 5, 6, 23⟩] ⟨0, 5, 10, 42⟩ [] rfl (fun z hz => by (rcases List.mem_singleton.mp hz with rfl; exact ⟨by decide, gIX, cl_door_23, by decide +kernel⟩)) (by decide) (by decide) cl_door_42 (by decide +kernel) (cwV 1 hts gL_door_X0_door rfl rfl rfl hdL_X0_door ⟨(Nat.le_of_ble_eq_true rfl), (Nat.le_of_ble_eq_true rfl)⟩) rfl rfl rfl (Nat.le_of_ble_eq_true rfl) rfl rfl dL_door_2 (by decide) (fun a Hb' C E => ?_)
  refine g_astore_n E (lv' := [_, _, _]) dL_door_10 rfl (Nat.le_of_ble_eq_true rfl) rfl ?_
  refine g_iconst E dL_door_11 ?_
  exact hret _ _ _ (C.mono (by omega)) dL_door_12
set_option maxHeartbeats 4000000 in
set_option maxRecDepth 100000 in
theorem wL_distance {l : Launch} {D : va_G} {cI cZ cL : ClassId} {q : Nat} {r : Nat → Nat} {t : Int} : gMN l yL_distance wsL_distance (rK 8 0) 0 D (gTyL cI cZ cL) (zX cI cZ q r t) [.ref q, .int (iI 0)] 0 (zX cI cZ q r t) := by
  refine g_ofNW (by decide +kernel) rfl rfl (Nat.le_of_ble_eq_true rfl) (g_cat1 rfl) ?_
  intro p e s m args below meth c Q A0 E C htab hret
  have hts := E.1.2.2.2.2
  show gJ p l e (rK 8 0) s m args below meth c 0 0 Q A0 D (zX cI cZ q r t) [some (.ref q), some (.int (iI 0)), none] 0 []
  refine g_aload_n E dL_distance_0 rfl rfl ?_
  refine g_iload_n E dL_distance_1 rfl rfl ?_
  refine g_callIW E [0, 1] rfl (wr := []) zX_distance (cwV 1 hts gL_distance_X0_distance rfl rfl rfl hdL_X0_distance ⟨(Nat.le_of_ble_eq_true rfl), (Nat.le_of_ble_eq_true rfl)⟩) rfl rfl rfl (Nat.le_of_ble_eq_true rfl) rfl rfl dL_distance_2 (by decide) ?_
  exact hret _ _ _ C dL_distance_5
set_option maxHeartbeats 4000000 in
set_option maxRecDepth 100000 in
theorem wL_bound {l : Launch} {D : va_G} {cI cZ cL : ClassId} {q : Nat} {r : Nat → Nat} {t : Int} : gMN l yL_bound wsL_bound (rK 8 0) 0 D (gTyL cI cZ cL) (zX cI cZ q r t) [.ref q] 0 (zX cI cZ q r t) := by
  refine g_ofNW (by decide +kernel) rfl rfl (Nat.le_of_ble_eq_true rfl) (g_cat1 rfl) ?_
  intro p e s m args below meth c Q A0 E C htab hret
  have hts := E.1.2.2.2.2
  show gJ p l e (rK 8 0) s m args below meth c 0 0 Q A0 D (zX cI cZ q r t) [some (.ref q), none] 0 []
  refine g_aload_n E dL_bound_0 rfl rfl ?_
  refine g_callIW E [0, 1] rfl (wr := []) zX_bound (cwV 0 hts gL_bound_X0_bound rfl rfl rfl hdL_X0_bound ⟨(Nat.le_of_ble_eq_true rfl), (Nat.le_of_ble_eq_true rfl)⟩) rfl rfl rfl (Nat.le_of_ble_eq_true rfl) rfl rfl dL_bound_1 (by decide) ?_
  exact hret _ _ _ C dL_bound_4
set_option maxHeartbeats 4000000 in
set_option maxRecDepth 100000 in
theorem zL_low {l : Launch} {D : va_G} {tys : List (ClassId × FieldType)} {n : Int} (hn : 1 ≤ n ∧ n ≤ 2000) : gMI l yL_low wsL_low 0 D tys [] [.int (iI 0), .int (iI n)] 0 [] := by
  refine g_ofI (ty := .int) (by decide +kernel) rfl rfl (Nat.le_of_ble_eq_true rfl) (g_cat1 rfl) rfl ?_
  intro p e s m args below meth c Q A0 E hret
  have hts := E.1.2.2.2.2
  show gJ p l e (gR 0) s m args below meth c 0 0 Q A0 D [] [some (.int (iI 0)), some (.int (iI n))] 0 []
  refine g_iload_n E dL_low_0 rfl rfl ?_
  refine g_ldcI E kc_low_7 dL_low_1 ?_
  refine g_iandZ E dL_low_3 (v := 0) (by decide) ?_
  refine g_iload_n E dL_low_4 rfl rfl ?_
  refine g_irem E dL_low_5 ⟨by omega, by omega, by omega, by omega⟩ ?_
  exact g_ri (Int.zero_emod n) hret dL_low_6
