theorem uX0_in : ∀ w ∈ u_ws RX0 TX0 19, w ∈ lw_tbl := by decide +kernel
theorem uX1_in : ∀ w ∈ u_ws RX1 TX1 19, w ∈ lw_tbl := by decide +kernel
theorem fs0_ok : ∀ j, j < 19 → defaultValue (tyX0 j) = vp_V [.int (iI 0), .null, .null, .null, .null, .null, .int (iI 0), .null, .null, .null, .null, .null, .null, .null, .null, .null, .int (iI 0), .int (iI 0), .int (iI 0)] j := fun j hj => by
  rcases (show j = 0 ∨ j = 1 ∨ j = 2 ∨ j = 3 ∨ j = 4 ∨ j = 5 ∨ j = 6 ∨ j = 7 ∨ j = 8 ∨ j = 9 ∨ j = 10 ∨ j = 11 ∨ j = 12 ∨ j = 13 ∨ j = 14 ∨ j = 15 ∨ j = 16 ∨ j = 17 ∨ j = 18 by omega) with rfl | rfl | rfl | rfl | rfl | rfl | rfl | rfl | rfl | rfl | rfl | rfl | rfl | rfl | rfl | rfl | rfl | rfl | rfl <;> rfl
theorem fs1_ok : ∀ j, j < 19 → defaultValue (tyX1 j) = vp_V [.int (iI 0), .int (iI 0), .null, .null, .null, .int (iI 0), .null, .null, .null, .null, .null, .null, .int (iI 0), .int (iI 0), .int (iI 0), .null, .null, .null, .null] j := fun j hj => by
  rcases (show j = 0 ∨ j = 1 ∨ j = 2 ∨ j = 3 ∨ j = 4 ∨ j = 5 ∨ j = 6 ∨ j = 7 ∨ j = 8 ∨ j = 9 ∨ j = 10 ∨ j = 11 ∨ j = 12 ∨ j = 13 ∨ j = 14 ∨ j = 15 ∨ j = 16 ∨ j = 17 ∨ j = 18 by omega) with rfl | rfl | rfl | rfl | rfl | rfl | rfl | rfl | rfl | rfl | rfl | rfl | rfl | rfl | rfl | rfl | rfl | rfl | rfl <;> rfl
theorem hdI_X0 : yX0_init.cls ≠ "java/lang/invoke/MethodHandle" ∧ yX0_init.cls ≠ "java/lang/invoke/VarHandle" ∧ (parseMethodDescriptor yX0_init.desc).map (fun d => d.parameters.length) = some 0 := by decide +kernel
theorem hdI_X1 : yX1_init.cls ≠ "java/lang/invoke/MethodHandle" ∧ yX1_init.cls ≠ "java/lang/invoke/VarHandle" ∧ (parseMethodDescriptor yX1_init.desc).map (fun d => d.parameters.length) = some 0 := by decide +kernel
theorem wI_1 : Cond.classLink RL 8 RX0 ∈ lw_tbl ∧ Cond.instantiable RX0 19 ∈ lw_tbl ∧ Cond.initialized RX0 ∈ lw_tbl ∧ Cond.methodLink RL 61 yX0_init ∈ lw_tbl ∧ Cond.instanceMethod yX0_init ∈ lw_tbl := by decide +kernel
theorem wI_2 : Cond.classLink RL 62 RX1 ∈ lw_tbl ∧ Cond.instantiable RX1 19 ∈ lw_tbl ∧ Cond.initialized RX1 ∈ lw_tbl ∧ Cond.methodLink RL 64 yX1_init ∈ lw_tbl ∧ Cond.instanceMethod yX1_init ∈ lw_tbl := by decide +kernel
theorem wI_3 : Cond.arrayClass .int ∈ lw_tbl ∧ Cond.arrayClass .boolean ∈ lw_tbl ∧ Cond.arrayClass .long ∈ lw_tbl := by decide +kernel
set_option maxHeartbeats 4000000 in
/-- from the entry, for every script of at most 2560 ints, the law comes to its end with true -/
theorem whole_start {p : Program} {e : Env} {s : State} {m : MethodId} {below : List Frame} {meth : Method} {c : Code} (l : Launch) (hflags : l.flags = flags0) {b L : Nat} {xs : Nat → Int32} (hL : L ≤ 2560) (C0 : lw_At p s m meth c b L xs) : W p l e room_1 s m #[Value.ref b] below meth c s.heap [] 0 0 (lw_Z below #[Value.ref b] s) (entryFrame m ([Value.ref b] : List Value).toArray 7) := by
  obtain ⟨hx, hb, hr, hml, hown, hts, hX, hbl, hlocks, hgv⟩ := id C0
  have hfl : l.stackTraces = false := by
    unfold Launch.stackTraces
    rw [hflags]
    decide +kernel
  obtain ⟨n1, n2, n3, n4, n5⟩ := wI_1
  obtain ⟨k1, k2, k3, k4, k5⟩ := wI_2
  obtain ⟨j1, j2, j3⟩ := wI_3
  obtain ⟨c0, iS0, hKn0⟩ := u_known (C := RX0) (T := TX0) (N := 19) (n := 19) hts uX0_in (hts _ n2)
  obtain ⟨c1, iS1, hKn1⟩ := u_known (C := RX1) (T := TX1) (N := 19) (n := 19) hts uX1_in (hts _ k2)
  obtain ⟨D, hKc⟩ : ∃ (D : va_G), ∀ (k : Nat) (q : vw_C), vwCl[k]? = some q → u_Kn s q.1 q.2.1 q.2.2 (D.1 k) (D.2 k) := by
    refine ⟨(fun k => if k = 0 then c0 else c1, fun k => if k = 0 then iS0 else iS1), ?_⟩
    intro k q hq
    match k, hq with
    | 0, hq => cases hq; exact hKn0
    | 1, hq => cases hq; exact hKn1
    | k + 2, hq => simp [vwCl] at hq
  obtain ⟨cI, aI, fI⟩ := g_arr (hts _ j1)
  obtain ⟨cZ, aZ, fZ⟩ := g_arr (hts _ j2)
  obtain ⟨cL, aL, fL⟩ := g_arr (hts _ j3)
  have hK : va_K D vwCl (gTyL cI cZ cL) s := ⟨hKc, fun k q h => by
    match k, h with
    | 0, h => cases h; exact ⟨aI, fI⟩
    | 1, h => cases h; exact ⟨aZ, fZ⟩
    | 2, h => cases h; exact ⟨aL, fL⟩
    | k + 3, h => simp [gTyL] at h⟩
  have E1 : gE p s m #[Value.ref b] c RL cL_law 7 lw_tbl D (gTyL cI cZ cL) (fun q => s.heap.size ≤ q) := ⟨⟨hx, hb, hml, hown, hts⟩, hK, fun _ h => h⟩
  have E : gE p s m #[Value.ref b] c RL cL_law 7 wsL_law D (gTyL cI cZ cL) (fun q => s.heap.size ≤ q) := ⟨⟨hx, hb, hml, hown, fun w hw => hts w (wsL_law_in w hw)⟩, hK, fun _ h => h⟩
  have hts2 := E.1.2.2.2.2
  have hT := gKT_start hts hgv
  have hEnd : ∀ (cells slots : Nat) (ws : va_W) (lv : List (Option Value)), cells ≤ 1059 → slots ≤ 8648 → gJ p l e room_1 s m #[Value.ref b] below meth c cells slots (lw_Z below #[Value.ref b] s) (fun q => s.heap.size ≤ q) D ws lv 1028 [] := by
    intro cells slots ws lv h1 h2 H locs ls hP hD hS hL
    refine lv_iconst (v := 1) hx hb dL_law_1028 (by decide) ?_
    refine va_forget (fun q hq => hS.2.2 q hq) ?_
    refine W.widen (k := 1059) (n := 8648) h1 h2 ?_
    exact lw_ret hx hb hr hlocks dL_law_1029
  have main : gJ p l e room_1 s m #[Value.ref b] below meth c 0 0 (lw_Z below #[Value.ref b] s) (fun q => s.heap.size ≤ q) D [] [some (.ref b), none, none, none, none, none, none] 0 [] := by
    refine g_newO E1 (ci := 0) uX0_in tyX0 tyX0_ok n1 n2 n3 rfl fs0_ok ⟨(Nat.le_of_ble_eq_true rfl), (Nat.le_of_ble_eq_true rfl)⟩ dL_law_0 (fun q => ?_)
    refine g_dup E dL_law_3 rfl ?_
    refine g_callK E [0, 1] rfl (wr := []) (cX_init (l := l) (D := D) (cI := cI) (cZ := cZ) (q := q)) (cwI 0 hts2 gL_law_X0_init rfl rfl rfl (hts _ n3) (hts _ n4) (hts _ n5) rfl hdI_X0 ⟨(Nat.le_of_ble_eq_true rfl), (Nat.le_of_ble_eq_true rfl)⟩) rfl (Nat.le_of_ble_eq_true rfl) dL_law_4 ⟨(Nat.le_of_ble_eq_true rfl), (Nat.le_of_ble_eq_true rfl)⟩ (fun r => ?_)
    refine g_astore_n E (lv' := [some (.ref b), some (.ref q), none, none, none, none, none]) dL_law_7 rfl (Nat.le_of_ble_eq_true rfl) rfl ?_
    refine g_newO E1 (ci := 1) uX1_in tyX1 tyX1_ok k1 k2 k3 rfl fs1_ok ⟨(Nat.le_of_ble_eq_true rfl), (Nat.le_of_ble_eq_true rfl)⟩ dL_law_8 (fun qm => ?_)
    refine g_dup E dL_law_11 rfl ?_
    refine g_callK E [0, 1] rfl (cM_init (l := l) (D := D) (cI := cI) (cZ := cZ) (q := qm)) (cwI 0 hts2 gL_law_X1_init rfl rfl rfl (hts _ k3) (hts _ k4) (hts _ k5) rfl hdI_X1 ⟨(Nat.le_of_ble_eq_true rfl), (Nat.le_of_ble_eq_true rfl)⟩) rfl (Nat.le_of_ble_eq_true rfl) dL_law_12 ⟨(Nat.le_of_ble_eq_true rfl), (Nat.le_of_ble_eq_true rfl)⟩ (fun rm' => ?_)
    refine g_astore_n E (lv' := [some (.ref b), some (.ref q), some (.ref qm), none, none, none, none]) dL_law_15 rfl (Nat.le_of_ble_eq_true rfl) rfl ?_
    refine g_iconst E dL_law_16 ?_
    refine g_newL E1 j3 dL_law_17 ⟨(Nat.le_of_ble_eq_true rfl), (Nat.le_of_ble_eq_true rfl)⟩ (fun o => ?_)
    refine g_rot ?_
    refine g_astore_n E (lv' := [some (.ref b), some (.ref q), some (.ref qm), some (.ref o), none, none, none]) dL_law_19 rfl (Nat.le_of_ble_eq_true rfl) rfl ?_
    refine g_iconst E dL_law_20 ?_
    refine g_istore E (lv' := [some (.ref b), some (.ref q), some (.ref qm), some (.ref o), some (.int (iI 0)), none, none]) dL_law_21 (Nat.le_of_ble_eq_true rfl) rfl ?_
    exact law_loop hfl E hT hX hbl (Nat.not_le.mpr hbl) hL hEnd _ _ _ none none gRW_start
  have hl := lv_entry ([.ref b]) (n := 7) (Nat.le_of_ble_eq_true rfl)
  rw [lg_entry_eq]
  exact main s.heap [] _ (fun k q h => by simp at h) ⟨fun i j p q h => by simp at h, fun k q h => by simp at h⟩ va_S.rf (gL_entry (l := [.ref b]) (n := 7) (Nat.le_of_ble_eq_true rfl) (g_cat1 rfl) hl)
