/-! ===== from the law's entry: on a script of sixty zeros the heap grows by 141 cells at least ===== -/
theorem uX0_in : ∀ w ∈ u_ws RX0 TX0 19, w ∈ lw_tbl := by decide +kernel
theorem fs0_ok : ∀ j, j < 19 → defaultValue (tyX0 j) = vp_V [.int (iI 0), .null, .null, .null, .null, .null, .int (iI 0), .null, .null, .null, .null, .null, .null, .null, .null, .null, .int (iI 0), .int (iI 0), .int (iI 0)] j := fun j hj => by
  rcases (show j = 0 ∨ j = 1 ∨ j = 2 ∨ j = 3 ∨ j = 4 ∨ j = 5 ∨ j = 6 ∨ j = 7 ∨ j = 8 ∨ j = 9 ∨ j = 10 ∨ j = 11 ∨ j = 12 ∨ j = 13 ∨ j = 14 ∨ j = 15 ∨ j = 16 ∨ j = 17 ∨ j = 18 by omega) with rfl | rfl | rfl | rfl | rfl | rfl | rfl | rfl | rfl | rfl | rfl | rfl | rfl | rfl | rfl | rfl | rfl | rfl | rfl <;> rfl
theorem hdI_X0 : yX0_init.cls ≠ "java/lang/invoke/MethodHandle" ∧ yX0_init.cls ≠ "java/lang/invoke/VarHandle" ∧ (parseMethodDescriptor yX0_init.desc).map (fun d => d.parameters.length) = some 0 := by decide +kernel
theorem wI_1 : Cond.classLink RL 9 RX0 ∈ lw_tbl ∧ Cond.instantiable RX0 19 ∈ lw_tbl ∧ Cond.initialized RX0 ∈ lw_tbl ∧ Cond.methodLink RL 111 yX0_init ∈ lw_tbl ∧ Cond.instanceMethod yX0_init ∈ lw_tbl := by decide +kernel
theorem wI_3 : Cond.arrayClass .int ∈ lw_tbl ∧ Cond.arrayClass .boolean ∈ lw_tbl ∧ Cond.arrayClass .long ∈ lw_tbl := by decide +kernel
set_option maxHeartbeats 4000000 in
set_option maxRecDepth 100000 in
theorem zStart {p : Program} {e : Env} {s : State} {m : MethodId} {below : List Frame} {meth : Method} {c : Code} (l : Launch) (hflags : l.flags = flags0) {b : Nat} (hx : p.tables.exec = Jvm.exec) (hb : c.code = code) (hr : meth.sig.returnType = ret) (hml : c.maxLocals = 8) (hown : s.vm.findClass RL = some m.cls) (hts : ∀ w ∈ lw_tbl, w.before #[Value.ref b] s = true) (hX : va_X b 60 (fun _ => 0) s s.heap) (hbl : b < s.heap.size) (hlocks : meth.locks = false) (hgv : (Jvm.Cond.and given_1 narrow_1).before #[Value.ref b] s = true) :
    W p l e RB s m #[Value.ref b] below meth c s.heap [] 0 0 (MQ below (fun _ s _ t => s.heap.size + 141 ≤ t.heap.size) #[Value.ref b] s 1000 10000 (fun q => s.heap.size ≤ q)) (entryFrame m ([Value.ref b] : List Value).toArray 8) := by
  have hfl : l.stackTraces = false := by
    unfold Launch.stackTraces
    rw [hflags]
    decide +kernel
  obtain ⟨n1, n2, n3, n4, n5⟩ := wI_1
  obtain ⟨j1, j2, j3⟩ := wI_3
  obtain ⟨c0, iS0, hKn0⟩ := u_known (C := RX0) (T := TX0) (N := 19) (n := 19) hts uX0_in (hts _ n2)
  obtain ⟨D, hKc⟩ : ∃ (D : va_G), ∀ (k : Nat) (q : vw_C), vwCl[k]? = some q → u_Kn s q.1 q.2.1 q.2.2 (D.1 k) (D.2 k) := by
    refine ⟨(fun _ => c0, fun _ => iS0), ?_⟩
    intro k q hq
    match k, hq with
    | 0, hq => cases hq; exact hKn0
    | k + 1, hq => simp [vwCl] at hq
  obtain ⟨cI, aI, fI⟩ := g_arr (hts _ j1)
  obtain ⟨cZ, aZ, fZ⟩ := g_arr (hts _ j2)
  obtain ⟨cL, aL, fL⟩ := g_arr (hts _ j3)
  have hK : va_K D vwCl (gTyL cI cZ cL) s := ⟨hKc, fun k q h => by
    match k, h with
    | 0, h => cases h; exact ⟨aI, fI⟩
    | 1, h => cases h; exact ⟨aZ, fZ⟩
    | 2, h => cases h; exact ⟨aL, fL⟩
    | k + 3, h => simp [gTyL] at h⟩
  have E1 : gE p s m #[Value.ref b] c RL cL_law 8 lw_tbl D (gTyL cI cZ cL) (fun q => s.heap.size ≤ q) := ⟨⟨hx, hb, hml, hown, hts⟩, hK, fun _ h => h⟩
  have E : gE p s m #[Value.ref b] c RL cL_law 8 wsL_law D (gTyL cI cZ cL) (fun q => s.heap.size ≤ q) := ⟨⟨hx, hb, hml, hown, fun w hw => hts w (wsL_law_in w hw)⟩, hK, fun _ h => h⟩
  have hts2 := E.1.2.2.2.2
  have hT := gKT_start hts hgv
  have hret : ∀ (Hb : Heap) (W1 : va_W) (lv : List (Option Value)), hC (fun q => s.heap.size ≤ q) s Hb 141 → hJ Hb p l e RB s m #[Value.ref b] below meth c 1000 10000 (MQ below (fun _ s _ t => s.heap.size + 141 ≤ t.heap.size) #[Value.ref b] s 1000 10000 (fun q => s.heap.size ≤ q)) (fun q => s.heap.size ≤ q) D W1 lv 203 [.int (iI 1)] := by
    intro Hb W1 lv C H locs ls hP hD hS hL
    have hsz : s.heap.size + 141 ≤ H.size := by have := C.2.2; have := hS.1; omega
    exact W.zret (ty := .boolean) (v := iI 1) hx hb hr rfl (fun t ht hW => by rw [ht]; exact hsz) hS.2.2 dL_law_203 hlocks
  have main : gJ p l e RB s m #[Value.ref b] below meth c 0 0 (MQ below (fun _ s _ t => s.heap.size + 141 ≤ t.heap.size) #[Value.ref b] s 1000 10000 (fun q => s.heap.size ≤ q)) (fun q => s.heap.size ≤ q) D [] [some (.ref b), none, none, none, none, none, none, none] 0 [] := by
    refine g_newO E1 (ci := 0) uX0_in tyX0 tyX0_ok n1 n2 n3 rfl fs0_ok ⟨(Nat.le_of_ble_eq_true rfl), (Nat.le_of_ble_eq_true rfl)⟩ dL_law_0 (fun q => ?_)
    refine g_dup E dL_law_3 rfl ?_
    refine g_callK E [0, 1] rfl (wr := []) (cX_init (l := l) (D := D) (cI := cI) (cZ := cZ) (q := q)) (cwI 0 hts2 gL_law_X0_init rfl rfl rfl (hts _ n3) (hts _ n4) (hts _ n5) rfl hdI_X0 ⟨(Nat.le_of_ble_eq_true rfl), (Nat.le_of_ble_eq_true rfl)⟩) rfl (Nat.le_of_ble_eq_true rfl) dL_law_4 ⟨(Nat.le_of_ble_eq_true rfl), (Nat.le_of_ble_eq_true rfl)⟩ (fun r => ?_)
    refine g_astore_n E (lv' := [some (.ref b), some (.ref q), none, none, none, none, none, none]) dL_law_7 rfl (Nat.le_of_ble_eq_true rfl) rfl ?_
    refine g_newO E1 (ci := 0) uX0_in tyX0 tyX0_ok n1 n2 n3 rfl fs0_ok ⟨(Nat.le_of_ble_eq_true rfl), (Nat.le_of_ble_eq_true rfl)⟩ dL_law_8 (fun q2 => ?_)
    refine g_dup E dL_law_11 rfl ?_
    refine g_callK E [0, 1] rfl (wr := zX cI cZ q r 0) (cX_init (l := l) (D := D) (cI := cI) (cZ := cZ) (q := q2)) (cwI 0 hts2 gL_law_X0_init rfl rfl rfl (hts _ n3) (hts _ n4) (hts _ n5) rfl hdI_X0 ⟨(Nat.le_of_ble_eq_true rfl), (Nat.le_of_ble_eq_true rfl)⟩) rfl (Nat.le_of_ble_eq_true rfl) dL_law_12 ⟨(Nat.le_of_ble_eq_true rfl), (Nat.le_of_ble_eq_true rfl)⟩ (fun r2 => ?_)
    refine g_astore_n E (lv' := [some (.ref b), some (.ref q), some (.ref q2), none, none, none, none, none]) dL_law_15 rfl (Nat.le_of_ble_eq_true rfl) rfl ?_
    refine g_bipush E (n := 40) dL_law_16 (by decide) ?_
    refine g_newL E1 j3 dL_law_18 ⟨(Nat.le_of_ble_eq_true rfl), (Nat.le_of_ble_eq_true rfl)⟩ (fun x => ?_)
    refine h_perm zp_n ?_
    refine g_astore_n E (lv' := [some (.ref b), some (.ref q), some (.ref q2), some (.ref x), none, none, none, none]) dL_law_20 rfl (Nat.le_of_ble_eq_true rfl) rfl ?_
    refine g_iconst E dL_law_21 ?_
    refine g_istore E (lv' := [some (.ref b), some (.ref q), some (.ref q2), some (.ref x), some (.int (iI 0)), none, none, none]) dL_law_22 (Nat.le_of_ble_eq_true rfl) rfl ?_
    exact zHd_all hfl hX hbl (Nat.not_le.mpr hbl) hret s.heap none none none ⟨va_S.rf, hT, by omega⟩ E
  have hl := lv_entry ([.ref b]) (n := 8) (Nat.le_of_ble_eq_true rfl)
  rw [lg_entry_eq]
  exact main s.heap [] _ (fun k q h => by simp at h) ⟨fun i j p q h => by simp at h, fun k q h => by simp at h⟩ va_S.rf (gL_entry (l := [.ref b]) (n := 8) (Nat.le_of_ble_eq_true rfl) (g_cat1 rfl) hl)
set_option maxHeartbeats 4000000 in
theorem zWalk (l : Launch) (hflags : l.flags = flags0) (b : Addr) : MetFree l x (headSpec (Jvm.Cond.code x code maxLocals ret :: tables_1) RB) (fun args s => args = #[.ref b] ∧ s.IntsAt b (List.replicate 60 0) ∧ (Jvm.Cond.and given_1 narrow_1).before args s = true) (fun _ _ _ _ _ => True) (fun _ s _ t => s.heap.size + 141 ≤ t.heap.size) := by
  refine MetFree.of_bodyS (code := code) (maxLocals := maxLocals) (ret := ret) (by decide) ?_ ?_
  · intro args s m h hn
    obtain ⟨meth, c, h1, h2, h3, h4, h5, h6, -, -⟩ := Cond.code_spec hn (atoms_spec (ws := Jvm.Cond.code x code maxLocals ret :: tables_1) h _ List.mem_cons_self)
    exact ⟨meth, c, h1, h2, h3, h4, h5, h6⟩
  · intro p e s m args below meth c s₁ B hml0 hP _
    obtain ⟨rfl, hx, hgv⟩ := hP
    obtain ⟨scr, harrAt, hlist, hof, hsmall⟩ := hx
    obtain ⟨hcb, hkn, -, -⟩ := State.arrayAt?_spec harrAt
    have hown : s.vm.findClass RL = some m.cls := findClass_of_methodNamed (x := x) B.named
    have hts0 : ∀ c ∈ (Jvm.Cond.code x code maxLocals ret :: tables_1), c.before #[Value.ref b] s = true := atoms_spec (ws := Jvm.Cond.code x code maxLocals ret :: tables_1) B.pre
    have hts : ∀ w ∈ lw_tbl, w.before #[Value.ref b] s = true := k2_hts_sels lw_privs (fun w hw => hts0 w (List.mem_cons_of_mem _ hw)) lw_privs_ok
    have hml : c.maxLocals = 8 := B.maxLocals_eq (hts0 _ List.mem_cons_self)
    have hh0 : s₁.heap = s.heap := by rw [B.state]; rfl
    have hsz : scr.slots.size = 60 := by rw [← Array.length_toList, hlist]; simp
    have hval : ∀ j : Nat, j < 60 → scr.slots[j]? = some (.int 0) := fun j hj => by
      rw [← Array.getElem?_toList, hlist, List.map_replicate, List.getElem?_replicate, if_pos hj]
    have hbl : b < s.heap.size := (Array.getElem?_eq_some_iff.mp hcb).1
    have hX : va_X b 60 (fun _ => 0) s s.heap := ⟨scr, hcb, hof, hkn, hsz, hval⟩
    obtain ⟨t, a1, o, b1, b2, b3, -⟩ := zStart (p := p) (e := e) (m := m) (below := below) (meth := meth) (c := c) l hflags B.exec B.bytes B.returns hml hown hts hX hbl B.notSynchronized hgv s₁ hh0 (Stand.of_body B)
    exact ⟨t, o, a1, b1, b2, b3⟩
/-- from a start of the Statement's own, with sixty zeros for a script and the machine's usual room behind it: the printed refutation of the first of the two claims -/
theorem zRefute {p : Program} {e : Env} {s : State} {m : MethodId} {b : Addr} {below : List Frame} (h : AtStart classFile x code maxLocals ret World_1 tables_1 room_1 Calls_1 rest_1 Pre_1 launch0 p e s m #[.ref b] below) (hxs : s.IntsAt b (List.replicate 60 0)) (hroom : s.hasRoom e.platform RB = true) : RefutedClaimed_1_1 := by
  obtain ⟨hL, hW, ha, hl, hc, hk, hf, hfit, hheap, happ, hcalls, hrest, hpre⟩ := id h
  have happ' : (headSpec (Jvm.Cond.code x code maxLocals ret :: tables_1) RB).appliesLoose x e.platform s = true := by
    obtain ⟨r1, r2, r3, r4, r5, r6, -, r8⟩ := (Spec.appliesLoose_iff hf).mp ((Spec.applies_iff_loose hf).mp happ).1
    exact (Spec.appliesLoose_iff hf).mpr ⟨r1, r2, r3, r4, r5, r6, hroom, r8⟩
  obtain ⟨n, o, h1, h2, h3, h4⟩ := zWalk launch0 rfl b p e ha hc hk s m _ below hf happ' ⟨rfl, hxs, hpre⟩ trivial
  refine ⟨launch0, p, e, s, m, _, below, rfl, h, n, o, h1, h2, h3, fun hP => ?_⟩
  have h5 := hP.2.2.2.2.2.1
  have h6 : (stepsAlone p.tables e n s).heap.size ≤ s.heap.size + 140 := h5
  omega
/-- from a start of the Statement's own, with sixty zeros for a script and the machine's usual room behind it: the printed refutation of the second of the two claims -/
theorem zRefute2 {p : Program} {e : Env} {s : State} {m : MethodId} {b : Addr} {below : List Frame} (h : AtStart classFile x code maxLocals ret World_1 tables_1 room_1 Calls_1 rest_1 Pre_1 launch0 p e s m #[.ref b] below) (hxs : s.IntsAt b (List.replicate 60 0)) (hroom : s.hasRoom e.platform RB = true) : RefutedClaimed_1_2 := by
  obtain ⟨hL, hW, ha, hl, hc, hk, hf, hfit, hheap, happ, hcalls, hrest, hpre⟩ := id h
  have happ' : (headSpec (Jvm.Cond.code x code maxLocals ret :: tables_1) RB).appliesLoose x e.platform s = true := by
    obtain ⟨r1, r2, r3, r4, r5, r6, -, r8⟩ := (Spec.appliesLoose_iff hf).mp ((Spec.applies_iff_loose hf).mp happ).1
    exact (Spec.appliesLoose_iff hf).mpr ⟨r1, r2, r3, r4, r5, r6, hroom, r8⟩
  obtain ⟨n, o, h1, h2, h3, h4⟩ := zWalk launch0 rfl b p e ha hc hk s m _ below hf happ' ⟨rfl, hxs, hpre⟩ trivial
  refine ⟨launch0, p, e, s, m, _, below, rfl, h, n, o, h1, h2, h3, fun hP => ?_⟩
  have h5 := hP.2.2.2.2.2.1
  have h6 : (stepsAlone p.tables e n s).heap.size ≤ s.heap.size + 140 := h5
  omega
/-- the machine runs one way: what is refuted isn't so -/
theorem zNot {Post : Tables → Env → Array Value → State → Outcome → State → Prop} (h : FallsFor flags0 classFile x code maxLocals ret World_1 tables_1 room_1 Calls_1 rest_1 Pre_1 Post) : ¬ ArmFor flags0 classFile x code maxLocals ret World_1 tables_1 room_1 Calls_1 rest_1 Pre_1 Post := by
  intro hC
  obtain ⟨l, p, e, s, m, args, below, hfl, ⟨hL, hW, ha, hl, hc, hk, hf, hfit, hheap, happ, hcalls, hrest, hpre⟩, n, o, h1, h2, h3, h4⟩ := h
  obtain ⟨n', o', g1, g2, g3, g4⟩ := hC l hfl hL hW p e ha hc hk s m args below hf hfit hheap happ ⟨hcalls, hrest, hpre⟩
  have hn : n' = n := by
    rcases Nat.lt_trichotomy n' n with h | h | h
    · exact absurd (h1 n' h) g3.not_within
    · exact h
    · exact absurd (g1 n h) h3.not_within
  subst hn
  have ho := g3.outcome_unique h3
  subst ho
  exact h4 g4
