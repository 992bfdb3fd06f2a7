set_option maxRecDepth 100000 in
theorem hdS_cell : yL_cell.cls ≠ "java/lang/invoke/MethodHandle" ∧ yL_cell.cls ≠ "java/lang/invoke/VarHandle" ∧ (parseMethodDescriptor yL_cell.desc).map (fun d => d.parameters.length) = some 2 := by decide +kernel
set_option maxRecDepth 100000 in
theorem hdS_act : yL_act.cls ≠ "java/lang/invoke/MethodHandle" ∧ yL_act.cls ≠ "java/lang/invoke/VarHandle" ∧ (parseMethodDescriptor yL_act.desc).map (fun d => d.parameters.length) = some 2 := by decide +kernel
set_option maxRecDepth 100000 in
theorem kc_law_16 : Cond.constant RL 16 (iI (-99999)) ∈ wsL_law := by decide +kernel
set_option maxRecDepth 100000 in
theorem hdS_areAlike : yL_areAlike.cls ≠ "java/lang/invoke/MethodHandle" ∧ yL_areAlike.cls ≠ "java/lang/invoke/VarHandle" ∧ (parseMethodDescriptor yL_areAlike.desc).map (fun d => d.parameters.length) = some 2 := by decide +kernel
set_option maxRecDepth 100000 in
theorem hdS_arePlacesSo : yL_arePlacesSo.cls ≠ "java/lang/invoke/MethodHandle" ∧ yL_arePlacesSo.cls ≠ "java/lang/invoke/VarHandle" ∧ (parseMethodDescriptor yL_arePlacesSo.desc).map (fun d => d.parameters.length) = some 1 := by decide +kernel
set_option maxRecDepth 100000 in
theorem hdS_isStepSo : yL_isStepSo.cls ≠ "java/lang/invoke/MethodHandle" ∧ yL_isStepSo.cls ≠ "java/lang/invoke/VarHandle" ∧ (parseMethodDescriptor yL_isStepSo.desc).map (fun d => d.parameters.length) = some 2 := by decide +kernel
set_option maxRecDepth 100000 in
theorem hdL_X0_clear : yX0_clear.cls = RX0 ∧ yX0_clear.cls ≠ "java/lang/invoke/MethodHandle" ∧ yX0_clear.cls ≠ "java/lang/invoke/VarHandle" ∧ (parseMethodDescriptor yX0_clear.desc).map (fun d => d.parameters.length) = some 0 := by decide +kernel
/-! ===== the law's loop on sixty zeros: each round throws four times at least ===== -/
def RB : Room := { frames := 12, cells := 1000, slots := 10000, locals := 442 }
abbrev zV (cI cZ cL : ClassId) (x q q2 : Nat) (r r2 : Nat → Nat) (t t2 : Int) : va_W := gO cL x (fun _ => 0) :: (zX cI cZ q r t ++ zX cI cZ q2 r2 t2)
theorem zp_o {g : Nat × va_E} {o p : va_W} : ((g :: p) ++ o).Perm (g :: (o ++ p)) := (List.perm_append_comm (l₁ := p) (l₂ := o)).cons g
theorem zp_x {g : Nat × va_E} {o p : va_W} : (p ++ (g :: o)).Perm (g :: (o ++ p)) := List.perm_append_comm (l₁ := p) (l₂ := g :: o)
theorem zp_n {g : Nat × va_E} {o p : va_W} : (g :: (o ++ p)).Perm ((o ++ p) ++ [g]) := (List.perm_append_singleton g (o ++ p)).symm
section GLP
variable {p : Program} {l : Launch} {e : Env} {s : State} {m : MethodId} {args : Array Value} {below : List Frame} {meth : Method} {c : Code} {Q : State → Prop} {A0 : Nat → Prop} {D : va_G} {cI cZ cL : ClassId} {b x q q2 : Nat} {r r2 : Nat → Nat}
def zHd (p : Program) (l : Launch) (e : Env) (s : State) (m : MethodId) (args : Array Value) (below : List Frame) (meth : Method) (c : Code) (Q : State → Prop) (A0 : Nat → Prop) (D : va_G) (cI cZ cL : ClassId) (b x q q2 : Nat) (r r2 : Nat → Nat) (n : Nat) (t : Int) : Prop :=
  ∀ (Hb : Heap) (a5 a6 a7 : Option Value), hC A0 s Hb (4 * n) → hE Hb p s m args c RL cL_law 8 wsL_law D (gTyL cI cZ cL) A0 → hJ Hb p l e RB s m args below meth c (31 + 6 * n) (476 + 36 * n) Q A0 D (zV cI cZ cL x q q2 r r2 t t) [some (.ref b), some (.ref q), some (.ref q2), some (.ref x), some (.int (iI (n : Int))), a5, a6, a7] 24 []
set_option maxHeartbeats 4000000 in
set_option maxRecDepth 100000 in
theorem zHd_1 (hfl : l.stackTraces = false) (hX : va_X b 60 (fun _ => 0) s s.heap) (hbl : b < s.heap.size) (hbA : ¬ A0 b) {n : Nat} {t : Int} (hn : n < 60) (ht : 0 ≤ t ∧ t ≤ 900) (h4 : n % 5 ≠ 4) (K : zHd p l e s m args below meth c Q A0 D cI cZ cL b x q q2 r r2 (n + 1) t) : zHd p l e s m args below meth c Q A0 D cI cZ cL b x q q2 r r2 n t := by
  intro Hb a5 a6 a7 C E
  have hts := E.1.2.2.2.2
  have ht0 : 0 ≤ t ∧ t ≤ 1000 := ⟨ht.1, by omega⟩
  replace ht := ht0
  refine g_iload E dL_law_24 rfl ?_
  refine g_bipush E dL_law_26 (by decide) ?_
  refine g_icmp_ge_f E dL_law_28 (tgt := 126) (by decide) ⟨by omega, by omega⟩ (by omega) ?_
  refine g_aload_n E dL_law_31 rfl rfl ?_
  refine g_iload E dL_law_32 rfl ?_
  refine h_callCell E C hX hbl hbA (k := n) (zL_cell hn) (va_cwS 2 hts gL_law_L_cell rfl rfl rfl hdS_cell ⟨(Nat.le_of_ble_eq_true rfl), (Nat.le_of_ble_eq_true rfl)⟩) rfl rfl rfl (Nat.le_of_ble_eq_true rfl) dL_law_34 (by refine ⟨?_, ?_⟩ <;> simp only [rK, RB] <;> omega) ?_
  refine g_istore E (lv' := [_, _, _, _, _, _, _, _]) dL_law_37 (Nat.le_of_ble_eq_true rfl) rfl ?_
  refine g_aload_n E dL_law_39 rfl rfl ?_
  refine g_iload E dL_law_40 rfl ?_
  refine h_perm (zp_o (g := gO cL x (fun _ => 0)) (o := (zX cI cZ q r t)) (p := (zX cI cZ q2 r2 t))) ?_
  refine h_callN E C (wr := (gO cL x (fun _ => 0) :: (zX cI cZ q2 r2 t))) (zL_act hfl) (va_cwS 2 hts gL_law_L_act rfl rfl rfl hdS_act ⟨(Nat.le_of_ble_eq_true rfl), (Nat.le_of_ble_eq_true rfl)⟩) rfl rfl rfl (Nat.le_of_ble_eq_true rfl) dL_law_42 (by refine ⟨?_, ?_⟩ <;> simp only [rK, RB] <;> omega) (fun Hb' C E => ?_)
  refine h_perm (zp_o (g := gO cL x (fun _ => 0)) (o := (zX cI cZ q r t)) (p := (zX cI cZ q2 r2 t))).symm ?_
  refine g_istore E (lv' := [_, _, _, _, _, _, _, _]) dL_law_45 (Nat.le_of_ble_eq_true rfl) rfl ?_
  refine g_iload E dL_law_47 rfl ?_
  refine g_ldcI E kc_law_16 dL_law_49 ?_
  refine g_icmp_eq_t E dL_law_51 (tgt := 65) (by decide) (by omega) (by omega) ?_
  refine g_aload_n E dL_law_65 rfl rfl ?_
  refine g_aload_n E dL_law_66 rfl rfl ?_
  refine h_callN E C (wr := [gO cL x (fun _ => 0)]) (zL_areAlike hfl ht) (va_cwS 2 hts gL_law_L_areAlike rfl rfl rfl hdS_areAlike ⟨(Nat.le_of_ble_eq_true rfl), (Nat.le_of_ble_eq_true rfl)⟩) rfl rfl rfl (Nat.le_of_ble_eq_true rfl) dL_law_67 (by refine ⟨?_, ?_⟩ <;> simp only [rK, RB] <;> omega) (fun Hb' C E => ?_)
  refine g_if_eq_f E dL_law_70 (tgt := 80) (by decide) (by omega) (by omega) ?_
  refine g_aload_n E dL_law_73 rfl rfl ?_
  refine h_perm (zp_o (g := gO cL x (fun _ => 0)) (o := (zX cI cZ q r t)) (p := (zX cI cZ q2 r2 t))) ?_
  refine h_callN E C (wr := (gO cL x (fun _ => 0) :: (zX cI cZ q2 r2 t))) (zL_arePlacesSo hfl) (va_cwS 1 hts gL_law_L_arePlacesSo rfl rfl rfl hdS_arePlacesSo ⟨(Nat.le_of_ble_eq_true rfl), (Nat.le_of_ble_eq_true rfl)⟩) rfl rfl rfl (Nat.le_of_ble_eq_true rfl) dL_law_74 (by refine ⟨?_, ?_⟩ <;> simp only [rK, RB] <;> omega) (fun Hb' C E => ?_)
  refine h_perm (zp_o (g := gO cL x (fun _ => 0)) (o := (zX cI cZ q r t)) (p := (zX cI cZ q2 r2 t))).symm ?_
  refine g_if_ne_t E dL_law_77 (tgt := 82) (by decide) (by omega) (by omega) ?_
  refine g_iload E dL_law_82 rfl ?_
  refine g_iconst E dL_law_84 ?_
  refine g_irem E dL_law_85 ⟨by omega, by omega, by omega, by omega⟩ ?_
  refine g_iconst E dL_law_86 ?_
  refine g_icmp_ne_t E dL_law_87 (tgt := 120) (by decide) ⟨by omega, by omega⟩ (by omega) ?_
  refine g_iinc E (lv' := [_, _, _, _, some (.int (iI ((n + 1 : Nat) : Int))), _, _, _]) dL_law_120 rfl rfl ?_
  refine g_goto E dL_law_123 (tgt := 24) (by decide) ?_
  refine h_wid (k := 31 + 6 * (n + 1)) (n := 476 + 36 * (n + 1)) (by simp only [rK]; omega) (by simp only [rK]; omega) ?_
  exact K _ _ _ _ (C.mono (by omega)) E
set_option maxHeartbeats 4000000 in
set_option maxRecDepth 100000 in
theorem zHd_4 (hfl : l.stackTraces = false) (hX : va_X b 60 (fun _ => 0) s s.heap) (hbl : b < s.heap.size) (hbA : ¬ A0 b) {n : Nat} {t : Int} (hn : n < 60) (ht : 0 ≤ t ∧ t ≤ 900) (h4 : n % 5 = 4) (K : zHd p l e s m args below meth c Q A0 D cI cZ cL b x q q2 r r2 (n + 1) (t + 1)) : zHd p l e s m args below meth c Q A0 D cI cZ cL b x q q2 r r2 n t := by
  intro Hb a5 a6 a7 C E
  have hts := E.1.2.2.2.2
  have ht1 : 0 ≤ t + 1 ∧ t + 1 ≤ 1000 := ⟨by omega, by omega⟩
  replace ht : 0 ≤ t ∧ t ≤ 1000 := ⟨ht.1, by omega⟩
  refine g_iload E dL_law_24 rfl ?_
  refine g_bipush E dL_law_26 (by decide) ?_
  refine g_icmp_ge_f E dL_law_28 (tgt := 126) (by decide) ⟨by omega, by omega⟩ (by omega) ?_
  refine g_aload_n E dL_law_31 rfl rfl ?_
  refine g_iload E dL_law_32 rfl ?_
  refine h_callCell E C hX hbl hbA (k := n) (zL_cell hn) (va_cwS 2 hts gL_law_L_cell rfl rfl rfl hdS_cell ⟨(Nat.le_of_ble_eq_true rfl), (Nat.le_of_ble_eq_true rfl)⟩) rfl rfl rfl (Nat.le_of_ble_eq_true rfl) dL_law_34 (by refine ⟨?_, ?_⟩ <;> simp only [rK, RB] <;> omega) ?_
  refine g_istore E (lv' := [_, _, _, _, _, _, _, _]) dL_law_37 (Nat.le_of_ble_eq_true rfl) rfl ?_
  refine g_aload_n E dL_law_39 rfl rfl ?_
  refine g_iload E dL_law_40 rfl ?_
  refine h_perm (zp_o (g := gO cL x (fun _ => 0)) (o := (zX cI cZ q r t)) (p := (zX cI cZ q2 r2 t))) ?_
  refine h_callN E C (wr := (gO cL x (fun _ => 0) :: (zX cI cZ q2 r2 t))) (zL_act hfl) (va_cwS 2 hts gL_law_L_act rfl rfl rfl hdS_act ⟨(Nat.le_of_ble_eq_true rfl), (Nat.le_of_ble_eq_true rfl)⟩) rfl rfl rfl (Nat.le_of_ble_eq_true rfl) dL_law_42 (by refine ⟨?_, ?_⟩ <;> simp only [rK, RB] <;> omega) (fun Hb' C E => ?_)
  refine h_perm (zp_o (g := gO cL x (fun _ => 0)) (o := (zX cI cZ q r t)) (p := (zX cI cZ q2 r2 t))).symm ?_
  refine g_istore E (lv' := [_, _, _, _, _, _, _, _]) dL_law_45 (Nat.le_of_ble_eq_true rfl) rfl ?_
  refine g_iload E dL_law_47 rfl ?_
  refine g_ldcI E kc_law_16 dL_law_49 ?_
  refine g_icmp_eq_t E dL_law_51 (tgt := 65) (by decide) (by omega) (by omega) ?_
  refine g_aload_n E dL_law_65 rfl rfl ?_
  refine g_aload_n E dL_law_66 rfl rfl ?_
  refine h_callN E C (wr := [gO cL x (fun _ => 0)]) (zL_areAlike hfl ht) (va_cwS 2 hts gL_law_L_areAlike rfl rfl rfl hdS_areAlike ⟨(Nat.le_of_ble_eq_true rfl), (Nat.le_of_ble_eq_true rfl)⟩) rfl rfl rfl (Nat.le_of_ble_eq_true rfl) dL_law_67 (by refine ⟨?_, ?_⟩ <;> simp only [rK, RB] <;> omega) (fun Hb' C E => ?_)
  refine g_if_eq_f E dL_law_70 (tgt := 80) (by decide) (by omega) (by omega) ?_
  refine g_aload_n E dL_law_73 rfl rfl ?_
  refine h_perm (zp_o (g := gO cL x (fun _ => 0)) (o := (zX cI cZ q r t)) (p := (zX cI cZ q2 r2 t))) ?_
  refine h_callN E C (wr := (gO cL x (fun _ => 0) :: (zX cI cZ q2 r2 t))) (zL_arePlacesSo hfl) (va_cwS 1 hts gL_law_L_arePlacesSo rfl rfl rfl hdS_arePlacesSo ⟨(Nat.le_of_ble_eq_true rfl), (Nat.le_of_ble_eq_true rfl)⟩) rfl rfl rfl (Nat.le_of_ble_eq_true rfl) dL_law_74 (by refine ⟨?_, ?_⟩ <;> simp only [rK, RB] <;> omega) (fun Hb' C E => ?_)
  refine h_perm (zp_o (g := gO cL x (fun _ => 0)) (o := (zX cI cZ q r t)) (p := (zX cI cZ q2 r2 t))).symm ?_
  refine g_if_ne_t E dL_law_77 (tgt := 82) (by decide) (by omega) (by omega) ?_
  refine g_iload E dL_law_82 rfl ?_
  refine g_iconst E dL_law_84 ?_
  refine g_irem E dL_law_85 ⟨by omega, by omega, by omega, by omega⟩ ?_
  refine g_iconst E dL_law_86 ?_
  refine g_icmp_ne_f E dL_law_87 (tgt := 120) (by decide) ⟨by omega, by omega⟩ (by omega) ?_
  refine g_aload_n E dL_law_90 rfl rfl ?_
  refine g_iconst E dL_law_91 ?_
  refine g_callIW E [0, 1] rfl (wr := (gO cL x (fun _ => 0) :: (zX cI cZ q r t))) (zX_step ht) (cwV 1 hts gL_law_X0_step rfl rfl rfl hdL_X0_step ⟨(Nat.le_of_ble_eq_true rfl), (Nat.le_of_ble_eq_true rfl)⟩) rfl rfl rfl (Nat.le_of_ble_eq_true rfl) rfl rfl dL_law_92 (by refine ⟨?_, ?_⟩ <;> simp only [rK, RB] <;> omega) ?_
  refine g_istore E (lv' := [_, _, _, _, _, _, _, _]) dL_law_95 (Nat.le_of_ble_eq_true rfl) rfl ?_
  refine g_aload_n E dL_law_97 rfl rfl ?_
  refine g_aload_n E dL_law_98 rfl rfl ?_
  refine h_perm zp_x ?_
  refine h_callN E C (wr := (zX cI cZ q2 r2 (t + 1))) (zL_isStepSo ht) (va_cwS 2 hts gL_law_L_isStepSo rfl rfl rfl hdS_isStepSo ⟨(Nat.le_of_ble_eq_true rfl), (Nat.le_of_ble_eq_true rfl)⟩) rfl rfl rfl (Nat.le_of_ble_eq_true rfl) dL_law_99 (by refine ⟨?_, ?_⟩ <;> simp only [rK, RB] <;> omega) (fun Hb' C E => ?_)
  refine h_perm zp_x.symm ?_
  refine g_if_eq_f E dL_law_102 (tgt := 118) (by decide) (by omega) (by omega) ?_
  refine g_aload_n E dL_law_105 rfl rfl ?_
  refine g_aload_n E dL_law_106 rfl rfl ?_
  refine h_callN E C (wr := [gO cL x (fun _ => 0)]) (zL_areAlike hfl (t := t + 1) ht1) (va_cwS 2 hts gL_law_L_areAlike rfl rfl rfl hdS_areAlike ⟨(Nat.le_of_ble_eq_true rfl), (Nat.le_of_ble_eq_true rfl)⟩) rfl rfl rfl (Nat.le_of_ble_eq_true rfl) dL_law_107 (by refine ⟨?_, ?_⟩ <;> simp only [rK, RB] <;> omega) (fun Hb' C E => ?_)
  refine g_if_eq_f E dL_law_110 (tgt := 118) (by decide) (by omega) (by omega) ?_
  refine g_iload E dL_law_113 rfl ?_
  refine g_if_ge_t E dL_law_115 (tgt := 120) (by decide) (by omega) (by omega) ?_
  refine g_iinc E (lv' := [_, _, _, _, some (.int (iI ((n + 1 : Nat) : Int))), _, _, _]) dL_law_120 rfl rfl ?_
  refine g_goto E dL_law_123 (tgt := 24) (by decide) ?_
  refine h_wid (k := 31 + 6 * (n + 1)) (n := 476 + 36 * (n + 1)) (by simp only [rK]; omega) (by simp only [rK]; omega) ?_
  exact K _ _ _ _ (C.mono (by omega)) E
set_option maxHeartbeats 4000000 in
set_option maxRecDepth 100000 in
theorem zHd_60 (hfl : l.stackTraces = false) {t : Int} (ht : 0 ≤ t ∧ t ≤ 1000) (hret : ∀ (Hb : Heap) (W1 : va_W) (lv : List (Option Value)), hC A0 s Hb 141 → hJ Hb p l e RB s m args below meth c 1000 10000 Q A0 D W1 lv 203 [.int (iI 1)]) : zHd p l e s m args below meth c Q A0 D cI cZ cL b x q q2 r r2 60 t := by
  intro Hb a5 a6 a7 C E
  have hts := E.1.2.2.2.2
  refine g_iload E dL_law_24 rfl ?_
  refine g_bipush E dL_law_26 (by decide) ?_
  refine g_icmp_ge_t E dL_law_28 (tgt := 126) (by decide) ⟨by omega, by omega⟩ (by omega) ?_
  refine g_aload_n E dL_law_126 rfl rfl ?_
  refine h_perm (zp_o (g := gO cL x (fun _ => 0)) (o := (zX cI cZ q r t)) (p := (zX cI cZ q2 r2 t))) ?_
  refine g_callIW E [0, 1] rfl (wr := (gO cL x (fun _ => 0) :: (zX cI cZ q2 r2 t))) zX_inside (cwV 0 hts gL_law_X0_inside rfl rfl rfl hdL_X0_inside ⟨(Nat.le_of_ble_eq_true rfl), (Nat.le_of_ble_eq_true rfl)⟩) rfl rfl rfl (Nat.le_of_ble_eq_true rfl) rfl rfl dL_law_127 (by refine ⟨?_, ?_⟩ <;> simp only [rK, RB] <;> omega) ?_
  refine h_perm (zp_o (g := gO cL x (fun _ => 0)) (o := (zX cI cZ q r t)) (p := (zX cI cZ q2 r2 t))).symm ?_
  refine g_istore E (lv' := [_, _, _, _, _, _, _, _]) dL_law_130 (Nat.le_of_ble_eq_true rfl) rfl ?_
  refine g_aload_n E dL_law_132 rfl rfl ?_
  refine h_perm (zp_o (g := gO cL x (fun _ => 0)) (o := (zX cI cZ q r t)) (p := (zX cI cZ q2 r2 t))) ?_
  refine h_callNW E C (wr := (gO cL x (fun _ => 0) :: (zX cI cZ q2 r2 t))) wL_bound (vx_cwSW 1 hts gL_law_L_bound rfl rfl rfl hdS_bound ⟨(Nat.le_of_ble_eq_true rfl), (Nat.le_of_ble_eq_true rfl)⟩) rfl rfl rfl (Nat.le_of_ble_eq_true rfl) dL_law_133 (by refine ⟨?_, ?_⟩ <;> simp only [rK, RB] <;> omega) (fun Hb' C E => ?_)
  refine h_perm (zp_o (g := gO cL x (fun _ => 0)) (o := (zX cI cZ q r t)) (p := (zX cI cZ q2 r2 t))).symm ?_
  refine g_istore E (lv' := [_, _, _, _, _, _, _, _]) dL_law_136 (Nat.le_of_ble_eq_true rfl) rfl ?_
  refine g_aload_n E dL_law_138 rfl rfl ?_
  refine h_perm (zp_o (g := gO cL x (fun _ => 0)) (o := (zX cI cZ q r t)) (p := (zX cI cZ q2 r2 t))) ?_
  refine g_callIW E [0, 1] rfl (wr := (gO cL x (fun _ => 0) :: (zX cI cZ q2 r2 t))) (zX_clear ht) (cwV 0 hts gL_law_X0_clear rfl rfl rfl hdL_X0_clear ⟨(Nat.le_of_ble_eq_true rfl), (Nat.le_of_ble_eq_true rfl)⟩) rfl rfl rfl (Nat.le_of_ble_eq_true rfl) rfl rfl dL_law_139 (by refine ⟨?_, ?_⟩ <;> simp only [rK, RB] <;> omega) ?_
  refine h_perm (zp_o (g := gO cL x (fun _ => 0)) (o := (zX cI cZ q r t)) (p := (zX cI cZ q2 r2 t))).symm ?_
  refine g_istore E (lv' := [_, _, _, _, _, _, _, _]) dL_law_142 (Nat.le_of_ble_eq_true rfl) rfl ?_
  refine g_iload E dL_law_144 rfl ?_
  refine g_sipush E dL_law_146 (by decide) ?_
  refine g_icmp_gt_f E dL_law_149 (tgt := 202) (by decide) (by omega) (by omega) ?_
  refine g_iload E dL_law_152 rfl ?_
  refine g_aload_n E dL_law_154 rfl rfl ?_
  refine g_callIW E [0, 1] rfl (wr := (gO cL x (fun _ => 0) :: (zX cI cZ q r t))) (zX_clear ht) (cwV 0 hts gL_law_X0_clear rfl rfl rfl hdL_X0_clear ⟨(Nat.le_of_ble_eq_true rfl), (Nat.le_of_ble_eq_true rfl)⟩) rfl rfl rfl (Nat.le_of_ble_eq_true rfl) rfl rfl dL_law_155 (by refine ⟨?_, ?_⟩ <;> simp only [rK, RB] <;> omega) ?_
  refine g_icmp_ne_f E dL_law_158 (tgt := 202) (by decide) (by omega) (by omega) ?_
  refine g_aload_n E dL_law_161 rfl rfl ?_
  refine g_aload_n E dL_law_162 rfl rfl ?_
  refine h_callN E C (wr := [gO cL x (fun _ => 0)]) (zL_areAlike hfl ht) (va_cwS 2 hts gL_law_L_areAlike rfl rfl rfl hdS_areAlike ⟨(Nat.le_of_ble_eq_true rfl), (Nat.le_of_ble_eq_true rfl)⟩) rfl rfl rfl (Nat.le_of_ble_eq_true rfl) dL_law_163 (by refine ⟨?_, ?_⟩ <;> simp only [rK, RB] <;> omega) (fun Hb' C E => ?_)
  refine g_if_eq_f E dL_law_166 (tgt := 202) (by decide) (by omega) (by omega) ?_
  refine g_iload E dL_law_169 rfl ?_
  refine g_if_gt_f E dL_law_171 (tgt := 179) (by decide) (by omega) (by omega) ?_
  refine g_iload E dL_law_174 rfl ?_
  refine g_if_ne_f E dL_law_176 (tgt := 202) (by decide) (by omega) (by omega) ?_
  refine g_iload E dL_law_179 rfl ?_
  refine g_if_lt_f E dL_law_181 (tgt := 198) (by decide) (by omega) (by omega) ?_
  refine g_aload_n E dL_law_184 rfl rfl ?_
  refine h_perm (zp_o (g := gO cL x (fun _ => 0)) (o := (zX cI cZ q r t)) (p := (zX cI cZ q2 r2 t))) ?_
  refine g_callIW E [0, 1] rfl (wr := (gO cL x (fun _ => 0) :: (zX cI cZ q2 r2 t))) zX_inside (cwV 0 hts gL_law_X0_inside rfl rfl rfl hdL_X0_inside ⟨(Nat.le_of_ble_eq_true rfl), (Nat.le_of_ble_eq_true rfl)⟩) rfl rfl rfl (Nat.le_of_ble_eq_true rfl) rfl rfl dL_law_185 (by refine ⟨?_, ?_⟩ <;> simp only [rK, RB] <;> omega) ?_
  refine h_perm (zp_o (g := gO cL x (fun _ => 0)) (o := (zX cI cZ q r t)) (p := (zX cI cZ q2 r2 t))).symm ?_
  refine g_if_gt_f E dL_law_188 (tgt := 198) (by decide) (by omega) (by omega) ?_
  refine g_iload E dL_law_191 rfl ?_
  refine g_iload E dL_law_193 rfl ?_
  refine g_icmp_lt_f E dL_law_195 (tgt := 202) (by decide) (by omega) (by omega) ?_
  refine g_iconst E dL_law_198 ?_
  refine g_goto E dL_law_199 (tgt := 203) (by decide) ?_
  refine h_wid (k := 1000) (n := 10000) (by simp only [rK]; omega) (by simp only [rK]; omega) ?_
  exact hret _ _ _ (C.mono (by omega))
theorem zHd_all (hfl : l.stackTraces = false) (hX : va_X b 60 (fun _ => 0) s s.heap) (hbl : b < s.heap.size) (hbA : ¬ A0 b) (hret : ∀ (Hb : Heap) (W1 : va_W) (lv : List (Option Value)), hC A0 s Hb 141 → hJ Hb p l e RB s m args below meth c 1000 10000 Q A0 D W1 lv 203 [.int (iI 1)]) : zHd p l e s m args below meth c Q A0 D cI cZ cL b x q q2 r r2 0 0 := by
  have h := g_loop (fun n => zHd p l e s m args below meth c Q A0 D cI cZ cL b x q q2 r r2 n ((n / 5 : Nat) : Int)) 60 (zHd_60 hfl (by omega) hret) (fun n hn K => ?_) 0 (by omega)
  · exact h
  · by_cases h4 : n % 5 = 4
    · refine zHd_4 hfl hX hbl hbA hn (by omega) h4 ?_
      have h5 : (((n + 1) / 5 : Nat) : Int) = ((n / 5 : Nat) : Int) + 1 := by omega
      rw [← h5]
      exact K
    · refine zHd_1 hfl hX hbl hbA hn (by omega) h4 ?_
      have h5 : (n + 1) / 5 = n / 5 := by omega
      rw [h5] at K
      exact K
end GLP
