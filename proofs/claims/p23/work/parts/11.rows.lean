/-! ===== the judgement ===== -/
section GJ
variable {Hb : Heap} {p : Program} {l : Launch} {e : Env} {R : Room} {s : State} {m : MethodId} {args : Array Value} {below : List Frame} {meth : Method} {c : Code} {cells slots : Nat} {Q : State → Prop} {A0 : Nat → Prop} {D : va_G}
variable {own : String} {cc : ByteArray} {nL : Nat} {Ts : List Cond} {tys : List (ClassId × FieldType)} {ws : va_W} {lv lv' : List (Option Value)} {pc : Nat} {st : List Value}
def hE (Hb : Heap) (p : Program) (s : State) (m : MethodId) (args : Array Value) (c : Code) (own : String) (cc : ByteArray) (nL : Nat) (Ts : List Cond) (D : va_G) (tys : List (ClassId × FieldType)) (A0 : Nat → Prop) : Prop :=
  CallFix p m c cc nL s args Ts own ∧ va_K D vwCl tys s ∧ ∀ q : Nat, Hb.size ≤ q → A0 q
abbrev gE (p : Program) (s : State) (m : MethodId) (args : Array Value) (c : Code) (own : String) (cc : ByteArray) (nL : Nat) (Ts : List Cond) (D : va_G) (tys : List (ClassId × FieldType)) (A0 : Nat → Prop) : Prop := hE s.heap p s m args c own cc nL Ts D tys A0
def hJ (Hb : Heap) (p : Program) (l : Launch) (e : Env) (R : Room) (s : State) (m : MethodId) (args : Array Value) (below : List Frame) (meth : Method) (c : Code) (cells slots : Nat) (Q : State → Prop) (A0 : Nat → Prop) (D : va_G) (ws : va_W) (lv : List (Option Value)) (pc : Nat) (st : List Value) : Prop :=
  ∀ (H : Heap) (locs : List Loc) (ls : Array Slot), va_P D vwCl ws H → va_D A0 ws → va_S A0 Hb H locs → gL ls lv → W p l e R s m args below meth c H locs cells slots Q (F0 m pc ls st)
abbrev gJ (p : Program) (l : Launch) (e : Env) (R : Room) (s : State) (m : MethodId) (args : Array Value) (below : List Frame) (meth : Method) (c : Code) (cells slots : Nat) (Q : State → Prop) (A0 : Nat → Prop) (D : va_G) (ws : va_W) (lv : List (Option Value)) (pc : Nat) (st : List Value) : Prop := hJ s.heap p l e R s m args below meth c cells slots Q A0 D ws lv pc st
theorem g_loop (P : Nat → Prop) (n : Nat) (he : P n) (hs : ∀ k, k < n → P (k + 1) → P k) : ∀ k, k ≤ n → P k := by
  intro k hk
  have key : ∀ d k, k + d = n → P k := by
    intro d
    induction d with
    | zero => intro k h; rw [show k = n by omega]; exact he
    | succ d ih => intro k h; exact hs k (by omega) (ih (k + 1) (by omega))
  exact key (n - k) k (by omega)

theorem g_iconst (E : hE Hb p s m args c own cc nL Ts D tys A0) {n : Int} (hdg : decode cc pc = .ok (.iconst n, 1))  (K : hJ Hb p l e R s m args below meth c cells slots Q A0 D ws lv (pc + 1) (.int (iI n) :: st)) : hJ Hb p l e R s m args below meth c cells slots Q A0 D ws lv pc st := by
  obtain ⟨⟨hx, hb, hml, hown, hts⟩, hK, hA⟩ := E
  intro H locs ls hP hD hS hL
  exact lv_iconst hx hb hdg rfl (K H locs ls hP hD hS hL)
theorem g_bipush (E : hE Hb p s m args c own cc nL Ts D tys A0) {n : Int} (hdg : decode cc pc = .ok (.bipush n, 2)) (hv : (Int8.ofInt n).toInt32 = iI n) (K : hJ Hb p l e R s m args below meth c cells slots Q A0 D ws lv (pc + 2) (.int (iI n) :: st)) : hJ Hb p l e R s m args below meth c cells slots Q A0 D ws lv pc st := by
  obtain ⟨⟨hx, hb, hml, hown, hts⟩, hK, hA⟩ := E
  intro H locs ls hP hD hS hL
  exact lv_bipush hx hb hdg hv (K H locs ls hP hD hS hL)
theorem g_sipush (E : hE Hb p s m args c own cc nL Ts D tys A0) {n : Int} (hdg : decode cc pc = .ok (.sipush n, 3)) (hv : (Int16.ofInt n).toInt32 = iI n) (K : hJ Hb p l e R s m args below meth c cells slots Q A0 D ws lv (pc + 3) (.int (iI n) :: st)) : hJ Hb p l e R s m args below meth c cells slots Q A0 D ws lv pc st := by
  obtain ⟨⟨hx, hb, hml, hown, hts⟩, hK, hA⟩ := E
  intro H locs ls hP hD hS hL
  exact lv_sipush hx hb hdg hv (K H locs ls hP hD hS hL)
theorem g_iload_n (E : hE Hb p s m args c own cc nL Ts D tys A0) {k : Fin 4} {i : Nat} {x : Int32} (hdg : decode cc pc = .ok (.iload_n k, 1)) (hi : (k : Nat) = i) (hl : lv[i]? = some (some (.int x))) (K : hJ Hb p l e R s m args below meth c cells slots Q A0 D ws lv (pc + 1) (.int x :: st)) : hJ Hb p l e R s m args below meth c cells slots Q A0 D ws lv pc st := by
  obtain ⟨⟨hx, hb, hml, hown, hts⟩, hK, hA⟩ := E
  intro H locs ls hP hD hS hL
  exact lv_iload_n hx hb hdg hi (hL.2.2 i _ hl).1 (K H locs ls hP hD hS hL)
theorem g_iload (E : hE Hb p s m args c own cc nL Ts D tys A0) {i : Nat} {x : Int32} (hdg : decode cc pc = .ok (.iload i, 2)) (hl : lv[i]? = some (some (.int x))) (K : hJ Hb p l e R s m args below meth c cells slots Q A0 D ws lv (pc + 2) (.int x :: st)) : hJ Hb p l e R s m args below meth c cells slots Q A0 D ws lv pc st := by
  obtain ⟨⟨hx, hb, hml, hown, hts⟩, hK, hA⟩ := E
  intro H locs ls hP hD hS hL
  exact lv_iload hx hb hdg (hL.2.2 i _ hl).1 (K H locs ls hP hD hS hL)
theorem g_istore_n (E : hE Hb p s m args c own cc nL Ts D tys A0) {k : Fin 4} {i : Nat} {x : Int32} (hdg : decode cc pc = .ok (.istore_n k, 1)) (hi : (k : Nat) = i) (hn : i < lv.length) (hl : lv.set i (some (.int x)) = lv') (K : hJ Hb p l e R s m args below meth c cells slots Q A0 D ws lv' (pc + 1) st) : hJ Hb p l e R s m args below meth c cells slots Q A0 D ws lv pc (.int x :: st) := by
  obtain ⟨⟨hx, hb, hml, hown, hts⟩, hK, hA⟩ := E
  intro H locs ls hP hD hS hL
  subst hl
  exact lv_istore_n hx hb hdg hi (gL_has hL) hn rfl (fun ls' hL' => K H locs ls' hP hD hS (gL_put hL rfl hL'))
theorem g_istore (E : hE Hb p s m args c own cc nL Ts D tys A0) {i : Nat} {x : Int32} (hdg : decode cc pc = .ok (.istore i, 2)) (hn : i < lv.length) (hl : lv.set i (some (.int x)) = lv') (K : hJ Hb p l e R s m args below meth c cells slots Q A0 D ws lv' (pc + 2) st) : hJ Hb p l e R s m args below meth c cells slots Q A0 D ws lv pc (.int x :: st) := by
  obtain ⟨⟨hx, hb, hml, hown, hts⟩, hK, hA⟩ := E
  intro H locs ls hP hD hS hL
  subst hl
  exact lv_istore hx hb hdg (gL_has hL) hn rfl (fun ls' hL' => K H locs ls' hP hD hS (gL_put hL rfl hL'))
theorem g_aload_n (E : hE Hb p s m args c own cc nL Ts D tys A0) {k : Fin 4} {i : Nat} {x : Nat} (hdg : decode cc pc = .ok (.aload_n k, 1)) (hi : (k : Nat) = i) (hl : lv[i]? = some (some (.ref x))) (K : hJ Hb p l e R s m args below meth c cells slots Q A0 D ws lv (pc + 1) (.ref x :: st)) : hJ Hb p l e R s m args below meth c cells slots Q A0 D ws lv pc st := by
  obtain ⟨⟨hx, hb, hml, hown, hts⟩, hK, hA⟩ := E
  intro H locs ls hP hD hS hL
  exact lv_aload_n hx hb hdg hi (hL.2.2 i _ hl).1 (K H locs ls hP hD hS hL)
theorem g_aload (E : hE Hb p s m args c own cc nL Ts D tys A0) {i : Nat} {x : Nat} (hdg : decode cc pc = .ok (.aload i, 2)) (hl : lv[i]? = some (some (.ref x))) (K : hJ Hb p l e R s m args below meth c cells slots Q A0 D ws lv (pc + 2) (.ref x :: st)) : hJ Hb p l e R s m args below meth c cells slots Q A0 D ws lv pc st := by
  obtain ⟨⟨hx, hb, hml, hown, hts⟩, hK, hA⟩ := E
  intro H locs ls hP hD hS hL
  exact lv_aload hx hb hdg (hL.2.2 i _ hl).1 (K H locs ls hP hD hS hL)
theorem g_astore_n (E : hE Hb p s m args c own cc nL Ts D tys A0) {k : Fin 4} {i : Nat} {x : Nat} (hdg : decode cc pc = .ok (.astore_n k, 1)) (hi : (k : Nat) = i) (hn : i < lv.length) (hl : lv.set i (some (.ref x)) = lv') (K : hJ Hb p l e R s m args below meth c cells slots Q A0 D ws lv' (pc + 1) st) : hJ Hb p l e R s m args below meth c cells slots Q A0 D ws lv pc (.ref x :: st) := by
  obtain ⟨⟨hx, hb, hml, hown, hts⟩, hK, hA⟩ := E
  intro H locs ls hP hD hS hL
  subst hl
  exact lv_astore_n hx hb hdg hi (gL_has hL) hn rfl (fun ls' hL' => K H locs ls' hP hD hS (gL_put hL rfl hL'))
theorem g_astore (E : hE Hb p s m args c own cc nL Ts D tys A0) {i : Nat} {x : Nat} (hdg : decode cc pc = .ok (.astore i, 2)) (hn : i < lv.length) (hl : lv.set i (some (.ref x)) = lv') (K : hJ Hb p l e R s m args below meth c cells slots Q A0 D ws lv' (pc + 2) st) : hJ Hb p l e R s m args below meth c cells slots Q A0 D ws lv pc (.ref x :: st) := by
  obtain ⟨⟨hx, hb, hml, hown, hts⟩, hK, hA⟩ := E
  intro H locs ls hP hD hS hL
  subst hl
  exact lv_astore hx hb hdg (gL_has hL) hn rfl (fun ls' hL' => K H locs ls' hP hD hS (gL_put hL rfl hL'))
theorem g_iinc (E : hE Hb p s m args c own cc nL Ts D tys A0) {i : Nat} {n a : Int} (hdg : decode cc pc = .ok (.iinc i n, 3)) (h0 : lv[i]? = some (some (.int (iI a)))) (hl : lv.set i (some (.int (iI (a + n)))) = lv') (K : hJ Hb p l e R s m args below meth c cells slots Q A0 D ws lv' (pc + 3) st) : hJ Hb p l e R s m args below meth c cells slots Q A0 D ws lv pc st := by
  obtain ⟨⟨hx, hb, hml, hown, hts⟩, hK, hA⟩ := E
  intro H locs ls hP hD hS hL
  subst hl
  obtain ⟨k, hk⟩ := List.getElem?_of_mem (gAs_mem (q := (i, .int (iI a))).mpr h0)
  exact lv_iinc hx hb hdg (gL_has hL) hk (v := iI (a + n)) (by rw [← iI_add]; rfl) (List.getElem?_eq_some_iff.mp h0).1 rfl (fun ls' hL' => K H locs ls' hP hD hS (gL_put hL rfl hL'))
theorem g_iadd (E : hE Hb p s m args c own cc nL Ts D tys A0) {a b : Int} (hdg : decode cc pc = .ok (.iadd, 1))  (K : hJ Hb p l e R s m args below meth c cells slots Q A0 D ws lv (pc + 1) (.int (iI (a + b)) :: st)) : hJ Hb p l e R s m args below meth c cells slots Q A0 D ws lv pc (.int (iI b) :: .int (iI a) :: st) := by
  obtain ⟨⟨hx, hb, hml, hown, hts⟩, hK, hA⟩ := E
  intro H locs ls hP hD hS hL
  refine lv_iadd hx hb hdg ?_
  rw [iI_add]
  exact K H locs ls hP hD hS hL
theorem g_isub (E : hE Hb p s m args c own cc nL Ts D tys A0) {a b : Int} (hdg : decode cc pc = .ok (.isub, 1))  (K : hJ Hb p l e R s m args below meth c cells slots Q A0 D ws lv (pc + 1) (.int (iI (a - b)) :: st)) : hJ Hb p l e R s m args below meth c cells slots Q A0 D ws lv pc (.int (iI b) :: .int (iI a) :: st) := by
  obtain ⟨⟨hx, hb, hml, hown, hts⟩, hK, hA⟩ := E
  intro H locs ls hP hD hS hL
  refine lv_isub hx hb hdg ?_
  rw [iI_sub]
  exact K H locs ls hP hD hS hL
theorem g_idiv (E : hE Hb p s m args c own cc nL Ts D tys A0) {a b : Int} (hdg : decode cc pc = .ok (.idiv, 1)) (hr : 0 ≤ a ∧ a < 2147483648 ∧ 0 < b ∧ b < 2147483648) (K : hJ Hb p l e R s m args below meth c cells slots Q A0 D ws lv (pc + 1) (.int (iI (a / b)) :: st)) : hJ Hb p l e R s m args below meth c cells slots Q A0 D ws lv pc (.int (iI b) :: .int (iI a) :: st) := by
  obtain ⟨⟨hx, hb, hml, hown, hts⟩, hK, hA⟩ := E
  intro H locs ls hP hD hS hL
  refine lv_idiv hx hb hdg (by rw [iI_0, iI_eq ⟨by omega, by omega⟩ ⟨by omega, by omega⟩]; omega) ?_
  rw [iI_div hr.1 hr.2.1 hr.2.2.1 hr.2.2.2]
  exact K H locs ls hP hD hS hL
theorem g_iandZ (E : hE Hb p s m args c own cc nL Ts D tys A0) {a b : Int} (hdg : decode cc pc = .ok (.iand, 1)) {v : Int} (hv : iI a &&& iI b = iI v) (K : hJ Hb p l e R s m args below meth c cells slots Q A0 D ws lv (pc + 1) (.int (iI v) :: st)) : hJ Hb p l e R s m args below meth c cells slots Q A0 D ws lv pc (.int (iI b) :: .int (iI a) :: st) := by
  obtain ⟨⟨hx, hb, hml, hown, hts⟩, hK, hA⟩ := E
  intro H locs ls hP hD hS hL
  refine lv_iand hx hb hdg ?_
  rw [hv]
  exact K H locs ls hP hD hS hL
theorem g_dup (E : hE Hb p s m args c own cc nL Ts D tys A0) {v : Value} (hdg : decode cc pc = .ok (.dup, 1)) (hv : v.category = 1) (K : hJ Hb p l e R s m args below meth c cells slots Q A0 D ws lv (pc + 1) (v :: v :: st)) : hJ Hb p l e R s m args below meth c cells slots Q A0 D ws lv pc (v :: st) := by
  obtain ⟨⟨hx, hb, hml, hown, hts⟩, hK, hA⟩ := E
  intro H locs ls hP hD hS hL
  exact lv_dup hx hb hdg hv (K H locs ls hP hD hS hL)
theorem g_pop (E : hE Hb p s m args c own cc nL Ts D tys A0) {v : Value} (hdg : decode cc pc = .ok (.pop, 1)) (hv : v.category = 1) (K : hJ Hb p l e R s m args below meth c cells slots Q A0 D ws lv (pc + 1) st) : hJ Hb p l e R s m args below meth c cells slots Q A0 D ws lv pc (v :: st) := by
  obtain ⟨⟨hx, hb, hml, hown, hts⟩, hK, hA⟩ := E
  intro H locs ls hP hD hS hL
  exact lv_pop hx hb hdg hv (K H locs ls hP hD hS hL)
theorem g_dup2 (E : hE Hb p s m args c own cc nL Ts D tys A0) {v w : Value} (hdg : decode cc pc = .ok (.dup2, 1)) (hv : v.category = 1) (hw : w.category = 1) (K : hJ Hb p l e R s m args below meth c cells slots Q A0 D ws lv (pc + 1) (v :: w :: v :: w :: st)) : hJ Hb p l e R s m args below meth c cells slots Q A0 D ws lv pc (v :: w :: st) := by
  obtain ⟨⟨hx, hb, hml, hown, hts⟩, hK, hA⟩ := E
  intro H locs ls hP hD hS hL
  exact lv_dup2_11 hx hb hdg hv hw (K H locs ls hP hD hS hL)
theorem g_goto (E : hE Hb p s m args c own cc nL Ts D tys A0) {off : Int} {tgt : Nat} (hdg : decode cc pc = .ok (.goto off, 3)) (ht : (pc : Int) + off = (tgt : Int)) (K : hJ Hb p l e R s m args below meth c cells slots Q A0 D ws lv tgt st) : hJ Hb p l e R s m args below meth c cells slots Q A0 D ws lv pc st := by
  obtain ⟨⟨hx, hb, hml, hown, hts⟩, hK, hA⟩ := E
  intro H locs ls hP hD hS hL
  exact lv_goto hx hb hdg ht (K H locs ls hP hD hS hL)
theorem g_icmp_eq (E : hE Hb p s m args c own cc nL Ts D tys A0) {a b : Int} {off : Int} {tgt : Nat} (hdg : decode cc pc = .ok (.if_icmp .eq off, 3)) (ht : (pc : Int) + off = (tgt : Int)) (hr : (-2147483648 ≤ a ∧ a < 2147483648) ∧ (-2147483648 ≤ b ∧ b < 2147483648)) (kt : a = b → hJ Hb p l e R s m args below meth c cells slots Q A0 D ws lv tgt st) (kf : ¬ a = b → hJ Hb p l e R s m args below meth c cells slots Q A0 D ws lv (pc + 3) st) : hJ Hb p l e R s m args below meth c cells slots Q A0 D ws lv pc (.int (iI b) :: .int (iI a) :: st) := by
  obtain ⟨⟨hx, hb, hml, hown, hts⟩, hK, hA⟩ := E
  intro H locs ls hP hD hS hL
  have ha : gsm a := hr.1
  have hb0 : gsm b := hr.2
  exact lv_icmp_eq hx hb hdg ht (fun h => by exact kt ((iI_eq ha hb0).mp h) H locs ls hP hD hS hL) (fun h => by exact kf (fun h2 => h ((iI_eq ha hb0).mpr h2)) H locs ls hP hD hS hL)
theorem g_icmp_eq_t (E : hE Hb p s m args c own cc nL Ts D tys A0) {a b : Int} {off : Int} {tgt : Nat} (hdg : decode cc pc = .ok (.if_icmp .eq off, 3)) (ht : (pc : Int) + off = (tgt : Int)) (hr : (-2147483648 ≤ a ∧ a < 2147483648) ∧ (-2147483648 ≤ b ∧ b < 2147483648)) (h : a = b) (K : hJ Hb p l e R s m args below meth c cells slots Q A0 D ws lv tgt st) : hJ Hb p l e R s m args below meth c cells slots Q A0 D ws lv pc (.int (iI b) :: .int (iI a) :: st) := g_icmp_eq E hdg ht hr (fun _ => K) (fun h2 => absurd h h2)
theorem g_icmp_eq_f (E : hE Hb p s m args c own cc nL Ts D tys A0) {a b : Int} {off : Int} {tgt : Nat} (hdg : decode cc pc = .ok (.if_icmp .eq off, 3)) (ht : (pc : Int) + off = (tgt : Int)) (hr : (-2147483648 ≤ a ∧ a < 2147483648) ∧ (-2147483648 ≤ b ∧ b < 2147483648)) (h : ¬ a = b) (K : hJ Hb p l e R s m args below meth c cells slots Q A0 D ws lv (pc + 3) st) : hJ Hb p l e R s m args below meth c cells slots Q A0 D ws lv pc (.int (iI b) :: .int (iI a) :: st) := g_icmp_eq E hdg ht hr (fun h2 => absurd h2 h) (fun _ => K)
theorem g_if_eq (E : hE Hb p s m args c own cc nL Ts D tys A0) {a : Int} {off : Int} {tgt : Nat} (hdg : decode cc pc = .ok (.ifCond .eq off, 3)) (ht : (pc : Int) + off = (tgt : Int)) (hr : -2147483648 ≤ a ∧ a < 2147483648) (kt : a = 0 → hJ Hb p l e R s m args below meth c cells slots Q A0 D ws lv tgt st) (kf : ¬ a = 0 → hJ Hb p l e R s m args below meth c cells slots Q A0 D ws lv (pc + 3) st) : hJ Hb p l e R s m args below meth c cells slots Q A0 D ws lv pc (.int (iI a) :: st) := by
  obtain ⟨⟨hx, hb, hml, hown, hts⟩, hK, hA⟩ := E
  intro H locs ls hP hD hS hL
  have ha : gsm a := hr
  have hb0 : gsm 0 := ⟨by decide, by decide⟩
  exact lv_if_eq hx hb hdg ht (fun h => by rw [iI_0] at h; exact kt ((iI_eq ha hb0).mp h) H locs ls hP hD hS hL) (fun h => by rw [iI_0] at h; exact kf (fun h2 => h ((iI_eq ha hb0).mpr h2)) H locs ls hP hD hS hL)
theorem g_if_eq_t (E : hE Hb p s m args c own cc nL Ts D tys A0) {a : Int} {off : Int} {tgt : Nat} (hdg : decode cc pc = .ok (.ifCond .eq off, 3)) (ht : (pc : Int) + off = (tgt : Int)) (hr : -2147483648 ≤ a ∧ a < 2147483648) (h : a = 0) (K : hJ Hb p l e R s m args below meth c cells slots Q A0 D ws lv tgt st) : hJ Hb p l e R s m args below meth c cells slots Q A0 D ws lv pc (.int (iI a) :: st) := g_if_eq E hdg ht hr (fun _ => K) (fun h2 => absurd h h2)
theorem g_if_eq_f (E : hE Hb p s m args c own cc nL Ts D tys A0) {a : Int} {off : Int} {tgt : Nat} (hdg : decode cc pc = .ok (.ifCond .eq off, 3)) (ht : (pc : Int) + off = (tgt : Int)) (hr : -2147483648 ≤ a ∧ a < 2147483648) (h : ¬ a = 0) (K : hJ Hb p l e R s m args below meth c cells slots Q A0 D ws lv (pc + 3) st) : hJ Hb p l e R s m args below meth c cells slots Q A0 D ws lv pc (.int (iI a) :: st) := g_if_eq E hdg ht hr (fun h2 => absurd h2 h) (fun _ => K)
theorem g_icmp_ne (E : hE Hb p s m args c own cc nL Ts D tys A0) {a b : Int} {off : Int} {tgt : Nat} (hdg : decode cc pc = .ok (.if_icmp .ne off, 3)) (ht : (pc : Int) + off = (tgt : Int)) (hr : (-2147483648 ≤ a ∧ a < 2147483648) ∧ (-2147483648 ≤ b ∧ b < 2147483648)) (kt : ¬ a = b → hJ Hb p l e R s m args below meth c cells slots Q A0 D ws lv tgt st) (kf : a = b → hJ Hb p l e R s m args below meth c cells slots Q A0 D ws lv (pc + 3) st) : hJ Hb p l e R s m args below meth c cells slots Q A0 D ws lv pc (.int (iI b) :: .int (iI a) :: st) := by
  obtain ⟨⟨hx, hb, hml, hown, hts⟩, hK, hA⟩ := E
  intro H locs ls hP hD hS hL
  have ha : gsm a := hr.1
  have hb0 : gsm b := hr.2
  refine lv_icmp_ne hx hb hdg ht (fun h => ?_) (fun h => ?_)
  · skip
    exact kt (fun h2 => h ((iI_eq ha hb0).mpr h2)) H locs ls hP hD hS hL
  · skip
    exact kf (by first | exact (iI_eq ha hb0).mp h | exact (iI_eq ha hb0).mp (Decidable.not_not.mp h)) H locs ls hP hD hS hL
theorem g_icmp_ne_t (E : hE Hb p s m args c own cc nL Ts D tys A0) {a b : Int} {off : Int} {tgt : Nat} (hdg : decode cc pc = .ok (.if_icmp .ne off, 3)) (ht : (pc : Int) + off = (tgt : Int)) (hr : (-2147483648 ≤ a ∧ a < 2147483648) ∧ (-2147483648 ≤ b ∧ b < 2147483648)) (h : ¬ a = b) (K : hJ Hb p l e R s m args below meth c cells slots Q A0 D ws lv tgt st) : hJ Hb p l e R s m args below meth c cells slots Q A0 D ws lv pc (.int (iI b) :: .int (iI a) :: st) := g_icmp_ne E hdg ht hr (fun _ => K) (fun h2 => absurd h2 h)
theorem g_icmp_ne_f (E : hE Hb p s m args c own cc nL Ts D tys A0) {a b : Int} {off : Int} {tgt : Nat} (hdg : decode cc pc = .ok (.if_icmp .ne off, 3)) (ht : (pc : Int) + off = (tgt : Int)) (hr : (-2147483648 ≤ a ∧ a < 2147483648) ∧ (-2147483648 ≤ b ∧ b < 2147483648)) (h : a = b) (K : hJ Hb p l e R s m args below meth c cells slots Q A0 D ws lv (pc + 3) st) : hJ Hb p l e R s m args below meth c cells slots Q A0 D ws lv pc (.int (iI b) :: .int (iI a) :: st) := g_icmp_ne E hdg ht hr (fun h2 => absurd h h2) (fun _ => K)
theorem g_if_ne (E : hE Hb p s m args c own cc nL Ts D tys A0) {a : Int} {off : Int} {tgt : Nat} (hdg : decode cc pc = .ok (.ifCond .ne off, 3)) (ht : (pc : Int) + off = (tgt : Int)) (hr : -2147483648 ≤ a ∧ a < 2147483648) (kt : ¬ a = 0 → hJ Hb p l e R s m args below meth c cells slots Q A0 D ws lv tgt st) (kf : a = 0 → hJ Hb p l e R s m args below meth c cells slots Q A0 D ws lv (pc + 3) st) : hJ Hb p l e R s m args below meth c cells slots Q A0 D ws lv pc (.int (iI a) :: st) := by
  obtain ⟨⟨hx, hb, hml, hown, hts⟩, hK, hA⟩ := E
  intro H locs ls hP hD hS hL
  have ha : gsm a := hr
  have hb0 : gsm 0 := ⟨by decide, by decide⟩
  refine lv_if_ne hx hb hdg ht (fun h => ?_) (fun h => ?_)
  · rw [iI_0] at h
    exact kt (fun h2 => h ((iI_eq ha hb0).mpr h2)) H locs ls hP hD hS hL
  · rw [iI_0] at h
    exact kf (by first | exact (iI_eq ha hb0).mp h | exact (iI_eq ha hb0).mp (Decidable.not_not.mp h)) H locs ls hP hD hS hL
theorem g_if_ne_t (E : hE Hb p s m args c own cc nL Ts D tys A0) {a : Int} {off : Int} {tgt : Nat} (hdg : decode cc pc = .ok (.ifCond .ne off, 3)) (ht : (pc : Int) + off = (tgt : Int)) (hr : -2147483648 ≤ a ∧ a < 2147483648) (h : ¬ a = 0) (K : hJ Hb p l e R s m args below meth c cells slots Q A0 D ws lv tgt st) : hJ Hb p l e R s m args below meth c cells slots Q A0 D ws lv pc (.int (iI a) :: st) := g_if_ne E hdg ht hr (fun _ => K) (fun h2 => absurd h2 h)
theorem g_if_ne_f (E : hE Hb p s m args c own cc nL Ts D tys A0) {a : Int} {off : Int} {tgt : Nat} (hdg : decode cc pc = .ok (.ifCond .ne off, 3)) (ht : (pc : Int) + off = (tgt : Int)) (hr : -2147483648 ≤ a ∧ a < 2147483648) (h : a = 0) (K : hJ Hb p l e R s m args below meth c cells slots Q A0 D ws lv (pc + 3) st) : hJ Hb p l e R s m args below meth c cells slots Q A0 D ws lv pc (.int (iI a) :: st) := g_if_ne E hdg ht hr (fun h2 => absurd h h2) (fun _ => K)
theorem g_icmp_lt (E : hE Hb p s m args c own cc nL Ts D tys A0) {a b : Int} {off : Int} {tgt : Nat} (hdg : decode cc pc = .ok (.if_icmp .lt off, 3)) (ht : (pc : Int) + off = (tgt : Int)) (hr : (-2147483648 ≤ a ∧ a < 2147483648) ∧ (-2147483648 ≤ b ∧ b < 2147483648)) (kt : a < b → hJ Hb p l e R s m args below meth c cells slots Q A0 D ws lv tgt st) (kf : ¬ a < b → hJ Hb p l e R s m args below meth c cells slots Q A0 D ws lv (pc + 3) st) : hJ Hb p l e R s m args below meth c cells slots Q A0 D ws lv pc (.int (iI b) :: .int (iI a) :: st) := by
  obtain ⟨⟨hx, hb, hml, hown, hts⟩, hK, hA⟩ := E
  intro H locs ls hP hD hS hL
  have ha : gsm a := hr.1
  have hb0 : gsm b := hr.2
  exact lv_icmp_lt hx hb hdg ht (fun h => by exact kt ((iI_lt ha hb0).mp h) H locs ls hP hD hS hL) (fun h => by exact kf (fun h2 => h ((iI_lt ha hb0).mpr h2)) H locs ls hP hD hS hL)
theorem g_icmp_lt_t (E : hE Hb p s m args c own cc nL Ts D tys A0) {a b : Int} {off : Int} {tgt : Nat} (hdg : decode cc pc = .ok (.if_icmp .lt off, 3)) (ht : (pc : Int) + off = (tgt : Int)) (hr : (-2147483648 ≤ a ∧ a < 2147483648) ∧ (-2147483648 ≤ b ∧ b < 2147483648)) (h : a < b) (K : hJ Hb p l e R s m args below meth c cells slots Q A0 D ws lv tgt st) : hJ Hb p l e R s m args below meth c cells slots Q A0 D ws lv pc (.int (iI b) :: .int (iI a) :: st) := g_icmp_lt E hdg ht hr (fun _ => K) (fun h2 => absurd h h2)
theorem g_icmp_lt_f (E : hE Hb p s m args c own cc nL Ts D tys A0) {a b : Int} {off : Int} {tgt : Nat} (hdg : decode cc pc = .ok (.if_icmp .lt off, 3)) (ht : (pc : Int) + off = (tgt : Int)) (hr : (-2147483648 ≤ a ∧ a < 2147483648) ∧ (-2147483648 ≤ b ∧ b < 2147483648)) (h : ¬ a < b) (K : hJ Hb p l e R s m args below meth c cells slots Q A0 D ws lv (pc + 3) st) : hJ Hb p l e R s m args below meth c cells slots Q A0 D ws lv pc (.int (iI b) :: .int (iI a) :: st) := g_icmp_lt E hdg ht hr (fun h2 => absurd h2 h) (fun _ => K)
theorem g_if_lt (E : hE Hb p s m args c own cc nL Ts D tys A0) {a : Int} {off : Int} {tgt : Nat} (hdg : decode cc pc = .ok (.ifCond .lt off, 3)) (ht : (pc : Int) + off = (tgt : Int)) (hr : -2147483648 ≤ a ∧ a < 2147483648) (kt : a < 0 → hJ Hb p l e R s m args below meth c cells slots Q A0 D ws lv tgt st) (kf : ¬ a < 0 → hJ Hb p l e R s m args below meth c cells slots Q A0 D ws lv (pc + 3) st) : hJ Hb p l e R s m args below meth c cells slots Q A0 D ws lv pc (.int (iI a) :: st) := by
  obtain ⟨⟨hx, hb, hml, hown, hts⟩, hK, hA⟩ := E
  intro H locs ls hP hD hS hL
  have ha : gsm a := hr
  have hb0 : gsm 0 := ⟨by decide, by decide⟩
  exact lv_if_lt hx hb hdg ht (fun h => by rw [iI_0] at h; exact kt ((iI_lt ha hb0).mp h) H locs ls hP hD hS hL) (fun h => by rw [iI_0] at h; exact kf (fun h2 => h ((iI_lt ha hb0).mpr h2)) H locs ls hP hD hS hL)
theorem g_if_lt_t (E : hE Hb p s m args c own cc nL Ts D tys A0) {a : Int} {off : Int} {tgt : Nat} (hdg : decode cc pc = .ok (.ifCond .lt off, 3)) (ht : (pc : Int) + off = (tgt : Int)) (hr : -2147483648 ≤ a ∧ a < 2147483648) (h : a < 0) (K : hJ Hb p l e R s m args below meth c cells slots Q A0 D ws lv tgt st) : hJ Hb p l e R s m args below meth c cells slots Q A0 D ws lv pc (.int (iI a) :: st) := g_if_lt E hdg ht hr (fun _ => K) (fun h2 => absurd h h2)
theorem g_if_lt_f (E : hE Hb p s m args c own cc nL Ts D tys A0) {a : Int} {off : Int} {tgt : Nat} (hdg : decode cc pc = .ok (.ifCond .lt off, 3)) (ht : (pc : Int) + off = (tgt : Int)) (hr : -2147483648 ≤ a ∧ a < 2147483648) (h : ¬ a < 0) (K : hJ Hb p l e R s m args below meth c cells slots Q A0 D ws lv (pc + 3) st) : hJ Hb p l e R s m args below meth c cells slots Q A0 D ws lv pc (.int (iI a) :: st) := g_if_lt E hdg ht hr (fun h2 => absurd h2 h) (fun _ => K)
theorem g_icmp_ge (E : hE Hb p s m args c own cc nL Ts D tys A0) {a b : Int} {off : Int} {tgt : Nat} (hdg : decode cc pc = .ok (.if_icmp .ge off, 3)) (ht : (pc : Int) + off = (tgt : Int)) (hr : (-2147483648 ≤ a ∧ a < 2147483648) ∧ (-2147483648 ≤ b ∧ b < 2147483648)) (kt : b ≤ a → hJ Hb p l e R s m args below meth c cells slots Q A0 D ws lv tgt st) (kf : ¬ b ≤ a → hJ Hb p l e R s m args below meth c cells slots Q A0 D ws lv (pc + 3) st) : hJ Hb p l e R s m args below meth c cells slots Q A0 D ws lv pc (.int (iI b) :: .int (iI a) :: st) := by
  obtain ⟨⟨hx, hb, hml, hown, hts⟩, hK, hA⟩ := E
  intro H locs ls hP hD hS hL
  have ha : gsm a := hr.1
  have hb0 : gsm b := hr.2
  exact lv_icmp_ge hx hb hdg ht (fun h => by exact kt ((iI_le hb0 ha).mp h) H locs ls hP hD hS hL) (fun h => by exact kf (fun h2 => h ((iI_le hb0 ha).mpr h2)) H locs ls hP hD hS hL)
theorem g_icmp_ge_t (E : hE Hb p s m args c own cc nL Ts D tys A0) {a b : Int} {off : Int} {tgt : Nat} (hdg : decode cc pc = .ok (.if_icmp .ge off, 3)) (ht : (pc : Int) + off = (tgt : Int)) (hr : (-2147483648 ≤ a ∧ a < 2147483648) ∧ (-2147483648 ≤ b ∧ b < 2147483648)) (h : b ≤ a) (K : hJ Hb p l e R s m args below meth c cells slots Q A0 D ws lv tgt st) : hJ Hb p l e R s m args below meth c cells slots Q A0 D ws lv pc (.int (iI b) :: .int (iI a) :: st) := g_icmp_ge E hdg ht hr (fun _ => K) (fun h2 => absurd h h2)
theorem g_icmp_ge_f (E : hE Hb p s m args c own cc nL Ts D tys A0) {a b : Int} {off : Int} {tgt : Nat} (hdg : decode cc pc = .ok (.if_icmp .ge off, 3)) (ht : (pc : Int) + off = (tgt : Int)) (hr : (-2147483648 ≤ a ∧ a < 2147483648) ∧ (-2147483648 ≤ b ∧ b < 2147483648)) (h : ¬ b ≤ a) (K : hJ Hb p l e R s m args below meth c cells slots Q A0 D ws lv (pc + 3) st) : hJ Hb p l e R s m args below meth c cells slots Q A0 D ws lv pc (.int (iI b) :: .int (iI a) :: st) := g_icmp_ge E hdg ht hr (fun h2 => absurd h2 h) (fun _ => K)
theorem g_if_ge (E : hE Hb p s m args c own cc nL Ts D tys A0) {a : Int} {off : Int} {tgt : Nat} (hdg : decode cc pc = .ok (.ifCond .ge off, 3)) (ht : (pc : Int) + off = (tgt : Int)) (hr : -2147483648 ≤ a ∧ a < 2147483648) (kt : 0 ≤ a → hJ Hb p l e R s m args below meth c cells slots Q A0 D ws lv tgt st) (kf : ¬ 0 ≤ a → hJ Hb p l e R s m args below meth c cells slots Q A0 D ws lv (pc + 3) st) : hJ Hb p l e R s m args below meth c cells slots Q A0 D ws lv pc (.int (iI a) :: st) := by
  obtain ⟨⟨hx, hb, hml, hown, hts⟩, hK, hA⟩ := E
  intro H locs ls hP hD hS hL
  have ha : gsm a := hr
  have hb0 : gsm 0 := ⟨by decide, by decide⟩
  exact lv_if_ge hx hb hdg ht (fun h => by rw [iI_0] at h; exact kt ((iI_le hb0 ha).mp h) H locs ls hP hD hS hL) (fun h => by rw [iI_0] at h; exact kf (fun h2 => h ((iI_le hb0 ha).mpr h2)) H locs ls hP hD hS hL)
theorem g_if_ge_t (E : hE Hb p s m args c own cc nL Ts D tys A0) {a : Int} {off : Int} {tgt : Nat} (hdg : decode cc pc = .ok (.ifCond .ge off, 3)) (ht : (pc : Int) + off = (tgt : Int)) (hr : -2147483648 ≤ a ∧ a < 2147483648) (h : 0 ≤ a) (K : hJ Hb p l e R s m args below meth c cells slots Q A0 D ws lv tgt st) : hJ Hb p l e R s m args below meth c cells slots Q A0 D ws lv pc (.int (iI a) :: st) := g_if_ge E hdg ht hr (fun _ => K) (fun h2 => absurd h h2)
theorem g_if_ge_f (E : hE Hb p s m args c own cc nL Ts D tys A0) {a : Int} {off : Int} {tgt : Nat} (hdg : decode cc pc = .ok (.ifCond .ge off, 3)) (ht : (pc : Int) + off = (tgt : Int)) (hr : -2147483648 ≤ a ∧ a < 2147483648) (h : ¬ 0 ≤ a) (K : hJ Hb p l e R s m args below meth c cells slots Q A0 D ws lv (pc + 3) st) : hJ Hb p l e R s m args below meth c cells slots Q A0 D ws lv pc (.int (iI a) :: st) := g_if_ge E hdg ht hr (fun h2 => absurd h2 h) (fun _ => K)
theorem g_icmp_gt (E : hE Hb p s m args c own cc nL Ts D tys A0) {a b : Int} {off : Int} {tgt : Nat} (hdg : decode cc pc = .ok (.if_icmp .gt off, 3)) (ht : (pc : Int) + off = (tgt : Int)) (hr : (-2147483648 ≤ a ∧ a < 2147483648) ∧ (-2147483648 ≤ b ∧ b < 2147483648)) (kt : b < a → hJ Hb p l e R s m args below meth c cells slots Q A0 D ws lv tgt st) (kf : ¬ b < a → hJ Hb p l e R s m args below meth c cells slots Q A0 D ws lv (pc + 3) st) : hJ Hb p l e R s m args below meth c cells slots Q A0 D ws lv pc (.int (iI b) :: .int (iI a) :: st) := by
  obtain ⟨⟨hx, hb, hml, hown, hts⟩, hK, hA⟩ := E
  intro H locs ls hP hD hS hL
  have ha : gsm a := hr.1
  have hb0 : gsm b := hr.2
  exact lv_icmp_gt hx hb hdg ht (fun h => by exact kt ((iI_lt hb0 ha).mp h) H locs ls hP hD hS hL) (fun h => by exact kf (fun h2 => h ((iI_lt hb0 ha).mpr h2)) H locs ls hP hD hS hL)
theorem g_icmp_gt_t (E : hE Hb p s m args c own cc nL Ts D tys A0) {a b : Int} {off : Int} {tgt : Nat} (hdg : decode cc pc = .ok (.if_icmp .gt off, 3)) (ht : (pc : Int) + off = (tgt : Int)) (hr : (-2147483648 ≤ a ∧ a < 2147483648) ∧ (-2147483648 ≤ b ∧ b < 2147483648)) (h : b < a) (K : hJ Hb p l e R s m args below meth c cells slots Q A0 D ws lv tgt st) : hJ Hb p l e R s m args below meth c cells slots Q A0 D ws lv pc (.int (iI b) :: .int (iI a) :: st) := g_icmp_gt E hdg ht hr (fun _ => K) (fun h2 => absurd h h2)
theorem g_icmp_gt_f (E : hE Hb p s m args c own cc nL Ts D tys A0) {a b : Int} {off : Int} {tgt : Nat} (hdg : decode cc pc = .ok (.if_icmp .gt off, 3)) (ht : (pc : Int) + off = (tgt : Int)) (hr : (-2147483648 ≤ a ∧ a < 2147483648) ∧ (-2147483648 ≤ b ∧ b < 2147483648)) (h : ¬ b < a) (K : hJ Hb p l e R s m args below meth c cells slots Q A0 D ws lv (pc + 3) st) : hJ Hb p l e R s m args below meth c cells slots Q A0 D ws lv pc (.int (iI b) :: .int (iI a) :: st) := g_icmp_gt E hdg ht hr (fun h2 => absurd h2 h) (fun _ => K)
theorem g_if_gt (E : hE Hb p s m args c own cc nL Ts D tys A0) {a : Int} {off : Int} {tgt : Nat} (hdg : decode cc pc = .ok (.ifCond .gt off, 3)) (ht : (pc : Int) + off = (tgt : Int)) (hr : -2147483648 ≤ a ∧ a < 2147483648) (kt : 0 < a → hJ Hb p l e R s m args below meth c cells slots Q A0 D ws lv tgt st) (kf : ¬ 0 < a → hJ Hb p l e R s m args below meth c cells slots Q A0 D ws lv (pc + 3) st) : hJ Hb p l e R s m args below meth c cells slots Q A0 D ws lv pc (.int (iI a) :: st) := by
  obtain ⟨⟨hx, hb, hml, hown, hts⟩, hK, hA⟩ := E
  intro H locs ls hP hD hS hL
  have ha : gsm a := hr
  have hb0 : gsm 0 := ⟨by decide, by decide⟩
  exact lv_if_gt hx hb hdg ht (fun h => by rw [iI_0] at h; exact kt ((iI_lt hb0 ha).mp h) H locs ls hP hD hS hL) (fun h => by rw [iI_0] at h; exact kf (fun h2 => h ((iI_lt hb0 ha).mpr h2)) H locs ls hP hD hS hL)
theorem g_if_gt_t (E : hE Hb p s m args c own cc nL Ts D tys A0) {a : Int} {off : Int} {tgt : Nat} (hdg : decode cc pc = .ok (.ifCond .gt off, 3)) (ht : (pc : Int) + off = (tgt : Int)) (hr : -2147483648 ≤ a ∧ a < 2147483648) (h : 0 < a) (K : hJ Hb p l e R s m args below meth c cells slots Q A0 D ws lv tgt st) : hJ Hb p l e R s m args below meth c cells slots Q A0 D ws lv pc (.int (iI a) :: st) := g_if_gt E hdg ht hr (fun _ => K) (fun h2 => absurd h h2)
theorem g_if_gt_f (E : hE Hb p s m args c own cc nL Ts D tys A0) {a : Int} {off : Int} {tgt : Nat} (hdg : decode cc pc = .ok (.ifCond .gt off, 3)) (ht : (pc : Int) + off = (tgt : Int)) (hr : -2147483648 ≤ a ∧ a < 2147483648) (h : ¬ 0 < a) (K : hJ Hb p l e R s m args below meth c cells slots Q A0 D ws lv (pc + 3) st) : hJ Hb p l e R s m args below meth c cells slots Q A0 D ws lv pc (.int (iI a) :: st) := g_if_gt E hdg ht hr (fun h2 => absurd h2 h) (fun _ => K)
theorem g_icmp_le (E : hE Hb p s m args c own cc nL Ts D tys A0) {a b : Int} {off : Int} {tgt : Nat} (hdg : decode cc pc = .ok (.if_icmp .le off, 3)) (ht : (pc : Int) + off = (tgt : Int)) (hr : (-2147483648 ≤ a ∧ a < 2147483648) ∧ (-2147483648 ≤ b ∧ b < 2147483648)) (kt : a ≤ b → hJ Hb p l e R s m args below meth c cells slots Q A0 D ws lv tgt st) (kf : ¬ a ≤ b → hJ Hb p l e R s m args below meth c cells slots Q A0 D ws lv (pc + 3) st) : hJ Hb p l e R s m args below meth c cells slots Q A0 D ws lv pc (.int (iI b) :: .int (iI a) :: st) := by
  obtain ⟨⟨hx, hb, hml, hown, hts⟩, hK, hA⟩ := E
  intro H locs ls hP hD hS hL
  have ha : gsm a := hr.1
  have hb0 : gsm b := hr.2
  exact lv_icmp_le hx hb hdg ht (fun h => by exact kt ((iI_le ha hb0).mp h) H locs ls hP hD hS hL) (fun h => by exact kf (fun h2 => h ((iI_le ha hb0).mpr h2)) H locs ls hP hD hS hL)
theorem g_icmp_le_t (E : hE Hb p s m args c own cc nL Ts D tys A0) {a b : Int} {off : Int} {tgt : Nat} (hdg : decode cc pc = .ok (.if_icmp .le off, 3)) (ht : (pc : Int) + off = (tgt : Int)) (hr : (-2147483648 ≤ a ∧ a < 2147483648) ∧ (-2147483648 ≤ b ∧ b < 2147483648)) (h : a ≤ b) (K : hJ Hb p l e R s m args below meth c cells slots Q A0 D ws lv tgt st) : hJ Hb p l e R s m args below meth c cells slots Q A0 D ws lv pc (.int (iI b) :: .int (iI a) :: st) := g_icmp_le E hdg ht hr (fun _ => K) (fun h2 => absurd h h2)
theorem g_icmp_le_f (E : hE Hb p s m args c own cc nL Ts D tys A0) {a b : Int} {off : Int} {tgt : Nat} (hdg : decode cc pc = .ok (.if_icmp .le off, 3)) (ht : (pc : Int) + off = (tgt : Int)) (hr : (-2147483648 ≤ a ∧ a < 2147483648) ∧ (-2147483648 ≤ b ∧ b < 2147483648)) (h : ¬ a ≤ b) (K : hJ Hb p l e R s m args below meth c cells slots Q A0 D ws lv (pc + 3) st) : hJ Hb p l e R s m args below meth c cells slots Q A0 D ws lv pc (.int (iI b) :: .int (iI a) :: st) := g_icmp_le E hdg ht hr (fun h2 => absurd h2 h) (fun _ => K)
theorem g_if_le (E : hE Hb p s m args c own cc nL Ts D tys A0) {a : Int} {off : Int} {tgt : Nat} (hdg : decode cc pc = .ok (.ifCond .le off, 3)) (ht : (pc : Int) + off = (tgt : Int)) (hr : -2147483648 ≤ a ∧ a < 2147483648) (kt : a ≤ 0 → hJ Hb p l e R s m args below meth c cells slots Q A0 D ws lv tgt st) (kf : ¬ a ≤ 0 → hJ Hb p l e R s m args below meth c cells slots Q A0 D ws lv (pc + 3) st) : hJ Hb p l e R s m args below meth c cells slots Q A0 D ws lv pc (.int (iI a) :: st) := by
  obtain ⟨⟨hx, hb, hml, hown, hts⟩, hK, hA⟩ := E
  intro H locs ls hP hD hS hL
  have ha : gsm a := hr
  have hb0 : gsm 0 := ⟨by decide, by decide⟩
  exact lv_if_le hx hb hdg ht (fun h => by rw [iI_0] at h; exact kt ((iI_le ha hb0).mp h) H locs ls hP hD hS hL) (fun h => by rw [iI_0] at h; exact kf (fun h2 => h ((iI_le ha hb0).mpr h2)) H locs ls hP hD hS hL)
theorem g_if_le_t (E : hE Hb p s m args c own cc nL Ts D tys A0) {a : Int} {off : Int} {tgt : Nat} (hdg : decode cc pc = .ok (.ifCond .le off, 3)) (ht : (pc : Int) + off = (tgt : Int)) (hr : -2147483648 ≤ a ∧ a < 2147483648) (h : a ≤ 0) (K : hJ Hb p l e R s m args below meth c cells slots Q A0 D ws lv tgt st) : hJ Hb p l e R s m args below meth c cells slots Q A0 D ws lv pc (.int (iI a) :: st) := g_if_le E hdg ht hr (fun _ => K) (fun h2 => absurd h h2)
theorem g_if_le_f (E : hE Hb p s m args c own cc nL Ts D tys A0) {a : Int} {off : Int} {tgt : Nat} (hdg : decode cc pc = .ok (.ifCond .le off, 3)) (ht : (pc : Int) + off = (tgt : Int)) (hr : -2147483648 ≤ a ∧ a < 2147483648) (h : ¬ a ≤ 0) (K : hJ Hb p l e R s m args below meth c cells slots Q A0 D ws lv (pc + 3) st) : hJ Hb p l e R s m args below meth c cells slots Q A0 D ws lv pc (.int (iI a) :: st) := g_if_le E hdg ht hr (fun h2 => absurd h2 h) (fun _ => K)
end GJ
