/-! ===== rows for constructors ===== -/
section GK
variable {Hb : Heap} {p : Program} {l : Launch} {e : Env} {R : Room} {s : State} {m : MethodId} {args : Array Value} {below : List Frame} {meth : Method} {c : Code} {cells slots : Nat} {Q : State → Prop} {A0 : Nat → Prop} {D : va_G}
variable {own : String} {cc : ByteArray} {nL : Nat} {Ts : List Cond} {ws : va_W} {lv : List (Option Value)} {pc : Nat} {st : List Value} {cI cZ : ClassId}
theorem g_obj {tys : List (ClassId × FieldType)} (E : hE Hb p s m args c own cc nL Ts D tys A0) {index a : Nat} (h1 : Cond.methodLink own index objectInit ∈ Ts) (h2 : Cond.instanceMethod objectInit ∈ Ts) (h3 : Cond.code objectInit ⟨#[0xb1]⟩ 1 none ∈ Ts) (hlv : lv.length = nL) (hdg : decode cc pc = .ok (.invokespecial index, 3)) (hR : 1 ≤ R.frames ∧ (st.map fun v => v.category).sum + 12 ≤ R.locals)
    (K : hJ Hb p l e R s m args below meth c cells slots Q A0 D ws lv (pc + 3) st) : hJ Hb p l e R s m args below meth c cells slots Q A0 D ws lv pc (.ref a :: st) := by
  obtain ⟨⟨hx, hb, hml, hown, hts⟩, hK, hA⟩ := E
  intro H locs ls hP hD hS hL
  refine W.objInit hx hb hown (hts _ h1) (hts _ h2) (hts _ h3) rfl (by rw [hml]; exact hL.1.trans hlv) rfl hdg hR.1 (by show 2 * 0 + _ + 12 ≤ _; omega) ?_
  exact K H locs ls hP hD hS hL
theorem g_newI (E : hE Hb p s m args c own cc nL Ts D (gTy cI cZ) A0) {n : Nat} {x : Int} (harr : Cond.arrayClass .int ∈ Ts) (hdg : decode cc pc = .ok (.newarray .int, 2)) (hx0 : x = (n : Int)) (hn : n ≤ 100) (hcs : cells + 1 ≤ R.cells ∧ slots + n ≤ R.slots)
    (K : ∀ a : Nat, hJ Hb p l e R s m args below meth c (cells + 1) (slots + n) Q A0 D (ws ++ [(a, gAc cI cZ (false, n) (fun _ => 0))]) lv (pc + 2) (.ref a :: st)) : hJ Hb p l e R s m args below meth c cells slots Q A0 D ws lv pc (.int (iI x) :: st) := by
  subst hx0
  obtain ⟨⟨hx, hb, hml, hown, hts⟩, hK, hA⟩ := E
  intro H locs ls hP hD hS hL
  have h0 : ¬ iI (n : Int) < 0 := by rw [iI_0, iI_lt ⟨by omega, by omega⟩ ⟨by omega, by omega⟩]; omega
  refine va_newa (D := D) (cl := vwCl) (atype := .int) (a0 := (n, .inl (fun _ => iI 0))) hx hb (hts _ harr) rfl hK hP hD hS hA (fun _ => rfl) h0 (N' := n) (by rw [iI_cl (by omega) (by omega)]; omega) (by show n * 4 ≤ _; omega) hcs.1 hcs.2 hdg (fun a cA H1 hK1 hP1 hD1 hS1 => ?_)
  have e1 : s.vm.findClass ("[" ++ FieldType.int.toString) = some cA := (hK1.2 2 _ rfl).2
  have e2 : s.vm.findClass ("[" ++ FieldType.int.toString) = some cI := (hK.2 0 _ rfl).2
  cases Option.some.inj (e1.symm.trans e2)
  exact K a H1 locs ls hP1 hD1 hS1 hL
theorem g_newZ (E : hE Hb p s m args c own cc nL Ts D (gTy cI cZ) A0) {n : Nat} {x : Int} (harr : Cond.arrayClass .boolean ∈ Ts) (hdg : decode cc pc = .ok (.newarray .boolean, 2)) (hx0 : x = (n : Int)) (hn : n ≤ 100) (hcs : cells + 1 ≤ R.cells ∧ slots + n ≤ R.slots)
    (K : ∀ a : Nat, hJ Hb p l e R s m args below meth c (cells + 1) (slots + n) Q A0 D (ws ++ [(a, gAc cI cZ (true, n) (fun _ => 0))]) lv (pc + 2) (.ref a :: st)) : hJ Hb p l e R s m args below meth c cells slots Q A0 D ws lv pc (.int (iI x) :: st) := by
  subst hx0
  obtain ⟨⟨hx, hb, hml, hown, hts⟩, hK, hA⟩ := E
  intro H locs ls hP hD hS hL
  have h0 : ¬ iI (n : Int) < 0 := by rw [iI_0, iI_lt ⟨by omega, by omega⟩ ⟨by omega, by omega⟩]; omega
  refine va_newa (D := D) (cl := vwCl) (atype := .boolean) (a0 := (n, .inl (fun _ => iI 0))) hx hb (hts _ harr) rfl hK hP hD hS hA (fun _ => rfl) h0 (N' := n) (by rw [iI_cl (by omega) (by omega)]; omega) (by show n * 1 ≤ _; omega) hcs.1 hcs.2 hdg (fun a cA H1 hK1 hP1 hD1 hS1 => ?_)
  have e1 : s.vm.findClass ("[" ++ FieldType.boolean.toString) = some cA := (hK1.2 2 _ rfl).2
  have e2 : s.vm.findClass ("[" ++ FieldType.boolean.toString) = some cZ := (hK.2 1 _ rfl).2
  cases Option.some.inj (e1.symm.trans e2)
  exact K a H1 locs ls hP1 hD1 hS1 hL
theorem g_putO {tys : List (ClassId × FieldType)} (E : hE Hb p s m args c own cc nL Ts D tys A0) {ci j q : Nat} {v : Int} {fs fs' : List Value} {W' : va_W} {ty0 : Nat → FieldType} {C : String} {T : u_T} {N index : Nat} (hin : ∀ w ∈ u_ws C T N, w ∈ Ts) (hc : vwCl[ci]? = some (C, T, N)) (hlink : Cond.fieldLink own index (T j).1 (T j).2.1 (T j).2.2.1 ∈ Ts) (hdg : decode cc pc = .ok (.putfield index, 3)) (hty : ∀ k, k < N → parseFieldDescriptor (T k).2.2.1 = some (ty0 k)) (hnm : ∀ a, a < N → ∀ b, b < N → a ≠ b → (T a).2.1 ≠ (T b).2.1) (hj : j < N) (hfin : (T j).2.2.2 = false) (hd : parseFieldDescriptor (T j).2.2.1 = some .int) (hl : j < fs.length) (hF : fs.set j (.int (iI v)) = fs')
    (K : hJ Hb p l e R s m args below meth c cells slots Q A0 D ((q, .inr (ci, fs')) :: W') lv (pc + 3) st) : hJ Hb p l e R s m args below meth c cells slots Q A0 D ((q, .inr (ci, fs)) :: W') lv pc (.int (iI v) :: .ref q :: st) := by
  obtain ⟨⟨hx, hb, hml, hown, hts⟩, hK, hA⟩ := E
  intro H locs ls hP hD hS hL
  refine va_put (D := D) (v := .int (iI v)) (ty := .int) hx hb hts hin ty0 hty hnm hown hK hP hD hS 0 rfl hc j hj (hts _ hlink) (fun _ h9 => h9) hfin hd rfl rfl hl hdg (fun H1 locs1 hP1 hD1 hS1 => ?_)
  rw [List.set_cons_zero, hF] at hP1 hD1
  exact K H1 locs1 ls hP1 hD1 hS1 hL
theorem g_putOF {tys : List (ClassId × FieldType)} (E : hE Hb p s m args c own cc nL Ts D tys A0) (hin2 : meth.name = "<init>") {ci j q a : Nat} {fs fs' : List Value} {W' : va_W} {ty0 : Nat → FieldType} {ty : FieldType} {C : String} {T : u_T} {N index : Nat} (hin : ∀ w ∈ u_ws C T N, w ∈ Ts) (hc : vwCl[ci]? = some (C, T, N)) (hlink : Cond.fieldLink own index (T j).1 (T j).2.1 (T j).2.2.1 ∈ Ts) (hdg : decode cc pc = .ok (.putfield index, 3)) (hty : ∀ k, k < N → parseFieldDescriptor (T k).2.2.1 = some (ty0 k)) (hnm : ∀ a, a < N → ∀ b, b < N → a ≠ b → (T a).2.1 ≠ (T b).2.1) (hj : j < N) (hfin : (T j).2.2.2 = true) (hdecl : (T j).1 = own) (hd : parseFieldDescriptor (T j).2.2.1 = some ty) (hn : narrow ty (.ref a) = .ref a) (hfit : fits ty (.ref a) = true) (hl : j < fs.length) (hF : fs.set j (.ref a) = fs')
    (K : hJ Hb p l e R s m args below meth c cells slots Q A0 D ((q, .inr (ci, fs')) :: W') lv (pc + 3) st) : hJ Hb p l e R s m args below meth c cells slots Q A0 D ((q, .inr (ci, fs)) :: W') lv pc (.ref a :: .ref q :: st) := by
  obtain ⟨⟨hx, hb, hml, hown, hts⟩, hK, hA⟩ := E
  intro H locs ls hP hD hS hL
  refine va_putF (D := D) (v := .ref a) (ty := ty) hx hb hts hin ty0 hty hnm hown hK hP hD hS 0 rfl hc j hj (hts _ hlink) (fun _ h9 => h9) hfin hin2 hdecl hd hn hfit hl hdg (fun H1 locs1 hP1 hD1 hS1 => ?_)
  rw [List.set_cons_zero, hF] at hP1 hD1
  exact K H1 locs1 ls hP1 hD1 hS1 hL
theorem g_wid {k n : Nat} (h1 : cells ≤ k) (h2 : slots ≤ n) (K : hJ Hb p l e R s m args below meth c k n Q A0 D ws lv pc st) : hJ Hb p l e R s m args below meth c cells slots Q A0 D ws lv pc st := fun H locs ls hP hD hS hL => W.widen h1 h2 (K H locs ls hP hD hS hL)
end GK
/-- a constructor's contract: the object's cell becomes the world w1 of some addresses -/
def gMK (l : Launch) (y : MethodName) (ws : List Cond) (rm : Room) (D : va_G) (tys : List (ClassId × FieldType)) (q ci : Nat) (fs : List Value) (W1 : (Nat → Nat) → va_W) : Prop :=
  ∀ sz : Nat, Met l y ws rm (va_Pc [.ref q] (gB0 D tys [(q, .inr (ci, fs))] sz)) (va_Qv (fun (_ : Nat → Nat) => True) (fun r t => gB1 D tys (va_A [(q, .inr (ci, fs))] sz) (W1 r) t) (va_A [(q, .inr (ci, fs))] sz)) rm.cells rm.slots (va_A [(q, .inr (ci, fs))] sz)
theorem g_ofK {l : Launch} {y : MethodName} {ws ws' : List Cond} {rm : Room} {D : va_G} {tys : List (ClassId × FieldType)} {q ci : Nat} {fs : List Value} {W1 : (Nat → Nat) → va_W} {own : String} {cc : ByteArray} {maxL : Nat}
    (hy : plainName y.cls = true) (hcls : y.cls = own) (hnm : y.name = "<init>") (hw : ws = Cond.code y cc maxL none :: ws') (hlen : 1 ≤ maxL)
    (body : ∀ (p : Program) (e : Env) (s : State) (m : MethodId) (args : Array Value) (below : List Frame) (meth : Method) (c : Code) (Q : State → Prop) (A0 : Nat → Prop), gE p s m args c own cc maxL ws D tys A0 → meth.name = "<init>" → (∀ (r : Nat → Nat) (lv : List (Option Value)) (pc : Nat), decode cc pc = .ok (.return_, 1) → gJ p l e rm s m args below meth c rm.cells rm.slots Q A0 D (W1 r) lv pc []) →
      gJ p l e rm s m args below meth c 0 0 Q A0 D [(q, .inr (ci, fs))] ([some (.ref q)] ++ List.replicate (maxL - 1) none) 0 []) : gMK l y ws rm D tys q ci fs W1 := by
  intro sz
  refine Met.ofW (cc := cc) (maxL := maxL) (ret := none) hy hw ?_
  intro p e s m args below meth c s₁ B hml hv
  obtain ⟨rfl, hsz, hP, hK, hD0⟩ := hv
  have hts := atoms_spec (ws := ws) B.pre
  have hown : s.vm.findClass own = some m.cls := by rw [← hcls]; exact findClass_of_methodNamed B.named
  have hin : meth.name = "<init>" := (name_of_methodNamed B.named B.method).1.trans hnm
  subst hsz
  have hD := hD0.self (sz := s.heap.size)
  have hl := lv_entry [.ref q] (n := maxL) (by show 1 ≤ maxL; exact hlen)
  rw [lg_entry_eq]
  refine body p e s m _ below meth c _ (va_A [(q, .inr (ci, fs))] s.heap.size) ⟨⟨B.exec, B.bytes, hml, hown, hts⟩, hK, fun q h => Or.inr h⟩ hin ?_ s.heap [] _ hP hD va_S.rf (gL_entry (l := [.ref q]) hlen (g_cat1 rfl) hl)
  intro r lv pc hdg H locs ls hP9 hD9 hS9 hL9
  exact W.vret B.exec B.bytes B.returns (fun t ht hW => ⟨⟨r, rfl, trivial, by rw [ht]; exact hP9, va_K.moved hW.alike hK, hD9⟩, hS9.F ht⟩) hS9.2.2 hdg
