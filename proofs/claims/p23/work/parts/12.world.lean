/-! ===== the world of one object with arrays of its own ===== -/
def gu (f : Nat → Int) (i : Nat) (v : Int) : Nat → Int := fun j => if j = i then v else f j
theorem gu_s (f : Nat → Int) (i : Nat) (v : Int) : gu f i v i = v := if_pos rfl
theorem gu_n (f : Nat → Int) {i j : Nat} (v : Int) (h : j ≠ i) : gu f i v j = f j := if_neg h
def gFv (r : Nat → Nat) (F : List Int) (x : Bool × Nat) : Value := if x.1 = true then .int (iI (F.getD x.2 0)) else .ref (r x.2)
def gAc (cI cZ : ClassId) (x : Bool × Nat) (f : Nat → Int) : va_E := .inl (if x.1 = true then cZ else cI, x.2, .inl (fun j => iI (f j)))
def gAr (cI cZ : ClassId) (r : Nat → Nat) : Nat → List (Bool × Nat) → List (Nat → Int) → va_W
  | k, x :: al, f :: A => (r k, gAc cI cZ x f) :: gAr cI cZ r (k + 1) al A
  | _, _, _ => []
def gW (ci : Nat) (fs al : List (Bool × Nat)) (cI cZ : ClassId) (q : Nat) (r : Nat → Nat) (F : List Int) (A : List (Nat → Int)) : va_W :=
  (q, .inr (ci, fs.map (gFv r F))) :: gAr cI cZ r 0 al A
def gTy (cI cZ : ClassId) : List (ClassId × FieldType) := [(cI, .int), (cZ, .boolean)]
theorem gAr_a {cI cZ : ClassId} {r : Nat → Nat} {x : Bool × Nat} {f : Nat → Int} : ∀ {al : List (Bool × Nat)} {A : List (Nat → Int)} {k j : Nat}, al[k]? = some x → A[k]? = some f → (gAr cI cZ r j al A)[k]? = some (r (j + k), gAc cI cZ x f) := by
  intro al
  induction al with
  | nil => intro A k j h; simp at h
  | cons y al ih =>
    intro A k j h1 h2
    cases A with
    | nil => simp at h2
    | cons g A =>
      cases k with
      | zero =>
        rw [List.getElem?_cons_zero] at h1 h2
        cases h1
        cases h2
        rfl
      | succ k =>
        rw [List.getElem?_cons_succ] at h1 h2
        show (gAr cI cZ r (j + 1) al A)[k]? = _
        rw [ih h1 h2, show j + 1 + k = j + (k + 1) by omega]
theorem gAr_set {cI cZ : ClassId} {r : Nat → Nat} {x : Bool × Nat} {f : Nat → Int} : ∀ {al : List (Bool × Nat)} {A : List (Nat → Int)} {k j : Nat}, al[k]? = some x → k < A.length → (gAr cI cZ r j al A).set k (r (j + k), gAc cI cZ x f) = gAr cI cZ r j al (A.set k f) := by
  intro al
  induction al with
  | nil => intro A k j h; simp at h
  | cons y al ih =>
    intro A k j h1 h2
    cases A with
    | nil => simp at h2
    | cons g A =>
      cases k with
      | zero =>
        rw [List.getElem?_cons_zero] at h1
        cases h1
        rfl
      | succ k =>
        rw [List.getElem?_cons_succ] at h1
        show (r j, gAc cI cZ y g) :: ((gAr cI cZ r (j + 1) al A).set k _) = (r j, gAc cI cZ y g) :: gAr cI cZ r (j + 1) al (A.set k f)
        rw [← ih h1 (by simpa using h2), show j + 1 + k = j + (k + 1) by omega]
theorem gW_0 {ci : Nat} {fs al : List (Bool × Nat)} {cI cZ : ClassId} {q : Nat} {r : Nat → Nat} {F : List Int} {A : List (Nat → Int)} : (gW ci fs al cI cZ q r F A)[0]? = some (q, .inr (ci, fs.map (gFv r F))) := rfl
theorem gW_a {ci : Nat} {fs al : List (Bool × Nat)} {cI cZ : ClassId} {q : Nat} {r : Nat → Nat} {F : List Int} {A : List (Nat → Int)} {k n : Nat} {z : Bool} {f : Nat → Int} (h : al[k]? = some (z, n)) (h2 : A[k]? = some f) : (gW ci fs al cI cZ q r F A)[k + 1]? = some (r k, .inl (if z = true then cZ else cI, n, .inl (fun j => iI (f j)))) := by
  unfold gW
  rw [List.getElem?_cons_succ, gAr_a h h2, Nat.zero_add]
  rfl
theorem gW_setF {ci : Nat} {fs al : List (Bool × Nat)} {cI cZ : ClassId} {q : Nat} {r : Nat → Nat} {F : List Int} {A : List (Nat → Int)} {i j : Nat} {v : Int} (h : fs[j]? = some (true, i)) (hi : i < F.length) (hu : ∀ j', j' < fs.length → fs[j']? = some (true, i) → j' = j) : (gW ci fs al cI cZ q r F A).set 0 (q, .inr (ci, (fs.map (gFv r F)).set j (.int (iI v)))) = gW ci fs al cI cZ q r (F.set i v) A := by
  unfold gW
  rw [List.set_cons_zero]
  congr 4
  apply List.ext_getElem?
  intro k
  by_cases hk : k = j
  · subst hk
    have hl := (List.getElem?_eq_some_iff.mp h).1
    rw [List.getElem?_set_self (by simpa using hl), List.getElem?_map, h]
    simp [gFv, List.getD_eq_getElem?_getD, List.getElem?_set_self hi]
  · rw [List.getElem?_set_ne (Ne.symm hk), List.getElem?_map, List.getElem?_map]
    cases hx : fs[k]? with
    | none => rfl
    | some x =>
      obtain ⟨b, n⟩ := x
      cases b with
      | false => simp [gFv]
      | true =>
        have hn : i ≠ n := fun hn => hk (hu k (List.getElem?_eq_some_iff.mp hx).1 (by rw [hx, hn]))
        simp [gFv, List.getD_eq_getElem?_getD, List.getElem?_set_ne hn]
theorem gW_setA {ci : Nat} {fs al : List (Bool × Nat)} {cI cZ : ClassId} {q : Nat} {r : Nat → Nat} {F : List Int} {A : List (Nat → Int)} {k n i : Nat} {z : Bool} {v : Int} {g : Nat → Int} (h : al[k]? = some (z, n)) (h2 : A[k]? = some g) {f : Nat → Int32} (hf : ∀ j, f j = if j = i then iI v else iI (g j)) : (gW ci fs al cI cZ q r F A).set (k + 1) (r k, .inl (if z = true then cZ else cI, n, .inl f)) = gW ci fs al cI cZ q r F (A.set k (gu g i v)) := by
  unfold gW
  rw [List.set_cons_succ]
  congr 1
  rw [← gAr_set (f := gu g i v) h (List.getElem?_eq_some_iff.mp h2).1, Nat.zero_add]
  congr 2
  show _ = gAc cI cZ (z, n) (gu g i v)
  unfold gAc
  congr 4
  funext j
  rw [hf]
  simp only [gu]
  by_cases hj : j = i <;> simp [hj]
section GW
variable {Hb : Heap} {p : Program} {l : Launch} {e : Env} {R : Room} {s : State} {m : MethodId} {args : Array Value} {below : List Frame} {meth : Method} {c : Code} {cells slots : Nat} {Q : State → Prop} {A0 : Nat → Prop} {D : va_G}
variable {own : String} {cc : ByteArray} {nL : Nat} {Ts : List Cond} {lv lv' : List (Option Value)} {pc : Nat} {st : List Value}
variable {ci : Nat} {fs al : List (Bool × Nat)} {cI cZ : ClassId} {q : Nat} {r : Nat → Nat} {F F' : List Int} {A A' : List (Nat → Int)}
theorem g_getI (E : hE Hb p s m args c own cc nL Ts D (gTy cI cZ) A0) {j i : Nat} {C : String} {T : u_T} {N index : Nat} (hin : ∀ w ∈ u_ws C T N, w ∈ Ts) (hc : vwCl[ci]? = some (C, T, N)) (hlink : Cond.fieldLink own index (T j).1 (T j).2.1 (T j).2.2.1 ∈ Ts) (hdg : decode cc pc = .ok (.getfield index, 3)) (hj : j < N) (hf : fs[j]? = some (true, i)) {v : Int} (hv : F[i]? = some v) (K : hJ Hb p l e R s m args below meth c cells slots Q A0 D (gW ci fs al cI cZ q r F A) lv (pc + 3) (.int (iI v) :: st)) : hJ Hb p l e R s m args below meth c cells slots Q A0 D (gW ci fs al cI cZ q r F A) lv pc (.ref q :: st) := by
  obtain ⟨⟨hx, hb, hml, hown, hts⟩, hK, hA⟩ := E
  intro H locs ls hP hD hS hL
  exact va_get (D := D) (v := .int (iI v)) hx hb hts hin hown hK hP 0 gW_0 hc j hj (hts _ hlink) (fun _ h9 => h9) (by rw [List.getElem?_map, hf]; simp [gFv, List.getD_eq_getElem?_getD, hv]) hdg (K H locs ls hP hD hS hL)
theorem g_getR (E : hE Hb p s m args c own cc nL Ts D (gTy cI cZ) A0) {j k : Nat} {C : String} {T : u_T} {N index : Nat} (hin : ∀ w ∈ u_ws C T N, w ∈ Ts) (hc : vwCl[ci]? = some (C, T, N)) (hlink : Cond.fieldLink own index (T j).1 (T j).2.1 (T j).2.2.1 ∈ Ts) (hdg : decode cc pc = .ok (.getfield index, 3)) (hj : j < N) (hf : fs[j]? = some (false, k)) (K : hJ Hb p l e R s m args below meth c cells slots Q A0 D (gW ci fs al cI cZ q r F A) lv (pc + 3) (.ref (r k) :: st)) : hJ Hb p l e R s m args below meth c cells slots Q A0 D (gW ci fs al cI cZ q r F A) lv pc (.ref q :: st) := by
  obtain ⟨⟨hx, hb, hml, hown, hts⟩, hK, hA⟩ := E
  intro H locs ls hP hD hS hL
  exact va_get (D := D) (v := .ref (r k)) hx hb hts hin hown hK hP 0 gW_0 hc j hj (hts _ hlink) (fun _ h9 => h9) (by rw [List.getElem?_map, hf]; simp [gFv]) hdg (K H locs ls hP hD hS hL)
theorem g_putI (E : hE Hb p s m args c own cc nL Ts D (gTy cI cZ) A0) {j i : Nat} {v : Int} {ty0 : Nat → FieldType} {C : String} {T : u_T} {N index : Nat} (hin : ∀ w ∈ u_ws C T N, w ∈ Ts) (hc : vwCl[ci]? = some (C, T, N)) (hlink : Cond.fieldLink own index (T j).1 (T j).2.1 (T j).2.2.1 ∈ Ts) (hdg : decode cc pc = .ok (.putfield index, 3)) (hty : ∀ k, k < N → parseFieldDescriptor (T k).2.2.1 = some (ty0 k)) (hnm : ∀ a, a < N → ∀ b, b < N → a ≠ b → (T a).2.1 ≠ (T b).2.1) (hj : j < N) (hf : fs[j]? = some (true, i)) (hu : ∀ j', j' < fs.length → fs[j']? = some (true, i) → j' = j) (hfin : (T j).2.2.2 = false) (hd : parseFieldDescriptor (T j).2.2.1 = some .int) (hi : i < F.length) (hF : F.set i v = F') (K : hJ Hb p l e R s m args below meth c cells slots Q A0 D (gW ci fs al cI cZ q r F' A) lv (pc + 3) st) : hJ Hb p l e R s m args below meth c cells slots Q A0 D (gW ci fs al cI cZ q r F A) lv pc (.int (iI v) :: .ref q :: st) := by
  obtain ⟨⟨hx, hb, hml, hown, hts⟩, hK, hA⟩ := E
  intro H locs ls hP hD hS hL
  refine va_put (D := D) (v := .int (iI v)) (ty := .int) hx hb hts hin ty0 hty hnm hown hK hP hD hS 0 gW_0 hc j hj (hts _ hlink) (fun _ h9 => h9) hfin hd rfl rfl (by have := (List.getElem?_eq_some_iff.mp hf).1; simpa using this) hdg (fun H1 locs1 hP1 hD1 hS1 => ?_)
  rw [gW_setF hf hi hu, hF] at hP1 hD1
  exact K H1 locs1 ls hP1 hD1 hS1 hL
theorem g_ald (E : hE Hb p s m args c own cc nL Ts D (gTy cI cZ) A0) {k n i : Nat} {x : Int} {f : Nat → Int} (hdg : decode cc pc = .ok (.iaload, 1)) (ha : al[k]? = some (false, n)) (hf : A[k]? = some f) (hx0 : x = (i : Int)) (hi : i < n ∧ n ≤ 2147483648) (K : hJ Hb p l e R s m args below meth c cells slots Q A0 D (gW ci fs al cI cZ q r F A) lv (pc + 1) (.int (iI (f i)) :: st)) : hJ Hb p l e R s m args below meth c cells slots Q A0 D (gW ci fs al cI cZ q r F A) lv pc (.int (iI x) :: .ref (r k) :: st) := by
  obtain ⟨⟨hx, hb, hml, hown, hts⟩, hK, hA⟩ := E
  intro H locs ls hP hD hS hL
  subst hx0
  have hcl : (iI (i : Int)).toNatClampNeg = i := by rw [iI_cl (by omega) (by omega), Int.toNat_natCast]
  refine va_iald (D := D) (cl := vwCl) hx hb hK hP (k + 1) 0 (gW_a ha hf) rfl (iI_in (a := (i : Int)) (n := n) (by omega) (by omega) hi.2) hdg ?_
  rw [hcl]
  exact (K H locs ls hP hD hS hL)
theorem g_zld (E : hE Hb p s m args c own cc nL Ts D (gTy cI cZ) A0) {k n i : Nat} {x : Int} {f : Nat → Int} (hdg : decode cc pc = .ok (.baload, 1)) (ha : al[k]? = some (true, n)) (hf : A[k]? = some f) (hx0 : x = (i : Int)) (hi : i < n ∧ n ≤ 2147483648) (K : hJ Hb p l e R s m args below meth c cells slots Q A0 D (gW ci fs al cI cZ q r F A) lv (pc + 1) (.int (iI (f i)) :: st)) : hJ Hb p l e R s m args below meth c cells slots Q A0 D (gW ci fs al cI cZ q r F A) lv pc (.int (iI x) :: .ref (r k) :: st) := by
  obtain ⟨⟨hx, hb, hml, hown, hts⟩, hK, hA⟩ := E
  intro H locs ls hP hD hS hL
  subst hx0
  have hcl : (iI (i : Int)).toNatClampNeg = i := by rw [iI_cl (by omega) (by omega), Int.toNat_natCast]
  refine va_zald (D := D) (cl := vwCl) hx hb hK hP (k + 1) 1 (gW_a ha hf) rfl (iI_in (a := (i : Int)) (n := n) (by omega) (by omega) hi.2) hdg ?_
  rw [hcl]
  exact (K H locs ls hP hD hS hL)
theorem g_ast (E : hE Hb p s m args c own cc nL Ts D (gTy cI cZ) A0) {k n i : Nat} {x v : Int} {f : Nat → Int} (hdg : decode cc pc = .ok (.iastore, 1)) (ha : al[k]? = some (false, n)) (hf : A[k]? = some f) (hx0 : x = (i : Int)) (hi : i < n ∧ n ≤ 2147483648) (hA' : A.set k (gu f i v) = A') (K : hJ Hb p l e R s m args below meth c cells slots Q A0 D (gW ci fs al cI cZ q r F A') lv (pc + 1) st) : hJ Hb p l e R s m args below meth c cells slots Q A0 D (gW ci fs al cI cZ q r F A) lv pc (.int (iI v) :: .int (iI x) :: .ref (r k) :: st) := by
  obtain ⟨⟨hx, hb, hml, hown, hts⟩, hK, hA⟩ := E
  intro H locs ls hP hD hS hL
  subst hx0
  refine va_iast (D := D) (cl := vwCl) hx hb hK hP hD hS (k + 1) 0 (gW_a ha hf) rfl (iI_in (a := (i : Int)) (n := n) (by omega) (by omega) hi.2) hdg (fun H1 locs1 hP1 hD1 hS1 => ?_)
  rw [iI_cl (by omega) (by omega), Int.toNat_natCast, gW_setA (z := false) ha hf (i := i) (v := v) (fun j => by simp [upd]), hA'] at hP1 hD1
  exact K H1 locs1 ls hP1 hD1 hS1 hL
theorem g_zst (E : hE Hb p s m args c own cc nL Ts D (gTy cI cZ) A0) {k n i : Nat} {x v : Int} {f : Nat → Int} (hdg : decode cc pc = .ok (.bastore, 1)) (ha : al[k]? = some (true, n)) (hf : A[k]? = some f) (hx0 : x = (i : Int)) (hi : i < n ∧ n ≤ 2147483648) (hv : v = 0 ∨ v = 1) (hA' : A.set k (gu f i v) = A') (K : hJ Hb p l e R s m args below meth c cells slots Q A0 D (gW ci fs al cI cZ q r F A') lv (pc + 1) st) : hJ Hb p l e R s m args below meth c cells slots Q A0 D (gW ci fs al cI cZ q r F A) lv pc (.int (iI v) :: .int (iI x) :: .ref (r k) :: st) := by
  obtain ⟨⟨hx, hb, hml, hown, hts⟩, hK, hA⟩ := E
  intro H locs ls hP hD hS hL
  subst hx0
  refine va_zast (D := D) (cl := vwCl) hx hb hK hP hD hS (k + 1) 1 (gW_a ha hf) rfl (iI_in (a := (i : Int)) (n := n) (by omega) (by omega) hi.2) hdg (fun H1 locs1 hP1 hD1 hS1 => ?_)
  rw [iI_cl (by omega) (by omega), Int.toNat_natCast, show vp_nar .boolean (iI v) = iI v by (rcases hv with rfl | rfl <;> rfl), gW_setA (z := true) ha hf (i := i) (v := v) (fun j => by simp [upd]), hA'] at hP1 hD1
  exact K H1 locs1 ls hP1 hD1 hS1 hL
end GW
