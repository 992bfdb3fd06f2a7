section GX2
variable {p : Program} {l : Launch} {e : Env} {R : Room} {s : State} {m : MethodId} {args : Array Value} {below : List Frame} {meth : Method} {c : Code} {A0 : Nat → Prop} {D : va_G}
variable {cc : ByteArray} {nL : Nat} {Ts : List Cond} {tys : List (ClassId × FieldType)} {lv : List (Option Value)} {pc : Nat} {st : List Value}
set_option maxHeartbeats 4000000 in
/-- 'throw new NoSuchElementException("there is none")' in a method of Stairflow that owes it -/
theorem g_throwNS (E : gE p s m args c "Stairflow" cc nL Ts D tys A0) {wc : va_W}
    (hfl : l.stackTraces = false) (hT : gKT A0 s s.heap) (hlk : meth.locks = false) (htb : ∀ x ∈ c.exceptionTable.toList, False) (hlv : lv.length = nL)
    (hk : Cond.classLink "Stairflow" 181 gNS ∈ Ts) (hini : Cond.initialized gNS ∈ Ts) (hw : ∀ w ∈ gNSat.filter goodWord, w ∈ Ts)
    (d0 : decode cc pc = .ok (.new 181, 3)) (d3 : decode cc (pc + 3) = .ok (.dup, 1)) (d4 : decode cc (pc + 4) = .ok (.ldc 183, 2)) (d6 : decode cc (pc + 6) = .ok (.invokespecial 185, 3)) (d9 : decode cc (pc + 9) = .ok (.athrow, 1))
    (hRf : 5 < R.frames) (hRl : (st.map fun v => v.category).sum + 82 ≤ R.locals) (hcs : 1 ≤ R.cells ∧ 6 ≤ R.slots) : gJ p l e R s m args below meth c 0 0 (gQT below args s D tys wc gNS A0) A0 D wc lv pc st := by
  obtain ⟨⟨hx, hb, hml, hown, hts⟩, hK, hA⟩ := E
  intro H locs ls hP hD hS hL
  have hbad := hT.bad (args := args) (cls := gNS) (by decide +kernel)
  obtain ⟨t1, t2, t3, t4, t5, t6⟩ := hT
  obtain ⟨sa, hsa⟩ := t3 (183, "there is none") (by decide +kernel)
  have hat0 : ∀ w ∈ gNSat, w.before args s = true := vx_hat (B := gBad gNS) (fun w h => hts w (hw w h)) (by decide +kernel) hbad
  have hgood : ∀ w ∈ Cond.classLink "Stairflow" 181 gNS :: Cond.initialized gNS :: gNSat, vx_ot w = true := by decide +kernel
  intro T hT X
  have htr : e.platform.stackTraces = false := (show e.platform.stackTraces = l.stackTraces by rw [X.admits.platform]).trans hfl
  have Y := vx_rebase X (R' := { frames := R.frames, locals := R.locals, cells := 1, slots := 6 }) (Nat.le_refl _) (Nat.le_refl _) (by simpa using hcs.1) (by simpa using hcs.2)
  obtain ⟨s', hA'⟩ : ∃ z, z = (T.setVm s.vm).setFrames (.invoking m args :: below) := ⟨_, rfl⟩
  rw [← hA'] at Y
  have hvm : s'.vm = s.vm := by rw [hA']; rfl
  have hhp : s'.heap = H := by rw [hA']; exact hT
  have hW0 : s.WarmedH s'.vm := by rw [hvm]; exact State.WarmedH.refl s
  have hat' : ∀ w ∈ gNSat, w.before args s' = true := fun w hw9 => vx_ot_at hW0 hvm.symm (hgood w (List.mem_cons_of_mem _ (List.mem_cons_of_mem _ hw9))) (hat0 w hw9)
  have hk' : (Cond.classLink "Stairflow" 181 gNS).before args s' = true := vx_ot_at hW0 hvm.symm (hgood _ List.mem_cons_self) (hts _ hk)
  have hini' : (Cond.initialized gNS).before args s' = true := vx_ot_at hW0 hvm.symm (hgood _ (List.mem_cons_of_mem _ List.mem_cons_self)) (hts _ hini)
  have hU' : vx_Zq Bundle.tN "UNASSIGNED_STACK" Bundle.steD A0 s' s'.heap := by rw [hhp]; exact vx_Zq.moved hW0.alike (t1.kept hS.2.1)
  have hN' : vx_Zq Bundle.tN "SUPPRESSED_SENTINEL" Bundle.listD A0 s' s'.heap := by rw [hhp]; exact vx_Zq.moved hW0.alike (t2.kept hS.2.1)
  have h : ∀ w ∈ gNSall, w.before args s' = true := vx_own hat' (vx_isRefq hU'.1) (vx_isRefq hN'.1) hU'.2.word hN'.2.word
  have hown' : s'.vm.findClass "Stairflow" = some m.cls := by rw [hvm]; exact hown
  have hins : (Cond.instantiable gNS 6).before args s' = true := gx_at (i := 1) h rfl
  obtain ⟨vm₁, cX, kX, hfX, hkX, -, -, X₁, st1⟩ := Y.newCold hx (own := "Stairflow") (C := gNS) (index := 181) (n := 6) hown' hk' hins hini'
    (g := F0 m pc ls st) rfl (by rw [hb]; exact d0) (Nat.le_refl _) (Nat.le_refl _)
  generalize hT1 : (T.setVm vm₁).pushCell { cls := cX, slots := kX.instanceTypes.map defaultValue, vm := .none } = T1 at X₁ st1
  have hcat : (Value.ref T.heap.size).category = 1 := rfl
  have hcellA : T1.heap[T.heap.size]? = some (freshCell cX kX) := by rw [← hT1]; exact State.heap_pushCell_size _ _
  have d3' : decode c.code (pc + 3) = .ok (.dup, 1) := by rw [hb]; exact d3
  have d4' : decode c.code (pc + 4) = .ok (.ldc 183, 2) := by rw [hb]; exact d4
  have hstr' : vk_R "Stairflow" 183 "there is none" sa s' := vk_R.warm hW0 hsa
  have hsize : ls.size = c.maxLocals := (hL.1.trans hlv).trans hml.symm
  obtain ⟨U, hsteps, hrun, hend, hW, hsame, ce, hce, hO, hOv⟩ := gx_ctor X₁ hx htr hown' h (fun x hx => nomatch hx) hfX hkX hcellA (by rw [hhp, hT]; exact Nat.le_refl _) (msg := .ref sa) rfl
    (g := { method := m, pc := pc + 6, locals := ls, stack := .ref sa :: .ref T.heap.size :: .ref T.heap.size :: st, locked := none }) rfl hsize rfl rfl (rest := st) rfl
    (by rw [hb]; exact d6) (by rw [hb]; exact d9) (fun x hx => (htb x hx).elim) hRf (by show 2 * 0 + _ + 81 ≤ _; simp only [List.map_cons, List.sum_cons, hcat]; omega) hlk
  obtain ⟨f1, f2⟩ := vx_frame hsame
  rw [hhp] at f1 f2
  have hWs : s.WarmedH U.vm := State.WarmedH.trans hW0 hW
  have hcl : s.vm.findClass gNS = some ce.cls := by
    rw [hvm] at hO
    exact hO
  have hall : s.sameButNew ({ U with vm := s.vm } : State) locs 1 6 := by
    subst hA'
    obtain ⟨e1, e2⟩ := hsame
    rw [State.setFrames_setFrames] at e1
    have h2 : (T.setVm s.vm).sameButNew ({ U with vm := s.vm } : State) [] (0 + 1) (0 + 6) := ⟨e1, e2⟩
    have h3 := X.same.trans h2
    rw [List.append_nil] at h3
    exact h3.mono (by simp) (by simp)
  have hk9 : ∀ q : Nat, q < H.size → U.heap[q]? = H[q]? := fun q hq => f2 q hq (fun z hz => nomatch hz)
  refine ⟨U, ?_, .threw T.heap.size, hrun, hend, Or.inr ⟨T.heap.size, rfl, gNS, ce, locs, ⟨(), trivial, ⟨rfl, Nat.le_trans (Nat.succ_le_succ hS.1) (by have h8 := (Array.getElem?_eq_some_iff.mp hce).1; rw [hT] at h8; exact h8), hP.kept (fun k q hk0 => hk9 q.1 (hP k q hk0).lt), va_K.moved hWs.alike hK, hD⟩, ⟨Nat.le_trans hS.1 f1, fun q h1 h2 => by rw [hk9 q (Nat.lt_of_lt_of_le h1 hS.1)]; exact hS.2.1 q h1 h2⟩⟩, hce, hOv, hcl, hWs, hall, hS.2.2⟩⟩
  refine st1 _ ?_
  show Steps p.tables e below (T1.setTop { method := m, pc := pc + 3, locals := ls, stack := .ref T.heap.size :: st, locked := none }) _
  jvm_step X₁.here [X₁.here.top, hx, d3', Value.category]
  exact X₁.ldcString hx (own := "Stairflow") (text := "there is none") (index := 183) (a := sa) hown' hstr'.1 hstr'.2
    (g := { method := m, pc := pc + 4, locals := ls, stack := .ref T.heap.size :: .ref T.heap.size :: st, locked := none }) rfl d4' _ hsteps
end GX2
