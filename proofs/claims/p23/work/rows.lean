section
-- ===== PART A: goes FIRST, ahead of the names: the tables' words, and 'selects' of the private methods out of them =====
/-- a private method of a class that the tables say can be made, by its rows of tables_1 -/
def lw_okq (q : MethodName × Nat) : Prop := (q.1.cls ≠ "java/lang/invoke/MethodHandle" ∧ q.1.cls ≠ "java/lang/invoke/VarHandle") ∧ Cond.instantiable q.1.cls q.2 ∈ tables_1 ∧ Cond.privateMethod q.1 ∈ tables_1 ∧ Cond.instanceMethod q.1 ∈ tables_1
theorem lw_p0 : lw_okq (⟨"java/lang/Throwable", "fillInStackTrace", "(I)Ljava/lang/Throwable;"⟩, 6) := ⟨⟨by decide +kernel, by decide +kernel⟩, List.mem_of_getElem? (i := 128) (by decide +kernel), List.mem_of_getElem? (i := 126) (by decide +kernel), List.mem_of_getElem? (i := 127) (by decide +kernel)⟩
theorem lw_p1 : lw_okq (⟨"Stairflow", "passOneStep", "()I"⟩, 19) := ⟨⟨by decide +kernel, by decide +kernel⟩, List.mem_of_getElem? (i := 11) (by decide +kernel), List.mem_of_getElem? (i := 158) (by decide +kernel), List.mem_of_getElem? (i := 159) (by decide +kernel)⟩
theorem lw_p2 : lw_okq (⟨"Stairflow", "grantAll", "()V"⟩, 19) := ⟨⟨by decide +kernel, by decide +kernel⟩, List.mem_of_getElem? (i := 11) (by decide +kernel), List.mem_of_getElem? (i := 162) (by decide +kernel), List.mem_of_getElem? (i := 163) (by decide +kernel)⟩
theorem lw_p3 : lw_okq (⟨"Stairflow", "grantAt", "(I)V"⟩, 19) := ⟨⟨by decide +kernel, by decide +kernel⟩, List.mem_of_getElem? (i := 11) (by decide +kernel), List.mem_of_getElem? (i := 166) (by decide +kernel), List.mem_of_getElem? (i := 167) (by decide +kernel)⟩
theorem lw_p4 : lw_okq (⟨"Stairflow", "roomLeft", "(I)I"⟩, 19) := ⟨⟨by decide +kernel, by decide +kernel⟩, List.mem_of_getElem? (i := 11) (by decide +kernel), List.mem_of_getElem? (i := 170) (by decide +kernel), List.mem_of_getElem? (i := 171) (by decide +kernel)⟩
theorem lw_p5 : lw_okq (⟨"Stairflow", "grantRound", "(II)I"⟩, 19) := ⟨⟨by decide +kernel, by decide +kernel⟩, List.mem_of_getElem? (i := 11) (by decide +kernel), List.mem_of_getElem? (i := 175) (by decide +kernel), List.mem_of_getElem? (i := 176) (by decide +kernel)⟩
theorem lw_p6 : lw_okq (⟨"Stairflow", "wishBy", "(I)I"⟩, 19) := ⟨⟨by decide +kernel, by decide +kernel⟩, List.mem_of_getElem? (i := 11) (by decide +kernel), List.mem_of_getElem? (i := 179) (by decide +kernel), List.mem_of_getElem? (i := 180) (by decide +kernel)⟩
theorem lw_p7 : lw_okq (⟨"Stairflow", "isPlace", "(I)Z"⟩, 19) := ⟨⟨by decide +kernel, by decide +kernel⟩, List.mem_of_getElem? (i := 11) (by decide +kernel), List.mem_of_getElem? (i := 183) (by decide +kernel), List.mem_of_getElem? (i := 184) (by decide +kernel)⟩
theorem lw_p8 : lw_okq (⟨"Stairflow", "moveGranted", "()I"⟩, 19) := ⟨⟨by decide +kernel, by decide +kernel⟩, List.mem_of_getElem? (i := 11) (by decide +kernel), List.mem_of_getElem? (i := 190) (by decide +kernel), List.mem_of_getElem? (i := 191) (by decide +kernel)⟩
theorem lw_p9 : lw_okq (⟨"Stairflow", "areAllReleased", "()Z"⟩, 19) := ⟨⟨by decide +kernel, by decide +kernel⟩, List.mem_of_getElem? (i := 11) (by decide +kernel), List.mem_of_getElem? (i := 202) (by decide +kernel), List.mem_of_getElem? (i := 203) (by decide +kernel)⟩
theorem lw_p10 : lw_okq (⟨"Stairflow", "boundAt", "(I)I"⟩, 19) := ⟨⟨by decide +kernel, by decide +kernel⟩, List.mem_of_getElem? (i := 11) (by decide +kernel), List.mem_of_getElem? (i := 241) (by decide +kernel), List.mem_of_getElem? (i := 242) (by decide +kernel)⟩
theorem lw_p11 : lw_okq (⟨"Stairflow", "peopleFrom", "(I)I"⟩, 19) := ⟨⟨by decide +kernel, by decide +kernel⟩, List.mem_of_getElem? (i := 11) (by decide +kernel), List.mem_of_getElem? (i := 245) (by decide +kernel), List.mem_of_getElem? (i := 246) (by decide +kernel)⟩
theorem lw_p12 : lw_okq (⟨"Stairflow", "flowInward", "(I)I"⟩, 19) := ⟨⟨by decide +kernel, by decide +kernel⟩, List.mem_of_getElem? (i := 11) (by decide +kernel), List.mem_of_getElem? (i := 249) (by decide +kernel), List.mem_of_getElem? (i := 250) (by decide +kernel)⟩
theorem lw_p13 : lw_okq (⟨"Stairflow", "findWays", "()V"⟩, 19) := ⟨⟨by decide +kernel, by decide +kernel⟩, List.mem_of_getElem? (i := 11) (by decide +kernel), List.mem_of_getElem? (i := 275) (by decide +kernel), List.mem_of_getElem? (i := 276) (by decide +kernel)⟩
theorem lw_p14 : lw_okq (⟨"Stairflow", "measureDistances", "()V"⟩, 19) := ⟨⟨by decide +kernel, by decide +kernel⟩, List.mem_of_getElem? (i := 11) (by decide +kernel), List.mem_of_getElem? (i := 279) (by decide +kernel), List.mem_of_getElem? (i := 280) (by decide +kernel)⟩
theorem lw_p15 : lw_okq (⟨"Stairflow", "reach", "(III)V"⟩, 19) := ⟨⟨by decide +kernel, by decide +kernel⟩, List.mem_of_getElem? (i := 11) (by decide +kernel), List.mem_of_getElem? (i := 283) (by decide +kernel), List.mem_of_getElem? (i := 284) (by decide +kernel)⟩
def lw_privs_1 : List (MethodName × Nat) := [(⟨"java/lang/Throwable", "fillInStackTrace", "(I)Ljava/lang/Throwable;"⟩, 6), (⟨"Stairflow", "passOneStep", "()I"⟩, 19), (⟨"Stairflow", "grantAll", "()V"⟩, 19), (⟨"Stairflow", "grantAt", "(I)V"⟩, 19), (⟨"Stairflow", "roomLeft", "(I)I"⟩, 19), (⟨"Stairflow", "grantRound", "(II)I"⟩, 19), (⟨"Stairflow", "wishBy", "(I)I"⟩, 19), (⟨"Stairflow", "isPlace", "(I)Z"⟩, 19), (⟨"Stairflow", "moveGranted", "()I"⟩, 19), (⟨"Stairflow", "areAllReleased", "()Z"⟩, 19), (⟨"Stairflow", "boundAt", "(I)I"⟩, 19), (⟨"Stairflow", "peopleFrom", "(I)I"⟩, 19), (⟨"Stairflow", "flowInward", "(I)I"⟩, 19), (⟨"Stairflow", "findWays", "()V"⟩, 19), (⟨"Stairflow", "measureDistances", "()V"⟩, 19), (⟨"Stairflow", "reach", "(III)V"⟩, 19)]
theorem lw_r1 : ∀ q ∈ lw_privs_1, lw_okq q := List.forall_mem_cons.mpr ⟨lw_p0, List.forall_mem_cons.mpr ⟨lw_p1, List.forall_mem_cons.mpr ⟨lw_p2, List.forall_mem_cons.mpr ⟨lw_p3, List.forall_mem_cons.mpr ⟨lw_p4, List.forall_mem_cons.mpr ⟨lw_p5, List.forall_mem_cons.mpr ⟨lw_p6, List.forall_mem_cons.mpr ⟨lw_p7, List.forall_mem_cons.mpr ⟨lw_p8, List.forall_mem_cons.mpr ⟨lw_p9, List.forall_mem_cons.mpr ⟨lw_p10, List.forall_mem_cons.mpr ⟨lw_p11, List.forall_mem_cons.mpr ⟨lw_p12, List.forall_mem_cons.mpr ⟨lw_p13, List.forall_mem_cons.mpr ⟨lw_p14, List.forall_mem_cons.mpr ⟨lw_p15, fun _ h => absurd h List.not_mem_nil⟩⟩⟩⟩⟩⟩⟩⟩⟩⟩⟩⟩⟩⟩⟩⟩
theorem lw_p16 : lw_okq (⟨"Stairflow", "offerDoor", "(III)V"⟩, 19) := ⟨⟨by decide +kernel, by decide +kernel⟩, List.mem_of_getElem? (i := 11) (by decide +kernel), List.mem_of_getElem? (i := 287) (by decide +kernel), List.mem_of_getElem? (i := 288) (by decide +kernel)⟩
theorem lw_p17 : lw_okq (⟨"Stairflow", "requirePlace", "(I)V"⟩, 19) := ⟨⟨by decide +kernel, by decide +kernel⟩, List.mem_of_getElem? (i := 11) (by decide +kernel), List.mem_of_getElem? (i := 300) (by decide +kernel), List.mem_of_getElem? (i := 301) (by decide +kernel)⟩
theorem lw_p18 : lw_okq (⟨"Stairflow", "requireDoor", "(I)V"⟩, 19) := ⟨⟨by decide +kernel, by decide +kernel⟩, List.mem_of_getElem? (i := 11) (by decide +kernel), List.mem_of_getElem? (i := 331) (by decide +kernel), List.mem_of_getElem? (i := 332) (by decide +kernel)⟩
theorem lw_p19 : lw_okq (⟨"Stairflow", "isDoor", "(I)Z"⟩, 19) := ⟨⟨by decide +kernel, by decide +kernel⟩, List.mem_of_getElem? (i := 11) (by decide +kernel), List.mem_of_getElem? (i := 335) (by decide +kernel), List.mem_of_getElem? (i := 336) (by decide +kernel)⟩
def lw_privs_2 : List (MethodName × Nat) := [(⟨"Stairflow", "offerDoor", "(III)V"⟩, 19), (⟨"Stairflow", "requirePlace", "(I)V"⟩, 19), (⟨"Stairflow", "requireDoor", "(I)V"⟩, 19), (⟨"Stairflow", "isDoor", "(I)Z"⟩, 19)]
theorem lw_r2 : ∀ q ∈ lw_privs_2, lw_okq q := List.forall_mem_cons.mpr ⟨lw_p16, List.forall_mem_cons.mpr ⟨lw_p17, List.forall_mem_cons.mpr ⟨lw_p18, List.forall_mem_cons.mpr ⟨lw_p19, fun _ h => absurd h List.not_mem_nil⟩⟩⟩⟩
def lw_privs : List (MethodName × Nat) := lw_privs_1 ++ (lw_privs_2)
def lw_tbl : List Cond := k2_sels lw_privs ++ tables_1
theorem lw_privs_ok : ∀ q ∈ lw_privs, lw_okq q := by
  show ∀ q ∈ lw_privs_1 ++ (lw_privs_2), lw_okq q
  exact List.forall_mem_append.mpr ⟨lw_r1, lw_r2⟩
end
section
/-! ===== BEGIN words of one list among another's, by their places ===== -/
theorem goodIn_r {big : List Cond} (ws : List Cond) (ps : List Nat) (hp : ws = ps.filterMap (fun i => big[i]?)) (h : ws.all goodWord = true) : GoodIn big ws := by
  intro w hw
  have h1 := List.all_eq_true.mp h w hw
  rw [hp] at hw
  obtain ⟨i, -, hi⟩ := List.mem_filterMap.mp hw
  have hm : w ∈ big := by first | exact List.mem_of_getElem? hi | exact List.getElem?_mem hi
  exact ⟨hm, good_of_word h1⟩
theorem goodIn_app {big a b : List Cond} (ha : GoodIn big a) (hb : GoodIn big b) : GoodIn big (a ++ b) := fun w h => (List.mem_append.mp h).elim (ha w) (hb w)
theorem goodIn_ca {big a b : List Cond} {c : Cond} (ha : GoodIn big (c :: a)) (hb : GoodIn big b) : GoodIn big (c :: (a ++ b)) := fun w h => (List.mem_cons.mp h).elim (fun e => ha w (List.mem_cons.mpr (Or.inl e))) (fun h => (List.mem_append.mp h).elim (fun h => ha w (List.mem_cons.mpr (Or.inr h))) (hb w))
theorem goodIn_sub {big ws : List Cond} (hm : ∀ w ∈ ws, w ∈ big) (h : ws.all goodWord = true) : GoodIn big ws := fun w hw => ⟨hm w hw, good_of_word (List.all_eq_true.mp h w hw)⟩
/-! ===== END ===== -/

/-! ===== BEGIN exceptions that leave a method, and their catching by the caller (launches without stack traces) ===== -/
section VXA
/-! The laws vx_back, vx_callV, vx_callS, vx_callSW, vx_throw0, vx_throwS follow proofs of the library, with one case more: JvmDerived/Free/Laws.lean (Back.of_free), Shelf42/LK1.lean (callV, callS), Shelf/KitTraced.lean (throwNew0V, throwNewS). -/
/-- where a method has thrown q: the class by its name, the cell, what was written, the world -/
def vx_T (XC : String → State → State → Prop) (st : State) (q : Addr) (t : State) (mc ms : Nat) (free : Addr → Prop) : Prop :=
  ∃ (E : String) (ce : Cell) (L : List Loc), XC E st t ∧ t.heap[q]? = some ce ∧ ce.vm = .none ∧ st.vm.findClass E = some ce.cls ∧ st.WarmedH t.vm ∧ st.sameButNew ({ t with vm := st.vm } : State) L mc ms ∧ ∀ z ∈ L, free z.base
def vx_Q (Qc : Array Value → State → Outcome → State → Prop) (XC : String → State → State → Prop) (mc ms : Nat) (free : Addr → Prop) : Array Value → State → Outcome → State → Prop := fun a st o t =>
  (Qc a st o t ∧ ∃ L, FrameEnd st o t L mc ms ∧ ∀ q ∈ L, free q.base) ∨ ∃ q, o = .threw q ∧ vx_T XC st q t mc ms free
/-- a callee that returns or throws -/
def vx_Met (l : Launch) (y : MethodName) (ws : List Cond) (rm : Room) (Pc : Array Value → State → Prop) (Qc : Array Value → State → Outcome → State → Prop) (XC : String → State → State → Prop) (mc ms : Nat) (free : Addr → Prop) : Prop :=
  MetFree l y (headSpec ws rm) Pc (fun _ _ _ _ _ => True) (vx_Q Qc XC mc ms free)
def vx_Post (XC : String → State → State → Prop) (mc ms : Nat) (free : Addr → Prop) : Pt → Array Value → Addr → Pt → Prop := fun A a q B =>
  ∃ (g : JFrame) (mk : MethodId) (t : State) (L : List Loc) (E : String) (ce : Cell), B.U.heap = t.heap ∧ B.U.vm = t.vm ∧ XC E (A.U.calling g mk a) t ∧ t.heap[q]? = some ce ∧ ce.vm = .none ∧ A.U.vm.findClass E = some ce.cls ∧ B.locs = A.locs ++ L ∧ (∀ z ∈ L, free z.base) ∧ B.cells = A.cells + mc ∧ B.slots = A.slots + ms
def vx_Back (l : Launch) (R : Room) (p : Program) (e : Env) (below : List Frame) (s : State) (sargs : Array Value) (y : MethodName) (len W9 : Nat)
    (Pre : Pt → Array Value → Prop) (Post : Pt → Array Value → Option Value → Pt → Prop) (PostX : Pt → Array Value → Addr → Pt → Prop) : Prop :=
  ∀ (m : MethodId) (meth : Method) (c : Code) (A : Pt) (g : JFrame) (ig : Instr) (mk : MethodId) (a : Array Value),
    Stand p l e R s m sargs below meth c A.U A.locs A.cells A.slots → g.method = m → g.locals.size = c.maxLocals → decode c.code g.pc = .ok (ig, len) →
    2 * g.monitorRoom + (g.stack.map fun v => v.category).sum ≤ W9 → A.U.methodNamed? y = some mk → Pre A a →
    (∃ (v : Option Value) (B : Pt), Stand p l e R s m sargs below meth c B.U B.locs B.cells B.slots ∧ Post A a v B ∧
      Steps p.tables e below (doInvoke e (A.U.setTop g) [] mk a).1 (B.U.setTop { g with pc := g.pc + len, stack := v.toList ++ g.stack })) ∨
    (∃ (q : Addr) (B : Pt), Stand p l e R s m sargs below meth c B.U B.locs B.cells B.slots ∧ PostX A a q B ∧
      Steps p.tables e below (doInvoke e (A.U.setTop g) [] mk a).1 ((B.U.setTop g).pushFrame (.throwing q)))
section Payer
variable {l : Launch} {R : Room} {p : Program} {e : Env} {below : List Frame} {s : State} {sargs : Array Value} {y : MethodName} {len W9 : Nat}
theorem vx_back {ws : List Cond} {rm : Room} {Pc : Array Value → State → Prop} {Qc : Array Value → State → Outcome → State → Prop} {XC : String → State → State → Prop} {mc ms : Nat} {free : Addr → Prop} {bytes : ByteArray} {maxL : Nat} {ret : Option FieldType}
    (hM : vx_Met l y ws rm Pc Qc XC mc ms free) (hblind : FrameBlind Pc) (hrc : rm.cells = mc) (hrs : rm.slots = ms)
    (hframes : rm.frames + 1 ≤ R.frames) (hlocals : W9 + (maxL + 11) + rm.locals ≤ R.locals)
    (hws : ∀ w ∈ ws, ∀ a' U, s.WarmedH U.vm → w.before a' U = true) (hcode : Cond.code y bytes maxL ret ∈ ws) (hinit : ∀ a' U, s.WarmedH U.vm → (Cond.initialized y.cls).before a' U = true) :
    vx_Back l R p e below s sargs y len W9 (PreOf R mc ms Pc) (PostOf Qc mc ms free) (vx_Post XC mc ms free) := by
  intro m meth c A g ig mk a X hg hsize hdg hW hn hp
  have h1 : (headSpec ws rm).pre.before a A.U = true := atoms_intro fun w hw => hws w hw _ _ X.warmed
  have h2 : (Cond.code y bytes maxL ret).before a A.U = true := hws _ hcode _ _ X.warmed
  have h3 : (Cond.initialized y.cls).before a A.U = true := hinit _ _ X.warmed
  have h4 : A.cells + (headSpec ws rm).room.cells ≤ R.cells := by rw [show (headSpec ws rm).room.cells = mc from hrc]; exact hp.1
  have h5 : A.slots + (headSpec ws rm).room.slots ≤ R.slots := by rw [show (headSpec ws rm).room.slots = ms from hrs]; exact hp.2.1
  have hPc : Pc a (A.U.calling g mk a) := hblind _ _ _ _ hp.2.2
  obtain ⟨U, Ls, c0, s0⟩ := A
  dsimp only [Pt.U, Pt.locs, Pt.cells, Pt.slots] at h1 h2 h3 h4 h5 X hn hPc ⊢
  obtain ⟨methY, cY, hmY, hcY, -, hlY, -, -, -, -⟩ := Cond.code_spec hn h2
  obtain ⟨kY, hkY, -⟩ := className_of_methodNamed hn
  have hinitY : kY.init = .initialized := Cond.initialized_spec (findClass_of_methodNamed hn) hkY h3
  have h : At U g.method c below := by rw [hg]; exact X.here
  have hlocals9 : W9 + (maxL + 11) + (headSpec ws rm).room.locals ≤ R.locals := hlocals
  have happ : (headSpec ws rm).appliesLoose y e.platform (U.calling g mk a) = true :=
    Spec.appliesLoose_calling (g := g) h hdg hn hkY hinitY
      (X.room_calling (g := g) (R' := (headSpec ws rm).room) hsize hmY hcY hframes (by rw [hlY]; omega) h4 h5) h1
  obtain ⟨mid, hmid⟩ := h.above
  have hfr : (U.setTop g).frames = (.java g :: mid) ++ below := by rw [State.frames_setTop' g h.top, hmid]; rfl
  obtain ⟨o, s₂, hsteps, -, hend, hq⟩ := Steps.callFree hM p X.admits X.cas X.clock (acts := []) hfr happ hPc trivial
  have hq' : vx_Q Qc XC mc ms free a (U.calling g mk a) o s₂ := hq
  rw [State.frames_setTop' g h.top] at hend
  obtain ⟨g₀, hg0⟩ := Option.isSome_iff_exists.mp h.top
  obtain ⟨r, hr⟩ := State.topJava?_eq_some.mp hg0
  have hr' : (({ U with heap := s₂.heap, slotsUsed := s₂.slotsUsed } : State).setVm s₂.vm).frames = .java g₀ :: r := hr
  rcases hq' with ⟨hqc, L, hfe, hL⟩ | ⟨q, rfl, E, ce, L, hx, hce, hcv, hcl, hW₂, hsm, hL⟩
  · obtain ⟨⟨v, rfl⟩, hW₂, e2, q2, q3, q4, q5, q6⟩ := id hfe
    have e3 : s₂ = ({ (U.calling g mk a).setFrames s₂.frames with heap := s₂.heap, slotsUsed := s₂.slotsUsed } : State).setVm s₂.vm := by
      have : s₂ = ({ s₂ with vm := (U.calling g mk a).vm } : State).setVm s₂.vm := rfl
      rw [e2] at this
      exact this
    obtain ⟨c₂, i₂, len₂, hc₂, hd₂, hf₂⟩ := hend
    have hW' : U.WarmedH s₂.vm := hW₂
    have hcc : c₂ = c := by
      have h1 : s₂.code? g.method = U.code? g.method := by
        rw [State.code?_eq, State.code?_eq, hW'.alike.method?]
      exact Option.some.inj (hc₂.symm.trans (h1.trans h.code))
    subst hcc
    have hlen : len₂ = len := by rw [hdg] at hd₂; cases hd₂; rfl
    subst hlen
    have hs₂ : s₂ = (({ U with heap := s₂.heap, slotsUsed := s₂.slotsUsed } : State).setVm s₂.vm).setTop { g with pc := g.pc + len₂, stack := v.toList ++ g.stack } := by
      refine e3.trans ?_
      rw [hf₂, State.calling_eq h.top, State.setFrames_setFrames, State.setTop_of_frames _ hr', hr]
      rfl
    have hsame : U.sameButNew ({ U with heap := s₂.heap, slotsUsed := s₂.slotsUsed } : State) L mc ms := by
      refine ⟨?_, q2, q3, q4, q5, q6⟩
      obtain ⟨t, ht, -⟩ := State.frames_cons hr
      show ({ U with heap := s₂.heap, slotsUsed := s₂.slotsUsed } : State) = { U.setFrames U.frames with heap := s₂.heap, slotsUsed := s₂.slotsUsed }
      rw [State.setFrames_self ht]
    subst hg
    refine Or.inl ⟨v, ⟨(({ U with heap := s₂.heap, slotsUsed := s₂.slotsUsed } : State).setVm s₂.vm), Ls ++ L, c0 + mc, s0 + ms⟩,
      ⟨X.admits, X.cas, X.clock, X.frames, X.room, X.hears, X.method, X.code, (X.here.setHeapUsed s₂.heap s₂.slotsUsed).setVm hW'.alike, X.tail, State.WarmedH.trans X.warmed hW', X.limits, X.bytes, X.same.trans (hsame.setVm s.vm)⟩,
      ⟨g, mk, s₂, L, rfl, rfl, hqc, rfl, hL, rfl, rfl⟩, ?_⟩
    show Steps p.tables e below _ ((({ U with heap := s₂.heap, slotsUsed := s₂.slotsUsed } : State).setVm s₂.vm).setTop { g with pc := g.pc + len₂, stack := v.toList ++ g.stack })
    rw [← hs₂]
    exact hsteps
  · obtain ⟨e2, q2, q3, q4, q5, q6⟩ := id hsm
    have e3 : s₂ = ({ (U.calling g mk a).setFrames s₂.frames with heap := s₂.heap, slotsUsed := s₂.slotsUsed } : State).setVm s₂.vm := by
      have : s₂ = ({ s₂ with vm := (U.calling g mk a).vm } : State).setVm s₂.vm := rfl
      rw [e2] at this
      exact this
    have hf₂ : s₂.frames = .throwing q :: .java g :: U.frames.tail := hend
    have hW' : U.WarmedH s₂.vm := hW₂
    have hs₂ : s₂ = ((({ U with heap := s₂.heap, slotsUsed := s₂.slotsUsed } : State).setVm s₂.vm).setTop g).pushFrame (.throwing q) := by
      refine e3.trans ?_
      rw [hf₂, State.calling_eq h.top, State.setFrames_setFrames, State.pushFrame, State.frames_setTop _ hr', State.setTop_of_frames _ hr', State.setFrames_setFrames, hr]
      rfl
    have hsame : U.sameButNew ({ U with heap := s₂.heap, slotsUsed := s₂.slotsUsed } : State) L mc ms := by
      refine ⟨?_, q2, q3, q4, q5, q6⟩
      obtain ⟨t, ht, -⟩ := State.frames_cons hr
      show ({ U with heap := s₂.heap, slotsUsed := s₂.slotsUsed } : State) = { U.setFrames U.frames with heap := s₂.heap, slotsUsed := s₂.slotsUsed }
      rw [State.setFrames_self ht]
    subst hg
    refine Or.inr ⟨q, ⟨(({ U with heap := s₂.heap, slotsUsed := s₂.slotsUsed } : State).setVm s₂.vm), Ls ++ L, c0 + mc, s0 + ms⟩,
      ⟨X.admits, X.cas, X.clock, X.frames, X.room, X.hears, X.method, X.code, (X.here.setHeapUsed s₂.heap s₂.slotsUsed).setVm hW'.alike, X.tail, State.WarmedH.trans X.warmed hW', X.limits, X.bytes, X.same.trans (hsame.setVm s.vm)⟩,
      ⟨g, mk, s₂, L, E, ce, rfl, rfl, hx, hce, hcv, hcl, rfl, hL, rfl, rfl⟩, ?_⟩
    show Steps p.tables e below _ (((({ U with heap := s₂.heap, slotsUsed := s₂.slotsUsed } : State).setVm s₂.vm).setTop g).pushFrame (.throwing q))
    rw [← hs₂]
    exact hsteps
end Payer
section Calls
variable {p : Program} {l : Launch} {e : Env} {R : Room} {s : State} {m : MethodId} {args : Array Value} {below : List Frame} {meth : Method} {c : Code} {T : State} {locs : List Loc} {cells slots : Nat}
theorem vx_callV (X : Stand p l e R s m args below meth c T locs cells slots) (hexec : p.tables.exec = Jvm.exec) {own C : String} {index : Nat} {y : MethodName} {bytes : ByteArray} {maxL : Nat} {ret : Option FieldType}
    (hown : s.vm.findClass own = some m.cls) (hlink : (Cond.methodLink own index y).before args s = true) (hinst : (Cond.instanceMethod y).before args s = true) (hsel : (Cond.selects C y y).before args s = true)
    (hcode : (Cond.code y bytes maxL ret).before args s = true) (hy : y.cls ≠ "java/lang/invoke/MethodHandle" ∧ y.cls ≠ "java/lang/invoke/VarHandle")
    {W9 : Nat} {Pre : Pt → Array Value → Prop} {Post : Pt → Array Value → Option Value → Pt → Prop} {PostX : Pt → Array Value → Addr → Pt → Prop} (hK : vx_Back l R p e below s args y 3 W9 Pre Post PostX)
    {b : Addr} {cellB : Cell} (hcell : T.heap[b]? = some cellB) (hobj : cellB.vm.isStatics = false) (hcls : s.vm.findClass C = some cellB.cls)
    {g : JFrame} (hg : g.method = m) (hsize : g.locals.size = c.maxLocals) {argsL rest : List Value} (hlen : ∀ sig, parseMethodDescriptor y.desc = some sig → argsL.length = sig.parameters.length)
    (hstack : g.stack = argsL.reverse ++ .ref b :: rest) (hW : 2 * g.monitorRoom + (rest.map fun v => v.category).sum ≤ W9) (hdg : decode c.code g.pc = .ok (.invokevirtual index, 3))
    (hpre : ∀ vm₁, s.WarmedH vm₁ → Pre ⟨T.setVm vm₁, locs, cells, slots⟩ (Value.ref b :: argsL).toArray) :
    (∃ (v : Option Value) (vm₁ : Vm) (B : Pt), s.WarmedH vm₁ ∧ Stand p l e R s m args below meth c B.U B.locs B.cells B.slots ∧ Post ⟨T.setVm vm₁, locs, cells, slots⟩ (Value.ref b :: argsL).toArray v B ∧
      ∀ target, Steps p.tables e below (B.U.setTop { g with pc := g.pc + 3, stack := v.toList ++ rest }) target → Steps p.tables e below (T.setTop g) target) ∨
    (∃ (q : Addr) (vm₁ : Vm) (B : Pt), s.WarmedH vm₁ ∧ Stand p l e R s m args below meth c B.U B.locs B.cells B.slots ∧ PostX ⟨T.setVm vm₁, locs, cells, slots⟩ (Value.ref b :: argsL).toArray q B ∧
      Steps p.tables e below (T.setTop g) ((B.U.setTop { g with stack := rest }).pushFrame (.throwing q))) := by
  obtain ⟨mk, methM, hnamed, hmethM, hstM, habM⟩ := Cond.instanceMethod_spec hinst
  obtain ⟨methM', cM, hmethM', -, -, -, -, -, -, hsigM⟩ := Cond.code_spec hnamed hcode
  cases hmethM.symm.trans hmethM'
  obtain ⟨c2, r2, m2, q1, q2, q3, q4, kP, hkP, hkPi⟩ := Cond.selects_spec hsel
  cases hcls.symm.trans q1
  cases (State.methodFound?_of_named hnamed hy).symm.trans q2
  cases hnamed.symm.trans q3
  have hselP : selectMethod e.platform s.vm cellB.cls mk = .method mk := by rw [Launch.admits_selectMethod X.admits]; exact q4
  obtain ⟨vm₁, X₁, hstep₁⟩ := X.invokevirtual hexec hown hlink hnamed hmethM hstM hkP hkPi hy (a := b) (cell := cellB) hcell
    (fun z h => by rw [h] at hobj; cases hobj) hselP hmethM habM hkP hkPi (g := g) hg (argsL := argsL) (rest := rest) (hlen _ hsigM) hstack hdg
  rcases hK m meth c ⟨T.setVm vm₁, locs, cells, slots⟩ { g with stack := rest } (.invokevirtual index) mk (Value.ref b :: argsL).toArray X₁ hg hsize hdg hW (X₁.named hnamed) (hpre vm₁ X₁.warmed) with ⟨v, B, X', hpost, hsteps⟩ | ⟨q, B, X', hpost, hsteps⟩
  · exact Or.inl ⟨v, vm₁, B, X₁.warmed, X', hpost, fun target h => hstep₁ _ fun acts => by rw [doInvoke_state]; exact hsteps.trans h⟩
  · exact Or.inr ⟨q, vm₁, B, X₁.warmed, X', hpost, hstep₁ _ fun acts => by rw [doInvoke_state]; exact hsteps⟩
theorem vx_callS (X : Stand p l e R s m args below meth c T locs cells slots) (hexec : p.tables.exec = Jvm.exec) {own : String} {index : Nat} {y : MethodName} {bytes : ByteArray} {maxL : Nat} {ret : Option FieldType}
    (hown : s.vm.findClass own = some m.cls) (hlink : (Cond.methodLink own index y).before args s = true) (hstat : (Cond.static y).before args s = true) (hinit : (Cond.initialized y.cls).before args s = true)
    (hcode : (Cond.code y bytes maxL ret).before args s = true) (hy : y.cls ≠ "java/lang/invoke/MethodHandle" ∧ y.cls ≠ "java/lang/invoke/VarHandle")
    {W9 : Nat} {Pre : Pt → Array Value → Prop} {Post : Pt → Array Value → Option Value → Pt → Prop} {PostX : Pt → Array Value → Addr → Pt → Prop} (hK : vx_Back l R p e below s args y 3 W9 Pre Post PostX)
    {g : JFrame} (hg : g.method = m) (hsize : g.locals.size = c.maxLocals) {argsL rest : List Value} (hlen : ∀ sig, parseMethodDescriptor y.desc = some sig → argsL.length = sig.parameters.length)
    (hstack : g.stack = argsL.reverse ++ rest) (hW : 2 * g.monitorRoom + (rest.map fun v => v.category).sum ≤ W9) (hdg : decode c.code g.pc = .ok (.invokestatic index, 3))
    (hpre : ∀ vm₁, s.WarmedH vm₁ → Pre ⟨T.setVm vm₁, locs, cells, slots⟩ argsL.toArray) :
    (∃ (v : Option Value) (vm₁ : Vm) (B : Pt), s.WarmedH vm₁ ∧ Stand p l e R s m args below meth c B.U B.locs B.cells B.slots ∧ Post ⟨T.setVm vm₁, locs, cells, slots⟩ argsL.toArray v B ∧
      ∀ target, Steps p.tables e below (B.U.setTop { g with pc := g.pc + 3, stack := v.toList ++ rest }) target → Steps p.tables e below (T.setTop g) target) ∨
    (∃ (q : Addr) (vm₁ : Vm) (B : Pt), s.WarmedH vm₁ ∧ Stand p l e R s m args below meth c B.U B.locs B.cells B.slots ∧ PostX ⟨T.setVm vm₁, locs, cells, slots⟩ argsL.toArray q B ∧
      Steps p.tables e below (T.setTop g) ((B.U.setTop { g with stack := rest }).pushFrame (.throwing q))) := by
  obtain ⟨mk, hnamed⟩ := Cond.code_named hcode
  obtain ⟨methM, cM, hmethM, -, -, -, -, -, -, hsigM⟩ := Cond.code_spec hnamed hcode
  have hstatic : methM.isStatic = true := Cond.static_spec hnamed hmethM hstat
  obtain ⟨kP, hkP, -⟩ := className_of_methodNamed hnamed
  have hinitP : kP.init = .initialized := Cond.initialized_spec (findClass_of_methodNamed hnamed) hkP hinit
  obtain ⟨vm₁, X₁, hstep₁⟩ := X.invokestatic hexec hown hlink hnamed hmethM hstatic hkP hinitP hy (g := g) hg (argsL := argsL) (rest := rest) (hlen _ hsigM) hstack hdg
  rcases hK m meth c ⟨T.setVm vm₁, locs, cells, slots⟩ { g with stack := rest } (.invokestatic index) mk argsL.toArray X₁ hg hsize hdg hW (X₁.named hnamed) (hpre vm₁ X₁.warmed) with ⟨v, B, X', hpost, hsteps⟩ | ⟨q, B, X', hpost, hsteps⟩
  · exact Or.inl ⟨v, vm₁, B, X₁.warmed, X', hpost, fun target h => hstep₁ _ fun acts => by rw [doInvoke_state]; exact hsteps.trans h⟩
  · exact Or.inr ⟨q, vm₁, B, X₁.warmed, X', hpost, hstep₁ _ fun acts => by rw [doInvoke_state]; exact hsteps⟩
end Calls
theorem vx_cls {s : State} {T : State} {vm₁ : Vm} {E : String} {k : ClassId} (hW : s.WarmedH vm₁) (h : (T.setVm vm₁).vm.findClass E = some k) : s.vm.findClass E = some k := by
  have h1 : vm₁.findClass E = some k := h
  rw [hW.alike.findClass] at h1
  exact h1
/-- the method's frame g, with q thrown over it -/
def vx_W (p : Program) (l : Launch) (e : Env) (R : Room) (s : State) (m : MethodId) (args : Array Value) (below : List Frame) (meth : Method) (c : Code) (H : Heap) (locs : List Loc) (cells slots : Nat) (Q : State → Prop) (g : JFrame) (q : Addr) : Prop :=
  ∀ T : State, T.heap = H → Stand p l e R s m args below meth c T locs cells slots → ∃ t, Steps p.tables e below ((T.setTop g).pushFrame (.throwing q)) t ∧ Q t
def vx_Run (p : Program) (l : Launch) (e : Env) (R : Room) (s : State) (m : MethodId) (args : Array Value) (below : List Frame) (meth : Method) (c : Code) (H : Heap) (locs : List Loc) (cells slots mc ms : Nat) (g : JFrame) (rest : List Value) (Qa : State → Outcome → State → Prop) (XC : String → State → State → Prop) (free : Addr → Prop) : Prop :=
  ∀ T : State, T.heap = H → Stand p l e R s m args below meth c T locs cells slots →
    (∃ (v : Option Value) (st₀ t T' : State) (L : List Loc), st₀.heap = H ∧ Stand p l e R s m args below meth c T' (locs ++ L) (cells + mc) (slots + ms) ∧ (∀ q ∈ L, free q.base) ∧ T'.heap = t.heap ∧ T'.vm = t.vm ∧ Qa st₀ (.returned v) t ∧
      Goes p e below T g T' { g with pc := g.pc + 3, stack := v.toList ++ rest }) ∨
    (∃ (q : Addr) (st₀ t T' : State) (L : List Loc) (E : String) (ce : Cell), st₀.heap = H ∧ Stand p l e R s m args below meth c T' (locs ++ L) (cells + mc) (slots + ms) ∧ (∀ z ∈ L, free z.base) ∧ T'.heap = t.heap ∧ T'.vm = t.vm ∧ XC E st₀ t ∧ t.heap[q]? = some ce ∧ ce.vm = .none ∧ s.vm.findClass E = some ce.cls ∧
      Steps p.tables e below (T.setTop g) ((T'.setTop { g with stack := rest }).pushFrame (.throwing q)))
def vx_X {S : Type} (px : S → Prop) (B : String → S → State → Prop) (A : Nat → Prop) : String → State → State → Prop := fun E st t => ∃ u : S, px u ∧ B E u t ∧ va_F A st t
section Runs
variable {p : Program} {l : Launch} {e : Env} {R : Room} {s : State} {m : MethodId} {args : Array Value} {below : List Frame} {meth : Method} {c : Code} {H : Heap} {locs : List Loc} {cells slots : Nat}
variable {y : MethodName} {bytes cc : ByteArray} {maxL nL mc ms n index : Nat} {ret : Option FieldType} {ws : List Cond} {rm : Room} {Pc : Array Value → State → Prop} {Qc : Array Value → State → Outcome → State → Prop} {XC : String → State → State → Prop} {free : Addr → Prop} {Ts : List Cond} {own C : String} {b : Addr} {As rest : List Value} {g : JFrame}
theorem vx_callBack (cb : CallB R s args own index y bytes maxL ret ws rm mc ms n) (hM : vx_Met l y ws rm Pc Qc XC mc ms free) (hbl : FrameBlind Pc) : vx_Back l R p e below s args y 3 8 (PreOf R mc ms Pc) (PostOf Qc mc ms free) (vx_Post XC mc ms free) := by
  obtain ⟨hrc, hrs, hfr, hlo, hws, hcw, -, hini, -⟩ := cb
  exact vx_back (bytes := bytes) (maxL := maxL) (ret := ret) hM hbl hrc hrs hfr hlo hws hcw (fun a' U hW => word_at hW (Or.inl (by first | rfl | simp [Cond.onTables, Cond.keeps, Cond.steady])) hini)
theorem vx_runV (S : CallFix p m c cc nL s args Ts own) (hM : vx_Met l y ws rm Pc Qc XC mc ms free) (cw : CallW R s args own C index y bytes maxL ret ws rm mc ms n) (hp : PreV s H C b Pc As)
    (hg : g.method = m) (hn : As.length = n) (hsize : g.locals.size = nL) (hstack : g.stack = As.reverse ++ .ref b :: rest) (hW : 2 * g.monitorRoom + (rest.map fun v => v.category).sum ≤ 8) (hdg : decode cc g.pc = .ok (.invokevirtual index, 3)) (hf : cells + mc ≤ R.cells ∧ slots + ms ≤ R.slots) :
    vx_Run p l e R s m args below meth c H locs cells slots mc ms g rest (Qc (Value.ref b :: As).toArray) XC free := by
  have hK : vx_Back l R p e below s args y 3 8 (PreOf R mc ms Pc) (PostOf Qc mc ms free) (vx_Post XC mc ms free) := vx_callBack cw.1 hM hp.1
  obtain ⟨⟨-, -, -, -, -, -, hcode, -, hy, hlen, hl⟩, hin, hse⟩ := cw
  obtain ⟨hx, hb, hml, ho, -⟩ := S
  obtain ⟨-, ⟨cellB, hcB, hoB, hclB⟩, hPc⟩ := hp
  intro T hT X
  rcases vx_callV X hx (C := C) (bytes := bytes) (maxL := maxL) (ret := ret) ho hl hin hse hcode hy hK (by rw [hT]; exact hcB) hoB hclB hg (hsize.trans hml.symm) (argsL := As) (rest := rest) (fun sig h => hn.trans (hlen sig h)) hstack hW (by rw [hb]; exact hdg)
    (fun vm₁ hW₁ => ⟨hf.1, hf.2, hPc (T.setVm vm₁) hT hW₁⟩) with ⟨v, vm₁, ⟨U', l2, c2, s2⟩, hW₁, X', ⟨g', mk, t, L, e1, e2, hq, h1, hL, h2, h3⟩, st⟩ | ⟨q, vm₁, ⟨U', l2, c2, s2⟩, hW₁, X', ⟨g', mk, t, L, E, ce, e1, e2, hq, hce, hcv, hcl, h1, hL, h2, h3⟩, st⟩
  · dsimp only [Pt.U, Pt.locs, Pt.cells, Pt.slots] at X' e1 e2 h1 h2 h3 st
    subst h1; subst h2; subst h3
    exact Or.inl ⟨v, (T.setVm vm₁).calling g' mk (Value.ref b :: As).toArray, t, U', L, hT, X', hL, e1, e2, hq, st⟩
  · dsimp only [Pt.U, Pt.locs, Pt.cells, Pt.slots] at X' e1 e2 h1 h2 h3 st hcl
    subst h1; subst h2; subst h3
    exact Or.inr ⟨q, (T.setVm vm₁).calling g' mk (Value.ref b :: As).toArray, t, U', L, E, ce, hT, X', hL, e1, e2, hq, hce, hcv, vx_cls hW₁ hcl, st⟩
theorem vx_runS (S : CallFix p m c cc nL s args Ts own) (hM : vx_Met l y ws rm Pc Qc XC mc ms free) (cw : CallB R s args own index y bytes maxL ret ws rm mc ms n ∧ (Cond.static y).before args s = true) (hp : PreS s H Pc As)
    (hg : g.method = m) (hn : As.length = n) (hsize : g.locals.size = nL) (hstack : g.stack = As.reverse ++ rest) (hW : 2 * g.monitorRoom + (rest.map fun v => v.category).sum ≤ 8) (hdg : decode cc g.pc = .ok (.invokestatic index, 3)) (hf : cells + mc ≤ R.cells ∧ slots + ms ≤ R.slots) :
    vx_Run p l e R s m args below meth c H locs cells slots mc ms g rest (Qc As.toArray) XC free := by
  have hK : vx_Back l R p e below s args y 3 8 (PreOf R mc ms Pc) (PostOf Qc mc ms free) (vx_Post XC mc ms free) := vx_callBack cw.1 hM hp.1
  obtain ⟨⟨-, -, -, -, -, -, hcode, hini, hy, hlen, hl⟩, hstt⟩ := cw
  obtain ⟨hx, hb, hml, ho, -⟩ := S
  intro T hT X
  rcases vx_callS X hx (bytes := bytes) (maxL := maxL) (ret := ret) ho hl hstt hini hcode hy hK hg (hsize.trans hml.symm) (argsL := As) (rest := rest) (fun sig h => hn.trans (hlen sig h)) hstack hW (by rw [hb]; exact hdg)
    (fun vm₁ hW₁ => ⟨hf.1, hf.2, hp.2 (T.setVm vm₁) hT hW₁⟩) with ⟨v, vm₁, ⟨U', l2, c2, s2⟩, hW₁, X', ⟨g', mk, t, L, e1, e2, hq, h1, hL, h2, h3⟩, st⟩ | ⟨q, vm₁, ⟨U', l2, c2, s2⟩, hW₁, X', ⟨g', mk, t, L, E, ce, e1, e2, hq, hce, hcv, hcl, h1, hL, h2, h3⟩, st⟩
  · dsimp only [Pt.U, Pt.locs, Pt.cells, Pt.slots] at X' e1 e2 h1 h2 h3 st
    subst h1; subst h2; subst h3
    exact Or.inl ⟨v, (T.setVm vm₁).calling g' mk As.toArray, t, U', L, hT, X', hL, e1, e2, hq, st⟩
  · dsimp only [Pt.U, Pt.locs, Pt.cells, Pt.slots] at X' e1 e2 h1 h2 h3 st hcl
    subst h1; subst h2; subst h3
    exact Or.inr ⟨q, (T.setVm vm₁).calling g' mk As.toArray, t, U', L, E, ce, hT, X', hL, e1, e2, hq, hce, hcv, vx_cls hW₁ hcl, st⟩
end Runs
section Rows
variable {p : Program} {l : Launch} {e : Env} {R : Room} {s : State} {m : MethodId} {args : Array Value} {below : List Frame} {meth : Method} {c : Code} {H : Heap} {locs : List Loc} {cells slots : Nat} {Q : State → Prop}
variable {mc ms : Nat} {free : Addr → Prop} {A0 A1 : Nat → Prop} {H0 : Heap} {a : Array Value} {pc : Nat} {ls : Array Slot} {st0 rest : List Value}
theorem vx_keep {st₀ t T' : State} {L : List Loc} (h0 : st₀.heap = H) (e1 : T'.heap = t.heap) (hS : va_S A0 H0 H locs) (hA : ∀ q, q < H.size → A1 q → A0 q) (hf : ∀ q, free q → A0 q) (hL : ∀ q ∈ L, free q.base) (hF : va_F A1 st₀ t) :
    H.size ≤ T'.heap.size ∧ (∀ q : Nat, q < H.size → ¬ A1 q → T'.heap[q]? = H[q]?) ∧ va_S A0 H0 T'.heap (locs ++ L) := by
  obtain ⟨hz, hk⟩ := hF
  rw [h0] at hz hk
  exact ⟨by rw [e1]; exact hz, fun q h1 h2 => by rw [e1]; exact hk q h1 h2,
    ⟨Nat.le_trans hS.1 (by rw [e1]; exact hz), fun q h1 h2 => by rw [e1, hk q (Nat.lt_of_lt_of_le h1 hS.1) (fun z => h2 (hA q (Nat.lt_of_lt_of_le h1 hS.1) z))]; exact hS.2.1 q h1 h2, fun q hq => by
      rcases List.mem_append.mp hq with h | h
      · exact hS.2.2 q h
      · exact hf _ (hL q h)⟩⟩
theorem vx_calli {S SX : Type} {post : Int32 → S → Prop} {px : SX → Prop} {B : S → State → Prop} {BX : String → SX → State → Prop} {AX : Nat → Prop} (hr : vx_Run p l e R s m args below meth c H locs cells slots mc ms (F0 m pc ls st0) rest (va_Qi post B A1 a) (vx_X px BX AX) free) (hS : va_S A0 H0 H locs) (hA : ∀ q, q < H.size → A1 q → A0 q) (hf : ∀ q, free q → A0 q) (hAX : ∀ q, q < H.size → AX q → A0 q)
    (kx : ∀ (E : String) (ce : Cell) (q9 : Addr) (u : SX) (t : State) (H1 : Heap) (locs1 : List Loc), t.heap = H1 → s.vm.Alike t.vm → px u → BX E u t → H.size ≤ H1.size → (∀ q : Nat, q < H.size → ¬ AX q → H1[q]? = H[q]?) → va_S A0 H0 H1 locs1 → H1[q9]? = some ce → ce.vm = .none → s.vm.findClass E = some ce.cls → vx_W p l e R s m args below meth c H1 locs1 (cells + mc) (slots + ms) Q (F0 m pc ls rest) q9)
    (kk : ∀ (r : Int32) (u : S) (t : State) (H1 : Heap) (locs1 : List Loc), t.heap = H1 → s.vm.Alike t.vm → post r u → B u t → H.size ≤ H1.size → (∀ q : Nat, q < H.size → ¬ A1 q → H1[q]? = H[q]?) → va_S A0 H0 H1 locs1 → W p l e R s m args below meth c H1 locs1 (cells + mc) (slots + ms) Q (F0 m (pc + 3) ls (.int r :: rest))) : W p l e R s m args below meth c H locs cells slots Q (F0 m pc ls st0) := by
  intro T hT X
  rcases hr T hT X with ⟨v, st₀, t, T', L, h0, X', hL, e1, e2, ⟨⟨r, u, hv, hp, hb⟩, hF⟩, st⟩ | ⟨q, st₀, t, T', L, E, ce, h0, X', hL, e1, e2, ⟨u, hp, hb, hF⟩, hce, hcv, hcl, st⟩
  · cases hv
    obtain ⟨k1, k2, k3⟩ := vx_keep h0 e1 hS hA hf hL hF
    obtain ⟨t2, a1, b1⟩ := kk r u t T'.heap (locs ++ L) e1.symm (by rw [← e2]; exact X'.warmed.alike) hp hb k1 k2 k3 T' rfl X'
    exact ⟨t2, st t2 a1, b1⟩
  · obtain ⟨k1, k2, k3⟩ := vx_keep h0 e1 hS hAX hf hL hF
    obtain ⟨t2, a1, b1⟩ := kx E ce q u t T'.heap (locs ++ L) e1.symm (by rw [← e2]; exact X'.warmed.alike) hp hb k1 k2 k3 (by rw [e1]; exact hce) hcv hcl T' rfl X'
    exact ⟨t2, st.trans a1, b1⟩
theorem vx_calll {S SX : Type} {post : Int64 → S → Prop} {px : SX → Prop} {B : S → State → Prop} {BX : String → SX → State → Prop} {AX : Nat → Prop} (hr : vx_Run p l e R s m args below meth c H locs cells slots mc ms (F0 m pc ls st0) rest (va_Ql post B A1 a) (vx_X px BX AX) free) (hS : va_S A0 H0 H locs) (hA : ∀ q, q < H.size → A1 q → A0 q) (hf : ∀ q, free q → A0 q) (hAX : ∀ q, q < H.size → AX q → A0 q)
    (kx : ∀ (E : String) (ce : Cell) (q9 : Addr) (u : SX) (t : State) (H1 : Heap) (locs1 : List Loc), t.heap = H1 → s.vm.Alike t.vm → px u → BX E u t → H.size ≤ H1.size → (∀ q : Nat, q < H.size → ¬ AX q → H1[q]? = H[q]?) → va_S A0 H0 H1 locs1 → H1[q9]? = some ce → ce.vm = .none → s.vm.findClass E = some ce.cls → vx_W p l e R s m args below meth c H1 locs1 (cells + mc) (slots + ms) Q (F0 m pc ls rest) q9)
    (kk : ∀ (r : Int64) (u : S) (t : State) (H1 : Heap) (locs1 : List Loc), t.heap = H1 → s.vm.Alike t.vm → post r u → B u t → H.size ≤ H1.size → (∀ q : Nat, q < H.size → ¬ A1 q → H1[q]? = H[q]?) → va_S A0 H0 H1 locs1 → W p l e R s m args below meth c H1 locs1 (cells + mc) (slots + ms) Q (F0 m (pc + 3) ls (.long r :: rest))) : W p l e R s m args below meth c H locs cells slots Q (F0 m pc ls st0) := by
  intro T hT X
  rcases hr T hT X with ⟨v, st₀, t, T', L, h0, X', hL, e1, e2, ⟨⟨r, u, hv, hp, hb⟩, hF⟩, st⟩ | ⟨q, st₀, t, T', L, E, ce, h0, X', hL, e1, e2, ⟨u, hp, hb, hF⟩, hce, hcv, hcl, st⟩
  · cases hv
    obtain ⟨k1, k2, k3⟩ := vx_keep h0 e1 hS hA hf hL hF
    obtain ⟨t2, a1, b1⟩ := kk r u t T'.heap (locs ++ L) e1.symm (by rw [← e2]; exact X'.warmed.alike) hp hb k1 k2 k3 T' rfl X'
    exact ⟨t2, st t2 a1, b1⟩
  · obtain ⟨k1, k2, k3⟩ := vx_keep h0 e1 hS hAX hf hL hF
    obtain ⟨t2, a1, b1⟩ := kx E ce q u t T'.heap (locs ++ L) e1.symm (by rw [← e2]; exact X'.warmed.alike) hp hb k1 k2 k3 (by rw [e1]; exact hce) hcv hcl T' rfl X'
    exact ⟨t2, st.trans a1, b1⟩
theorem vx_callf {S SX : Type} {post : UInt32 → S → Prop} {px : SX → Prop} {B : S → State → Prop} {BX : String → SX → State → Prop} {AX : Nat → Prop} (hr : vx_Run p l e R s m args below meth c H locs cells slots mc ms (F0 m pc ls st0) rest (va_Qf post B A1 a) (vx_X px BX AX) free) (hS : va_S A0 H0 H locs) (hA : ∀ q, q < H.size → A1 q → A0 q) (hf : ∀ q, free q → A0 q) (hAX : ∀ q, q < H.size → AX q → A0 q)
    (kx : ∀ (E : String) (ce : Cell) (q9 : Addr) (u : SX) (t : State) (H1 : Heap) (locs1 : List Loc), t.heap = H1 → s.vm.Alike t.vm → px u → BX E u t → H.size ≤ H1.size → (∀ q : Nat, q < H.size → ¬ AX q → H1[q]? = H[q]?) → va_S A0 H0 H1 locs1 → H1[q9]? = some ce → ce.vm = .none → s.vm.findClass E = some ce.cls → vx_W p l e R s m args below meth c H1 locs1 (cells + mc) (slots + ms) Q (F0 m pc ls rest) q9)
    (kk : ∀ (r : UInt32) (u : S) (t : State) (H1 : Heap) (locs1 : List Loc), t.heap = H1 → s.vm.Alike t.vm → post r u → B u t → H.size ≤ H1.size → (∀ q : Nat, q < H.size → ¬ A1 q → H1[q]? = H[q]?) → va_S A0 H0 H1 locs1 → W p l e R s m args below meth c H1 locs1 (cells + mc) (slots + ms) Q (F0 m (pc + 3) ls (.float r :: rest))) : W p l e R s m args below meth c H locs cells slots Q (F0 m pc ls st0) := by
  intro T hT X
  rcases hr T hT X with ⟨v, st₀, t, T', L, h0, X', hL, e1, e2, ⟨⟨r, u, hv, hp, hb⟩, hF⟩, st⟩ | ⟨q, st₀, t, T', L, E, ce, h0, X', hL, e1, e2, ⟨u, hp, hb, hF⟩, hce, hcv, hcl, st⟩
  · cases hv
    obtain ⟨k1, k2, k3⟩ := vx_keep h0 e1 hS hA hf hL hF
    obtain ⟨t2, a1, b1⟩ := kk r u t T'.heap (locs ++ L) e1.symm (by rw [← e2]; exact X'.warmed.alike) hp hb k1 k2 k3 T' rfl X'
    exact ⟨t2, st t2 a1, b1⟩
  · obtain ⟨k1, k2, k3⟩ := vx_keep h0 e1 hS hAX hf hL hF
    obtain ⟨t2, a1, b1⟩ := kx E ce q u t T'.heap (locs ++ L) e1.symm (by rw [← e2]; exact X'.warmed.alike) hp hb k1 k2 k3 (by rw [e1]; exact hce) hcv hcl T' rfl X'
    exact ⟨t2, st.trans a1, b1⟩
theorem vx_calld {S SX : Type} {post : UInt64 → S → Prop} {px : SX → Prop} {B : S → State → Prop} {BX : String → SX → State → Prop} {AX : Nat → Prop} (hr : vx_Run p l e R s m args below meth c H locs cells slots mc ms (F0 m pc ls st0) rest (va_Qd post B A1 a) (vx_X px BX AX) free) (hS : va_S A0 H0 H locs) (hA : ∀ q, q < H.size → A1 q → A0 q) (hf : ∀ q, free q → A0 q) (hAX : ∀ q, q < H.size → AX q → A0 q)
    (kx : ∀ (E : String) (ce : Cell) (q9 : Addr) (u : SX) (t : State) (H1 : Heap) (locs1 : List Loc), t.heap = H1 → s.vm.Alike t.vm → px u → BX E u t → H.size ≤ H1.size → (∀ q : Nat, q < H.size → ¬ AX q → H1[q]? = H[q]?) → va_S A0 H0 H1 locs1 → H1[q9]? = some ce → ce.vm = .none → s.vm.findClass E = some ce.cls → vx_W p l e R s m args below meth c H1 locs1 (cells + mc) (slots + ms) Q (F0 m pc ls rest) q9)
    (kk : ∀ (r : UInt64) (u : S) (t : State) (H1 : Heap) (locs1 : List Loc), t.heap = H1 → s.vm.Alike t.vm → post r u → B u t → H.size ≤ H1.size → (∀ q : Nat, q < H.size → ¬ A1 q → H1[q]? = H[q]?) → va_S A0 H0 H1 locs1 → W p l e R s m args below meth c H1 locs1 (cells + mc) (slots + ms) Q (F0 m (pc + 3) ls (.double r :: rest))) : W p l e R s m args below meth c H locs cells slots Q (F0 m pc ls st0) := by
  intro T hT X
  rcases hr T hT X with ⟨v, st₀, t, T', L, h0, X', hL, e1, e2, ⟨⟨r, u, hv, hp, hb⟩, hF⟩, st⟩ | ⟨q, st₀, t, T', L, E, ce, h0, X', hL, e1, e2, ⟨u, hp, hb, hF⟩, hce, hcv, hcl, st⟩
  · cases hv
    obtain ⟨k1, k2, k3⟩ := vx_keep h0 e1 hS hA hf hL hF
    obtain ⟨t2, a1, b1⟩ := kk r u t T'.heap (locs ++ L) e1.symm (by rw [← e2]; exact X'.warmed.alike) hp hb k1 k2 k3 T' rfl X'
    exact ⟨t2, st t2 a1, b1⟩
  · obtain ⟨k1, k2, k3⟩ := vx_keep h0 e1 hS hAX hf hL hF
    obtain ⟨t2, a1, b1⟩ := kx E ce q u t T'.heap (locs ++ L) e1.symm (by rw [← e2]; exact X'.warmed.alike) hp hb k1 k2 k3 (by rw [e1]; exact hce) hcv hcl T' rfl X'
    exact ⟨t2, st.trans a1, b1⟩
theorem vx_callv {S SX : Type} {post : S → Prop} {px : SX → Prop} {B : S → State → Prop} {BX : String → SX → State → Prop} {AX : Nat → Prop} (hr : vx_Run p l e R s m args below meth c H locs cells slots mc ms (F0 m pc ls st0) rest (va_Qv post B A1 a) (vx_X px BX AX) free) (hS : va_S A0 H0 H locs) (hA : ∀ q, q < H.size → A1 q → A0 q) (hf : ∀ q, free q → A0 q) (hAX : ∀ q, q < H.size → AX q → A0 q)
    (kx : ∀ (E : String) (ce : Cell) (q9 : Addr) (u : SX) (t : State) (H1 : Heap) (locs1 : List Loc), t.heap = H1 → s.vm.Alike t.vm → px u → BX E u t → H.size ≤ H1.size → (∀ q : Nat, q < H.size → ¬ AX q → H1[q]? = H[q]?) → va_S A0 H0 H1 locs1 → H1[q9]? = some ce → ce.vm = .none → s.vm.findClass E = some ce.cls → vx_W p l e R s m args below meth c H1 locs1 (cells + mc) (slots + ms) Q (F0 m pc ls rest) q9)
    (kk : ∀ (u : S) (t : State) (H1 : Heap) (locs1 : List Loc), t.heap = H1 → s.vm.Alike t.vm → post u → B u t → H.size ≤ H1.size → (∀ q : Nat, q < H.size → ¬ A1 q → H1[q]? = H[q]?) → va_S A0 H0 H1 locs1 → W p l e R s m args below meth c H1 locs1 (cells + mc) (slots + ms) Q (F0 m (pc + 3) ls (rest))) : W p l e R s m args below meth c H locs cells slots Q (F0 m pc ls st0) := by
  intro T hT X
  rcases hr T hT X with ⟨v, st₀, t, T', L, h0, X', hL, e1, e2, ⟨⟨u, hv, hp, hb⟩, hF⟩, st⟩ | ⟨q, st₀, t, T', L, E, ce, h0, X', hL, e1, e2, ⟨u, hp, hb, hF⟩, hce, hcv, hcl, st⟩
  · cases hv
    obtain ⟨k1, k2, k3⟩ := vx_keep h0 e1 hS hA hf hL hF
    obtain ⟨t2, a1, b1⟩ := kk u t T'.heap (locs ++ L) e1.symm (by rw [← e2]; exact X'.warmed.alike) hp hb k1 k2 k3 T' rfl X'
    exact ⟨t2, st t2 a1, b1⟩
  · obtain ⟨k1, k2, k3⟩ := vx_keep h0 e1 hS hAX hf hL hF
    obtain ⟨t2, a1, b1⟩ := kx E ce q u t T'.heap (locs ++ L) e1.symm (by rw [← e2]; exact X'.warmed.alike) hp hb k1 k2 k3 (by rw [e1]; exact hce) hcv hcl T' rfl X'
    exact ⟨t2, st.trans a1, b1⟩
/-- caught by the row x of this method's table; the rows ahead don't take it -/
theorem vx_catch {own name : String} {E : String} {ce : Cell} {q : Addr} (hown : s.vm.findClass own = some m.cls) (pre : List ExceptionTableEntry) (x : ExceptionTableEntry) (suf : List ExceptionTableEntry) (hsplit : c.exceptionTable.toList = pre ++ x :: suf)
    (hpass : ∀ z ∈ pre, covers z pc = false ∨ (z.catchType ≠ 0 ∧ ∃ nm : String, (Cond.classLink own z.catchType nm).before args s = true ∧ va_Nc E nm s)) (hx : covers x pc = true) (h0 : x.catchType ≠ 0)
    (hlink : (Cond.classLink own x.catchType name).before args s = true) (hcast : (Cond.castable E name).before args s = true) (hcell : H[q]? = some ce) (hv : ce.vm = .none) (hcl : s.vm.findClass E = some ce.cls)
    (kk : W p l e R s m args below meth c H locs cells slots Q (F0 m x.handlerPc ls [.ref q])) : vx_W p l e R s m args below meth c H locs cells slots Q (F0 m pc ls rest) q := by
  intro T hT X
  have hpl : e.platform.magicAccessors = ({} : Platform).magicAccessors := by rw [X.admits.platform]
  obtain ⟨c3, c4, hc3, hc4, hasg⟩ := Cond.castable_spec hcast
  cases Option.some.inj (hc3.symm.trans hcl)
  obtain ⟨c5, hc5, hcl5⟩ := Cond.classLink_spec hown hlink e.platform hpl
  cases Option.some.inj (hc4.symm.trans hc5)
  obtain ⟨vm', X', st⟩ := X.thenCaughtThrough q (g := F0 m pc ls rest) rfl (Steps.refl _) (by rw [hT]; exact hcell) (by rw [hv]; rfl) (by obtain ⟨k9, h9, -⟩ := Vm.findClass_spec hcl; exact ⟨k9, h9⟩) pre x suf hsplit
    (fun z hz => by
      rcases hpass z hz with h | ⟨hz0, nm, hl1, hn1⟩
      · exact Or.inl h
      · obtain ⟨c6, hc6, hcl6⟩ := Cond.classLink_spec hown hl1 e.platform hpl
        obtain ⟨a8, b8, h1, h2, h3⟩ := hn1
        cases Option.some.inj (h1.symm.trans hcl)
        cases Option.some.inj (h2.symm.trans hc6)
        exact Or.inr ⟨hz0, _, hcl6, h3⟩) hx (Or.inr ⟨h0, c4, hcl5, hasg⟩)
  obtain ⟨t, a1, b1⟩ := kk (T.setVm vm') hT X'
  exact ⟨t, st.trans a1, b1⟩
end Rows
section Ends
variable {p : Program} {l : Launch} {e : Env} {R : Room} {s : State} {m : MethodId} {args : Array Value} {below : List Frame} {meth : Method} {c : Code} {H : Heap} {locs : List Loc} {cells slots : Nat} {Q : State → Prop}
variable {mc ms : Nat} {free : Addr → Prop} {A0 A1 : Nat → Prop} {H0 : Heap} {a : Array Value} {ls : Array Slot} {st0 rest : List Value}
variable {Qc : Array Value → State → Outcome → State → Prop} {XC : String → State → State → Prop}
/-- what a body that may throw owes at its end -/
def vx_MQ (below : List Frame) (Qc : Array Value → State → Outcome → State → Prop) (XC : String → State → State → Prop) (a : Array Value) (s : State) (mc ms : Nat) (free : Addr → Prop) : State → Prop := fun t =>
  ∃ o, t.status = .running ∧ Ended t below o ∧ vx_Q Qc XC mc ms free a s o t
theorem vx_ret {g : JFrame} {mc ms : Nat} (k : W p l e R s m args below meth c H locs cells slots (MQ below Qc args s mc ms free) g) : W p l e R s m args below meth c H locs cells slots (vx_MQ below Qc XC args s mc ms free) g := by
  intro T hT X
  obtain ⟨t, a1, o, b1, b2, b3, b4⟩ := k T hT X
  exact ⟨t, a1, o, b1, b2, Or.inl ⟨b3, b4⟩⟩
/-- not caught here: it goes on to the caller -/
theorem vx_widen {g : JFrame} {q : Addr} {k n : Nat} (h1 : cells ≤ k) (h2 : slots ≤ n) (kk : vx_W p l e R s m args below meth c H locs k n Q g q) : vx_W p l e R s m args below meth c H locs cells slots Q g q := fun T hT X => kk T hT (stand_widen X h1 h2)
theorem vx_out {pc : Nat} {E : String} {ce : Cell} {q : Addr} {mc ms : Nat} (hout : ∀ x ∈ c.exceptionTable.toList, covers x pc = false) (hlocks : meth.locks = false) (hcell : H[q]? = some ce) (hv : ce.vm = .none) (hcl : s.vm.findClass E = some ce.cls)
    (hx : ∀ t : State, t.heap = H → s.vm.Alike t.vm → XC E s t) (hf : ∀ z ∈ locs, free z.base) (hc : cells ≤ mc) (hs : slots ≤ ms) :
    vx_W p l e R s m args below meth c H locs cells slots (vx_MQ below Qc XC args s mc ms free) (F0 m pc ls rest) q := by
  intro T hT X
  obtain ⟨st1, hrun, hend, hW, hsm⟩ := X.leaveThrown q (g := F0 m pc ls rest) rfl rfl rfl hout hlocks
  have hcell9 : (T.setFrames (.throwing q :: below)).heap[q]? = some ce := by
    show T.heap[q]? = some ce
    rw [hT]; exact hcell
  exact ⟨_, st1, .threw q, hrun, hend, Or.inr ⟨q, rfl, E, ce, locs, hx _ hT hW.alike, hcell9, hv, hcl, hW, hsm.mono hc hs, hf⟩⟩
theorem vx_frame {U : State} {k n : Nat} (h : s.sameButNew ({ U with vm := s.vm } : State) locs k n) : s.heap.size ≤ U.heap.size ∧ ∀ q : Nat, q < s.heap.size → (∀ z ∈ locs, z.base ≠ q) → U.heap[q]? = s.heap[q]? := by
  obtain ⟨-, h2, -, -, -, h6⟩ := h
  refine ⟨h2, fun q hq hz => ?_⟩
  obtain ⟨c9, e1, e2, e3, e4⟩ := h6 q _ (Array.getElem?_eq_getElem hq)
  have hs : c9.slots = (s.heap[q]).slots := Array.ext_getElem? fun i => e4 i fun hm => hz _ hm rfl
  have h9 : c9 = s.heap[q] := by
    rw [hs] at e2
    exact e2
  have e5 : U.heap[q]? = some c9 := e1
  rw [e5, h9, Array.getElem?_eq_getElem hq]
/-- the words of a throw but the four that speak of the heap -/
def vx_no (w : Cond) : Bool := decide (w ≠ .isRef (.static Bundle.tN "UNASSIGNED_STACK" Bundle.steD)) && decide (w ≠ .isRef (.static Bundle.tN "SUPPRESSED_SENTINEL" Bundle.listD)) && decide (w ≠ .laysStatic Bundle.tN "UNASSIGNED_STACK" Bundle.steD) && decide (w ≠ .laysStatic Bundle.tN "SUPPRESSED_SENTINEL" Bundle.listD)
def vx_at0 (own : String) (ic : Nat) (X : String) (names : List String) : List Cond := (Bundle.ownAtoms0 own ic X names).filter vx_no
def vx_atS (own : String) (ic : Nat) (X : String) (names : List String) : List Cond := (Bundle.ownAtoms own ic X names).filter vx_no
/-- a word that the tables alone decide, or a good one -/
def vx_ot (w : Cond) : Bool := w.onTables || goodWord w
theorem vx_ot_at {args a' : Array Value} {s U : State} {w : Cond} (hW : s.WarmedH U.vm) (hvm : s.vm = U.vm) (hg : vx_ot w = true) (h : w.before args s = true) : w.before a' U = true := by
  simp only [vx_ot, Bool.or_eq_true] at hg
  rcases hg with hg | hg
  · exact va_tabs hg hvm h
  · exact word_at hW (good_of_word hg) h
/-- a list's words: the good ones out of the method's own list, the others by premises of their own -/
theorem vx_hat {args : Array Value} {s : State} {L B : List Cond} (h1 : ∀ w ∈ L.filter goodWord, w.before args s = true) (h2 : ∀ w ∈ L.filter (fun w => !goodWord w), w ∈ B) (h3 : ∀ w ∈ B, w.before args s = true) : ∀ w ∈ L, w.before args s = true := by
  intro w hw
  by_cases g : goodWord w = true
  · exact h1 w (List.mem_filter.mpr ⟨hw, g⟩)
  · refine h3 w (h2 w (List.mem_filter.mpr ⟨hw, ?_⟩))
    show (!goodWord w) = true
    cases hgw : goodWord w
    · rfl
    · exact absurd hgw g
theorem vx_c {args : Array Value} {s : State} {w : Cond} {B : List Cond} (h : w.before args s = true) (t : ∀ w ∈ B, w.before args s = true) : ∀ w' ∈ w :: B, w'.before args s = true := fun w' h' => (List.mem_cons.mp h').elim (fun e => by rw [e]; exact h) (t w')
theorem vx_n {args : Array Value} {s : State} : ∀ w ∈ ([] : List Cond), w.before args s = true := fun _ h => nomatch h
theorem vx_own {args : Array Value} {s : State} {L : List Cond} (h1 : ∀ w ∈ L.filter vx_no, w.before args s = true)
    (hU : (Cond.isRef (.static Bundle.tN "UNASSIGNED_STACK" Bundle.steD)).before args s = true) (hN : (Cond.isRef (.static Bundle.tN "SUPPRESSED_SENTINEL" Bundle.listD)).before args s = true)
    (lU : (Cond.laysStatic Bundle.tN "UNASSIGNED_STACK" Bundle.steD).before args s = true) (lN : (Cond.laysStatic Bundle.tN "SUPPRESSED_SENTINEL" Bundle.listD).before args s = true) : ∀ w ∈ L, w.before args s = true := by
  intro w hw
  by_cases e1 : w = .isRef (.static Bundle.tN "UNASSIGNED_STACK" Bundle.steD)
  · rw [e1]; exact hU
  · by_cases e2 : w = .isRef (.static Bundle.tN "SUPPRESSED_SENTINEL" Bundle.listD)
    · rw [e2]; exact hN
    · by_cases e3 : w = .laysStatic Bundle.tN "UNASSIGNED_STACK" Bundle.steD
      · rw [e3]; exact lU
      · by_cases e4 : w = .laysStatic Bundle.tN "SUPPRESSED_SENTINEL" Bundle.listD
        · rw [e4]; exact lN
        · exact h1 w (List.mem_filter.mpr ⟨hw, by unfold vx_no; rw [decide_eq_true e1, decide_eq_true e2, decide_eq_true e3, decide_eq_true e4]; rfl⟩)
/-- where a static field lies, its class's statics cell in H -/
def vx_L (C n d : String) (A : Nat → Prop) (U : State) (H : Heap) : Prop := ∃ (c : ClassId) (k : Class) (i : Nat) (f : Field) (a : Nat) (cell : Cell), U.vm.findClass C = some c ∧ U.fieldFound? C n d = some (c, k, i, f) ∧ f.isStatic = true ∧ k.statics = some a ∧ H[a]? = some cell ∧ cell.vm.isStatics = true ∧ cell.cls = c ∧ f.slot < cell.slots.size ∧ k.staticTypes[f.slot]? = some f.type ∧ ¬ A a
theorem vx_L.moved {C n d : String} {A : Nat → Prop} {u U : State} {H : Heap} (hvm : u.vm.Alike U.vm) (h : vx_L C n d A u H) : vx_L C n d A U H := by
  obtain ⟨c, k, i, f, a, cell, h1, h2, h3, h4, h5, h6, h7, h8, h9, h10⟩ := h
  obtain ⟨k', hi', he⟩ := State.fieldFound?_setVm hvm h2
  exact ⟨c, k', i, f, a, cell, by rw [hvm.findClass]; exact h1, hi', h3, by rw [he]; exact h4, h5, h6, h7, h8, by rw [he]; exact h9, h10⟩
theorem vx_L.kept {C n d : String} {A : Nat → Prop} {U : State} {H H1 : Heap} (h : vx_L C n d A U H) (hq : ∀ a : Nat, a < H.size → ¬ A a → H1[a]? = H[a]?) : vx_L C n d A U H1 := by
  obtain ⟨c, k, i, f, a, cell, h1, h2, h3, h4, h5, h6, h7, h8, h9, h10⟩ := h
  exact ⟨c, k, i, f, a, cell, h1, h2, h3, h4, by rw [hq a (Array.getElem?_eq_some_iff.mp h5).1 h10]; exact h5, h6, h7, h8, h9, h10⟩
theorem vx_L.narrow {C n d : String} {A B : Nat → Prop} {U : State} {H : Heap} (h : vx_L C n d A U H) (hAB : ∀ q, B q → A q) : vx_L C n d B U H := by
  obtain ⟨c, k, i, f, a, cell, h1, h2, h3, h4, h5, h6, h7, h8, h9, h10⟩ := h
  exact ⟨c, k, i, f, a, cell, h1, h2, h3, h4, h5, h6, h7, h8, h9, fun z => h10 (hAB _ z)⟩
theorem vx_L.word {C n d : String} {A : Nat → Prop} {s : State} {args : Array Value} (h : vx_L C n d A s s.heap) : (Cond.laysStatic C n d).before args s = true := by
  obtain ⟨c, k, i, f, a, cell, h1, h2, h3, h4, h5, h6, h7, h8, h9, -⟩ := h
  show (Cond.laysStatic C n d).holds args s none s [] = true
  exact Cond.laysStatic_of h1 h2 h3 h4 h5 h6 h7 h8 h9
/-- .. and what it holds: null or some reference -/
def vx_Zq (C n d : String) (A : Nat → Prop) (U : State) (H : Heap) : Prop := va_Zq C n d A U H ∧ vx_L C n d A U H
theorem vx_Zq.moved {C n d : String} {A : Nat → Prop} {u U : State} {H : Heap} (hvm : u.vm.Alike U.vm) (h : vx_Zq C n d A u H) : vx_Zq C n d A U H := ⟨va_Zq.moved hvm h.1, vx_L.moved hvm h.2⟩
theorem vx_Zq.kept {C n d : String} {A : Nat → Prop} {U : State} {H H1 : Heap} (h : vx_Zq C n d A U H) (hq : ∀ a : Nat, a < H.size → ¬ A a → H1[a]? = H[a]?) : vx_Zq C n d A U H1 := ⟨va_Zq.kept h.1 hq, vx_L.kept h.2 hq⟩
theorem vx_Zq.narrow {C n d : String} {A B : Nat → Prop} {U : State} {H : Heap} (h : vx_Zq C n d A U H) (hAB : ∀ q, B q → A q) : vx_Zq C n d B U H := ⟨va_Zq.narrow h.1 hAB, vx_L.narrow h.2 hAB⟩
theorem vx_Zqof {args : Array Value} {s : State} {C n d : String} {A : Nat → Prop} (hl : (Cond.laysStatic C n d).before args s = true) (hini : (Cond.initialized C).before args s = true) (h : (Cond.isRef (.static C n d)).before args s = true) (hA : ∀ a : Nat, a < s.heap.size → ¬ A a) : vx_Zq C n d A s s.heap := by
  refine ⟨va_Zqof hl hini h hA, ?_⟩
  obtain ⟨c, k, i, f, a, cell, h1, h2, h3, h4, h5, h6, h7, h8, h9⟩ := Cond.laysStatic_spec hl
  exact ⟨c, k, i, f, a, cell, h1, h2, h3, h4, h5, h6, h7, h8, h9, hA a (Array.getElem?_eq_some_iff.mp h5).1⟩
theorem vx_isRef {C n d : String} {v : Value} {A : Nat → Prop} {s : State} {args : Array Value} (h : va_Z C n d v A s s.heap) (hv : v.isRef = true) : (Cond.isRef (.static C n d)).before args s = true := by
  obtain ⟨cf, kf, fi, f, a, cell, h1, h2, h3, h4, h5, h6, h7, -⟩ := h
  have he : (Term.static C n d).eval args s none [] s = some v := by
    simp [Term.eval, State.fieldNamed?, h1, h2, h4, h5, h6, h7]
  simp only [Cond.before, Cond.holds, Cond.value, he]
  cases v <;> simp_all [Value.isRef]
theorem vx_isRefq {C n d : String} {A : Nat → Prop} {s : State} {args : Array Value} (h : va_Zq C n d A s s.heap) : (Cond.isRef (.static C n d)).before args s = true := by
  rcases h with h | ⟨t, h⟩
  · exact vx_isRef h rfl
  · exact vx_isRef h rfl
/-- the same frame, seen from here: as if the method were called anew in this heap -/
theorem vx_rebase {T : State} (X : Stand p l e R s m args below meth c T locs cells slots) {R' : Room} (hf : R'.frames ≤ R.frames) (hl : R'.locals ≤ R.locals) (hc : cells + R'.cells ≤ R.cells) (hs : slots + R'.slots ≤ R.slots) :
    Stand p l e R' ((T.setVm s.vm).setFrames (.invoking m args :: below)) m args below meth c T [] 0 0 := by
  have htop : (T.setVm s.vm).topJava?.isSome := X.here.top
  have hF : ((T.setVm s.vm).setFrames (.invoking m args :: below)).frames = .invoking m args :: below := State.frames_setFrames _ (State.cur_lt_of_top htop)
  obtain ⟨g₀, hg0⟩ := Option.isSome_iff_exists.mp htop
  obtain ⟨r, hr⟩ := State.topJava?_eq_some.mp hg0
  have hl9 : e.platform.stackLimits (T.setVm s.vm).me = e.platform.stackLimits s.me := X.limits
  have hb9 : (T.setVm s.vm).me.stackBytes = s.me.stackBytes := X.bytes
  refine ⟨X.admits, X.cas, X.clock, hF, ?_, X.hears, X.method, X.code, X.here, X.tail, X.warmed, ?_, ?_, ?_⟩
  · have h := X.room
    have hU : ((T.setVm s.vm).setFrames (.invoking m args :: below)).localsInUse = s.localsInUse := by
      rw [State.localsInUse_invoking hF (meth := meth) (c := c) X.method X.code, State.localsInUse_invoking X.frames X.method X.code]
    simp only [State.hasRoom, Bool.and_eq_true, decide_eq_true_eq] at h ⊢
    obtain ⟨⟨⟨⟨h1, h2, h3, h4, h5, h6⟩, h7⟩, h8⟩, h9⟩ := h
    rw [X.frames, List.length_cons] at h2 h3
    have q1 := X.heapSize
    have q2 := X.used
    simp only [hF, hU, List.length_cons, State.stackLimits_setFrames, State.stackBytes_setFrames, hl9, hb9]
    refine ⟨⟨⟨⟨by omega, by omega, by omega, by omega, by omega, h6⟩, ?_⟩, ?_⟩, X.book⟩
    · show T.heap.size + R'.cells ≤ e.platform.maxCells
      omega
    · show T.slotsUsed + R'.slots ≤ e.platform.maxSlots
      omega
  · rw [State.stackLimits_setFrames]; rfl
  · rw [State.stackBytes_setFrames]; rfl
  · refine ⟨?_, Nat.le_refl _, Nat.le_refl _, ?_, ?_, fun a c9 h9 => ⟨c9, h9, rfl, rfl, fun _ _ => rfl⟩⟩
    · obtain ⟨t, ht, -⟩ := State.frames_cons hr
      show T.setVm s.vm = { ((T.setVm s.vm).setFrames (.invoking m args :: below)).setFrames (T.setVm s.vm).frames with heap := T.heap, slotsUsed := T.slotsUsed }
      rw [State.setFrames_setFrames, State.setFrames_self ht]
      rfl
    · show T.slotsUsed = T.slotsUsed + ((T.heap.toList.drop T.heap.size).map (·.slots.size)).sum
      rw [List.drop_eq_nil_of_le (Nat.le_of_eq Array.length_toList)]
      rfl
    · show ((T.heap.toList.drop T.heap.size).map (·.slots.size)).sum ≤ 0
      rw [List.drop_eq_nil_of_le (Nat.le_of_eq Array.length_toList)]
      exact Nat.le_refl _
/-- 'throw new E()': new; dup; invokespecial; athrow -/
theorem vx_throw0 {cc : ByteArray} {pc : Nat} (hexec : p.tables.exec = Jvm.exec) (hb : c.code = cc) (hl : l.stackTraces = false) {own cls : String} {names : List String} {ik ic mc ms : Nat} {A : Nat → Prop}
    (hown : s.vm.findClass own = some m.cls) (hcls : Bundle.fit cls = true) (hnames : ∀ n ∈ names, Bundle.fit n = true)
    (hk : (Cond.classLink own ik cls).before args s = true) (hini : (Cond.initialized cls).before args s = true) (hat : ∀ w ∈ vx_at0 own ic cls names, w.before args s = true)
    (hgood : ∀ w ∈ Cond.classLink own ik cls :: Cond.initialized cls :: vx_at0 own ic cls names, vx_ot w = true)
    (hU : vx_Zq Bundle.tN "UNASSIGNED_STACK" Bundle.steD A s s.heap) (hN : vx_Zq Bundle.tN "SUPPRESSED_SENTINEL" Bundle.listD A s s.heap) (hS : va_S A s.heap H locs) (hsize : ls.size = c.maxLocals)
    (d0 : decode cc pc = .ok (.new ik, 3)) (d3 : decode cc (pc + 3) = .ok (.dup, 1)) (d4 : decode cc (pc + 4) = .ok (.invokespecial ic, 3)) (d7 : decode cc (pc + 7) = .ok (.athrow, 1))
    (hout : ∀ x ∈ c.exceptionTable.toList, covers x (pc + 7) = false)
    (hRframes : names.length + 3 < R.frames) (hRlocals : (rest.map fun v => v.category).sum + (13 * (names.length + 1) + 42) ≤ R.locals) (hRcells : cells + 1 ≤ R.cells) (hRslots : slots + 6 ≤ R.slots) (hlocks : meth.locks = false)
    (hx : ∀ t : State, s.vm.Alike t.vm → H.size ≤ t.heap.size → (∀ q : Nat, q < H.size → t.heap[q]? = H[q]?) → XC cls s t)
    (hf : ∀ z ∈ locs, free z.base) (hc : cells + 1 ≤ mc) (hs : slots + 6 ≤ ms) :
    W p l e R s m args below meth c H locs cells slots (vx_MQ below Qc XC args s mc ms free) (F0 m pc ls rest) := by
  intro T hT X
  have htr : e.platform.stackTraces = false := (show e.platform.stackTraces = l.stackTraces by rw [X.admits.platform]).trans hl
  have Y := vx_rebase X (R' := { frames := R.frames, locals := R.locals, cells := 1, slots := 6 }) (Nat.le_refl _) (Nat.le_refl _) hRcells hRslots
  obtain ⟨s', hA⟩ : ∃ z, z = (T.setVm s.vm).setFrames (.invoking m args :: below) := ⟨_, rfl⟩
  rw [← hA] at Y
  have hvm : s'.vm = s.vm := by rw [hA]; rfl
  have hhp : s'.heap = H := by rw [hA]; exact hT
  have hW0 : s.WarmedH s'.vm := by rw [hvm]; exact State.WarmedH.refl s
  have hat' : ∀ w ∈ vx_at0 own ic cls names, w.before args s' = true := fun w hw => vx_ot_at hW0 hvm.symm (hgood w (List.mem_cons_of_mem _ (List.mem_cons_of_mem _ hw))) (hat w hw)
  have hk' : (Cond.classLink own ik cls).before args s' = true := vx_ot_at hW0 hvm.symm (hgood _ List.mem_cons_self) hk
  have hini' : (Cond.initialized cls).before args s' = true := vx_ot_at hW0 hvm.symm (hgood _ (List.mem_cons_of_mem _ List.mem_cons_self)) hini
  have hU' : vx_Zq Bundle.tN "UNASSIGNED_STACK" Bundle.steD A s' s'.heap := by rw [hhp]; exact vx_Zq.moved hW0.alike (hU.kept hS.2.1)
  have hN' : vx_Zq Bundle.tN "SUPPRESSED_SENTINEL" Bundle.listD A s' s'.heap := by rw [hhp]; exact vx_Zq.moved hW0.alike (hN.kept hS.2.1)
  have h : ∀ w ∈ Bundle.ownAtoms0 own ic cls names, w.before args s' = true := vx_own hat' (vx_isRefq hU'.1) (vx_isRefq hN'.1) hU'.2.word hN'.2.word
  have hown' : s'.vm.findClass own = some m.cls := by rw [hvm]; exact hown
  have hins : (Cond.instantiable cls 6).before args s' = true := h _ (by simp [Bundle.ownAtoms0])
  obtain ⟨vm₁, cX, kX, hfX, hkX, -, -, X₁, st1⟩ := Y.newCold hexec (own := own) (C := cls) (index := ik) (n := 6) hown' hk' hins hini'
    (g := F0 m pc ls rest) rfl (by rw [hb]; exact d0) (Nat.le_refl _) (Nat.le_refl _)
  generalize hT1 : (T.setVm vm₁).pushCell { cls := cX, slots := kX.instanceTypes.map defaultValue, vm := .none } = T1 at X₁ st1
  have hcat : (Value.ref T.heap.size).category = 1 := rfl
  have hcellA : T1.heap[T.heap.size]? = some (freshCell cX kX) := by rw [← hT1]; exact State.heap_pushCell_size _ _
  have d3' : decode c.code (pc + 3) = .ok (.dup, 1) := by rw [hb]; exact d3
  obtain ⟨U, hsteps, hrun, hend, hW, hsame, ce, hce, hO⟩ := X₁.ctorThrow0 hexec htr (own := own) (cls := cls) (names := names) (ic := ic) hown' hcls hnames h (fun x hx => nomatch hx) hfX hkX hcellA (by rw [hhp, hT]; exact Nat.le_refl _)
    (g := { method := m, pc := pc + 4, locals := ls, stack := .ref T.heap.size :: .ref T.heap.size :: rest, locked := none }) rfl hsize rfl rfl (rest := rest) rfl
    (by rw [hb]; exact d4) (by rw [hb]; exact d7) hout hRframes (by simp only [List.map_cons, List.sum_cons, hcat]; omega) hlocks
  obtain ⟨f1, f2⟩ := vx_frame hsame
  rw [hhp] at f1 f2
  have hWs : s.WarmedH U.vm := State.WarmedH.trans hW0 hW
  have hcl : s.vm.findClass cls = some ce.cls := by
    have h9 := hO.cls
    rw [hvm] at h9
    exact h9
  have hall : s.sameButNew ({ U with vm := s.vm } : State) locs mc ms := by
    subst hA
    obtain ⟨e1, e2⟩ := hsame
    rw [State.setFrames_setFrames] at e1
    have h2 : (T.setVm s.vm).sameButNew ({ U with vm := s.vm } : State) [] (0 + 1) (0 + 6) := ⟨e1, e2⟩
    have h3 := X.same.trans h2
    rw [List.append_nil] at h3
    exact h3.mono hc hs
  refine ⟨U, ?_, .threw T.heap.size, hrun, hend, Or.inr ⟨T.heap.size, rfl, cls, ce, locs, hx U hWs.alike f1 (fun q hq => f2 q hq (fun z hz => nomatch hz)), hce, hO.vm, hcl, hWs, hall, hf⟩⟩
  refine st1 _ ?_
  show Steps p.tables e below (T1.setTop { method := m, pc := pc + 3, locals := ls, stack := .ref T.heap.size :: rest, locked := none }) _
  jvm_step X₁.here [X₁.here.top, hexec, d3', Value.category]
  exact hsteps
/-- 'throw new E("text")': new; dup; ldc; invokespecial; athrow -/
theorem vx_throwS {cc : ByteArray} {pc : Nat} (hexec : p.tables.exec = Jvm.exec) (hb : c.code = cc) (hl : l.stackTraces = false) {own cls text : String} {names : List String} {ik is ic mc ms sa : Nat} {A : Nat → Prop}
    (hown : s.vm.findClass own = some m.cls) (hcls : Bundle.fit cls = true) (hnames : ∀ n ∈ names, Bundle.fit n = true)
    (hk : (Cond.classLink own ik cls).before args s = true) (hini : (Cond.initialized cls).before args s = true) (hstr : vk_R own is text sa s) (hat : ∀ w ∈ vx_atS own ic cls names, w.before args s = true)
    (hgood : ∀ w ∈ Cond.classLink own ik cls :: Cond.initialized cls :: vx_atS own ic cls names, vx_ot w = true)
    (hU : vx_Zq Bundle.tN "UNASSIGNED_STACK" Bundle.steD A s s.heap) (hN : vx_Zq Bundle.tN "SUPPRESSED_SENTINEL" Bundle.listD A s s.heap) (hS : va_S A s.heap H locs) (hsize : ls.size = c.maxLocals)
    (d0 : decode cc pc = .ok (.new ik, 3)) (d3 : decode cc (pc + 3) = .ok (.dup, 1)) (d4 : decode cc (pc + 4) = .ok (.ldc is, 2)) (d6 : decode cc (pc + 6) = .ok (.invokespecial ic, 3)) (d9 : decode cc (pc + 9) = .ok (.athrow, 1))
    (hout : ∀ x ∈ c.exceptionTable.toList, covers x (pc + 9) = false)
    (hRframes : names.length + 3 < R.frames) (hRlocals : (rest.map fun v => v.category).sum + (13 * (names.length + 1) + 43) ≤ R.locals) (hRcells : cells + 1 ≤ R.cells) (hRslots : slots + 6 ≤ R.slots) (hlocks : meth.locks = false)
    (hx : ∀ t : State, s.vm.Alike t.vm → H.size + 1 ≤ t.heap.size → (∀ q : Nat, q < H.size → t.heap[q]? = H[q]?) → XC cls s t)
    (hf : ∀ z ∈ locs, free z.base) (hc : cells + 1 ≤ mc) (hs : slots + 6 ≤ ms) :
    W p l e R s m args below meth c H locs cells slots (vx_MQ below Qc XC args s mc ms free) (F0 m pc ls rest) := by
  intro T hT X
  have htr : e.platform.stackTraces = false := (show e.platform.stackTraces = l.stackTraces by rw [X.admits.platform]).trans hl
  have Y := vx_rebase X (R' := { frames := R.frames, locals := R.locals, cells := 1, slots := 6 }) (Nat.le_refl _) (Nat.le_refl _) hRcells hRslots
  obtain ⟨s', hA⟩ : ∃ z, z = (T.setVm s.vm).setFrames (.invoking m args :: below) := ⟨_, rfl⟩
  rw [← hA] at Y
  have hvm : s'.vm = s.vm := by rw [hA]; rfl
  have hhp : s'.heap = H := by rw [hA]; exact hT
  have hW0 : s.WarmedH s'.vm := by rw [hvm]; exact State.WarmedH.refl s
  have hat' : ∀ w ∈ vx_atS own ic cls names, w.before args s' = true := fun w hw => vx_ot_at hW0 hvm.symm (hgood w (List.mem_cons_of_mem _ (List.mem_cons_of_mem _ hw))) (hat w hw)
  have hk' : (Cond.classLink own ik cls).before args s' = true := vx_ot_at hW0 hvm.symm (hgood _ List.mem_cons_self) hk
  have hini' : (Cond.initialized cls).before args s' = true := vx_ot_at hW0 hvm.symm (hgood _ (List.mem_cons_of_mem _ List.mem_cons_self)) hini
  have hU' : vx_Zq Bundle.tN "UNASSIGNED_STACK" Bundle.steD A s' s'.heap := by rw [hhp]; exact vx_Zq.moved hW0.alike (hU.kept hS.2.1)
  have hN' : vx_Zq Bundle.tN "SUPPRESSED_SENTINEL" Bundle.listD A s' s'.heap := by rw [hhp]; exact vx_Zq.moved hW0.alike (hN.kept hS.2.1)
  have h : ∀ w ∈ Bundle.ownAtoms own ic cls names, w.before args s' = true := vx_own hat' (vx_isRefq hU'.1) (vx_isRefq hN'.1) hU'.2.word hN'.2.word
  have hown' : s'.vm.findClass own = some m.cls := by rw [hvm]; exact hown
  have hins : (Cond.instantiable cls 6).before args s' = true := h _ (by simp [Bundle.ownAtoms])
  obtain ⟨vm₁, cX, kX, hfX, hkX, -, -, X₁, st1⟩ := Y.newCold hexec (own := own) (C := cls) (index := ik) (n := 6) hown' hk' hins hini'
    (g := F0 m pc ls rest) rfl (by rw [hb]; exact d0) (Nat.le_refl _) (Nat.le_refl _)
  generalize hT1 : (T.setVm vm₁).pushCell { cls := cX, slots := kX.instanceTypes.map defaultValue, vm := .none } = T1 at X₁ st1
  have hcat : (Value.ref T.heap.size).category = 1 := rfl
  have hcellA : T1.heap[T.heap.size]? = some (freshCell cX kX) := by rw [← hT1]; exact State.heap_pushCell_size _ _
  have d3' : decode c.code (pc + 3) = .ok (.dup, 1) := by rw [hb]; exact d3
  have d4' : decode c.code (pc + 4) = .ok (.ldc is, 2) := by rw [hb]; exact d4
  have hstr' : vk_R own is text sa s' := vk_R.warm hW0 hstr
  obtain ⟨U, hsteps, hrun, hend, hW, hsame, ce, hce, hO⟩ := X₁.ctorThrowS hexec htr (own := own) (cls := cls) (names := names) (ic := ic) hown' hcls hnames h (fun x hx => nomatch hx) hfX hkX hcellA (by rw [hhp, hT]; exact Nat.le_refl _) (msg := .ref sa) rfl
    (g := { method := m, pc := pc + 6, locals := ls, stack := .ref sa :: .ref T.heap.size :: .ref T.heap.size :: rest, locked := none }) rfl hsize rfl rfl (rest := rest) rfl
    (by rw [hb]; exact d6) (by rw [hb]; exact d9) hout hRframes (by simp only [List.map_cons, List.sum_cons, hcat]; omega) hlocks
  obtain ⟨f1, f2⟩ := vx_frame hsame
  rw [hhp] at f1 f2
  have hWs : s.WarmedH U.vm := State.WarmedH.trans hW0 hW
  have hcl : s.vm.findClass cls = some ce.cls := by
    have h9 := hO.cls
    rw [hvm] at h9
    exact h9
  have hall : s.sameButNew ({ U with vm := s.vm } : State) locs mc ms := by
    subst hA
    obtain ⟨e1, e2⟩ := hsame
    rw [State.setFrames_setFrames] at e1
    have h2 : (T.setVm s.vm).sameButNew ({ U with vm := s.vm } : State) [] (0 + 1) (0 + 6) := ⟨e1, e2⟩
    have h3 := X.same.trans h2
    rw [List.append_nil] at h3
    exact h3.mono hc hs
  refine ⟨U, ?_, .threw T.heap.size, hrun, hend, Or.inr ⟨T.heap.size, rfl, cls, ce, locs, hx U hWs.alike (by have h8 := (Array.getElem?_eq_some_iff.mp hce).1; rw [hT] at h8; exact h8) (fun q hq => f2 q hq (fun z hz => nomatch hz)), hce, hO.vm, hcl, hWs, hall, hf⟩⟩
  refine st1 _ ?_
  show Steps p.tables e below (T1.setTop { method := m, pc := pc + 3, locals := ls, stack := .ref T.heap.size :: rest, locked := none }) _
  jvm_step X₁.here [X₁.here.top, hexec, d3', Value.category]
  exact X₁.ldcString hexec (own := own) (text := text) (index := is) (a := sa) hown' hstr'.1 hstr'.2
    (g := { method := m, pc := pc + 4, locals := ls, stack := .ref T.heap.size :: .ref T.heap.size :: rest, locked := none }) rfl d4' _ hsteps
/-- 'throw new E("text")', the text by a wide index -/
theorem vx_throwSW {cc : ByteArray} {pc : Nat} (hexec : p.tables.exec = Jvm.exec) (hb : c.code = cc) (hl : l.stackTraces = false) {own cls text : String} {names : List String} {ik is ic mc ms sa : Nat} {A : Nat → Prop}
    (hown : s.vm.findClass own = some m.cls) (hcls : Bundle.fit cls = true) (hnames : ∀ n ∈ names, Bundle.fit n = true)
    (hk : (Cond.classLink own ik cls).before args s = true) (hini : (Cond.initialized cls).before args s = true) (hstr : vk_R own is text sa s) (hat : ∀ w ∈ vx_atS own ic cls names, w.before args s = true)
    (hgood : ∀ w ∈ Cond.classLink own ik cls :: Cond.initialized cls :: vx_atS own ic cls names, vx_ot w = true)
    (hU : vx_Zq Bundle.tN "UNASSIGNED_STACK" Bundle.steD A s s.heap) (hN : vx_Zq Bundle.tN "SUPPRESSED_SENTINEL" Bundle.listD A s s.heap) (hS : va_S A s.heap H locs) (hsize : ls.size = c.maxLocals)
    (d0 : decode cc pc = .ok (.new ik, 3)) (d3 : decode cc (pc + 3) = .ok (.dup, 1)) (d4 : decode cc (pc + 4) = .ok (.ldc_w is, 3)) (d7 : decode cc (pc + 7) = .ok (.invokespecial ic, 3)) (d10 : decode cc (pc + 10) = .ok (.athrow, 1))
    (hout : ∀ x ∈ c.exceptionTable.toList, covers x (pc + 10) = false)
    (hRframes : names.length + 3 < R.frames) (hRlocals : (rest.map fun v => v.category).sum + (13 * (names.length + 1) + 43) ≤ R.locals) (hRcells : cells + 1 ≤ R.cells) (hRslots : slots + 6 ≤ R.slots) (hlocks : meth.locks = false)
    (hx : ∀ t : State, s.vm.Alike t.vm → H.size ≤ t.heap.size → (∀ q : Nat, q < H.size → t.heap[q]? = H[q]?) → XC cls s t)
    (hf : ∀ z ∈ locs, free z.base) (hc : cells + 1 ≤ mc) (hs : slots + 6 ≤ ms) :
    W p l e R s m args below meth c H locs cells slots (vx_MQ below Qc XC args s mc ms free) (F0 m pc ls rest) := by
  intro T hT X
  have htr : e.platform.stackTraces = false := (show e.platform.stackTraces = l.stackTraces by rw [X.admits.platform]).trans hl
  have Y := vx_rebase X (R' := { frames := R.frames, locals := R.locals, cells := 1, slots := 6 }) (Nat.le_refl _) (Nat.le_refl _) hRcells hRslots
  obtain ⟨s', hA⟩ : ∃ z, z = (T.setVm s.vm).setFrames (.invoking m args :: below) := ⟨_, rfl⟩
  rw [← hA] at Y
  have hvm : s'.vm = s.vm := by rw [hA]; rfl
  have hhp : s'.heap = H := by rw [hA]; exact hT
  have hW0 : s.WarmedH s'.vm := by rw [hvm]; exact State.WarmedH.refl s
  have hat' : ∀ w ∈ vx_atS own ic cls names, w.before args s' = true := fun w hw => vx_ot_at hW0 hvm.symm (hgood w (List.mem_cons_of_mem _ (List.mem_cons_of_mem _ hw))) (hat w hw)
  have hk' : (Cond.classLink own ik cls).before args s' = true := vx_ot_at hW0 hvm.symm (hgood _ List.mem_cons_self) hk
  have hini' : (Cond.initialized cls).before args s' = true := vx_ot_at hW0 hvm.symm (hgood _ (List.mem_cons_of_mem _ List.mem_cons_self)) hini
  have hU' : vx_Zq Bundle.tN "UNASSIGNED_STACK" Bundle.steD A s' s'.heap := by rw [hhp]; exact vx_Zq.moved hW0.alike (hU.kept hS.2.1)
  have hN' : vx_Zq Bundle.tN "SUPPRESSED_SENTINEL" Bundle.listD A s' s'.heap := by rw [hhp]; exact vx_Zq.moved hW0.alike (hN.kept hS.2.1)
  have h : ∀ w ∈ Bundle.ownAtoms own ic cls names, w.before args s' = true := vx_own hat' (vx_isRefq hU'.1) (vx_isRefq hN'.1) hU'.2.word hN'.2.word
  have hown' : s'.vm.findClass own = some m.cls := by rw [hvm]; exact hown
  have hins : (Cond.instantiable cls 6).before args s' = true := h _ (by simp [Bundle.ownAtoms])
  obtain ⟨vm₁, cX, kX, hfX, hkX, -, -, X₁, st1⟩ := Y.newCold hexec (own := own) (C := cls) (index := ik) (n := 6) hown' hk' hins hini'
    (g := F0 m pc ls rest) rfl (by rw [hb]; exact d0) (Nat.le_refl _) (Nat.le_refl _)
  generalize hT1 : (T.setVm vm₁).pushCell { cls := cX, slots := kX.instanceTypes.map defaultValue, vm := .none } = T1 at X₁ st1
  have hcat : (Value.ref T.heap.size).category = 1 := rfl
  have hcellA : T1.heap[T.heap.size]? = some (freshCell cX kX) := by rw [← hT1]; exact State.heap_pushCell_size _ _
  have d3' : decode c.code (pc + 3) = .ok (.dup, 1) := by rw [hb]; exact d3
  have d4' : decode c.code (pc + 4) = .ok (.ldc_w is, 3) := by rw [hb]; exact d4
  have hstr' : vk_R own is text sa s' := vk_R.warm hW0 hstr
  obtain ⟨U, hsteps, hrun, hend, hW, hsame, ce, hce, hO⟩ := X₁.ctorThrowS hexec htr (own := own) (cls := cls) (names := names) (ic := ic) hown' hcls hnames h (fun x hx => nomatch hx) hfX hkX hcellA (by rw [hhp, hT]; exact Nat.le_refl _) (msg := .ref sa) rfl
    (g := { method := m, pc := pc + 7, locals := ls, stack := .ref sa :: .ref T.heap.size :: .ref T.heap.size :: rest, locked := none }) rfl hsize rfl rfl (rest := rest) rfl
    (by rw [hb]; exact d7) (by rw [hb]; exact d10) hout hRframes (by simp only [List.map_cons, List.sum_cons, hcat]; omega) hlocks
  obtain ⟨f1, f2⟩ := vx_frame hsame
  rw [hhp] at f1 f2
  have hWs : s.WarmedH U.vm := State.WarmedH.trans hW0 hW
  have hcl : s.vm.findClass cls = some ce.cls := by
    have h9 := hO.cls
    rw [hvm] at h9
    exact h9
  have hall : s.sameButNew ({ U with vm := s.vm } : State) locs mc ms := by
    subst hA
    obtain ⟨e1, e2⟩ := hsame
    rw [State.setFrames_setFrames] at e1
    have h2 : (T.setVm s.vm).sameButNew ({ U with vm := s.vm } : State) [] (0 + 1) (0 + 6) := ⟨e1, e2⟩
    have h3 := X.same.trans h2
    rw [List.append_nil] at h3
    exact h3.mono hc hs
  refine ⟨U, ?_, .threw T.heap.size, hrun, hend, Or.inr ⟨T.heap.size, rfl, cls, ce, locs, hx U hWs.alike f1 (fun q hq => f2 q hq (fun z hz => nomatch hz)), hce, hO.vm, hcl, hWs, hall, hf⟩⟩
  refine st1 _ ?_
  show Steps p.tables e below (T1.setTop { method := m, pc := pc + 3, locals := ls, stack := .ref T.heap.size :: rest, locked := none }) _
  jvm_step X₁.here [X₁.here.top, hexec, d3', Value.category]
  exact X₁.ldcStringW hexec (own := own) (text := text) (index := is) (a := sa) hown' hstr'.1 hstr'.2
    (g := { method := m, pc := pc + 4, locals := ls, stack := .ref T.heap.size :: .ref T.heap.size :: rest, locked := none }) rfl d4' _ hsteps
end Ends
section Bodies
variable {l : Launch}
theorem vx_ofW {y : MethodName} {ws ws' : List Cond} {rm : Room} {Pc : Array Value → State → Prop} {Qc : Array Value → State → Outcome → State → Prop} {XC : String → State → State → Prop} {mc ms : Nat} {free : Addr → Prop} {cc : ByteArray} {maxL : Nat} {ret : Option FieldType}
    (hy : plainName y.cls = true) (hw : ws = Cond.code y cc maxL ret :: ws')
    (body : ∀ p e s m args below meth c s₁, BodyLoose p l y (headSpec ws rm) cc maxL ret e s m args below meth c s₁ → c.maxLocals = maxL → (∀ x ∈ c.exceptionTable.toList, False) → Pc args s →
      W p l e (headSpec ws rm).room s m args below meth c s.heap [] 0 0 (vx_MQ below Qc XC args s mc ms free) (entryFrame m args maxL)) : vx_Met l y ws rm Pc Qc XC mc ms free := by
  refine MetFree.of_bodyS (code := cc) (maxLocals := maxL) (ret := ret) hy ?_ ?_
  · intro args s m h hn
    obtain ⟨meth, c, h1, h2, h3, h4, h5, h6, -, -⟩ := Cond.code_spec hn (atoms_spec (ws := ws) h _ (by rw [hw]; exact List.mem_cons_self))
    exact ⟨meth, c, h1, h2, h3, h4, h5, h6⟩
  · intro p e s m args below meth c s₁ B hml hP _
    have hh0 : s₁.heap = s.heap := by rw [B.state]; rfl
    have ht : ∀ x ∈ c.exceptionTable.toList, False := by
      obtain ⟨meth9, c9, h1, h2, -, -, -, -, h7, -⟩ := Cond.code_spec B.named (atoms_spec (ws := ws) B.pre _ (by rw [hw]; exact List.mem_cons_self))
      cases Option.some.inj (h1.symm.trans B.method)
      cases Option.some.inj (h2.symm.trans (Stand.of_body B).code)
      intro x hx
      rw [Array.isEmpty_iff.mp h7] at hx
      cases hx
    obtain ⟨t, a1, o, b1, b2, b3⟩ := body p e s m args below meth c s₁ B hml ht hP s₁ hh0 (Stand.of_body B)
    exact ⟨t, o, a1, b1, b2, b3⟩
/-- the table of a body with handlers -/
theorem vx_table {p : Program} {x y : MethodName} {S : Spec} {cc bytes : ByteArray} {maxL maxL' : Nat} {ret ret' : Option FieldType} {e : Env} {s s₁ : State} {m : MethodId} {args : Array Value} {below : List Frame} {meth : Method} {c : Code} {hh : List (Nat × Nat × Nat × Nat)}
    (B : BodyLoose p l y S cc maxL ret e s m args below meth c s₁) (h : (Cond.codeWith y bytes maxL' ret' hh).before args s = true) : c.exceptionTable.toList = tableOf hh := by
  obtain ⟨m9, meth9, c9, hn9, h1, h2, -, -, h6, -⟩ := Cond.codeWith_spec h
  cases Option.some.inj (hn9.symm.trans B.named)
  cases Option.some.inj (h1.symm.trans B.method)
  cases Option.some.inj (h2.symm.trans (Stand.of_body B).code)
  rw [← h6, table_eq]
end Bodies
end VXA
/-! ===== END ===== -/
/-! ===== BEGIN a static call of a method with an exception table ===== -/
section VXS
variable {p : Program} {l : Launch} {e : Env} {R : Room} {s : State} {m : MethodId} {args : Array Value} {below : List Frame} {meth : Method} {c : Code} {T : State} {H : Heap} {locs : List Loc} {cells slots : Nat}
abbrev vx_CSW (R : Room) (s : State) (args : Array Value) (own : String) (index : Nat) (y : MethodName) (bytes : ByteArray) (maxL : Nat) (ret : Option FieldType) (hh : List (Nat × Nat × Nat × Nat)) (ws : List Cond) (rm : Room) (mc ms n : Nat) : Prop :=
  (rm.cells = mc ∧ rm.slots = ms ∧ rm.frames + 1 ≤ R.frames ∧ 8 + (maxL + 11) + rm.locals ≤ R.locals ∧ (∀ w ∈ ws, ∀ (a' : Array Value) (U : State), s.WarmedH U.vm → w.before a' U = true) ∧ Cond.codeWith y bytes maxL ret hh ∈ ws) ∧
  (Cond.codeWith y bytes maxL ret hh).before args s = true ∧ (Cond.initialized y.cls).before args s = true ∧ (y.cls ≠ "java/lang/invoke/MethodHandle" ∧ y.cls ≠ "java/lang/invoke/VarHandle") ∧
  (∀ sig, parseMethodDescriptor y.desc = some sig → n = sig.parameters.length) ∧ (Cond.methodLink own index y).before args s = true ∧ (Cond.static y).before args s = true
theorem vx_cwSW {own : String} {index maxL mc ms : Nat} {y : MethodName} {bytes : ByteArray} {ret : Option FieldType} {hh : List (Nat × Nat × Nat × Nat)} {Ts ws ws' : List Cond} {rm : Room} (n : Nat) (ht : ∀ w ∈ Ts, w.before args s = true) (hT : GoodIn Ts (va_wsS own index y ws)) (hw : ws = Cond.codeWith y bytes maxL ret hh :: ws') (hrc : rm.cells = mc) (hrs : rm.slots = ms)
    (hd : y.cls ≠ "java/lang/invoke/MethodHandle" ∧ y.cls ≠ "java/lang/invoke/VarHandle" ∧ (parseMethodDescriptor y.desc).map (fun d => d.parameters.length) = some n) (hR : rm.frames + 1 ≤ R.frames ∧ 8 + (maxL + 11) + rm.locals ≤ R.locals) :
    vx_CSW R s args own index y bytes maxL ret hh ws rm mc ms n := by
  have ok : ∀ w ∈ va_wsS own index y ws, w.before args s = true := fun w h => ht w (hT w h).1
  have hG : GoodIn Ts ws := fun w h => hT w (by unfold va_wsS; exact List.mem_append_right _ h)
  have hc : Cond.codeWith y bytes maxL ret hh ∈ ws := by rw [hw]; exact List.mem_cons_self
  refine ⟨⟨hrc, hrs, hR.1, hR.2, pay_in ht hG, hc⟩, ht _ (hG _ hc).1, ok _ (by simp [va_wsS]), ⟨hd.1, hd.2.1⟩, fun sig h => ?_, ok _ (by simp [va_wsS]), ok _ (by simp [va_wsS])⟩
  have h2 := hd.2.2
  rw [h] at h2
  exact (Option.some.inj h2).symm
theorem vx_callSW (X : Stand p l e R s m args below meth c T locs cells slots) (hexec : p.tables.exec = Jvm.exec) {own : String} {index : Nat} {y : MethodName} {bytes : ByteArray} {maxL : Nat} {ret : Option FieldType} {hh : List (Nat × Nat × Nat × Nat)}
    (hown : s.vm.findClass own = some m.cls) (hlink : (Cond.methodLink own index y).before args s = true) (hstat : (Cond.static y).before args s = true) (hinit : (Cond.initialized y.cls).before args s = true)
    (hcode : (Cond.codeWith y bytes maxL ret hh).before args s = true) (hy : y.cls ≠ "java/lang/invoke/MethodHandle" ∧ y.cls ≠ "java/lang/invoke/VarHandle")
    {W9 : Nat} {Pre : Pt → Array Value → Prop} {Post : Pt → Array Value → Option Value → Pt → Prop} (hK : Back l R p e below s args y 3 W9 Pre Post)
    {g : JFrame} (hg : g.method = m) (hsize : g.locals.size = c.maxLocals) {argsL rest : List Value} (hlen : ∀ sig, parseMethodDescriptor y.desc = some sig → argsL.length = sig.parameters.length)
    (hstack : g.stack = argsL.reverse ++ rest) (hW : 2 * g.monitorRoom + (rest.map fun v => v.category).sum ≤ W9) (hdg : decode c.code g.pc = .ok (.invokestatic index, 3))
    (hpre : ∀ vm₁, s.WarmedH vm₁ → Pre ⟨T.setVm vm₁, locs, cells, slots⟩ argsL.toArray) :
    ∃ (v : Option Value) (vm₁ : Vm) (B : Pt), s.WarmedH vm₁ ∧ Stand p l e R s m args below meth c B.U B.locs B.cells B.slots ∧ Post ⟨T.setVm vm₁, locs, cells, slots⟩ argsL.toArray v B ∧
      ∀ target, Steps p.tables e below (B.U.setTop { g with pc := g.pc + 3, stack := v.toList ++ rest }) target → Steps p.tables e below (T.setTop g) target := by
  obtain ⟨mk, methM, cM, hnamed, hmethM, -, -, -, -, -, -, hsigM⟩ := Cond.codeWith_spec hcode
  have hstatic : methM.isStatic = true := Cond.static_spec hnamed hmethM hstat
  obtain ⟨kP, hkP, -⟩ := className_of_methodNamed hnamed
  have hinitP : kP.init = .initialized := Cond.initialized_spec (findClass_of_methodNamed hnamed) hkP hinit
  obtain ⟨vm₁, X₁, hstep₁⟩ := X.invokestatic hexec hown hlink hnamed hmethM hstatic hkP hinitP hy (g := g) hg (argsL := argsL) (rest := rest) (hlen _ hsigM) hstack hdg
  obtain ⟨v, B, X', hpost, hsteps⟩ := hK m meth c ⟨T.setVm vm₁, locs, cells, slots⟩ { g with stack := rest } (.invokestatic index) mk argsL.toArray X₁ hg hsize hdg hW (X₁.named hnamed) (hpre vm₁ X₁.warmed)
  exact ⟨v, vm₁, B, X₁.warmed, X', hpost, fun target h => hstep₁ _ fun acts => by rw [doInvoke_state]; exact hsteps.trans h⟩
theorem vx_runSW {y : MethodName} {bytes cc : ByteArray} {maxL nL mc ms n index : Nat} {ret : Option FieldType} {hh : List (Nat × Nat × Nat × Nat)} {ws : List Cond} {rm : Room} {Pc : Array Value → State → Prop} {Qc : Array Value → State → Outcome → State → Prop} {free : Addr → Prop} {Ts : List Cond} {own : String} {As rest : List Value} {g : JFrame}
    (S : CallFix p m c cc nL s args Ts own) (hM : Met l y ws rm Pc Qc mc ms free) (cw : vx_CSW R s args own index y bytes maxL ret hh ws rm mc ms n) (hp : PreS s H Pc As)
    (hg : g.method = m) (hn : As.length = n) (hsize : g.locals.size = nL) (hstack : g.stack = As.reverse ++ rest) (hW : 2 * g.monitorRoom + (rest.map fun v => v.category).sum ≤ 8) (hdg : decode cc g.pc = .ok (.invokestatic index, 3)) (hf : cells + mc ≤ R.cells ∧ slots + ms ≤ R.slots) :
    va_Run p l e R s m args below meth c H locs cells slots mc ms g rest (Qc As.toArray) (free) := by
  obtain ⟨⟨hrc, hrs, hfr, hlo, hws, hcw⟩, hcode, hini, hy, hlen, hl, hstt⟩ := cw
  have hK : Back l R p e below s args y 3 8 (PreOf R mc ms Pc) (PostOf Qc mc ms free) := va_backW (hh := hh) (bytes := bytes) (maxL := maxL) (ret := ret) hM hp.1 hrc hrs hfr hlo hws hcw (fun a' U hW => word_at hW (Or.inl (by first | rfl | simp [Cond.onTables, Cond.keeps, Cond.steady])) hini)
  obtain ⟨hx, hb, hml, ho, -⟩ := S
  intro T hT X
  obtain ⟨v, vm₁, ⟨U', l2, c2, s2⟩, hW₁, X', ⟨g', mk, t, L, e1, e2, hq, h1, hL, h2, h3⟩, st⟩ := vx_callSW X hx (hh := hh) (bytes := bytes) (maxL := maxL) (ret := ret) ho hl hstt hini hcode hy hK hg (hsize.trans hml.symm) (argsL := As) (rest := rest) (fun sig h => hn.trans (hlen sig h)) hstack hW (by rw [hb]; exact hdg)
    (fun vm₁ hW₁ => ⟨hf.1, hf.2, hp.2 (T.setVm vm₁) hT hW₁⟩)
  dsimp only [Pt.U, Pt.locs, Pt.cells, Pt.slots] at X' e1 e2 h1 h2 h3 st
  subst h1; subst h2; subst h3
  exact ⟨v, (T.setVm vm₁).calling g' mk As.toArray, t, U', L, hT, X', hL, e1, e2, hq, st⟩
/-- not caught here, past rows that name other classes: it goes on to the caller -/
theorem vx_outP {p : Program} {l : Launch} {e : Env} {R : Room} {s : State} {m : MethodId} {args : Array Value} {below : List Frame} {meth : Method} {c : Code} {H : Heap} {locs : List Loc} {cells slots : Nat} {free : Addr → Prop} {ls : Array Slot} {rest : List Value} {Qc : Array Value → State → Outcome → State → Prop} {XC : String → State → State → Prop}
    {pc : Nat} {own E : String} {ce : Cell} {q : Addr} {mc ms : Nat} (hown : s.vm.findClass own = some m.cls) (hlocks : meth.locks = false)
    (hpass : ∀ z ∈ c.exceptionTable.toList, covers z pc = false ∨ (z.catchType ≠ 0 ∧ ∃ nm : String, (Cond.classLink own z.catchType nm).before args s = true ∧ va_Nc E nm s)) (hcell : H[q]? = some ce) (hv : ce.vm = .none) (hcl : s.vm.findClass E = some ce.cls)
    (hx : ∀ t : State, t.heap = H → s.vm.Alike t.vm → XC E s t) (hf : ∀ z ∈ locs, free z.base) (hc : cells ≤ mc) (hs : slots ≤ ms) :
    vx_W p l e R s m args below meth c H locs cells slots (vx_MQ below Qc XC args s mc ms free) (F0 m pc ls rest) q := by
  intro T hT X
  have hpl : e.platform.magicAccessors = ({} : Platform).magicAccessors := by rw [X.admits.platform]
  obtain ⟨vm', hW', X', st⟩ := X.outThrough hlocks q (g := F0 m pc ls rest) rfl rfl rfl (cell := ce) (by rw [hT]; exact hcell) (by rw [hv]; rfl)
    (by obtain ⟨k9, h9, -⟩ := Vm.findClass_spec hcl; exact ⟨k9, h9⟩) (fun z hz => by
      rcases hpass z hz with h | ⟨hz0, nm, hl1, hn1⟩
      · exact Or.inl h
      · obtain ⟨c6, hc6, hcl6⟩ := Cond.classLink_spec hown hl1 e.platform hpl
        obtain ⟨a8, b8, h1, h2, h3⟩ := hn1
        cases Option.some.inj (h1.symm.trans hcl)
        cases Option.some.inj (h2.symm.trans hc6)
        exact Or.inr ⟨hz0, _, hcl6, h3⟩)
  obtain ⟨g₀, hfr⟩ := X'.frames_eq
  have hcell9 : ((T.setVm vm').setFrames (.throwing q :: below)).heap[q]? = some ce := by
    show T.heap[q]? = some ce
    rw [hT]; exact hcell
  have hend : Ended ((T.setVm vm').setFrames (.throwing q :: below)) below (.threw q) := State.frames_setFrames _ (State.cur_lt_of_frames hfr)
  refine ⟨(T.setVm vm').setFrames (.throwing q :: below), ?_, .threw q, X'.here.running, hend, Or.inr ⟨q, rfl, E, ce, locs, hx _ hT (X'.ends _).1.alike, hcell9, hv, hcl, (X'.ends _).1, (X'.ends _).2.mono hc hs, hf⟩⟩
  rw [X.pushThrowing_eq]
  exact st
/-- a thing of a world lies in the heap -/
theorem vx_lt {D : va_G} {cl : List vw_C} {ws : va_W} {H1 : Heap} (h : va_P D cl ws H1) {k : Nat} {q : Nat × va_E} (hk : ws[k]? = some q) : q.1 < H1.size := (h k q hk).lt
end VXS
/-! ===== END ===== -/
/-! ===== BEGIN methods with a table of their own: called by a name, returning or throwing ===== -/
section VXH
/-! vx_backW, vx_callVX, vx_callSX, vx_callVW, vx_runVW, vx_runVX, vx_runSX, vx_ofWH follow the same proofs as their sisters above (Free/Laws.lean, Shelf42/LK1.lean); vx_outP calls Shelf42/NT130.lean (outThrough). -/
section
variable {l : Launch} {R : Room} {p : Program} {e : Env} {below : List Frame} {s : State} {sargs : Array Value} {y : MethodName} {len W9 : Nat}
theorem vx_backW {ws : List Cond} {rm : Room} {Pc : Array Value → State → Prop} {Qc : Array Value → State → Outcome → State → Prop} {XC : String → State → State → Prop} {mc ms : Nat} {free : Addr → Prop} {bytes : ByteArray} {maxL : Nat} {ret : Option FieldType} {hh : List (Nat × Nat × Nat × Nat)}
    (hM : vx_Met l y ws rm Pc Qc XC mc ms free) (hblind : FrameBlind Pc) (hrc : rm.cells = mc) (hrs : rm.slots = ms)
    (hframes : rm.frames + 1 ≤ R.frames) (hlocals : W9 + (maxL + 11) + rm.locals ≤ R.locals)
    (hws : ∀ w ∈ ws, ∀ a' U, s.WarmedH U.vm → w.before a' U = true) (hcode : Cond.codeWith y bytes maxL ret hh ∈ ws) (hinit : ∀ a' U, s.WarmedH U.vm → (Cond.initialized y.cls).before a' U = true) :
    vx_Back l R p e below s sargs y len W9 (PreOf R mc ms Pc) (PostOf Qc mc ms free) (vx_Post XC mc ms free) := by
  intro m meth c A g ig mk a X hg hsize hdg hW hn hp
  have h1 : (headSpec ws rm).pre.before a A.U = true := atoms_intro fun w hw => hws w hw _ _ X.warmed
  have h2 : (Cond.codeWith y bytes maxL ret hh).before a A.U = true := hws _ hcode _ _ X.warmed
  have h3 : (Cond.initialized y.cls).before a A.U = true := hinit _ _ X.warmed
  have h4 : A.cells + (headSpec ws rm).room.cells ≤ R.cells := by rw [show (headSpec ws rm).room.cells = mc from hrc]; exact hp.1
  have h5 : A.slots + (headSpec ws rm).room.slots ≤ R.slots := by rw [show (headSpec ws rm).room.slots = ms from hrs]; exact hp.2.1
  have hPc : Pc a (A.U.calling g mk a) := hblind _ _ _ _ hp.2.2
  obtain ⟨U, Ls, c0, s0⟩ := A
  dsimp only [Pt.U, Pt.locs, Pt.cells, Pt.slots] at h1 h2 h3 h4 h5 X hn hPc ⊢
  obtain ⟨m9, methY, cY, hn9, hmY, hcY, -, hlY, -⟩ := Cond.codeWith_spec h2
  cases Option.some.inj (hn9.symm.trans hn)
  obtain ⟨kY, hkY, -⟩ := className_of_methodNamed hn
  have hinitY : kY.init = .initialized := Cond.initialized_spec (findClass_of_methodNamed hn) hkY h3
  have h : At U g.method c below := by rw [hg]; exact X.here
  have hlocals9 : W9 + (maxL + 11) + (headSpec ws rm).room.locals ≤ R.locals := hlocals
  have happ : (headSpec ws rm).appliesLoose y e.platform (U.calling g mk a) = true :=
    Spec.appliesLoose_calling (g := g) h hdg hn hkY hinitY
      (X.room_calling (g := g) (R' := (headSpec ws rm).room) hsize hmY hcY hframes (by rw [hlY]; omega) h4 h5) h1
  obtain ⟨mid, hmid⟩ := h.above
  have hfr : (U.setTop g).frames = (.java g :: mid) ++ below := by rw [State.frames_setTop' g h.top, hmid]; rfl
  obtain ⟨o, s₂, hsteps, -, hend, hq⟩ := Steps.callFree hM p X.admits X.cas X.clock (acts := []) hfr happ hPc trivial
  have hq' : vx_Q Qc XC mc ms free a (U.calling g mk a) o s₂ := hq
  rw [State.frames_setTop' g h.top] at hend
  obtain ⟨g₀, hg0⟩ := Option.isSome_iff_exists.mp h.top
  obtain ⟨r, hr⟩ := State.topJava?_eq_some.mp hg0
  have hr' : (({ U with heap := s₂.heap, slotsUsed := s₂.slotsUsed } : State).setVm s₂.vm).frames = .java g₀ :: r := hr
  rcases hq' with ⟨hqc, L, hfe, hL⟩ | ⟨q, rfl, E, ce, L, hx, hce, hcv, hcl, hW₂, hsm, hL⟩
  · obtain ⟨⟨v, rfl⟩, hW₂, e2, q2, q3, q4, q5, q6⟩ := id hfe
    have e3 : s₂ = ({ (U.calling g mk a).setFrames s₂.frames with heap := s₂.heap, slotsUsed := s₂.slotsUsed } : State).setVm s₂.vm := by
      have : s₂ = ({ s₂ with vm := (U.calling g mk a).vm } : State).setVm s₂.vm := rfl
      rw [e2] at this
      exact this
    obtain ⟨c₂, i₂, len₂, hc₂, hd₂, hf₂⟩ := hend
    have hW' : U.WarmedH s₂.vm := hW₂
    have hcc : c₂ = c := by
      have h1 : s₂.code? g.method = U.code? g.method := by
        rw [State.code?_eq, State.code?_eq, hW'.alike.method?]
      exact Option.some.inj (hc₂.symm.trans (h1.trans h.code))
    subst hcc
    have hlen : len₂ = len := by rw [hdg] at hd₂; cases hd₂; rfl
    subst hlen
    have hs₂ : s₂ = (({ U with heap := s₂.heap, slotsUsed := s₂.slotsUsed } : State).setVm s₂.vm).setTop { g with pc := g.pc + len₂, stack := v.toList ++ g.stack } := by
      refine e3.trans ?_
      rw [hf₂, State.calling_eq h.top, State.setFrames_setFrames, State.setTop_of_frames _ hr', hr]
      rfl
    have hsame : U.sameButNew ({ U with heap := s₂.heap, slotsUsed := s₂.slotsUsed } : State) L mc ms := by
      refine ⟨?_, q2, q3, q4, q5, q6⟩
      obtain ⟨t, ht, -⟩ := State.frames_cons hr
      show ({ U with heap := s₂.heap, slotsUsed := s₂.slotsUsed } : State) = { U.setFrames U.frames with heap := s₂.heap, slotsUsed := s₂.slotsUsed }
      rw [State.setFrames_self ht]
    subst hg
    refine Or.inl ⟨v, ⟨(({ U with heap := s₂.heap, slotsUsed := s₂.slotsUsed } : State).setVm s₂.vm), Ls ++ L, c0 + mc, s0 + ms⟩,
      ⟨X.admits, X.cas, X.clock, X.frames, X.room, X.hears, X.method, X.code, (X.here.setHeapUsed s₂.heap s₂.slotsUsed).setVm hW'.alike, X.tail, State.WarmedH.trans X.warmed hW', X.limits, X.bytes, X.same.trans (hsame.setVm s.vm)⟩,
      ⟨g, mk, s₂, L, rfl, rfl, hqc, rfl, hL, rfl, rfl⟩, ?_⟩
    show Steps p.tables e below _ ((({ U with heap := s₂.heap, slotsUsed := s₂.slotsUsed } : State).setVm s₂.vm).setTop { g with pc := g.pc + len₂, stack := v.toList ++ g.stack })
    rw [← hs₂]
    exact hsteps
  · obtain ⟨e2, q2, q3, q4, q5, q6⟩ := id hsm
    have e3 : s₂ = ({ (U.calling g mk a).setFrames s₂.frames with heap := s₂.heap, slotsUsed := s₂.slotsUsed } : State).setVm s₂.vm := by
      have : s₂ = ({ s₂ with vm := (U.calling g mk a).vm } : State).setVm s₂.vm := rfl
      rw [e2] at this
      exact this
    have hf₂ : s₂.frames = .throwing q :: .java g :: U.frames.tail := hend
    have hW' : U.WarmedH s₂.vm := hW₂
    have hs₂ : s₂ = ((({ U with heap := s₂.heap, slotsUsed := s₂.slotsUsed } : State).setVm s₂.vm).setTop g).pushFrame (.throwing q) := by
      refine e3.trans ?_
      rw [hf₂, State.calling_eq h.top, State.setFrames_setFrames, State.pushFrame, State.frames_setTop _ hr', State.setTop_of_frames _ hr', State.setFrames_setFrames, hr]
      rfl
    have hsame : U.sameButNew ({ U with heap := s₂.heap, slotsUsed := s₂.slotsUsed } : State) L mc ms := by
      refine ⟨?_, q2, q3, q4, q5, q6⟩
      obtain ⟨t, ht, -⟩ := State.frames_cons hr
      show ({ U with heap := s₂.heap, slotsUsed := s₂.slotsUsed } : State) = { U.setFrames U.frames with heap := s₂.heap, slotsUsed := s₂.slotsUsed }
      rw [State.setFrames_self ht]
    subst hg
    refine Or.inr ⟨q, ⟨(({ U with heap := s₂.heap, slotsUsed := s₂.slotsUsed } : State).setVm s₂.vm), Ls ++ L, c0 + mc, s0 + ms⟩,
      ⟨X.admits, X.cas, X.clock, X.frames, X.room, X.hears, X.method, X.code, (X.here.setHeapUsed s₂.heap s₂.slotsUsed).setVm hW'.alike, X.tail, State.WarmedH.trans X.warmed hW', X.limits, X.bytes, X.same.trans (hsame.setVm s.vm)⟩,
      ⟨g, mk, s₂, L, E, ce, rfl, rfl, hx, hce, hcv, hcl, rfl, hL, rfl, rfl⟩, ?_⟩
    show Steps p.tables e below _ (((({ U with heap := s₂.heap, slotsUsed := s₂.slotsUsed } : State).setVm s₂.vm).setTop g).pushFrame (.throwing q))
    rw [← hs₂]
    exact hsteps
end
variable {p : Program} {l : Launch} {e : Env} {R : Room} {s : State} {m : MethodId} {args : Array Value} {below : List Frame} {meth : Method} {c : Code} {T : State} {H : Heap} {locs : List Loc} {cells slots : Nat}
theorem vx_callVX (X : Stand p l e R s m args below meth c T locs cells slots) (hexec : p.tables.exec = Jvm.exec) {own C : String} {index : Nat} {y : MethodName} {bytes : ByteArray} {maxL : Nat} {ret : Option FieldType} {hh : List (Nat × Nat × Nat × Nat)}
    (hown : s.vm.findClass own = some m.cls) (hlink : (Cond.methodLink own index y).before args s = true) (hinst : (Cond.instanceMethod y).before args s = true) (hsel : (Cond.selects C y y).before args s = true)
    (hcode : (Cond.codeWith y bytes maxL ret hh).before args s = true) (hy : y.cls ≠ "java/lang/invoke/MethodHandle" ∧ y.cls ≠ "java/lang/invoke/VarHandle")
    {W9 : Nat} {Pre : Pt → Array Value → Prop} {Post : Pt → Array Value → Option Value → Pt → Prop} {PostX : Pt → Array Value → Addr → Pt → Prop} (hK : vx_Back l R p e below s args y 3 W9 Pre Post PostX)
    {b : Addr} {cellB : Cell} (hcell : T.heap[b]? = some cellB) (hobj : cellB.vm.isStatics = false) (hcls : s.vm.findClass C = some cellB.cls)
    {g : JFrame} (hg : g.method = m) (hsize : g.locals.size = c.maxLocals) {argsL rest : List Value} (hlen : ∀ sig, parseMethodDescriptor y.desc = some sig → argsL.length = sig.parameters.length)
    (hstack : g.stack = argsL.reverse ++ .ref b :: rest) (hW : 2 * g.monitorRoom + (rest.map fun v => v.category).sum ≤ W9) (hdg : decode c.code g.pc = .ok (.invokevirtual index, 3))
    (hpre : ∀ vm₁, s.WarmedH vm₁ → Pre ⟨T.setVm vm₁, locs, cells, slots⟩ (Value.ref b :: argsL).toArray) :
    (∃ (v : Option Value) (vm₁ : Vm) (B : Pt), s.WarmedH vm₁ ∧ Stand p l e R s m args below meth c B.U B.locs B.cells B.slots ∧ Post ⟨T.setVm vm₁, locs, cells, slots⟩ (Value.ref b :: argsL).toArray v B ∧
      ∀ target, Steps p.tables e below (B.U.setTop { g with pc := g.pc + 3, stack := v.toList ++ rest }) target → Steps p.tables e below (T.setTop g) target) ∨
    (∃ (q : Addr) (vm₁ : Vm) (B : Pt), s.WarmedH vm₁ ∧ Stand p l e R s m args below meth c B.U B.locs B.cells B.slots ∧ PostX ⟨T.setVm vm₁, locs, cells, slots⟩ (Value.ref b :: argsL).toArray q B ∧
      Steps p.tables e below (T.setTop g) ((B.U.setTop { g with stack := rest }).pushFrame (.throwing q))) := by
  obtain ⟨mk, methM, hnamed, hmethM, hstM, habM⟩ := Cond.instanceMethod_spec hinst
  obtain ⟨m8, methM', cM, hn8, hmethM', -, -, -, -, -, -, hsigM⟩ := Cond.codeWith_spec hcode
  cases Option.some.inj (hn8.symm.trans hnamed)
  cases hmethM.symm.trans hmethM'
  obtain ⟨c2, r2, m2, q1, q2, q3, q4, kP, hkP, hkPi⟩ := Cond.selects_spec hsel
  cases hcls.symm.trans q1
  cases (State.methodFound?_of_named hnamed hy).symm.trans q2
  cases hnamed.symm.trans q3
  have hselP : selectMethod e.platform s.vm cellB.cls mk = .method mk := by rw [Launch.admits_selectMethod X.admits]; exact q4
  obtain ⟨vm₁, X₁, hstep₁⟩ := X.invokevirtual hexec hown hlink hnamed hmethM hstM hkP hkPi hy (a := b) (cell := cellB) hcell
    (fun z h => by rw [h] at hobj; cases hobj) hselP hmethM habM hkP hkPi (g := g) hg (argsL := argsL) (rest := rest) (hlen _ hsigM) hstack hdg
  rcases hK m meth c ⟨T.setVm vm₁, locs, cells, slots⟩ { g with stack := rest } (.invokevirtual index) mk (Value.ref b :: argsL).toArray X₁ hg hsize hdg hW (X₁.named hnamed) (hpre vm₁ X₁.warmed) with ⟨v, B, X', hpost, hsteps⟩ | ⟨q, B, X', hpost, hsteps⟩
  · exact Or.inl ⟨v, vm₁, B, X₁.warmed, X', hpost, fun target h => hstep₁ _ fun acts => by rw [doInvoke_state]; exact hsteps.trans h⟩
  · exact Or.inr ⟨q, vm₁, B, X₁.warmed, X', hpost, hstep₁ _ fun acts => by rw [doInvoke_state]; exact hsteps⟩
theorem vx_callSX (X : Stand p l e R s m args below meth c T locs cells slots) (hexec : p.tables.exec = Jvm.exec) {own : String} {index : Nat} {y : MethodName} {bytes : ByteArray} {maxL : Nat} {ret : Option FieldType} {hh : List (Nat × Nat × Nat × Nat)}
    (hown : s.vm.findClass own = some m.cls) (hlink : (Cond.methodLink own index y).before args s = true) (hstat : (Cond.static y).before args s = true) (hinit : (Cond.initialized y.cls).before args s = true)
    (hcode : (Cond.codeWith y bytes maxL ret hh).before args s = true) (hy : y.cls ≠ "java/lang/invoke/MethodHandle" ∧ y.cls ≠ "java/lang/invoke/VarHandle")
    {W9 : Nat} {Pre : Pt → Array Value → Prop} {Post : Pt → Array Value → Option Value → Pt → Prop} {PostX : Pt → Array Value → Addr → Pt → Prop} (hK : vx_Back l R p e below s args y 3 W9 Pre Post PostX)
    {g : JFrame} (hg : g.method = m) (hsize : g.locals.size = c.maxLocals) {argsL rest : List Value} (hlen : ∀ sig, parseMethodDescriptor y.desc = some sig → argsL.length = sig.parameters.length)
    (hstack : g.stack = argsL.reverse ++ rest) (hW : 2 * g.monitorRoom + (rest.map fun v => v.category).sum ≤ W9) (hdg : decode c.code g.pc = .ok (.invokestatic index, 3))
    (hpre : ∀ vm₁, s.WarmedH vm₁ → Pre ⟨T.setVm vm₁, locs, cells, slots⟩ argsL.toArray) :
    (∃ (v : Option Value) (vm₁ : Vm) (B : Pt), s.WarmedH vm₁ ∧ Stand p l e R s m args below meth c B.U B.locs B.cells B.slots ∧ Post ⟨T.setVm vm₁, locs, cells, slots⟩ argsL.toArray v B ∧
      ∀ target, Steps p.tables e below (B.U.setTop { g with pc := g.pc + 3, stack := v.toList ++ rest }) target → Steps p.tables e below (T.setTop g) target) ∨
    (∃ (q : Addr) (vm₁ : Vm) (B : Pt), s.WarmedH vm₁ ∧ Stand p l e R s m args below meth c B.U B.locs B.cells B.slots ∧ PostX ⟨T.setVm vm₁, locs, cells, slots⟩ argsL.toArray q B ∧
      Steps p.tables e below (T.setTop g) ((B.U.setTop { g with stack := rest }).pushFrame (.throwing q))) := by
  obtain ⟨mk, methM, cM, hnamed, hmethM, -, -, -, -, -, -, hsigM⟩ := Cond.codeWith_spec hcode
  have hstatic : methM.isStatic = true := Cond.static_spec hnamed hmethM hstat
  obtain ⟨kP, hkP, -⟩ := className_of_methodNamed hnamed
  have hinitP : kP.init = .initialized := Cond.initialized_spec (findClass_of_methodNamed hnamed) hkP hinit
  obtain ⟨vm₁, X₁, hstep₁⟩ := X.invokestatic hexec hown hlink hnamed hmethM hstatic hkP hinitP hy (g := g) hg (argsL := argsL) (rest := rest) (hlen _ hsigM) hstack hdg
  rcases hK m meth c ⟨T.setVm vm₁, locs, cells, slots⟩ { g with stack := rest } (.invokestatic index) mk argsL.toArray X₁ hg hsize hdg hW (X₁.named hnamed) (hpre vm₁ X₁.warmed) with ⟨v, B, X', hpost, hsteps⟩ | ⟨q, B, X', hpost, hsteps⟩
  · exact Or.inl ⟨v, vm₁, B, X₁.warmed, X', hpost, fun target h => hstep₁ _ fun acts => by rw [doInvoke_state]; exact hsteps.trans h⟩
  · exact Or.inr ⟨q, vm₁, B, X₁.warmed, X', hpost, hstep₁ _ fun acts => by rw [doInvoke_state]; exact hsteps⟩
theorem vx_callVW (X : Stand p l e R s m args below meth c T locs cells slots) (hexec : p.tables.exec = Jvm.exec) {own C : String} {index : Nat} {y : MethodName} {bytes : ByteArray} {maxL : Nat} {ret : Option FieldType} {hh : List (Nat × Nat × Nat × Nat)}
    (hown : s.vm.findClass own = some m.cls) (hlink : (Cond.methodLink own index y).before args s = true) (hinst : (Cond.instanceMethod y).before args s = true) (hsel : (Cond.selects C y y).before args s = true)
    (hcode : (Cond.codeWith y bytes maxL ret hh).before args s = true) (hy : y.cls ≠ "java/lang/invoke/MethodHandle" ∧ y.cls ≠ "java/lang/invoke/VarHandle")
    {W9 : Nat} {Pre : Pt → Array Value → Prop} {Post : Pt → Array Value → Option Value → Pt → Prop} (hK : Back l R p e below s args y 3 W9 Pre Post)
    {b : Addr} {cellB : Cell} (hcell : T.heap[b]? = some cellB) (hobj : cellB.vm.isStatics = false) (hcls : s.vm.findClass C = some cellB.cls)
    {g : JFrame} (hg : g.method = m) (hsize : g.locals.size = c.maxLocals) {argsL rest : List Value} (hlen : ∀ sig, parseMethodDescriptor y.desc = some sig → argsL.length = sig.parameters.length)
    (hstack : g.stack = argsL.reverse ++ .ref b :: rest) (hW : 2 * g.monitorRoom + (rest.map fun v => v.category).sum ≤ W9) (hdg : decode c.code g.pc = .ok (.invokevirtual index, 3))
    (hpre : ∀ vm₁, s.WarmedH vm₁ → Pre ⟨T.setVm vm₁, locs, cells, slots⟩ (Value.ref b :: argsL).toArray) :
    ∃ (v : Option Value) (vm₁ : Vm) (B : Pt), s.WarmedH vm₁ ∧ Stand p l e R s m args below meth c B.U B.locs B.cells B.slots ∧ Post ⟨T.setVm vm₁, locs, cells, slots⟩ (Value.ref b :: argsL).toArray v B ∧
      ∀ target, Steps p.tables e below (B.U.setTop { g with pc := g.pc + 3, stack := v.toList ++ rest }) target → Steps p.tables e below (T.setTop g) target := by
  obtain ⟨mk, methM, hnamed, hmethM, hstM, habM⟩ := Cond.instanceMethod_spec hinst
  obtain ⟨m8, methM', cM, hn8, hmethM', -, -, -, -, -, -, hsigM⟩ := Cond.codeWith_spec hcode
  cases Option.some.inj (hn8.symm.trans hnamed)
  cases hmethM.symm.trans hmethM'
  obtain ⟨c2, r2, m2, q1, q2, q3, q4, kP, hkP, hkPi⟩ := Cond.selects_spec hsel
  cases hcls.symm.trans q1
  cases (State.methodFound?_of_named hnamed hy).symm.trans q2
  cases hnamed.symm.trans q3
  have hselP : selectMethod e.platform s.vm cellB.cls mk = .method mk := by rw [Launch.admits_selectMethod X.admits]; exact q4
  obtain ⟨vm₁, X₁, hstep₁⟩ := X.invokevirtual hexec hown hlink hnamed hmethM hstM hkP hkPi hy (a := b) (cell := cellB) hcell
    (fun z h => by rw [h] at hobj; cases hobj) hselP hmethM habM hkP hkPi (g := g) hg (argsL := argsL) (rest := rest) (hlen _ hsigM) hstack hdg
  obtain ⟨v, B, X', hpost, hsteps⟩ := hK m meth c ⟨T.setVm vm₁, locs, cells, slots⟩ { g with stack := rest } (.invokevirtual index) mk (Value.ref b :: argsL).toArray X₁ hg hsize hdg hW (X₁.named hnamed) (hpre vm₁ X₁.warmed)
  exact ⟨v, vm₁, B, X₁.warmed, X', hpost, fun target h => hstep₁ _ fun acts => by rw [doInvoke_state]; exact hsteps.trans h⟩
abbrev vx_CVW (R : Room) (s : State) (args : Array Value) (own C : String) (index : Nat) (y : MethodName) (bytes : ByteArray) (maxL : Nat) (ret : Option FieldType) (hh : List (Nat × Nat × Nat × Nat)) (ws : List Cond) (rm : Room) (mc ms n : Nat) : Prop :=
  (rm.cells = mc ∧ rm.slots = ms ∧ rm.frames + 1 ≤ R.frames ∧ 8 + (maxL + 11) + rm.locals ≤ R.locals ∧ (∀ w ∈ ws, ∀ (a' : Array Value) (U : State), s.WarmedH U.vm → w.before a' U = true) ∧ Cond.codeWith y bytes maxL ret hh ∈ ws) ∧
  (Cond.codeWith y bytes maxL ret hh).before args s = true ∧ (Cond.initialized y.cls).before args s = true ∧ (y.cls ≠ "java/lang/invoke/MethodHandle" ∧ y.cls ≠ "java/lang/invoke/VarHandle") ∧
  (∀ sig, parseMethodDescriptor y.desc = some sig → n = sig.parameters.length) ∧ (Cond.methodLink own index y).before args s = true ∧ (Cond.instanceMethod y).before args s = true ∧ (Cond.selects C y y).before args s = true
theorem vx_cwVW {own C : String} {index maxL mc ms : Nat} {y : MethodName} {bytes : ByteArray} {ret : Option FieldType} {hh : List (Nat × Nat × Nat × Nat)} {Ts ws ws' : List Cond} {rm : Room} (n : Nat) (ht : ∀ w ∈ Ts, w.before args s = true) (hT : GoodIn Ts (wsV own index C y ws)) (hw : ws = Cond.codeWith y bytes maxL ret hh :: ws') (hrc : rm.cells = mc) (hrs : rm.slots = ms)
    (hd : y.cls = C ∧ y.cls ≠ "java/lang/invoke/MethodHandle" ∧ y.cls ≠ "java/lang/invoke/VarHandle" ∧ (parseMethodDescriptor y.desc).map (fun d => d.parameters.length) = some n) (hR : rm.frames + 1 ≤ R.frames ∧ 8 + (maxL + 11) + rm.locals ≤ R.locals) :
    vx_CVW R s args own C index y bytes maxL ret hh ws rm mc ms n := by
  obtain ⟨hC, hd⟩ := hd
  subst hC
  have ok : ∀ w ∈ wsV own index y.cls y ws, w.before args s = true := fun w h => ht w (hT w h).1
  have hG : GoodIn Ts ws := fun w h => hT w (by unfold wsV; exact List.mem_append_right _ h)
  have hc : Cond.codeWith y bytes maxL ret hh ∈ ws := by rw [hw]; exact List.mem_cons_self
  refine ⟨⟨hrc, hrs, hR.1, hR.2, pay_in ht hG, hc⟩, ht _ (hG _ hc).1, ok _ (by simp [wsV]), ⟨hd.1, hd.2.1⟩, fun sig h => ?_, ok _ (by simp [wsV]), ok _ (by simp [wsV]), ok _ (by simp [wsV])⟩
  have h2 := hd.2.2
  rw [h] at h2
  exact (Option.some.inj h2).symm
theorem vx_runVW {y : MethodName} {bytes cc : ByteArray} {maxL nL mc ms n index : Nat} {ret : Option FieldType} {hh : List (Nat × Nat × Nat × Nat)} {ws : List Cond} {rm : Room} {Pc : Array Value → State → Prop} {Qc : Array Value → State → Outcome → State → Prop} {free : Addr → Prop} {Ts : List Cond} {own C : String} {b : Addr} {As rest : List Value} {g : JFrame}
    (S : CallFix p m c cc nL s args Ts own) (hM : Met l y ws rm Pc Qc mc ms free) (cw : vx_CVW R s args own C index y bytes maxL ret hh ws rm mc ms n) (hp : PreV s H C b Pc As)
    (hg : g.method = m) (hn : As.length = n) (hsize : g.locals.size = nL) (hstack : g.stack = As.reverse ++ .ref b :: rest) (hW : 2 * g.monitorRoom + (rest.map fun v => v.category).sum ≤ 8) (hdg : decode cc g.pc = .ok (.invokevirtual index, 3)) (hf : cells + mc ≤ R.cells ∧ slots + ms ≤ R.slots) :
    va_Run p l e R s m args below meth c H locs cells slots mc ms g rest (Qc (Value.ref b :: As).toArray) free := by
  obtain ⟨⟨hrc, hrs, hfr, hlo, hws, hcw⟩, hcode, hini, hy, hlen, hl, hin, hse⟩ := cw
  have hK : Back l R p e below s args y 3 8 (PreOf R mc ms Pc) (PostOf Qc mc ms free) := va_backW (hh := hh) (bytes := bytes) (maxL := maxL) (ret := ret) hM hp.1 hrc hrs hfr hlo hws hcw (fun a' U hW => word_at hW (Or.inl (by first | rfl | simp [Cond.onTables, Cond.keeps, Cond.steady])) hini)
  obtain ⟨hx, hb, hml, ho, -⟩ := S
  obtain ⟨-, ⟨cellB, hcB, hoB, hclB⟩, hPc⟩ := hp
  intro T hT X
  obtain ⟨v, vm₁, ⟨U', l2, c2, s2⟩, hW₁, X', ⟨g', mk, t, L, e1, e2, hq, h1, hL, h2, h3⟩, st⟩ := vx_callVW X hx (C := C) (hh := hh) (bytes := bytes) (maxL := maxL) (ret := ret) ho hl hin hse hcode hy hK (by rw [hT]; exact hcB) hoB hclB hg (hsize.trans hml.symm) (argsL := As) (rest := rest) (fun sig h => hn.trans (hlen sig h)) hstack hW (by rw [hb]; exact hdg)
    (fun vm₁ hW₁ => ⟨hf.1, hf.2, hPc (T.setVm vm₁) hT hW₁⟩)
  dsimp only [Pt.U, Pt.locs, Pt.cells, Pt.slots] at X' e1 e2 h1 h2 h3 st
  subst h1; subst h2; subst h3
  exact ⟨v, (T.setVm vm₁).calling g' mk (Value.ref b :: As).toArray, t, U', L, hT, X', hL, e1, e2, hq, st⟩
section
variable {y : MethodName} {bytes cc : ByteArray} {maxL nL mc ms n index : Nat} {ret : Option FieldType} {ws : List Cond} {rm : Room} {Pc : Array Value → State → Prop} {Qc : Array Value → State → Outcome → State → Prop} {XC : String → State → State → Prop} {free : Addr → Prop} {Ts : List Cond} {own C : String} {b : Addr} {As rest : List Value} {g : JFrame}
theorem vx_runVX {hh : List (Nat × Nat × Nat × Nat)} (S : CallFix p m c cc nL s args Ts own) (hM : vx_Met l y ws rm Pc Qc XC mc ms free) (cw : vx_CVW R s args own C index y bytes maxL ret hh ws rm mc ms n) (hp : PreV s H C b Pc As)
    (hg : g.method = m) (hn : As.length = n) (hsize : g.locals.size = nL) (hstack : g.stack = As.reverse ++ .ref b :: rest) (hW : 2 * g.monitorRoom + (rest.map fun v => v.category).sum ≤ 8) (hdg : decode cc g.pc = .ok (.invokevirtual index, 3)) (hf : cells + mc ≤ R.cells ∧ slots + ms ≤ R.slots) :
    vx_Run p l e R s m args below meth c H locs cells slots mc ms g rest (Qc (Value.ref b :: As).toArray) XC free := by
  obtain ⟨⟨hrc, hrs, hfr, hlo, hws, hcw⟩, hcode, hini, hy, hlen, hl, hin, hse⟩ := cw
  have hK : vx_Back l R p e below s args y 3 8 (PreOf R mc ms Pc) (PostOf Qc mc ms free) (vx_Post XC mc ms free) := vx_backW (hh := hh) (bytes := bytes) (maxL := maxL) (ret := ret) hM hp.1 hrc hrs hfr hlo hws hcw (fun a' U hW => word_at hW (Or.inl (by first | rfl | simp [Cond.onTables, Cond.keeps, Cond.steady])) hini)
  obtain ⟨hx, hb, hml, ho, -⟩ := S
  obtain ⟨-, ⟨cellB, hcB, hoB, hclB⟩, hPc⟩ := hp
  intro T hT X
  rcases vx_callVX X hx (C := C) (hh := hh) (bytes := bytes) (maxL := maxL) (ret := ret) ho hl hin hse hcode hy hK (by rw [hT]; exact hcB) hoB hclB hg (hsize.trans hml.symm) (argsL := As) (rest := rest) (fun sig h => hn.trans (hlen sig h)) hstack hW (by rw [hb]; exact hdg)
    (fun vm₁ hW₁ => ⟨hf.1, hf.2, hPc (T.setVm vm₁) hT hW₁⟩) with ⟨v, vm₁, ⟨U', l2, c2, s2⟩, hW₁, X', ⟨g', mk, t, L, e1, e2, hq, h1, hL, h2, h3⟩, st⟩ | ⟨q, vm₁, ⟨U', l2, c2, s2⟩, hW₁, X', ⟨g', mk, t, L, E, ce, e1, e2, hq, hce, hcv, hcl, h1, hL, h2, h3⟩, st⟩
  · dsimp only [Pt.U, Pt.locs, Pt.cells, Pt.slots] at X' e1 e2 h1 h2 h3 st
    subst h1; subst h2; subst h3
    exact Or.inl ⟨v, (T.setVm vm₁).calling g' mk (Value.ref b :: As).toArray, t, U', L, hT, X', hL, e1, e2, hq, st⟩
  · dsimp only [Pt.U, Pt.locs, Pt.cells, Pt.slots] at X' e1 e2 h1 h2 h3 st hcl
    subst h1; subst h2; subst h3
    exact Or.inr ⟨q, (T.setVm vm₁).calling g' mk (Value.ref b :: As).toArray, t, U', L, E, ce, hT, X', hL, e1, e2, hq, hce, hcv, vx_cls hW₁ hcl, st⟩
theorem vx_runSX {hh : List (Nat × Nat × Nat × Nat)} (S : CallFix p m c cc nL s args Ts own) (hM : vx_Met l y ws rm Pc Qc XC mc ms free) (cw : vx_CSW R s args own index y bytes maxL ret hh ws rm mc ms n) (hp : PreS s H Pc As)
    (hg : g.method = m) (hn : As.length = n) (hsize : g.locals.size = nL) (hstack : g.stack = As.reverse ++ rest) (hW : 2 * g.monitorRoom + (rest.map fun v => v.category).sum ≤ 8) (hdg : decode cc g.pc = .ok (.invokestatic index, 3)) (hf : cells + mc ≤ R.cells ∧ slots + ms ≤ R.slots) :
    vx_Run p l e R s m args below meth c H locs cells slots mc ms g rest (Qc As.toArray) XC free := by
  obtain ⟨⟨hrc, hrs, hfr, hlo, hws, hcw⟩, hcode, hini, hy, hlen, hl, hstt⟩ := cw
  have hK : vx_Back l R p e below s args y 3 8 (PreOf R mc ms Pc) (PostOf Qc mc ms free) (vx_Post XC mc ms free) := vx_backW (hh := hh) (bytes := bytes) (maxL := maxL) (ret := ret) hM hp.1 hrc hrs hfr hlo hws hcw (fun a' U hW => word_at hW (Or.inl (by first | rfl | simp [Cond.onTables, Cond.keeps, Cond.steady])) hini)
  obtain ⟨hx, hb, hml, ho, -⟩ := S
  intro T hT X
  rcases vx_callSX X hx (hh := hh) (bytes := bytes) (maxL := maxL) (ret := ret) ho hl hstt hini hcode hy hK hg (hsize.trans hml.symm) (argsL := As) (rest := rest) (fun sig h => hn.trans (hlen sig h)) hstack hW (by rw [hb]; exact hdg)
    (fun vm₁ hW₁ => ⟨hf.1, hf.2, hp.2 (T.setVm vm₁) hT hW₁⟩) with ⟨v, vm₁, ⟨U', l2, c2, s2⟩, hW₁, X', ⟨g', mk, t, L, e1, e2, hq, h1, hL, h2, h3⟩, st⟩ | ⟨q, vm₁, ⟨U', l2, c2, s2⟩, hW₁, X', ⟨g', mk, t, L, E, ce, e1, e2, hq, hce, hcv, hcl, h1, hL, h2, h3⟩, st⟩
  · dsimp only [Pt.U, Pt.locs, Pt.cells, Pt.slots] at X' e1 e2 h1 h2 h3 st
    subst h1; subst h2; subst h3
    exact Or.inl ⟨v, (T.setVm vm₁).calling g' mk As.toArray, t, U', L, hT, X', hL, e1, e2, hq, st⟩
  · dsimp only [Pt.U, Pt.locs, Pt.cells, Pt.slots] at X' e1 e2 h1 h2 h3 st hcl
    subst h1; subst h2; subst h3
    exact Or.inr ⟨q, (T.setVm vm₁).calling g' mk As.toArray, t, U', L, E, ce, hT, X', hL, e1, e2, hq, hce, hcv, vx_cls hW₁ hcl, st⟩
end
end VXH
theorem vx_ofWH {l : Launch} {y : MethodName} {ws ws' : List Cond} {rm : Room} {Pc : Array Value → State → Prop} {Qc : Array Value → State → Outcome → State → Prop} {XC : String → State → State → Prop} {mc ms : Nat} {free : Addr → Prop} {cc : ByteArray} {maxL : Nat} {ret : Option FieldType} {hh : List (Nat × Nat × Nat × Nat)}
    (hy : plainName y.cls = true) (hw : ws = Cond.codeWith y cc maxL ret hh :: ws')
    (body : ∀ p e s m args below meth c s₁, BodyLoose p l y (headSpec ws rm) cc maxL ret e s m args below meth c s₁ → c.maxLocals = maxL → Pc args s →
      W p l e (headSpec ws rm).room s m args below meth c s.heap [] 0 0 (vx_MQ below Qc XC args s mc ms free) (entryFrame m args maxL)) : vx_Met l y ws rm Pc Qc XC mc ms free := by
  refine MetFree.of_bodyS (code := cc) (maxLocals := maxL) (ret := ret) hy ?_ ?_
  · intro args s m h hn
    obtain ⟨m9, meth, c, hn9, h1, h2, h3, h4, -, h5, h6, -⟩ := Cond.codeWith_spec (atoms_spec (ws := ws) h _ (by rw [hw]; exact List.mem_cons_self))
    cases hn.symm.trans hn9
    exact ⟨meth, c, h1, h2, h3, h4, h5, h6⟩
  · intro p e s m args below meth c s₁ B hml hP _
    have hh0 : s₁.heap = s.heap := by rw [B.state]; rfl
    obtain ⟨t, a1, o, b1, b2, b3⟩ := body p e s m args below meth c s₁ B hml hP s₁ hh0 (Stand.of_body B)
    exact ⟨t, o, a1, b1, b2, b3⟩
/-! ===== END ===== -/
end
section
/-! NoSuchElementException's own constructor calls its superclass by another index than the kit's chain of constructors has: its words, the two that differ exchanged. -/
def gNS : String := "java/util/NoSuchElementException"
def gRE : String := "java/lang/RuntimeException"
def gNSnames : List String := [gRE, "java/lang/Exception"]
def gNSall : List Cond := Bundle.passSAtoms gNS gRE 13 prog_13_method_4_code ++ (Bundle.ownAtoms "Stairflow" 185 gNS gNSnames).filter (fun w => decide (w ≠ .code (Bundle.initS gNS) Bundle.six 2 none) && decide (w ≠ .methodLink gNS 7 (Bundle.initS gRE)))
def gNSat : List Cond := gNSall.filter vx_no
end
section
def RX0 : String := "Stairflow"
def TX0 : u_T := fun k => match k with
  | 0 => ("Stairflow", "placeCount", "I", false)
  | 1 => ("Stairflow", "roomOf", "[I", true)
  | 2 => ("Stairflow", "peopleAt", "[I", true)
  | 3 => ("Stairflow", "releaseOf", "[I", true)
  | 4 => ("Stairflow", "distanceOf", "[I", true)
  | 5 => ("Stairflow", "doorOf", "[I", true)
  | 6 => ("Stairflow", "doorCount", "I", false)
  | 7 => ("Stairflow", "oneEnd", "[I", true)
  | 8 => ("Stairflow", "otherEnd", "[I", true)
  | 9 => ("Stairflow", "flowOf", "[I", true)
  | 10 => ("Stairflow", "shareOf", "[I", true)
  | 11 => ("Stairflow", "isOpen", "[Z", true)
  | 12 => ("Stairflow", "passedBy", "[I", true)
  | 13 => ("Stairflow", "sourceOf", "[I", true)
  | 14 => ("Stairflow", "targetOf", "[I", true)
  | 15 => ("Stairflow", "grantedTo", "[I", true)
  | 16 => ("Stairflow", "timeNow", "I", false)
  | 17 => ("Stairflow", "latestTime", "I", false)
  | _ => ("Stairflow", "waitedSum", "I", false)
def tyX0 : Nat → FieldType := fun k => match k with
  | 0 => .int
  | 1 => .array .int
  | 2 => .array .int
  | 3 => .array .int
  | 4 => .array .int
  | 5 => .array .int
  | 6 => .int
  | 7 => .array .int
  | 8 => .array .int
  | 9 => .array .int
  | 10 => .array .int
  | 11 => .array .boolean
  | 12 => .array .int
  | 13 => .array .int
  | 14 => .array .int
  | 15 => .array .int
  | 16 => .int
  | 17 => .int
  | _ => .int
abbrev wsX00 : List Cond := u_ws RX0 TX0 19
theorem nmX0 : ∀ a, a < 19 → ∀ b, b < 19 → a ≠ b → (TX0 a).2.1 ≠ (TX0 b).2.1 := by decide +kernel
theorem tyX0_ok : ∀ k, k < 19 → parseFieldDescriptor (TX0 k).2.2.1 = some (tyX0 k) := by decide +kernel
abbrev cX0_init : ByteArray := prog_1_method_1_code
def yX0_init : MethodName := ⟨RX0, "<init>", "()V"⟩
abbrev cX0_addPlace : ByteArray := prog_1_method_2_code
def yX0_addPlace : MethodName := ⟨RX0, "addPlace", "(I)I"⟩
abbrev cX0_addDoor : ByteArray := prog_1_method_3_code
def yX0_addDoor : MethodName := ⟨RX0, "addDoor", "(IIII)I"⟩
abbrev cX0_setDoor : ByteArray := prog_1_method_4_code
def yX0_setDoor : MethodName := ⟨RX0, "setDoor", "(IZ)Z"⟩
abbrev cX0_come : ByteArray := prog_1_method_5_code
def yX0_come : MethodName := ⟨RX0, "come", "(II)I"⟩
abbrev cX0_setRelease : ByteArray := prog_1_method_6_code
def yX0_setRelease : MethodName := ⟨RX0, "setRelease", "(II)I"⟩
abbrev cX0_places : ByteArray := prog_1_method_7_code
def yX0_places : MethodName := ⟨RX0, "places", "()I"⟩
abbrev cX0_doors : ByteArray := prog_1_method_8_code
def yX0_doors : MethodName := ⟨RX0, "doors", "()I"⟩
abbrev cX0_step : ByteArray := prog_1_method_9_code
def yX0_step : MethodName := ⟨RX0, "step", "(I)I"⟩
abbrev cX0_clear : ByteArray := prog_1_method_10_code
def yX0_clear : MethodName := ⟨RX0, "clear", "()I"⟩
abbrev cX0_now : ByteArray := prog_1_method_11_code
def yX0_now : MethodName := ⟨RX0, "now", "()I"⟩
abbrev cX0_people : ByteArray := prog_1_method_12_code
def yX0_people : MethodName := ⟨RX0, "people", "(I)I"⟩
abbrev cX0_inside : ByteArray := prog_1_method_13_code
def yX0_inside : MethodName := ⟨RX0, "inside", "()I"⟩
abbrev cX0_latest : ByteArray := prog_1_method_14_code
def yX0_latest : MethodName := ⟨RX0, "latest", "()I"⟩
abbrev cX0_passed : ByteArray := prog_1_method_15_code
def yX0_passed : MethodName := ⟨RX0, "passed", "(I)I"⟩
abbrev cX0_waited : ByteArray := prog_1_method_16_code
def yX0_waited : MethodName := ⟨RX0, "waited", "()I"⟩
abbrev cX0_distance : ByteArray := prog_1_method_17_code
def yX0_distance : MethodName := ⟨RX0, "distance", "(I)I"⟩
abbrev cX0_door : ByteArray := prog_1_method_18_code
def yX0_door : MethodName := ⟨RX0, "door", "(I)I"⟩
abbrev cX0_trapped : ByteArray := prog_1_method_19_code
def yX0_trapped : MethodName := ⟨RX0, "trapped", "()I"⟩
abbrev cX0_wouldMove : ByteArray := prog_1_method_20_code
def yX0_wouldMove : MethodName := ⟨RX0, "wouldMove", "(I)I"⟩
abbrev cX0_bound : ByteArray := prog_1_method_21_code
def yX0_bound : MethodName := ⟨RX0, "bound", "()I"⟩
abbrev cX0_boundAt : ByteArray := prog_1_method_22_code
def yX0_boundAt : MethodName := ⟨RX0, "boundAt", "(I)I"⟩
abbrev cX0_peopleFrom : ByteArray := prog_1_method_23_code
def yX0_peopleFrom : MethodName := ⟨RX0, "peopleFrom", "(I)I"⟩
abbrev cX0_flowInward : ByteArray := prog_1_method_24_code
def yX0_flowInward : MethodName := ⟨RX0, "flowInward", "(I)I"⟩
abbrev cX0_passOneStep : ByteArray := prog_1_method_25_code
def yX0_passOneStep : MethodName := ⟨RX0, "passOneStep", "()I"⟩
abbrev cX0_grantAll : ByteArray := prog_1_method_26_code
def yX0_grantAll : MethodName := ⟨RX0, "grantAll", "()V"⟩
abbrev cX0_grantAt : ByteArray := prog_1_method_27_code
def yX0_grantAt : MethodName := ⟨RX0, "grantAt", "(I)V"⟩
abbrev cX0_grantRound : ByteArray := prog_1_method_28_code
def yX0_grantRound : MethodName := ⟨RX0, "grantRound", "(II)I"⟩
abbrev cX0_wishBy : ByteArray := prog_1_method_29_code
def yX0_wishBy : MethodName := ⟨RX0, "wishBy", "(I)I"⟩
abbrev cX0_moveGranted : ByteArray := prog_1_method_30_code
def yX0_moveGranted : MethodName := ⟨RX0, "moveGranted", "()I"⟩
abbrev cX0_roomLeft : ByteArray := prog_1_method_31_code
def yX0_roomLeft : MethodName := ⟨RX0, "roomLeft", "(I)I"⟩
abbrev cX0_areAllReleased : ByteArray := prog_1_method_32_code
def yX0_areAllReleased : MethodName := ⟨RX0, "areAllReleased", "()Z"⟩
abbrev cX0_findWays : ByteArray := prog_1_method_33_code
def yX0_findWays : MethodName := ⟨RX0, "findWays", "()V"⟩
abbrev cX0_measureDistances : ByteArray := prog_1_method_34_code
def yX0_measureDistances : MethodName := ⟨RX0, "measureDistances", "()V"⟩
abbrev cX0_reach : ByteArray := prog_1_method_35_code
def yX0_reach : MethodName := ⟨RX0, "reach", "(III)V"⟩
abbrev cX0_offerDoor : ByteArray := prog_1_method_36_code
def yX0_offerDoor : MethodName := ⟨RX0, "offerDoor", "(III)V"⟩
abbrev cX0_isPlace : ByteArray := prog_1_method_37_code
def yX0_isPlace : MethodName := ⟨RX0, "isPlace", "(I)Z"⟩
abbrev cX0_isDoor : ByteArray := prog_1_method_38_code
def yX0_isDoor : MethodName := ⟨RX0, "isDoor", "(I)Z"⟩
abbrev cX0_isBetween : ByteArray := prog_1_method_39_code
def yX0_isBetween : MethodName := ⟨RX0, "isBetween", "(III)Z"⟩
abbrev cX0_requirePlace : ByteArray := prog_1_method_40_code
def yX0_requirePlace : MethodName := ⟨RX0, "requirePlace", "(I)V"⟩
abbrev cX0_requireDoor : ByteArray := prog_1_method_41_code
def yX0_requireDoor : MethodName := ⟨RX0, "requireDoor", "(I)V"⟩
abbrev cX0_requireArgument : ByteArray := prog_1_method_42_code
def yX0_requireArgument : MethodName := ⟨RX0, "requireArgument", "(Z)V"⟩
abbrev cX0_requireState : ByteArray := prog_1_method_43_code
def yX0_requireState : MethodName := ⟨RX0, "requireState", "(Z)V"⟩
abbrev cX0_requireElement : ByteArray := prog_1_method_44_code
def yX0_requireElement : MethodName := ⟨RX0, "requireElement", "(Z)V"⟩
def RX1 : String := "StairflowModel"
def TX1 : u_T := fun k => match k with
  | _ => ("", "", "", false)
def tyX1 : Nat → FieldType := fun k => match k with
  | _ => .int
abbrev wsX10 : List Cond := u_ws RX1 TX1 0
theorem nmX1 : ∀ a, a < 0 → ∀ b, b < 0 → a ≠ b → (TX1 a).2.1 ≠ (TX1 b).2.1 := by decide +kernel
theorem tyX1_ok : ∀ k, k < 0 → parseFieldDescriptor (TX1 k).2.2.1 = some (tyX1 k) := by decide +kernel
def RJx145de : String := "java/io/Serializable"
def TJx145de : u_T := fun k => match k with
  | _ => ("", "", "", false)
def tyJx145de : Nat → FieldType := fun k => match k with
  | _ => .int
abbrev wsJx145de0 : List Cond := u_ws RJx145de TJx145de 0
theorem nmJx145de : ∀ a, a < 0 → ∀ b, b < 0 → a ≠ b → (TJx145de a).2.1 ≠ (TJx145de b).2.1 := by decide +kernel
theorem tyJx145de_ok : ∀ k, k < 0 → parseFieldDescriptor (TJx145de k).2.2.1 = some (tyJx145de k) := by decide +kernel
def RJ9 : String := "java/lang/Math"
def TJ9 : u_T := fun k => match k with
  | _ => ("", "", "", false)
def tyJ9 : Nat → FieldType := fun k => match k with
  | _ => .int
abbrev wsJ90 : List Cond := u_ws RJ9 TJ9 0
theorem nmJ9 : ∀ a, a < 0 → ∀ b, b < 0 → a ≠ b → (TJ9 a).2.1 ≠ (TJ9 b).2.1 := by decide +kernel
theorem tyJ9_ok : ∀ k, k < 0 → parseFieldDescriptor (TJ9 k).2.2.1 = some (tyJ9 k) := by decide +kernel
abbrev cJ9_max_7cf53 : ByteArray := prog_9_method_65_code
def yJ9_max_7cf53 : MethodName := ⟨RJ9, "max", "(II)I"⟩
abbrev cJ9_min_7cf53 : ByteArray := prog_9_method_69_code
def yJ9_min_7cf53 : MethodName := ⟨RJ9, "min", "(II)I"⟩
def RJ0 : String := "java/lang/String"
def TJ0 : u_T := fun k => match k with
  | _ => ("", "", "", false)
def tyJ0 : Nat → FieldType := fun k => match k with
  | _ => .int
abbrev wsJ00 : List Cond := u_ws RJ0 TJ0 0
theorem nmJ0 : ∀ a, a < 0 → ∀ b, b < 0 → a ≠ b → (TJ0 a).2.1 ≠ (TJ0 b).2.1 := by decide +kernel
theorem tyJ0_ok : ∀ k, k < 0 → parseFieldDescriptor (TJ0 k).2.2.1 = some (tyJ0 k) := by decide +kernel
def RL : String := "StairflowLaw"
abbrev cL_cell : ByteArray := method_2_code
def yL_cell : MethodName := ⟨RL, "cell", "([II)I"⟩
abbrev cL_low : ByteArray := method_3_code
def yL_low : MethodName := ⟨RL, "low", "(II)I"⟩
abbrev cL_addPlace : ByteArray := method_4_code
def yL_addPlace : MethodName := ⟨RL, "addPlace", "(LStairflow;I)I"⟩
abbrev cL_addDoor : ByteArray := method_5_code
def yL_addDoor : MethodName := ⟨RL, "addDoor", "(LStairflow;IIII)I"⟩
abbrev cL_setDoor : ByteArray := method_6_code
def yL_setDoor : MethodName := ⟨RL, "setDoor", "(LStairflow;IZ)I"⟩
abbrev cL_come : ByteArray := method_7_code
def yL_come : MethodName := ⟨RL, "come", "(LStairflow;II)I"⟩
abbrev cL_setRelease : ByteArray := method_8_code
def yL_setRelease : MethodName := ⟨RL, "setRelease", "(LStairflow;II)I"⟩
abbrev cL_step : ByteArray := method_9_code
def yL_step : MethodName := ⟨RL, "step", "(LStairflow;I)I"⟩
abbrev cL_distance : ByteArray := method_10_code
def yL_distance : MethodName := ⟨RL, "distance", "(LStairflow;I)I"⟩
abbrev cL_door : ByteArray := method_11_code
def yL_door : MethodName := ⟨RL, "door", "(LStairflow;I)I"⟩
abbrev cL_bound : ByteArray := method_12_code
def yL_bound : MethodName := ⟨RL, "bound", "(LStairflow;)I"⟩
abbrev cL_latest : ByteArray := method_13_code
def yL_latest : MethodName := ⟨RL, "latest", "(LStairflow;)I"⟩
abbrev cL_act : ByteArray := method_14_code
def yL_act : MethodName := ⟨RL, "act", "(LStairflow;I)I"⟩
abbrev cL_areAlike : ByteArray := method_15_code
def yL_areAlike : MethodName := ⟨RL, "areAlike", "(LStairflow;LStairflow;)Z"⟩
abbrev cL_arePlacesSo : ByteArray := method_16_code
def yL_arePlacesSo : MethodName := ⟨RL, "arePlacesSo", "(LStairflow;)Z"⟩
abbrev cL_isStepSo : ByteArray := method_17_code
def yL_isStepSo : MethodName := ⟨RL, "isStepSo", "(LStairflow;[J)Z"⟩
abbrev cL_law : ByteArray := code
def yL_law : MethodName := ⟨RL, "law", "([I)Z"⟩
def wsX0_init : List Cond := .code yX0_init cX0_init 1 none :: ([.methodLink RX0 1 objectInit, .instanceMethod objectInit, .code objectInit ⟨#[0xb1]⟩ 1 none, .arrayClass .int, .fieldLink RX0 9 "Stairflow" "roomOf" "[I", .fieldLink RX0 13 "Stairflow" "peopleAt" "[I", .fieldLink RX0 16 "Stairflow" "releaseOf" "[I", .fieldLink RX0 19 "Stairflow" "distanceOf" "[I", .fieldLink RX0 22 "Stairflow" "doorOf" "[I", .fieldLink RX0 25 "Stairflow" "oneEnd" "[I", .fieldLink RX0 28 "Stairflow" "otherEnd" "[I", .fieldLink RX0 31 "Stairflow" "flowOf" "[I", .fieldLink RX0 34 "Stairflow" "shareOf" "[I", .arrayClass .boolean, .fieldLink RX0 37 "Stairflow" "isOpen" "[Z", .fieldLink RX0 41 "Stairflow" "passedBy" "[I", .fieldLink RX0 44 "Stairflow" "sourceOf" "[I", .fieldLink RX0 47 "Stairflow" "targetOf" "[I", .fieldLink RX0 50 "Stairflow" "grantedTo" "[I", .fieldLink RX0 53 "Stairflow" "placeCount" "I", .fieldLink RX0 57 "Stairflow" "latestTime" "I"] ++ wsX00)
def wsX0_isBetween : List Cond := .code yX0_isBetween cX0_isBetween 3 (some .boolean) :: ([])
def wsX0_requireArgument : List Cond := .code yX0_requireArgument cX0_requireArgument 1 none :: ([.classLink RX0 171 "java/lang/IllegalArgumentException", .initialized "java/lang/IllegalArgumentException"] ++ (vx_atS RX0 175 "java/lang/IllegalArgumentException" ["java/lang/RuntimeException", "java/lang/Exception"]).filter goodWord)
def wsX0_requireState : List Cond := .code yX0_requireState cX0_requireState 1 none :: ([.classLink RX0 176 "java/lang/IllegalStateException", .initialized "java/lang/IllegalStateException"] ++ (vx_atS RX0 180 "java/lang/IllegalStateException" ["java/lang/RuntimeException", "java/lang/Exception"]).filter goodWord)
def wsX0_reach : List Cond := .code yX0_reach cX0_reach 4 none :: ([.fieldLink RX0 19 "Stairflow" "distanceOf" "[I"] ++ wsX00)
def wsX0_measureDistances : List Cond := .code yX0_measureDistances cX0_measureDistances 3 none :: ([.fieldLink RX0 19 "Stairflow" "distanceOf" "[I", .fieldLink RX0 53 "Stairflow" "placeCount" "I", .fieldLink RX0 78 "Stairflow" "doorCount" "I", .fieldLink RX0 37 "Stairflow" "isOpen" "[Z", .fieldLink RX0 25 "Stairflow" "oneEnd" "[I", .fieldLink RX0 28 "Stairflow" "otherEnd" "[I", .methodLink RX0 159 yX0_reach, .instanceMethod yX0_reach, .selects RX0 yX0_reach yX0_reach, .initialized RX0, .code yX0_reach cX0_reach 4 none] ++ wsX00)
def wsX0_offerDoor : List Cond := .code yX0_offerDoor cX0_offerDoor 5 none :: ([.fieldLink RX0 37 "Stairflow" "isOpen" "[Z", .fieldLink RX0 19 "Stairflow" "distanceOf" "[I", .fieldLink RX0 22 "Stairflow" "doorOf" "[I", .fieldLink RX0 44 "Stairflow" "sourceOf" "[I", .fieldLink RX0 47 "Stairflow" "targetOf" "[I"] ++ wsX00)
def wsX0_findWays : List Cond := .code yX0_findWays cX0_findWays 2 none :: ([.fieldLink RX0 53 "Stairflow" "placeCount" "I", .fieldLink RX0 22 "Stairflow" "doorOf" "[I", .fieldLink RX0 78 "Stairflow" "doorCount" "I", .fieldLink RX0 44 "Stairflow" "sourceOf" "[I", .fieldLink RX0 47 "Stairflow" "targetOf" "[I", .fieldLink RX0 25 "Stairflow" "oneEnd" "[I", .fieldLink RX0 28 "Stairflow" "otherEnd" "[I", .methodLink RX0 152 yX0_measureDistances, .instanceMethod yX0_measureDistances, .selects RX0 yX0_measureDistances yX0_measureDistances, .initialized RX0, .code yX0_measureDistances cX0_measureDistances 3 none, .fieldLink RX0 19 "Stairflow" "distanceOf" "[I", .fieldLink RX0 37 "Stairflow" "isOpen" "[Z", .methodLink RX0 159 yX0_reach, .instanceMethod yX0_reach, .selects RX0 yX0_reach yX0_reach, .code yX0_reach cX0_reach 4 none, .methodLink RX0 155 yX0_offerDoor, .instanceMethod yX0_offerDoor, .selects RX0 yX0_offerDoor yX0_offerDoor, .code yX0_offerDoor cX0_offerDoor 5 none] ++ wsX00)
def wsX0_addPlace_r1 : List Cond := [Cond.fieldLink RX0 53 "Stairflow" "placeCount" "I", Cond.fieldLink RX0 9 "Stairflow" "roomOf" "[I", Cond.methodLink RX0 60 yX0_isBetween, Cond.static yX0_isBetween, Cond.initialized RX0, Cond.code yX0_isBetween cX0_isBetween 3 (some .boolean), Cond.methodLink RX0 64 yX0_requireArgument, Cond.static yX0_requireArgument, Cond.code yX0_requireArgument cX0_requireArgument 1 none, Cond.classLink RX0 171 "java/lang/IllegalArgumentException", Cond.initialized "java/lang/IllegalArgumentException", Cond.methodLink RX0 68 yX0_requireState, Cond.static yX0_requireState, Cond.code yX0_requireState cX0_requireState 1 none, Cond.classLink RX0 176 "java/lang/IllegalStateException", Cond.initialized "java/lang/IllegalStateException", Cond.methodLink RX0 71 yX0_findWays, Cond.instanceMethod yX0_findWays, Cond.selects RX0 yX0_findWays yX0_findWays, Cond.code yX0_findWays cX0_findWays 2 none, Cond.fieldLink RX0 22 "Stairflow" "doorOf" "[I", Cond.fieldLink RX0 78 "Stairflow" "doorCount" "I", Cond.fieldLink RX0 44 "Stairflow" "sourceOf" "[I", Cond.fieldLink RX0 47 "Stairflow" "targetOf" "[I"]
def wsX0_addPlace_r2 : List Cond := [Cond.fieldLink RX0 25 "Stairflow" "oneEnd" "[I", Cond.fieldLink RX0 28 "Stairflow" "otherEnd" "[I", Cond.methodLink RX0 152 yX0_measureDistances, Cond.instanceMethod yX0_measureDistances, Cond.selects RX0 yX0_measureDistances yX0_measureDistances, Cond.code yX0_measureDistances cX0_measureDistances 3 none, Cond.fieldLink RX0 19 "Stairflow" "distanceOf" "[I", Cond.fieldLink RX0 37 "Stairflow" "isOpen" "[Z", Cond.methodLink RX0 159 yX0_reach, Cond.instanceMethod yX0_reach, Cond.selects RX0 yX0_reach yX0_reach, Cond.code yX0_reach cX0_reach 4 none, Cond.methodLink RX0 155 yX0_offerDoor, Cond.instanceMethod yX0_offerDoor, Cond.selects RX0 yX0_offerDoor yX0_offerDoor, Cond.code yX0_offerDoor cX0_offerDoor 5 none]
def wsX0_addPlace : List Cond := .code yX0_addPlace cX0_addPlace 3 (some .int) :: ((wsX0_addPlace_r1 ++ wsX0_addPlace_r2) ++ wsX00 ++ (vx_atS RX0 175 "java/lang/IllegalArgumentException" ["java/lang/RuntimeException", "java/lang/Exception"]).filter goodWord ++ (vx_atS RX0 180 "java/lang/IllegalStateException" ["java/lang/RuntimeException", "java/lang/Exception"]).filter goodWord)
def wsX0_isPlace : List Cond := .code yX0_isPlace cX0_isPlace 2 (some .boolean) :: ([.fieldLink RX0 53 "Stairflow" "placeCount" "I"] ++ wsX00)
def wsX0_requirePlace : List Cond := .code yX0_requirePlace cX0_requirePlace 2 none :: ([.classLink RX0 162 "java/lang/IndexOutOfBoundsException", .initialized "java/lang/IndexOutOfBoundsException", .methodLink RX0 148 yX0_isPlace, .instanceMethod yX0_isPlace, .selects RX0 yX0_isPlace yX0_isPlace, .initialized RX0, .code yX0_isPlace cX0_isPlace 2 (some .boolean), .fieldLink RX0 53 "Stairflow" "placeCount" "I"] ++ wsX00 ++ (vx_atS RX0 166 "java/lang/IndexOutOfBoundsException" ["java/lang/RuntimeException", "java/lang/Exception"]).filter goodWord)
def wsX0_addDoor_r1 : List Cond := [Cond.fieldLink RX0 78 "Stairflow" "doorCount" "I", Cond.fieldLink RX0 25 "Stairflow" "oneEnd" "[I", Cond.fieldLink RX0 28 "Stairflow" "otherEnd" "[I", Cond.fieldLink RX0 31 "Stairflow" "flowOf" "[I", Cond.fieldLink RX0 34 "Stairflow" "shareOf" "[I", Cond.fieldLink RX0 37 "Stairflow" "isOpen" "[Z", Cond.methodLink RX0 74 yX0_requirePlace, Cond.instanceMethod yX0_requirePlace, Cond.selects RX0 yX0_requirePlace yX0_requirePlace, Cond.initialized RX0, Cond.code yX0_requirePlace cX0_requirePlace 2 none, Cond.classLink RX0 162 "java/lang/IndexOutOfBoundsException", Cond.initialized "java/lang/IndexOutOfBoundsException", Cond.methodLink RX0 148 yX0_isPlace, Cond.instanceMethod yX0_isPlace, Cond.selects RX0 yX0_isPlace yX0_isPlace, Cond.code yX0_isPlace cX0_isPlace 2 (some .boolean), Cond.fieldLink RX0 53 "Stairflow" "placeCount" "I", Cond.methodLink RX0 60 yX0_isBetween, Cond.static yX0_isBetween, Cond.code yX0_isBetween cX0_isBetween 3 (some .boolean), Cond.methodLink RX0 64 yX0_requireArgument, Cond.static yX0_requireArgument, Cond.code yX0_requireArgument cX0_requireArgument 1 none]
def wsX0_addDoor_r2 : List Cond := [Cond.classLink RX0 171 "java/lang/IllegalArgumentException", Cond.initialized "java/lang/IllegalArgumentException", Cond.methodLink RX0 68 yX0_requireState, Cond.static yX0_requireState, Cond.code yX0_requireState cX0_requireState 1 none, Cond.classLink RX0 176 "java/lang/IllegalStateException", Cond.initialized "java/lang/IllegalStateException", Cond.methodLink RX0 71 yX0_findWays, Cond.instanceMethod yX0_findWays, Cond.selects RX0 yX0_findWays yX0_findWays, Cond.code yX0_findWays cX0_findWays 2 none, Cond.fieldLink RX0 22 "Stairflow" "doorOf" "[I", Cond.fieldLink RX0 44 "Stairflow" "sourceOf" "[I", Cond.fieldLink RX0 47 "Stairflow" "targetOf" "[I", Cond.methodLink RX0 152 yX0_measureDistances, Cond.instanceMethod yX0_measureDistances, Cond.selects RX0 yX0_measureDistances yX0_measureDistances, Cond.code yX0_measureDistances cX0_measureDistances 3 none, Cond.fieldLink RX0 19 "Stairflow" "distanceOf" "[I", Cond.methodLink RX0 159 yX0_reach, Cond.instanceMethod yX0_reach, Cond.selects RX0 yX0_reach yX0_reach, Cond.code yX0_reach cX0_reach 4 none, Cond.methodLink RX0 155 yX0_offerDoor]
def wsX0_addDoor_r3 : List Cond := [Cond.instanceMethod yX0_offerDoor, Cond.selects RX0 yX0_offerDoor yX0_offerDoor, Cond.code yX0_offerDoor cX0_offerDoor 5 none]
def wsX0_addDoor : List Cond := .code yX0_addDoor cX0_addDoor 6 (some .int) :: ((wsX0_addDoor_r1 ++ (wsX0_addDoor_r2 ++ wsX0_addDoor_r3)) ++ wsX00 ++ (vx_atS RX0 166 "java/lang/IndexOutOfBoundsException" ["java/lang/RuntimeException", "java/lang/Exception"]).filter goodWord ++ (vx_atS RX0 175 "java/lang/IllegalArgumentException" ["java/lang/RuntimeException", "java/lang/Exception"]).filter goodWord ++ (vx_atS RX0 180 "java/lang/IllegalStateException" ["java/lang/RuntimeException", "java/lang/Exception"]).filter goodWord)
def wsX0_isDoor : List Cond := .code yX0_isDoor cX0_isDoor 2 (some .boolean) :: ([.fieldLink RX0 78 "Stairflow" "doorCount" "I"] ++ wsX00)
def wsX0_requireDoor : List Cond := .code yX0_requireDoor cX0_requireDoor 2 none :: ([.classLink RX0 162 "java/lang/IndexOutOfBoundsException", .initialized "java/lang/IndexOutOfBoundsException", .methodLink RX0 108 yX0_isDoor, .instanceMethod yX0_isDoor, .selects RX0 yX0_isDoor yX0_isDoor, .initialized RX0, .code yX0_isDoor cX0_isDoor 2 (some .boolean), .fieldLink RX0 78 "Stairflow" "doorCount" "I"] ++ wsX00 ++ (vx_atS RX0 166 "java/lang/IndexOutOfBoundsException" ["java/lang/RuntimeException", "java/lang/Exception"]).filter goodWord)
def wsX0_setDoor_r1 : List Cond := [Cond.fieldLink RX0 37 "Stairflow" "isOpen" "[Z", Cond.methodLink RX0 81 yX0_requireDoor, Cond.instanceMethod yX0_requireDoor, Cond.selects RX0 yX0_requireDoor yX0_requireDoor, Cond.initialized RX0, Cond.code yX0_requireDoor cX0_requireDoor 2 none, Cond.classLink RX0 162 "java/lang/IndexOutOfBoundsException", Cond.initialized "java/lang/IndexOutOfBoundsException", Cond.methodLink RX0 108 yX0_isDoor, Cond.instanceMethod yX0_isDoor, Cond.selects RX0 yX0_isDoor yX0_isDoor, Cond.code yX0_isDoor cX0_isDoor 2 (some .boolean), Cond.fieldLink RX0 78 "Stairflow" "doorCount" "I", Cond.methodLink RX0 71 yX0_findWays, Cond.instanceMethod yX0_findWays, Cond.selects RX0 yX0_findWays yX0_findWays, Cond.code yX0_findWays cX0_findWays 2 none, Cond.fieldLink RX0 53 "Stairflow" "placeCount" "I", Cond.fieldLink RX0 22 "Stairflow" "doorOf" "[I", Cond.fieldLink RX0 44 "Stairflow" "sourceOf" "[I", Cond.fieldLink RX0 47 "Stairflow" "targetOf" "[I", Cond.fieldLink RX0 25 "Stairflow" "oneEnd" "[I", Cond.fieldLink RX0 28 "Stairflow" "otherEnd" "[I", Cond.methodLink RX0 152 yX0_measureDistances]
def wsX0_setDoor_r2 : List Cond := [Cond.instanceMethod yX0_measureDistances, Cond.selects RX0 yX0_measureDistances yX0_measureDistances, Cond.code yX0_measureDistances cX0_measureDistances 3 none, Cond.fieldLink RX0 19 "Stairflow" "distanceOf" "[I", Cond.methodLink RX0 159 yX0_reach, Cond.instanceMethod yX0_reach, Cond.selects RX0 yX0_reach yX0_reach, Cond.code yX0_reach cX0_reach 4 none, Cond.methodLink RX0 155 yX0_offerDoor, Cond.instanceMethod yX0_offerDoor, Cond.selects RX0 yX0_offerDoor yX0_offerDoor, Cond.code yX0_offerDoor cX0_offerDoor 5 none]
def wsX0_setDoor : List Cond := .code yX0_setDoor cX0_setDoor 4 (some .boolean) :: ((wsX0_setDoor_r1 ++ wsX0_setDoor_r2) ++ wsX00 ++ (vx_atS RX0 166 "java/lang/IndexOutOfBoundsException" ["java/lang/RuntimeException", "java/lang/Exception"]).filter goodWord)
def wsX0_roomLeft : List Cond := .code yX0_roomLeft cX0_roomLeft 2 (some .int) :: ([.constant RX0 151 (1000000), .fieldLink RX0 9 "Stairflow" "roomOf" "[I", .fieldLink RX0 13 "Stairflow" "peopleAt" "[I"] ++ wsX00)
def wsX0_come_r1 : List Cond := [Cond.fieldLink RX0 13 "Stairflow" "peopleAt" "[I", Cond.methodLink RX0 74 yX0_requirePlace, Cond.instanceMethod yX0_requirePlace, Cond.selects RX0 yX0_requirePlace yX0_requirePlace, Cond.initialized RX0, Cond.code yX0_requirePlace cX0_requirePlace 2 none, Cond.classLink RX0 162 "java/lang/IndexOutOfBoundsException", Cond.initialized "java/lang/IndexOutOfBoundsException", Cond.methodLink RX0 148 yX0_isPlace, Cond.instanceMethod yX0_isPlace, Cond.selects RX0 yX0_isPlace yX0_isPlace, Cond.code yX0_isPlace cX0_isPlace 2 (some .boolean), Cond.fieldLink RX0 53 "Stairflow" "placeCount" "I", Cond.methodLink RX0 60 yX0_isBetween, Cond.static yX0_isBetween, Cond.code yX0_isBetween cX0_isBetween 3 (some .boolean), Cond.methodLink RX0 64 yX0_requireArgument, Cond.static yX0_requireArgument, Cond.code yX0_requireArgument cX0_requireArgument 1 none, Cond.classLink RX0 171 "java/lang/IllegalArgumentException", Cond.initialized "java/lang/IllegalArgumentException", Cond.methodLink RX0 84 yX0_roomLeft, Cond.instanceMethod yX0_roomLeft, Cond.selects RX0 yX0_roomLeft yX0_roomLeft]
def wsX0_come_r2 : List Cond := [Cond.code yX0_roomLeft cX0_roomLeft 2 (some .int), Cond.constant RX0 151 (1000000), Cond.fieldLink RX0 9 "Stairflow" "roomOf" "[I", Cond.methodLink RX0 68 yX0_requireState, Cond.static yX0_requireState, Cond.code yX0_requireState cX0_requireState 1 none, Cond.classLink RX0 176 "java/lang/IllegalStateException", Cond.initialized "java/lang/IllegalStateException"]
def wsX0_come : List Cond := .code yX0_come cX0_come 3 (some .int) :: ((wsX0_come_r1 ++ wsX0_come_r2) ++ wsX00 ++ (vx_atS RX0 166 "java/lang/IndexOutOfBoundsException" ["java/lang/RuntimeException", "java/lang/Exception"]).filter goodWord ++ (vx_atS RX0 175 "java/lang/IllegalArgumentException" ["java/lang/RuntimeException", "java/lang/Exception"]).filter goodWord ++ (vx_atS RX0 180 "java/lang/IllegalStateException" ["java/lang/RuntimeException", "java/lang/Exception"]).filter goodWord)
def wsX0_setRelease : List Cond := .code yX0_setRelease cX0_setRelease 4 (some .int) :: ([.fieldLink RX0 16 "Stairflow" "releaseOf" "[I", .methodLink RX0 74 yX0_requirePlace, .instanceMethod yX0_requirePlace, .selects RX0 yX0_requirePlace yX0_requirePlace, .initialized RX0, .code yX0_requirePlace cX0_requirePlace 2 none, .classLink RX0 162 "java/lang/IndexOutOfBoundsException", .initialized "java/lang/IndexOutOfBoundsException", .methodLink RX0 148 yX0_isPlace, .instanceMethod yX0_isPlace, .selects RX0 yX0_isPlace yX0_isPlace, .code yX0_isPlace cX0_isPlace 2 (some .boolean), .fieldLink RX0 53 "Stairflow" "placeCount" "I", .methodLink RX0 60 yX0_isBetween, .static yX0_isBetween, .code yX0_isBetween cX0_isBetween 3 (some .boolean), .methodLink RX0 64 yX0_requireArgument, .static yX0_requireArgument, .code yX0_requireArgument cX0_requireArgument 1 none, .classLink RX0 171 "java/lang/IllegalArgumentException", .initialized "java/lang/IllegalArgumentException"] ++ wsX00 ++ (vx_atS RX0 166 "java/lang/IndexOutOfBoundsException" ["java/lang/RuntimeException", "java/lang/Exception"]).filter goodWord ++ (vx_atS RX0 175 "java/lang/IllegalArgumentException" ["java/lang/RuntimeException", "java/lang/Exception"]).filter goodWord)
def wsX0_places : List Cond := .code yX0_places cX0_places 1 (some .int) :: ([.fieldLink RX0 53 "Stairflow" "placeCount" "I"] ++ wsX00)
def wsX0_doors : List Cond := .code yX0_doors cX0_doors 1 (some .int) :: ([.fieldLink RX0 78 "Stairflow" "doorCount" "I"] ++ wsX00)
def wsX0_wishBy : List Cond := .code yX0_wishBy cX0_wishBy 3 (some .int) :: ([.fieldLink RX0 44 "Stairflow" "sourceOf" "[I", .fieldLink RX0 16 "Stairflow" "releaseOf" "[I", .fieldLink RX0 99 "Stairflow" "timeNow" "I", .fieldLink RX0 13 "Stairflow" "peopleAt" "[I", .fieldLink RX0 31 "Stairflow" "flowOf" "[I", .methodLink RX0 145 Lib.Math.min.name, .static Lib.Math.min.name, .initialized "java/lang/Math", .code Lib.Math.min.name Lib.Math.min.code 2 (some .int), .methodLink RX0 148 yX0_isPlace, .instanceMethod yX0_isPlace, .selects RX0 yX0_isPlace yX0_isPlace, .initialized RX0, .code yX0_isPlace cX0_isPlace 2 (some .boolean), .fieldLink RX0 53 "Stairflow" "placeCount" "I"] ++ wsX00)
def wsX0_grantRound : List Cond := .code yX0_grantRound cX0_grantRound 7 (some .int) :: ([.fieldLink RX0 78 "Stairflow" "doorCount" "I", .fieldLink RX0 47 "Stairflow" "targetOf" "[I", .fieldLink RX0 50 "Stairflow" "grantedTo" "[I", .fieldLink RX0 34 "Stairflow" "shareOf" "[I", .methodLink RX0 145 Lib.Math.min.name, .static Lib.Math.min.name, .initialized "java/lang/Math", .code Lib.Math.min.name Lib.Math.min.code 2 (some .int), .methodLink RX0 142 yX0_wishBy, .instanceMethod yX0_wishBy, .selects RX0 yX0_wishBy yX0_wishBy, .initialized RX0, .code yX0_wishBy cX0_wishBy 3 (some .int), .fieldLink RX0 44 "Stairflow" "sourceOf" "[I", .fieldLink RX0 16 "Stairflow" "releaseOf" "[I", .fieldLink RX0 99 "Stairflow" "timeNow" "I", .fieldLink RX0 13 "Stairflow" "peopleAt" "[I", .fieldLink RX0 31 "Stairflow" "flowOf" "[I", .methodLink RX0 148 yX0_isPlace, .instanceMethod yX0_isPlace, .selects RX0 yX0_isPlace yX0_isPlace, .code yX0_isPlace cX0_isPlace 2 (some .boolean), .fieldLink RX0 53 "Stairflow" "placeCount" "I"] ++ wsX00)
def wsX0_grantAt_r1 : List Cond := [Cond.methodLink RX0 84 yX0_roomLeft, Cond.instanceMethod yX0_roomLeft, Cond.selects RX0 yX0_roomLeft yX0_roomLeft, Cond.initialized RX0, Cond.code yX0_roomLeft cX0_roomLeft 2 (some .int), Cond.constant RX0 151 (1000000), Cond.fieldLink RX0 9 "Stairflow" "roomOf" "[I", Cond.fieldLink RX0 13 "Stairflow" "peopleAt" "[I", Cond.methodLink RX0 139 yX0_grantRound, Cond.instanceMethod yX0_grantRound, Cond.selects RX0 yX0_grantRound yX0_grantRound, Cond.code yX0_grantRound cX0_grantRound 7 (some .int), Cond.fieldLink RX0 78 "Stairflow" "doorCount" "I", Cond.fieldLink RX0 47 "Stairflow" "targetOf" "[I", Cond.fieldLink RX0 50 "Stairflow" "grantedTo" "[I", Cond.fieldLink RX0 34 "Stairflow" "shareOf" "[I", Cond.methodLink RX0 145 Lib.Math.min.name, Cond.static Lib.Math.min.name, Cond.initialized "java/lang/Math", Cond.code Lib.Math.min.name Lib.Math.min.code 2 (some .int), Cond.methodLink RX0 142 yX0_wishBy, Cond.instanceMethod yX0_wishBy, Cond.selects RX0 yX0_wishBy yX0_wishBy, Cond.code yX0_wishBy cX0_wishBy 3 (some .int)]
def wsX0_grantAt_r2 : List Cond := [Cond.fieldLink RX0 44 "Stairflow" "sourceOf" "[I", Cond.fieldLink RX0 16 "Stairflow" "releaseOf" "[I", Cond.fieldLink RX0 99 "Stairflow" "timeNow" "I", Cond.fieldLink RX0 31 "Stairflow" "flowOf" "[I", Cond.methodLink RX0 148 yX0_isPlace, Cond.instanceMethod yX0_isPlace, Cond.selects RX0 yX0_isPlace yX0_isPlace, Cond.code yX0_isPlace cX0_isPlace 2 (some .boolean), Cond.fieldLink RX0 53 "Stairflow" "placeCount" "I"]
def wsX0_grantAt : List Cond := .code yX0_grantAt cX0_grantAt 5 none :: ((wsX0_grantAt_r1 ++ wsX0_grantAt_r2) ++ wsX00)
def wsX0_grantAll_r1 : List Cond := [Cond.fieldLink RX0 78 "Stairflow" "doorCount" "I", Cond.fieldLink RX0 50 "Stairflow" "grantedTo" "[I", Cond.fieldLink RX0 53 "Stairflow" "placeCount" "I", Cond.methodLink RX0 136 yX0_grantAt, Cond.instanceMethod yX0_grantAt, Cond.selects RX0 yX0_grantAt yX0_grantAt, Cond.initialized RX0, Cond.code yX0_grantAt cX0_grantAt 5 none, Cond.methodLink RX0 84 yX0_roomLeft, Cond.instanceMethod yX0_roomLeft, Cond.selects RX0 yX0_roomLeft yX0_roomLeft, Cond.code yX0_roomLeft cX0_roomLeft 2 (some .int), Cond.constant RX0 151 (1000000), Cond.fieldLink RX0 9 "Stairflow" "roomOf" "[I", Cond.fieldLink RX0 13 "Stairflow" "peopleAt" "[I", Cond.methodLink RX0 139 yX0_grantRound, Cond.instanceMethod yX0_grantRound, Cond.selects RX0 yX0_grantRound yX0_grantRound, Cond.code yX0_grantRound cX0_grantRound 7 (some .int), Cond.fieldLink RX0 47 "Stairflow" "targetOf" "[I", Cond.fieldLink RX0 34 "Stairflow" "shareOf" "[I", Cond.methodLink RX0 145 Lib.Math.min.name, Cond.static Lib.Math.min.name, Cond.initialized "java/lang/Math"]
def wsX0_grantAll_r2 : List Cond := [Cond.code Lib.Math.min.name Lib.Math.min.code 2 (some .int), Cond.methodLink RX0 142 yX0_wishBy, Cond.instanceMethod yX0_wishBy, Cond.selects RX0 yX0_wishBy yX0_wishBy, Cond.code yX0_wishBy cX0_wishBy 3 (some .int), Cond.fieldLink RX0 44 "Stairflow" "sourceOf" "[I", Cond.fieldLink RX0 16 "Stairflow" "releaseOf" "[I", Cond.fieldLink RX0 99 "Stairflow" "timeNow" "I", Cond.fieldLink RX0 31 "Stairflow" "flowOf" "[I", Cond.methodLink RX0 148 yX0_isPlace, Cond.instanceMethod yX0_isPlace, Cond.selects RX0 yX0_isPlace yX0_isPlace, Cond.code yX0_isPlace cX0_isPlace 2 (some .boolean)]
def wsX0_grantAll : List Cond := .code yX0_grantAll cX0_grantAll 2 none :: ((wsX0_grantAll_r1 ++ wsX0_grantAll_r2) ++ wsX00)
def wsX0_moveGranted : List Cond := .code yX0_moveGranted cX0_moveGranted 5 (some .int) :: ([.fieldLink RX0 78 "Stairflow" "doorCount" "I", .fieldLink RX0 44 "Stairflow" "sourceOf" "[I", .fieldLink RX0 47 "Stairflow" "targetOf" "[I", .fieldLink RX0 13 "Stairflow" "peopleAt" "[I", .fieldLink RX0 50 "Stairflow" "grantedTo" "[I", .fieldLink RX0 41 "Stairflow" "passedBy" "[I", .methodLink RX0 148 yX0_isPlace, .instanceMethod yX0_isPlace, .selects RX0 yX0_isPlace yX0_isPlace, .initialized RX0, .code yX0_isPlace cX0_isPlace 2 (some .boolean), .fieldLink RX0 53 "Stairflow" "placeCount" "I"] ++ wsX00)
def wsX0_inside : List Cond := .code yX0_inside cX0_inside 3 (some .int) :: ([.fieldLink RX0 53 "Stairflow" "placeCount" "I", .fieldLink RX0 13 "Stairflow" "peopleAt" "[I"] ++ wsX00)
def wsX0_passOneStep_r1 : List Cond := [Cond.fieldLink RX0 13 "Stairflow" "peopleAt" "[I", Cond.fieldLink RX0 99 "Stairflow" "timeNow" "I", Cond.fieldLink RX0 57 "Stairflow" "latestTime" "I", Cond.fieldLink RX0 105 "Stairflow" "waitedSum" "I", Cond.methodLink RX0 112 yX0_grantAll, Cond.instanceMethod yX0_grantAll, Cond.selects RX0 yX0_grantAll yX0_grantAll, Cond.initialized RX0, Cond.code yX0_grantAll cX0_grantAll 2 none, Cond.fieldLink RX0 78 "Stairflow" "doorCount" "I", Cond.fieldLink RX0 50 "Stairflow" "grantedTo" "[I", Cond.fieldLink RX0 53 "Stairflow" "placeCount" "I", Cond.methodLink RX0 136 yX0_grantAt, Cond.instanceMethod yX0_grantAt, Cond.selects RX0 yX0_grantAt yX0_grantAt, Cond.code yX0_grantAt cX0_grantAt 5 none, Cond.methodLink RX0 84 yX0_roomLeft, Cond.instanceMethod yX0_roomLeft, Cond.selects RX0 yX0_roomLeft yX0_roomLeft, Cond.code yX0_roomLeft cX0_roomLeft 2 (some .int), Cond.constant RX0 151 (1000000), Cond.fieldLink RX0 9 "Stairflow" "roomOf" "[I", Cond.methodLink RX0 139 yX0_grantRound, Cond.instanceMethod yX0_grantRound]
def wsX0_passOneStep_r2 : List Cond := [Cond.selects RX0 yX0_grantRound yX0_grantRound, Cond.code yX0_grantRound cX0_grantRound 7 (some .int), Cond.fieldLink RX0 47 "Stairflow" "targetOf" "[I", Cond.fieldLink RX0 34 "Stairflow" "shareOf" "[I", Cond.methodLink RX0 145 Lib.Math.min.name, Cond.static Lib.Math.min.name, Cond.initialized "java/lang/Math", Cond.code Lib.Math.min.name Lib.Math.min.code 2 (some .int), Cond.methodLink RX0 142 yX0_wishBy, Cond.instanceMethod yX0_wishBy, Cond.selects RX0 yX0_wishBy yX0_wishBy, Cond.code yX0_wishBy cX0_wishBy 3 (some .int), Cond.fieldLink RX0 44 "Stairflow" "sourceOf" "[I", Cond.fieldLink RX0 16 "Stairflow" "releaseOf" "[I", Cond.fieldLink RX0 31 "Stairflow" "flowOf" "[I", Cond.methodLink RX0 148 yX0_isPlace, Cond.instanceMethod yX0_isPlace, Cond.selects RX0 yX0_isPlace yX0_isPlace, Cond.code yX0_isPlace cX0_isPlace 2 (some .boolean), Cond.methodLink RX0 133 yX0_moveGranted, Cond.instanceMethod yX0_moveGranted, Cond.selects RX0 yX0_moveGranted yX0_moveGranted, Cond.code yX0_moveGranted cX0_moveGranted 5 (some .int), Cond.fieldLink RX0 41 "Stairflow" "passedBy" "[I"]
def wsX0_passOneStep_r3 : List Cond := [Cond.methodLink RX0 92 yX0_inside, Cond.instanceMethod yX0_inside, Cond.selects RX0 yX0_inside yX0_inside, Cond.code yX0_inside cX0_inside 3 (some .int)]
def wsX0_passOneStep : List Cond := .code yX0_passOneStep cX0_passOneStep 3 (some .int) :: ((wsX0_passOneStep_r1 ++ (wsX0_passOneStep_r2 ++ wsX0_passOneStep_r3)) ++ wsX00)
def wsX0_step_r1 : List Cond := [Cond.fieldLink RX0 13 "Stairflow" "peopleAt" "[I", Cond.methodLink RX0 60 yX0_isBetween, Cond.static yX0_isBetween, Cond.initialized RX0, Cond.code yX0_isBetween cX0_isBetween 3 (some .boolean), Cond.methodLink RX0 64 yX0_requireArgument, Cond.static yX0_requireArgument, Cond.code yX0_requireArgument cX0_requireArgument 1 none, Cond.classLink RX0 171 "java/lang/IllegalArgumentException", Cond.initialized "java/lang/IllegalArgumentException", Cond.methodLink RX0 88 yX0_passOneStep, Cond.instanceMethod yX0_passOneStep, Cond.selects RX0 yX0_passOneStep yX0_passOneStep, Cond.code yX0_passOneStep cX0_passOneStep 3 (some .int), Cond.fieldLink RX0 99 "Stairflow" "timeNow" "I", Cond.fieldLink RX0 57 "Stairflow" "latestTime" "I", Cond.fieldLink RX0 105 "Stairflow" "waitedSum" "I", Cond.methodLink RX0 112 yX0_grantAll, Cond.instanceMethod yX0_grantAll, Cond.selects RX0 yX0_grantAll yX0_grantAll, Cond.code yX0_grantAll cX0_grantAll 2 none, Cond.fieldLink RX0 78 "Stairflow" "doorCount" "I", Cond.fieldLink RX0 50 "Stairflow" "grantedTo" "[I", Cond.fieldLink RX0 53 "Stairflow" "placeCount" "I"]
def wsX0_step_r2 : List Cond := [Cond.methodLink RX0 136 yX0_grantAt, Cond.instanceMethod yX0_grantAt, Cond.selects RX0 yX0_grantAt yX0_grantAt, Cond.code yX0_grantAt cX0_grantAt 5 none, Cond.methodLink RX0 84 yX0_roomLeft, Cond.instanceMethod yX0_roomLeft, Cond.selects RX0 yX0_roomLeft yX0_roomLeft, Cond.code yX0_roomLeft cX0_roomLeft 2 (some .int), Cond.constant RX0 151 (1000000), Cond.fieldLink RX0 9 "Stairflow" "roomOf" "[I", Cond.methodLink RX0 139 yX0_grantRound, Cond.instanceMethod yX0_grantRound, Cond.selects RX0 yX0_grantRound yX0_grantRound, Cond.code yX0_grantRound cX0_grantRound 7 (some .int), Cond.fieldLink RX0 47 "Stairflow" "targetOf" "[I", Cond.fieldLink RX0 34 "Stairflow" "shareOf" "[I", Cond.methodLink RX0 145 Lib.Math.min.name, Cond.static Lib.Math.min.name, Cond.initialized "java/lang/Math", Cond.code Lib.Math.min.name Lib.Math.min.code 2 (some .int), Cond.methodLink RX0 142 yX0_wishBy, Cond.instanceMethod yX0_wishBy, Cond.selects RX0 yX0_wishBy yX0_wishBy, Cond.code yX0_wishBy cX0_wishBy 3 (some .int)]
def wsX0_step_r3 : List Cond := [Cond.fieldLink RX0 44 "Stairflow" "sourceOf" "[I", Cond.fieldLink RX0 16 "Stairflow" "releaseOf" "[I", Cond.fieldLink RX0 31 "Stairflow" "flowOf" "[I", Cond.methodLink RX0 148 yX0_isPlace, Cond.instanceMethod yX0_isPlace, Cond.selects RX0 yX0_isPlace yX0_isPlace, Cond.code yX0_isPlace cX0_isPlace 2 (some .boolean), Cond.methodLink RX0 133 yX0_moveGranted, Cond.instanceMethod yX0_moveGranted, Cond.selects RX0 yX0_moveGranted yX0_moveGranted, Cond.code yX0_moveGranted cX0_moveGranted 5 (some .int), Cond.fieldLink RX0 41 "Stairflow" "passedBy" "[I", Cond.methodLink RX0 92 yX0_inside, Cond.instanceMethod yX0_inside, Cond.selects RX0 yX0_inside yX0_inside, Cond.code yX0_inside cX0_inside 3 (some .int)]
def wsX0_step : List Cond := .code yX0_step cX0_step 4 (some .int) :: ((wsX0_step_r1 ++ (wsX0_step_r2 ++ wsX0_step_r3)) ++ wsX00 ++ (vx_atS RX0 175 "java/lang/IllegalArgumentException" ["java/lang/RuntimeException", "java/lang/Exception"]).filter goodWord)
def wsX0_areAllReleased : List Cond := .code yX0_areAllReleased cX0_areAllReleased 2 (some .boolean) :: ([.fieldLink RX0 53 "Stairflow" "placeCount" "I", .fieldLink RX0 16 "Stairflow" "releaseOf" "[I", .fieldLink RX0 99 "Stairflow" "timeNow" "I"] ++ wsX00)
def wsX0_clear_r1 : List Cond := [Cond.methodLink RX0 92 yX0_inside, Cond.instanceMethod yX0_inside, Cond.selects RX0 yX0_inside yX0_inside, Cond.initialized RX0, Cond.code yX0_inside cX0_inside 3 (some .int), Cond.fieldLink RX0 53 "Stairflow" "placeCount" "I", Cond.fieldLink RX0 13 "Stairflow" "peopleAt" "[I", Cond.methodLink RX0 95 yX0_areAllReleased, Cond.instanceMethod yX0_areAllReleased, Cond.selects RX0 yX0_areAllReleased yX0_areAllReleased, Cond.code yX0_areAllReleased cX0_areAllReleased 2 (some .boolean), Cond.fieldLink RX0 16 "Stairflow" "releaseOf" "[I", Cond.fieldLink RX0 99 "Stairflow" "timeNow" "I", Cond.methodLink RX0 88 yX0_passOneStep, Cond.instanceMethod yX0_passOneStep, Cond.selects RX0 yX0_passOneStep yX0_passOneStep, Cond.code yX0_passOneStep cX0_passOneStep 3 (some .int), Cond.fieldLink RX0 57 "Stairflow" "latestTime" "I", Cond.fieldLink RX0 105 "Stairflow" "waitedSum" "I", Cond.methodLink RX0 112 yX0_grantAll, Cond.instanceMethod yX0_grantAll, Cond.selects RX0 yX0_grantAll yX0_grantAll, Cond.code yX0_grantAll cX0_grantAll 2 none, Cond.fieldLink RX0 78 "Stairflow" "doorCount" "I"]
def wsX0_clear_r2 : List Cond := [Cond.fieldLink RX0 50 "Stairflow" "grantedTo" "[I", Cond.methodLink RX0 136 yX0_grantAt, Cond.instanceMethod yX0_grantAt, Cond.selects RX0 yX0_grantAt yX0_grantAt, Cond.code yX0_grantAt cX0_grantAt 5 none, Cond.methodLink RX0 84 yX0_roomLeft, Cond.instanceMethod yX0_roomLeft, Cond.selects RX0 yX0_roomLeft yX0_roomLeft, Cond.code yX0_roomLeft cX0_roomLeft 2 (some .int), Cond.constant RX0 151 (1000000), Cond.fieldLink RX0 9 "Stairflow" "roomOf" "[I", Cond.methodLink RX0 139 yX0_grantRound, Cond.instanceMethod yX0_grantRound, Cond.selects RX0 yX0_grantRound yX0_grantRound, Cond.code yX0_grantRound cX0_grantRound 7 (some .int), Cond.fieldLink RX0 47 "Stairflow" "targetOf" "[I", Cond.fieldLink RX0 34 "Stairflow" "shareOf" "[I", Cond.methodLink RX0 145 Lib.Math.min.name, Cond.static Lib.Math.min.name, Cond.initialized "java/lang/Math", Cond.code Lib.Math.min.name Lib.Math.min.code 2 (some .int), Cond.methodLink RX0 142 yX0_wishBy, Cond.instanceMethod yX0_wishBy, Cond.selects RX0 yX0_wishBy yX0_wishBy]
def wsX0_clear_r3 : List Cond := [Cond.code yX0_wishBy cX0_wishBy 3 (some .int), Cond.fieldLink RX0 44 "Stairflow" "sourceOf" "[I", Cond.fieldLink RX0 31 "Stairflow" "flowOf" "[I", Cond.methodLink RX0 148 yX0_isPlace, Cond.instanceMethod yX0_isPlace, Cond.selects RX0 yX0_isPlace yX0_isPlace, Cond.code yX0_isPlace cX0_isPlace 2 (some .boolean), Cond.methodLink RX0 133 yX0_moveGranted, Cond.instanceMethod yX0_moveGranted, Cond.selects RX0 yX0_moveGranted yX0_moveGranted, Cond.code yX0_moveGranted cX0_moveGranted 5 (some .int), Cond.fieldLink RX0 41 "Stairflow" "passedBy" "[I"]
def wsX0_clear : List Cond := .code yX0_clear cX0_clear 5 (some .int) :: ((wsX0_clear_r1 ++ (wsX0_clear_r2 ++ wsX0_clear_r3)) ++ wsX00)
def wsX0_now : List Cond := .code yX0_now cX0_now 1 (some .int) :: ([.fieldLink RX0 99 "Stairflow" "timeNow" "I"] ++ wsX00)
def wsX0_people : List Cond := .code yX0_people cX0_people 2 (some .int) :: ([.fieldLink RX0 13 "Stairflow" "peopleAt" "[I", .methodLink RX0 74 yX0_requirePlace, .instanceMethod yX0_requirePlace, .selects RX0 yX0_requirePlace yX0_requirePlace, .initialized RX0, .code yX0_requirePlace cX0_requirePlace 2 none, .classLink RX0 162 "java/lang/IndexOutOfBoundsException", .initialized "java/lang/IndexOutOfBoundsException", .methodLink RX0 148 yX0_isPlace, .instanceMethod yX0_isPlace, .selects RX0 yX0_isPlace yX0_isPlace, .code yX0_isPlace cX0_isPlace 2 (some .boolean), .fieldLink RX0 53 "Stairflow" "placeCount" "I"] ++ wsX00 ++ (vx_atS RX0 166 "java/lang/IndexOutOfBoundsException" ["java/lang/RuntimeException", "java/lang/Exception"]).filter goodWord)
def wsX0_requireElement : List Cond := .code yX0_requireElement cX0_requireElement 1 none :: ([.classLink RX0 181 "java/util/NoSuchElementException", .initialized "java/util/NoSuchElementException"] ++ (gNSat).filter goodWord)
def wsX0_latest : List Cond := .code yX0_latest cX0_latest 1 (some .int) :: ([.fieldLink RX0 57 "Stairflow" "latestTime" "I", .methodLink RX0 102 yX0_requireElement, .static yX0_requireElement, .initialized RX0, .code yX0_requireElement cX0_requireElement 1 none, .classLink RX0 181 "java/util/NoSuchElementException", .initialized "java/util/NoSuchElementException"] ++ wsX00 ++ (gNSat).filter goodWord)
def wsX0_passed : List Cond := .code yX0_passed cX0_passed 2 (some .int) :: ([.fieldLink RX0 41 "Stairflow" "passedBy" "[I", .methodLink RX0 81 yX0_requireDoor, .instanceMethod yX0_requireDoor, .selects RX0 yX0_requireDoor yX0_requireDoor, .initialized RX0, .code yX0_requireDoor cX0_requireDoor 2 none, .classLink RX0 162 "java/lang/IndexOutOfBoundsException", .initialized "java/lang/IndexOutOfBoundsException", .methodLink RX0 108 yX0_isDoor, .instanceMethod yX0_isDoor, .selects RX0 yX0_isDoor yX0_isDoor, .code yX0_isDoor cX0_isDoor 2 (some .boolean), .fieldLink RX0 78 "Stairflow" "doorCount" "I"] ++ wsX00 ++ (vx_atS RX0 166 "java/lang/IndexOutOfBoundsException" ["java/lang/RuntimeException", "java/lang/Exception"]).filter goodWord)
def wsX0_waited : List Cond := .code yX0_waited cX0_waited 1 (some .int) :: ([.fieldLink RX0 105 "Stairflow" "waitedSum" "I"] ++ wsX00)
def wsX0_distance : List Cond := .code yX0_distance cX0_distance 2 (some .int) :: ([.fieldLink RX0 19 "Stairflow" "distanceOf" "[I", .methodLink RX0 74 yX0_requirePlace, .instanceMethod yX0_requirePlace, .selects RX0 yX0_requirePlace yX0_requirePlace, .initialized RX0, .code yX0_requirePlace cX0_requirePlace 2 none, .classLink RX0 162 "java/lang/IndexOutOfBoundsException", .initialized "java/lang/IndexOutOfBoundsException", .methodLink RX0 148 yX0_isPlace, .instanceMethod yX0_isPlace, .selects RX0 yX0_isPlace yX0_isPlace, .code yX0_isPlace cX0_isPlace 2 (some .boolean), .fieldLink RX0 53 "Stairflow" "placeCount" "I", .methodLink RX0 102 yX0_requireElement, .static yX0_requireElement, .code yX0_requireElement cX0_requireElement 1 none, .classLink RX0 181 "java/util/NoSuchElementException", .initialized "java/util/NoSuchElementException"] ++ wsX00 ++ (vx_atS RX0 166 "java/lang/IndexOutOfBoundsException" ["java/lang/RuntimeException", "java/lang/Exception"]).filter goodWord ++ (gNSat).filter goodWord)
def wsX0_door : List Cond := .code yX0_door cX0_door 2 (some .int) :: ([.fieldLink RX0 22 "Stairflow" "doorOf" "[I", .methodLink RX0 74 yX0_requirePlace, .instanceMethod yX0_requirePlace, .selects RX0 yX0_requirePlace yX0_requirePlace, .initialized RX0, .code yX0_requirePlace cX0_requirePlace 2 none, .classLink RX0 162 "java/lang/IndexOutOfBoundsException", .initialized "java/lang/IndexOutOfBoundsException", .methodLink RX0 148 yX0_isPlace, .instanceMethod yX0_isPlace, .selects RX0 yX0_isPlace yX0_isPlace, .code yX0_isPlace cX0_isPlace 2 (some .boolean), .fieldLink RX0 53 "Stairflow" "placeCount" "I", .methodLink RX0 102 yX0_requireElement, .static yX0_requireElement, .code yX0_requireElement cX0_requireElement 1 none, .classLink RX0 181 "java/util/NoSuchElementException", .initialized "java/util/NoSuchElementException"] ++ wsX00 ++ (vx_atS RX0 166 "java/lang/IndexOutOfBoundsException" ["java/lang/RuntimeException", "java/lang/Exception"]).filter goodWord ++ (gNSat).filter goodWord)
def wsX0_trapped : List Cond := .code yX0_trapped cX0_trapped 3 (some .int) :: ([.fieldLink RX0 53 "Stairflow" "placeCount" "I", .fieldLink RX0 19 "Stairflow" "distanceOf" "[I", .fieldLink RX0 13 "Stairflow" "peopleAt" "[I"] ++ wsX00)
def wsX0_wouldMove_r1 : List Cond := [Cond.fieldLink RX0 22 "Stairflow" "doorOf" "[I", Cond.fieldLink RX0 50 "Stairflow" "grantedTo" "[I", Cond.methodLink RX0 74 yX0_requirePlace, Cond.instanceMethod yX0_requirePlace, Cond.selects RX0 yX0_requirePlace yX0_requirePlace, Cond.initialized RX0, Cond.code yX0_requirePlace cX0_requirePlace 2 none, Cond.classLink RX0 162 "java/lang/IndexOutOfBoundsException", Cond.initialized "java/lang/IndexOutOfBoundsException", Cond.methodLink RX0 148 yX0_isPlace, Cond.instanceMethod yX0_isPlace, Cond.selects RX0 yX0_isPlace yX0_isPlace, Cond.code yX0_isPlace cX0_isPlace 2 (some .boolean), Cond.fieldLink RX0 53 "Stairflow" "placeCount" "I", Cond.methodLink RX0 108 yX0_isDoor, Cond.instanceMethod yX0_isDoor, Cond.selects RX0 yX0_isDoor yX0_isDoor, Cond.code yX0_isDoor cX0_isDoor 2 (some .boolean), Cond.fieldLink RX0 78 "Stairflow" "doorCount" "I", Cond.methodLink RX0 112 yX0_grantAll, Cond.instanceMethod yX0_grantAll, Cond.selects RX0 yX0_grantAll yX0_grantAll, Cond.code yX0_grantAll cX0_grantAll 2 none, Cond.methodLink RX0 136 yX0_grantAt]
def wsX0_wouldMove_r2 : List Cond := [Cond.instanceMethod yX0_grantAt, Cond.selects RX0 yX0_grantAt yX0_grantAt, Cond.code yX0_grantAt cX0_grantAt 5 none, Cond.methodLink RX0 84 yX0_roomLeft, Cond.instanceMethod yX0_roomLeft, Cond.selects RX0 yX0_roomLeft yX0_roomLeft, Cond.code yX0_roomLeft cX0_roomLeft 2 (some .int), Cond.constant RX0 151 (1000000), Cond.fieldLink RX0 9 "Stairflow" "roomOf" "[I", Cond.fieldLink RX0 13 "Stairflow" "peopleAt" "[I", Cond.methodLink RX0 139 yX0_grantRound, Cond.instanceMethod yX0_grantRound, Cond.selects RX0 yX0_grantRound yX0_grantRound, Cond.code yX0_grantRound cX0_grantRound 7 (some .int), Cond.fieldLink RX0 47 "Stairflow" "targetOf" "[I", Cond.fieldLink RX0 34 "Stairflow" "shareOf" "[I", Cond.methodLink RX0 145 Lib.Math.min.name, Cond.static Lib.Math.min.name, Cond.initialized "java/lang/Math", Cond.code Lib.Math.min.name Lib.Math.min.code 2 (some .int), Cond.methodLink RX0 142 yX0_wishBy, Cond.instanceMethod yX0_wishBy, Cond.selects RX0 yX0_wishBy yX0_wishBy, Cond.code yX0_wishBy cX0_wishBy 3 (some .int)]
def wsX0_wouldMove_r3 : List Cond := [Cond.fieldLink RX0 44 "Stairflow" "sourceOf" "[I", Cond.fieldLink RX0 16 "Stairflow" "releaseOf" "[I", Cond.fieldLink RX0 99 "Stairflow" "timeNow" "I", Cond.fieldLink RX0 31 "Stairflow" "flowOf" "[I"]
def wsX0_wouldMove : List Cond := .code yX0_wouldMove cX0_wouldMove 3 (some .int) :: ((wsX0_wouldMove_r1 ++ (wsX0_wouldMove_r2 ++ wsX0_wouldMove_r3)) ++ wsX00 ++ (vx_atS RX0 166 "java/lang/IndexOutOfBoundsException" ["java/lang/RuntimeException", "java/lang/Exception"]).filter goodWord)
def wsX0_peopleFrom : List Cond := .code yX0_peopleFrom cX0_peopleFrom 4 (some .int) :: ([.fieldLink RX0 53 "Stairflow" "placeCount" "I", .fieldLink RX0 19 "Stairflow" "distanceOf" "[I", .fieldLink RX0 13 "Stairflow" "peopleAt" "[I"] ++ wsX00)
def wsX0_flowInward : List Cond := .code yX0_flowInward cX0_flowInward 7 (some .int) :: ([.fieldLink RX0 78 "Stairflow" "doorCount" "I", .fieldLink RX0 19 "Stairflow" "distanceOf" "[I", .fieldLink RX0 25 "Stairflow" "oneEnd" "[I", .fieldLink RX0 28 "Stairflow" "otherEnd" "[I", .fieldLink RX0 37 "Stairflow" "isOpen" "[Z", .fieldLink RX0 31 "Stairflow" "flowOf" "[I"] ++ wsX00)
def wsX0_boundAt : List Cond := .code yX0_boundAt cX0_boundAt 4 (some .int) :: ([.methodLink RX0 127 yX0_peopleFrom, .instanceMethod yX0_peopleFrom, .selects RX0 yX0_peopleFrom yX0_peopleFrom, .initialized RX0, .code yX0_peopleFrom cX0_peopleFrom 4 (some .int), .fieldLink RX0 53 "Stairflow" "placeCount" "I", .fieldLink RX0 19 "Stairflow" "distanceOf" "[I", .fieldLink RX0 13 "Stairflow" "peopleAt" "[I", .methodLink RX0 130 yX0_flowInward, .instanceMethod yX0_flowInward, .selects RX0 yX0_flowInward yX0_flowInward, .code yX0_flowInward cX0_flowInward 7 (some .int), .fieldLink RX0 78 "Stairflow" "doorCount" "I", .fieldLink RX0 25 "Stairflow" "oneEnd" "[I", .fieldLink RX0 28 "Stairflow" "otherEnd" "[I", .fieldLink RX0 37 "Stairflow" "isOpen" "[Z", .fieldLink RX0 31 "Stairflow" "flowOf" "[I"] ++ wsX00)
def wsX0_bound_r1 : List Cond := [Cond.fieldLink RX0 53 "Stairflow" "placeCount" "I", Cond.methodLink RX0 121 Lib.Math.max.name, Cond.static Lib.Math.max.name, Cond.initialized "java/lang/Math", Cond.code Lib.Math.max.name Lib.Math.max.code 2 (some .int), Cond.methodLink RX0 115 yX0_trapped, Cond.instanceMethod yX0_trapped, Cond.selects RX0 yX0_trapped yX0_trapped, Cond.initialized RX0, Cond.code yX0_trapped cX0_trapped 3 (some .int), Cond.fieldLink RX0 19 "Stairflow" "distanceOf" "[I", Cond.fieldLink RX0 13 "Stairflow" "peopleAt" "[I", Cond.methodLink RX0 68 yX0_requireState, Cond.static yX0_requireState, Cond.code yX0_requireState cX0_requireState 1 none, Cond.classLink RX0 176 "java/lang/IllegalStateException", Cond.initialized "java/lang/IllegalStateException", Cond.methodLink RX0 118 yX0_boundAt, Cond.instanceMethod yX0_boundAt, Cond.selects RX0 yX0_boundAt yX0_boundAt, Cond.code yX0_boundAt cX0_boundAt 4 (some .int), Cond.methodLink RX0 127 yX0_peopleFrom, Cond.instanceMethod yX0_peopleFrom, Cond.selects RX0 yX0_peopleFrom yX0_peopleFrom]
def wsX0_bound_r2 : List Cond := [Cond.code yX0_peopleFrom cX0_peopleFrom 4 (some .int), Cond.methodLink RX0 130 yX0_flowInward, Cond.instanceMethod yX0_flowInward, Cond.selects RX0 yX0_flowInward yX0_flowInward, Cond.code yX0_flowInward cX0_flowInward 7 (some .int), Cond.fieldLink RX0 78 "Stairflow" "doorCount" "I", Cond.fieldLink RX0 25 "Stairflow" "oneEnd" "[I", Cond.fieldLink RX0 28 "Stairflow" "otherEnd" "[I", Cond.fieldLink RX0 37 "Stairflow" "isOpen" "[Z", Cond.fieldLink RX0 31 "Stairflow" "flowOf" "[I"]
def wsX0_bound : List Cond := .code yX0_bound cX0_bound 3 (some .int) :: ((wsX0_bound_r1 ++ wsX0_bound_r2) ++ wsX00 ++ (vx_atS RX0 180 "java/lang/IllegalStateException" ["java/lang/RuntimeException", "java/lang/Exception"]).filter goodWord)
def wsJ9_max_7cf53 : List Cond := .code yJ9_max_7cf53 cJ9_max_7cf53 2 (some .int) :: ([])
def wsJ9_min_7cf53 : List Cond := .code yJ9_min_7cf53 cJ9_min_7cf53 2 (some .int) :: ([])
def wsL_cell : List Cond := .code yL_cell cL_cell 2 (some .int) :: ([])
def wsL_low : List Cond := .code yL_low cL_low 2 (some .int) :: ([.constant RL 7 (2147483647)])
def wsL_addPlace_r1 : List Cond := [Cond.classLink RL 14 "java/lang/IllegalArgumentException", Cond.classLink RL 17 "java/lang/IllegalStateException", Cond.constant RL 16 (-99999), Cond.methodLink RL 8 yX0_addPlace, Cond.instanceMethod yX0_addPlace, Cond.selects RX0 yX0_addPlace yX0_addPlace, Cond.initialized RX0, Cond.code yX0_addPlace cX0_addPlace 3 (some .int), Cond.fieldLink RX0 53 "Stairflow" "placeCount" "I", Cond.fieldLink RX0 9 "Stairflow" "roomOf" "[I", Cond.methodLink RX0 60 yX0_isBetween, Cond.static yX0_isBetween, Cond.code yX0_isBetween cX0_isBetween 3 (some .boolean), Cond.methodLink RX0 64 yX0_requireArgument, Cond.static yX0_requireArgument, Cond.code yX0_requireArgument cX0_requireArgument 1 none, Cond.classLink RX0 171 "java/lang/IllegalArgumentException", Cond.initialized "java/lang/IllegalArgumentException", Cond.methodLink RX0 68 yX0_requireState, Cond.static yX0_requireState, Cond.code yX0_requireState cX0_requireState 1 none, Cond.classLink RX0 176 "java/lang/IllegalStateException", Cond.initialized "java/lang/IllegalStateException", Cond.methodLink RX0 71 yX0_findWays]
def wsL_addPlace_r2 : List Cond := [Cond.instanceMethod yX0_findWays, Cond.selects RX0 yX0_findWays yX0_findWays, Cond.code yX0_findWays cX0_findWays 2 none, Cond.fieldLink RX0 22 "Stairflow" "doorOf" "[I", Cond.fieldLink RX0 78 "Stairflow" "doorCount" "I", Cond.fieldLink RX0 44 "Stairflow" "sourceOf" "[I", Cond.fieldLink RX0 47 "Stairflow" "targetOf" "[I", Cond.fieldLink RX0 25 "Stairflow" "oneEnd" "[I", Cond.fieldLink RX0 28 "Stairflow" "otherEnd" "[I", Cond.methodLink RX0 152 yX0_measureDistances, Cond.instanceMethod yX0_measureDistances, Cond.selects RX0 yX0_measureDistances yX0_measureDistances, Cond.code yX0_measureDistances cX0_measureDistances 3 none, Cond.fieldLink RX0 19 "Stairflow" "distanceOf" "[I", Cond.fieldLink RX0 37 "Stairflow" "isOpen" "[Z", Cond.methodLink RX0 159 yX0_reach, Cond.instanceMethod yX0_reach, Cond.selects RX0 yX0_reach yX0_reach, Cond.code yX0_reach cX0_reach 4 none, Cond.methodLink RX0 155 yX0_offerDoor, Cond.instanceMethod yX0_offerDoor, Cond.selects RX0 yX0_offerDoor yX0_offerDoor, Cond.code yX0_offerDoor cX0_offerDoor 5 none]
def wsL_addPlace : List Cond := .codeWith yL_addPlace cL_addPlace 3 (some .int) [(0, 5, 6, 14), (0, 5, 10, 17)] :: ((wsL_addPlace_r1 ++ wsL_addPlace_r2) ++ wsX00 ++ (vx_atS RX0 175 "java/lang/IllegalArgumentException" ["java/lang/RuntimeException", "java/lang/Exception"]).filter goodWord ++ (vx_atS RX0 180 "java/lang/IllegalStateException" ["java/lang/RuntimeException", "java/lang/Exception"]).filter goodWord)
def wsL_addDoor_r1 : List Cond := [Cond.classLink RL 23 "java/lang/IndexOutOfBoundsException", Cond.classLink RL 14 "java/lang/IllegalArgumentException", Cond.classLink RL 17 "java/lang/IllegalStateException", Cond.constant RL 16 (-99999), Cond.methodLink RL 19 yX0_addDoor, Cond.instanceMethod yX0_addDoor, Cond.selects RX0 yX0_addDoor yX0_addDoor, Cond.initialized RX0, Cond.code yX0_addDoor cX0_addDoor 6 (some .int), Cond.fieldLink RX0 78 "Stairflow" "doorCount" "I", Cond.fieldLink RX0 25 "Stairflow" "oneEnd" "[I", Cond.fieldLink RX0 28 "Stairflow" "otherEnd" "[I", Cond.fieldLink RX0 31 "Stairflow" "flowOf" "[I", Cond.fieldLink RX0 34 "Stairflow" "shareOf" "[I", Cond.fieldLink RX0 37 "Stairflow" "isOpen" "[Z", Cond.methodLink RX0 74 yX0_requirePlace, Cond.instanceMethod yX0_requirePlace, Cond.selects RX0 yX0_requirePlace yX0_requirePlace, Cond.code yX0_requirePlace cX0_requirePlace 2 none, Cond.classLink RX0 162 "java/lang/IndexOutOfBoundsException", Cond.initialized "java/lang/IndexOutOfBoundsException", Cond.methodLink RX0 148 yX0_isPlace, Cond.instanceMethod yX0_isPlace, Cond.selects RX0 yX0_isPlace yX0_isPlace]
def wsL_addDoor_r2 : List Cond := [Cond.code yX0_isPlace cX0_isPlace 2 (some .boolean), Cond.fieldLink RX0 53 "Stairflow" "placeCount" "I", Cond.methodLink RX0 60 yX0_isBetween, Cond.static yX0_isBetween, Cond.code yX0_isBetween cX0_isBetween 3 (some .boolean), Cond.methodLink RX0 64 yX0_requireArgument, Cond.static yX0_requireArgument, Cond.code yX0_requireArgument cX0_requireArgument 1 none, Cond.classLink RX0 171 "java/lang/IllegalArgumentException", Cond.initialized "java/lang/IllegalArgumentException", Cond.methodLink RX0 68 yX0_requireState, Cond.static yX0_requireState, Cond.code yX0_requireState cX0_requireState 1 none, Cond.classLink RX0 176 "java/lang/IllegalStateException", Cond.initialized "java/lang/IllegalStateException", Cond.methodLink RX0 71 yX0_findWays, Cond.instanceMethod yX0_findWays, Cond.selects RX0 yX0_findWays yX0_findWays, Cond.code yX0_findWays cX0_findWays 2 none, Cond.fieldLink RX0 22 "Stairflow" "doorOf" "[I", Cond.fieldLink RX0 44 "Stairflow" "sourceOf" "[I", Cond.fieldLink RX0 47 "Stairflow" "targetOf" "[I", Cond.methodLink RX0 152 yX0_measureDistances, Cond.instanceMethod yX0_measureDistances]
def wsL_addDoor_r3 : List Cond := [Cond.selects RX0 yX0_measureDistances yX0_measureDistances, Cond.code yX0_measureDistances cX0_measureDistances 3 none, Cond.fieldLink RX0 19 "Stairflow" "distanceOf" "[I", Cond.methodLink RX0 159 yX0_reach, Cond.instanceMethod yX0_reach, Cond.selects RX0 yX0_reach yX0_reach, Cond.code yX0_reach cX0_reach 4 none, Cond.methodLink RX0 155 yX0_offerDoor, Cond.instanceMethod yX0_offerDoor, Cond.selects RX0 yX0_offerDoor yX0_offerDoor, Cond.code yX0_offerDoor cX0_offerDoor 5 none]
def wsL_addDoor : List Cond := .codeWith yL_addDoor cL_addDoor 6 (some .int) [(0, 9, 10, 23), (0, 9, 15, 14), (0, 9, 20, 17)] :: ((wsL_addDoor_r1 ++ (wsL_addDoor_r2 ++ wsL_addDoor_r3)) ++ wsX00 ++ (vx_atS RX0 166 "java/lang/IndexOutOfBoundsException" ["java/lang/RuntimeException", "java/lang/Exception"]).filter goodWord ++ (vx_atS RX0 175 "java/lang/IllegalArgumentException" ["java/lang/RuntimeException", "java/lang/Exception"]).filter goodWord ++ (vx_atS RX0 180 "java/lang/IllegalStateException" ["java/lang/RuntimeException", "java/lang/Exception"]).filter goodWord)
def wsL_setDoor_r1 : List Cond := [Cond.classLink RL 23 "java/lang/IndexOutOfBoundsException", Cond.constant RL 16 (-99999), Cond.methodLink RL 25 yX0_setDoor, Cond.instanceMethod yX0_setDoor, Cond.selects RX0 yX0_setDoor yX0_setDoor, Cond.initialized RX0, Cond.code yX0_setDoor cX0_setDoor 4 (some .boolean), Cond.fieldLink RX0 37 "Stairflow" "isOpen" "[Z", Cond.methodLink RX0 81 yX0_requireDoor, Cond.instanceMethod yX0_requireDoor, Cond.selects RX0 yX0_requireDoor yX0_requireDoor, Cond.code yX0_requireDoor cX0_requireDoor 2 none, Cond.classLink RX0 162 "java/lang/IndexOutOfBoundsException", Cond.initialized "java/lang/IndexOutOfBoundsException", Cond.methodLink RX0 108 yX0_isDoor, Cond.instanceMethod yX0_isDoor, Cond.selects RX0 yX0_isDoor yX0_isDoor, Cond.code yX0_isDoor cX0_isDoor 2 (some .boolean), Cond.fieldLink RX0 78 "Stairflow" "doorCount" "I", Cond.methodLink RX0 71 yX0_findWays, Cond.instanceMethod yX0_findWays, Cond.selects RX0 yX0_findWays yX0_findWays, Cond.code yX0_findWays cX0_findWays 2 none, Cond.fieldLink RX0 53 "Stairflow" "placeCount" "I"]
def wsL_setDoor_r2 : List Cond := [Cond.fieldLink RX0 22 "Stairflow" "doorOf" "[I", Cond.fieldLink RX0 44 "Stairflow" "sourceOf" "[I", Cond.fieldLink RX0 47 "Stairflow" "targetOf" "[I", Cond.fieldLink RX0 25 "Stairflow" "oneEnd" "[I", Cond.fieldLink RX0 28 "Stairflow" "otherEnd" "[I", Cond.methodLink RX0 152 yX0_measureDistances, Cond.instanceMethod yX0_measureDistances, Cond.selects RX0 yX0_measureDistances yX0_measureDistances, Cond.code yX0_measureDistances cX0_measureDistances 3 none, Cond.fieldLink RX0 19 "Stairflow" "distanceOf" "[I", Cond.methodLink RX0 159 yX0_reach, Cond.instanceMethod yX0_reach, Cond.selects RX0 yX0_reach yX0_reach, Cond.code yX0_reach cX0_reach 4 none, Cond.methodLink RX0 155 yX0_offerDoor, Cond.instanceMethod yX0_offerDoor, Cond.selects RX0 yX0_offerDoor yX0_offerDoor, Cond.code yX0_offerDoor cX0_offerDoor 5 none]
def wsL_setDoor : List Cond := .codeWith yL_setDoor cL_setDoor 4 (some .int) [(0, 14, 15, 23)] :: ((wsL_setDoor_r1 ++ wsL_setDoor_r2) ++ wsX00 ++ (vx_atS RX0 166 "java/lang/IndexOutOfBoundsException" ["java/lang/RuntimeException", "java/lang/Exception"]).filter goodWord)
def wsL_come_r1 : List Cond := [Cond.classLink RL 23 "java/lang/IndexOutOfBoundsException", Cond.classLink RL 14 "java/lang/IllegalArgumentException", Cond.classLink RL 17 "java/lang/IllegalStateException", Cond.constant RL 16 (-99999), Cond.methodLink RL 29 yX0_come, Cond.instanceMethod yX0_come, Cond.selects RX0 yX0_come yX0_come, Cond.initialized RX0, Cond.code yX0_come cX0_come 3 (some .int), Cond.fieldLink RX0 13 "Stairflow" "peopleAt" "[I", Cond.methodLink RX0 74 yX0_requirePlace, Cond.instanceMethod yX0_requirePlace, Cond.selects RX0 yX0_requirePlace yX0_requirePlace, Cond.code yX0_requirePlace cX0_requirePlace 2 none, Cond.classLink RX0 162 "java/lang/IndexOutOfBoundsException", Cond.initialized "java/lang/IndexOutOfBoundsException", Cond.methodLink RX0 148 yX0_isPlace, Cond.instanceMethod yX0_isPlace, Cond.selects RX0 yX0_isPlace yX0_isPlace, Cond.code yX0_isPlace cX0_isPlace 2 (some .boolean), Cond.fieldLink RX0 53 "Stairflow" "placeCount" "I", Cond.methodLink RX0 60 yX0_isBetween, Cond.static yX0_isBetween, Cond.code yX0_isBetween cX0_isBetween 3 (some .boolean)]
def wsL_come_r2 : List Cond := [Cond.methodLink RX0 64 yX0_requireArgument, Cond.static yX0_requireArgument, Cond.code yX0_requireArgument cX0_requireArgument 1 none, Cond.classLink RX0 171 "java/lang/IllegalArgumentException", Cond.initialized "java/lang/IllegalArgumentException", Cond.methodLink RX0 84 yX0_roomLeft, Cond.instanceMethod yX0_roomLeft, Cond.selects RX0 yX0_roomLeft yX0_roomLeft, Cond.code yX0_roomLeft cX0_roomLeft 2 (some .int), Cond.constant RX0 151 (1000000), Cond.fieldLink RX0 9 "Stairflow" "roomOf" "[I", Cond.methodLink RX0 68 yX0_requireState, Cond.static yX0_requireState, Cond.code yX0_requireState cX0_requireState 1 none, Cond.classLink RX0 176 "java/lang/IllegalStateException", Cond.initialized "java/lang/IllegalStateException"]
def wsL_come : List Cond := .codeWith yL_come cL_come 4 (some .int) [(0, 6, 7, 23), (0, 6, 11, 14), (0, 6, 15, 17)] :: ((wsL_come_r1 ++ wsL_come_r2) ++ wsX00 ++ (vx_atS RX0 166 "java/lang/IndexOutOfBoundsException" ["java/lang/RuntimeException", "java/lang/Exception"]).filter goodWord ++ (vx_atS RX0 175 "java/lang/IllegalArgumentException" ["java/lang/RuntimeException", "java/lang/Exception"]).filter goodWord ++ (vx_atS RX0 180 "java/lang/IllegalStateException" ["java/lang/RuntimeException", "java/lang/Exception"]).filter goodWord)
def wsL_setRelease_r1 : List Cond := [Cond.classLink RL 23 "java/lang/IndexOutOfBoundsException", Cond.classLink RL 14 "java/lang/IllegalArgumentException", Cond.constant RL 16 (-99999), Cond.methodLink RL 33 yX0_setRelease, Cond.instanceMethod yX0_setRelease, Cond.selects RX0 yX0_setRelease yX0_setRelease, Cond.initialized RX0, Cond.code yX0_setRelease cX0_setRelease 4 (some .int), Cond.fieldLink RX0 16 "Stairflow" "releaseOf" "[I", Cond.methodLink RX0 74 yX0_requirePlace, Cond.instanceMethod yX0_requirePlace, Cond.selects RX0 yX0_requirePlace yX0_requirePlace, Cond.code yX0_requirePlace cX0_requirePlace 2 none, Cond.classLink RX0 162 "java/lang/IndexOutOfBoundsException", Cond.initialized "java/lang/IndexOutOfBoundsException", Cond.methodLink RX0 148 yX0_isPlace, Cond.instanceMethod yX0_isPlace, Cond.selects RX0 yX0_isPlace yX0_isPlace, Cond.code yX0_isPlace cX0_isPlace 2 (some .boolean), Cond.fieldLink RX0 53 "Stairflow" "placeCount" "I", Cond.methodLink RX0 60 yX0_isBetween, Cond.static yX0_isBetween, Cond.code yX0_isBetween cX0_isBetween 3 (some .boolean), Cond.methodLink RX0 64 yX0_requireArgument]
def wsL_setRelease_r2 : List Cond := [Cond.static yX0_requireArgument, Cond.code yX0_requireArgument cX0_requireArgument 1 none, Cond.classLink RX0 171 "java/lang/IllegalArgumentException", Cond.initialized "java/lang/IllegalArgumentException"]
def wsL_setRelease : List Cond := .codeWith yL_setRelease cL_setRelease 4 (some .int) [(0, 6, 7, 23), (0, 6, 11, 14)] :: ((wsL_setRelease_r1 ++ wsL_setRelease_r2) ++ wsX00 ++ (vx_atS RX0 166 "java/lang/IndexOutOfBoundsException" ["java/lang/RuntimeException", "java/lang/Exception"]).filter goodWord ++ (vx_atS RX0 175 "java/lang/IllegalArgumentException" ["java/lang/RuntimeException", "java/lang/Exception"]).filter goodWord)
def wsL_step_r1 : List Cond := [Cond.classLink RL 14 "java/lang/IllegalArgumentException", Cond.constant RL 16 (-99999), Cond.methodLink RL 36 yX0_step, Cond.instanceMethod yX0_step, Cond.selects RX0 yX0_step yX0_step, Cond.initialized RX0, Cond.code yX0_step cX0_step 4 (some .int), Cond.fieldLink RX0 13 "Stairflow" "peopleAt" "[I", Cond.methodLink RX0 60 yX0_isBetween, Cond.static yX0_isBetween, Cond.code yX0_isBetween cX0_isBetween 3 (some .boolean), Cond.methodLink RX0 64 yX0_requireArgument, Cond.static yX0_requireArgument, Cond.code yX0_requireArgument cX0_requireArgument 1 none, Cond.classLink RX0 171 "java/lang/IllegalArgumentException", Cond.initialized "java/lang/IllegalArgumentException", Cond.methodLink RX0 88 yX0_passOneStep, Cond.instanceMethod yX0_passOneStep, Cond.selects RX0 yX0_passOneStep yX0_passOneStep, Cond.code yX0_passOneStep cX0_passOneStep 3 (some .int), Cond.fieldLink RX0 99 "Stairflow" "timeNow" "I", Cond.fieldLink RX0 57 "Stairflow" "latestTime" "I", Cond.fieldLink RX0 105 "Stairflow" "waitedSum" "I", Cond.methodLink RX0 112 yX0_grantAll]
def wsL_step_r2 : List Cond := [Cond.instanceMethod yX0_grantAll, Cond.selects RX0 yX0_grantAll yX0_grantAll, Cond.code yX0_grantAll cX0_grantAll 2 none, Cond.fieldLink RX0 78 "Stairflow" "doorCount" "I", Cond.fieldLink RX0 50 "Stairflow" "grantedTo" "[I", Cond.fieldLink RX0 53 "Stairflow" "placeCount" "I", Cond.methodLink RX0 136 yX0_grantAt, Cond.instanceMethod yX0_grantAt, Cond.selects RX0 yX0_grantAt yX0_grantAt, Cond.code yX0_grantAt cX0_grantAt 5 none, Cond.methodLink RX0 84 yX0_roomLeft, Cond.instanceMethod yX0_roomLeft, Cond.selects RX0 yX0_roomLeft yX0_roomLeft, Cond.code yX0_roomLeft cX0_roomLeft 2 (some .int), Cond.constant RX0 151 (1000000), Cond.fieldLink RX0 9 "Stairflow" "roomOf" "[I", Cond.methodLink RX0 139 yX0_grantRound, Cond.instanceMethod yX0_grantRound, Cond.selects RX0 yX0_grantRound yX0_grantRound, Cond.code yX0_grantRound cX0_grantRound 7 (some .int), Cond.fieldLink RX0 47 "Stairflow" "targetOf" "[I", Cond.fieldLink RX0 34 "Stairflow" "shareOf" "[I", Cond.methodLink RX0 145 Lib.Math.min.name, Cond.static Lib.Math.min.name]
def wsL_step_r3 : List Cond := [Cond.initialized "java/lang/Math", Cond.code Lib.Math.min.name Lib.Math.min.code 2 (some .int), Cond.methodLink RX0 142 yX0_wishBy, Cond.instanceMethod yX0_wishBy, Cond.selects RX0 yX0_wishBy yX0_wishBy, Cond.code yX0_wishBy cX0_wishBy 3 (some .int), Cond.fieldLink RX0 44 "Stairflow" "sourceOf" "[I", Cond.fieldLink RX0 16 "Stairflow" "releaseOf" "[I", Cond.fieldLink RX0 31 "Stairflow" "flowOf" "[I", Cond.methodLink RX0 148 yX0_isPlace, Cond.instanceMethod yX0_isPlace, Cond.selects RX0 yX0_isPlace yX0_isPlace, Cond.code yX0_isPlace cX0_isPlace 2 (some .boolean), Cond.methodLink RX0 133 yX0_moveGranted, Cond.instanceMethod yX0_moveGranted, Cond.selects RX0 yX0_moveGranted yX0_moveGranted, Cond.code yX0_moveGranted cX0_moveGranted 5 (some .int), Cond.fieldLink RX0 41 "Stairflow" "passedBy" "[I", Cond.methodLink RX0 92 yX0_inside, Cond.instanceMethod yX0_inside, Cond.selects RX0 yX0_inside yX0_inside, Cond.code yX0_inside cX0_inside 3 (some .int)]
def wsL_step : List Cond := .codeWith yL_step cL_step 3 (some .int) [(0, 5, 6, 14)] :: ((wsL_step_r1 ++ (wsL_step_r2 ++ wsL_step_r3)) ++ wsX00 ++ (vx_atS RX0 175 "java/lang/IllegalArgumentException" ["java/lang/RuntimeException", "java/lang/Exception"]).filter goodWord)
def wsL_distance_r1 : List Cond := [Cond.classLink RL 23 "java/lang/IndexOutOfBoundsException", Cond.classLink RL 42 "java/util/NoSuchElementException", Cond.constant RL 16 (-99999), Cond.methodLink RL 39 yX0_distance, Cond.instanceMethod yX0_distance, Cond.selects RX0 yX0_distance yX0_distance, Cond.initialized RX0, Cond.code yX0_distance cX0_distance 2 (some .int), Cond.fieldLink RX0 19 "Stairflow" "distanceOf" "[I", Cond.methodLink RX0 74 yX0_requirePlace, Cond.instanceMethod yX0_requirePlace, Cond.selects RX0 yX0_requirePlace yX0_requirePlace, Cond.code yX0_requirePlace cX0_requirePlace 2 none, Cond.classLink RX0 162 "java/lang/IndexOutOfBoundsException", Cond.initialized "java/lang/IndexOutOfBoundsException", Cond.methodLink RX0 148 yX0_isPlace, Cond.instanceMethod yX0_isPlace, Cond.selects RX0 yX0_isPlace yX0_isPlace, Cond.code yX0_isPlace cX0_isPlace 2 (some .boolean), Cond.fieldLink RX0 53 "Stairflow" "placeCount" "I", Cond.methodLink RX0 102 yX0_requireElement, Cond.static yX0_requireElement, Cond.code yX0_requireElement cX0_requireElement 1 none, Cond.classLink RX0 181 "java/util/NoSuchElementException"]
def wsL_distance_r2 : List Cond := [Cond.initialized "java/util/NoSuchElementException"]
def wsL_distance : List Cond := .codeWith yL_distance cL_distance 3 (some .int) [(0, 5, 6, 23), (0, 5, 10, 42)] :: ((wsL_distance_r1 ++ wsL_distance_r2) ++ wsX00 ++ (vx_atS RX0 166 "java/lang/IndexOutOfBoundsException" ["java/lang/RuntimeException", "java/lang/Exception"]).filter goodWord ++ (gNSat).filter goodWord)
def wsL_door_r1 : List Cond := [Cond.classLink RL 23 "java/lang/IndexOutOfBoundsException", Cond.classLink RL 42 "java/util/NoSuchElementException", Cond.constant RL 16 (-99999), Cond.methodLink RL 44 yX0_door, Cond.instanceMethod yX0_door, Cond.selects RX0 yX0_door yX0_door, Cond.initialized RX0, Cond.code yX0_door cX0_door 2 (some .int), Cond.fieldLink RX0 22 "Stairflow" "doorOf" "[I", Cond.methodLink RX0 74 yX0_requirePlace, Cond.instanceMethod yX0_requirePlace, Cond.selects RX0 yX0_requirePlace yX0_requirePlace, Cond.code yX0_requirePlace cX0_requirePlace 2 none, Cond.classLink RX0 162 "java/lang/IndexOutOfBoundsException", Cond.initialized "java/lang/IndexOutOfBoundsException", Cond.methodLink RX0 148 yX0_isPlace, Cond.instanceMethod yX0_isPlace, Cond.selects RX0 yX0_isPlace yX0_isPlace, Cond.code yX0_isPlace cX0_isPlace 2 (some .boolean), Cond.fieldLink RX0 53 "Stairflow" "placeCount" "I", Cond.methodLink RX0 102 yX0_requireElement, Cond.static yX0_requireElement, Cond.code yX0_requireElement cX0_requireElement 1 none, Cond.classLink RX0 181 "java/util/NoSuchElementException"]
def wsL_door_r2 : List Cond := [Cond.initialized "java/util/NoSuchElementException"]
def wsL_door : List Cond := .codeWith yL_door cL_door 3 (some .int) [(0, 5, 6, 23), (0, 5, 10, 42)] :: ((wsL_door_r1 ++ wsL_door_r2) ++ wsX00 ++ (vx_atS RX0 166 "java/lang/IndexOutOfBoundsException" ["java/lang/RuntimeException", "java/lang/Exception"]).filter goodWord ++ (gNSat).filter goodWord)
def wsL_bound_r1 : List Cond := [Cond.classLink RL 17 "java/lang/IllegalStateException", Cond.methodLink RL 47 yX0_bound, Cond.instanceMethod yX0_bound, Cond.selects RX0 yX0_bound yX0_bound, Cond.initialized RX0, Cond.code yX0_bound cX0_bound 3 (some .int), Cond.fieldLink RX0 53 "Stairflow" "placeCount" "I", Cond.methodLink RX0 121 Lib.Math.max.name, Cond.static Lib.Math.max.name, Cond.initialized "java/lang/Math", Cond.code Lib.Math.max.name Lib.Math.max.code 2 (some .int), Cond.methodLink RX0 115 yX0_trapped, Cond.instanceMethod yX0_trapped, Cond.selects RX0 yX0_trapped yX0_trapped, Cond.code yX0_trapped cX0_trapped 3 (some .int), Cond.fieldLink RX0 19 "Stairflow" "distanceOf" "[I", Cond.fieldLink RX0 13 "Stairflow" "peopleAt" "[I", Cond.methodLink RX0 68 yX0_requireState, Cond.static yX0_requireState, Cond.code yX0_requireState cX0_requireState 1 none, Cond.classLink RX0 176 "java/lang/IllegalStateException", Cond.initialized "java/lang/IllegalStateException", Cond.methodLink RX0 118 yX0_boundAt, Cond.instanceMethod yX0_boundAt]
def wsL_bound_r2 : List Cond := [Cond.selects RX0 yX0_boundAt yX0_boundAt, Cond.code yX0_boundAt cX0_boundAt 4 (some .int), Cond.methodLink RX0 127 yX0_peopleFrom, Cond.instanceMethod yX0_peopleFrom, Cond.selects RX0 yX0_peopleFrom yX0_peopleFrom, Cond.code yX0_peopleFrom cX0_peopleFrom 4 (some .int), Cond.methodLink RX0 130 yX0_flowInward, Cond.instanceMethod yX0_flowInward, Cond.selects RX0 yX0_flowInward yX0_flowInward, Cond.code yX0_flowInward cX0_flowInward 7 (some .int), Cond.fieldLink RX0 78 "Stairflow" "doorCount" "I", Cond.fieldLink RX0 25 "Stairflow" "oneEnd" "[I", Cond.fieldLink RX0 28 "Stairflow" "otherEnd" "[I", Cond.fieldLink RX0 37 "Stairflow" "isOpen" "[Z", Cond.fieldLink RX0 31 "Stairflow" "flowOf" "[I"]
def wsL_bound : List Cond := .codeWith yL_bound cL_bound 2 (some .int) [(0, 4, 5, 17)] :: ((wsL_bound_r1 ++ wsL_bound_r2) ++ wsX00 ++ (vx_atS RX0 180 "java/lang/IllegalStateException" ["java/lang/RuntimeException", "java/lang/Exception"]).filter goodWord)
def wsL_latest : List Cond := .codeWith yL_latest cL_latest 2 (some .int) [(0, 4, 5, 42)] :: ([.classLink RL 42 "java/util/NoSuchElementException", .methodLink RL 51 yX0_latest, .instanceMethod yX0_latest, .selects RX0 yX0_latest yX0_latest, .initialized RX0, .code yX0_latest cX0_latest 1 (some .int), .fieldLink RX0 57 "Stairflow" "latestTime" "I", .methodLink RX0 102 yX0_requireElement, .static yX0_requireElement, .code yX0_requireElement cX0_requireElement 1 none, .classLink RX0 181 "java/util/NoSuchElementException", .initialized "java/util/NoSuchElementException"] ++ wsX00 ++ (gNSat).filter goodWord)
def wsL_act_r1 : List Cond := [Cond.methodLink RL 54 yL_low, Cond.static yL_low, Cond.initialized RL, Cond.code yL_low cL_low 2 (some .int), Cond.constant RL 7 (2147483647), Cond.methodLink RL 59 yX0_places, Cond.instanceMethod yX0_places, Cond.selects RX0 yX0_places yX0_places, Cond.initialized RX0, Cond.code yX0_places cX0_places 1 (some .int), Cond.fieldLink RX0 53 "Stairflow" "placeCount" "I", Cond.methodLink RL 62 yL_addPlace, Cond.static yL_addPlace, Cond.codeWith yL_addPlace cL_addPlace 3 (some .int) [(0, 5, 6, 14), (0, 5, 10, 17)], Cond.classLink RL 14 "java/lang/IllegalArgumentException", Cond.classLink RL 17 "java/lang/IllegalStateException", Cond.constant RL 16 (-99999), Cond.methodLink RL 8 yX0_addPlace, Cond.instanceMethod yX0_addPlace, Cond.selects RX0 yX0_addPlace yX0_addPlace, Cond.code yX0_addPlace cX0_addPlace 3 (some .int), Cond.fieldLink RX0 9 "Stairflow" "roomOf" "[I", Cond.methodLink RX0 60 yX0_isBetween, Cond.static yX0_isBetween]
def wsL_act_r2 : List Cond := [Cond.code yX0_isBetween cX0_isBetween 3 (some .boolean), Cond.methodLink RX0 64 yX0_requireArgument, Cond.static yX0_requireArgument, Cond.code yX0_requireArgument cX0_requireArgument 1 none, Cond.classLink RX0 171 "java/lang/IllegalArgumentException", Cond.initialized "java/lang/IllegalArgumentException", Cond.methodLink RX0 68 yX0_requireState, Cond.static yX0_requireState, Cond.code yX0_requireState cX0_requireState 1 none, Cond.classLink RX0 176 "java/lang/IllegalStateException", Cond.initialized "java/lang/IllegalStateException", Cond.methodLink RX0 71 yX0_findWays, Cond.instanceMethod yX0_findWays, Cond.selects RX0 yX0_findWays yX0_findWays, Cond.code yX0_findWays cX0_findWays 2 none, Cond.fieldLink RX0 22 "Stairflow" "doorOf" "[I", Cond.fieldLink RX0 78 "Stairflow" "doorCount" "I", Cond.fieldLink RX0 44 "Stairflow" "sourceOf" "[I", Cond.fieldLink RX0 47 "Stairflow" "targetOf" "[I", Cond.fieldLink RX0 25 "Stairflow" "oneEnd" "[I", Cond.fieldLink RX0 28 "Stairflow" "otherEnd" "[I", Cond.methodLink RX0 152 yX0_measureDistances, Cond.instanceMethod yX0_measureDistances, Cond.selects RX0 yX0_measureDistances yX0_measureDistances]
def wsL_act_r3 : List Cond := [Cond.code yX0_measureDistances cX0_measureDistances 3 none, Cond.fieldLink RX0 19 "Stairflow" "distanceOf" "[I", Cond.fieldLink RX0 37 "Stairflow" "isOpen" "[Z", Cond.methodLink RX0 159 yX0_reach, Cond.instanceMethod yX0_reach, Cond.selects RX0 yX0_reach yX0_reach, Cond.code yX0_reach cX0_reach 4 none, Cond.methodLink RX0 155 yX0_offerDoor, Cond.instanceMethod yX0_offerDoor, Cond.selects RX0 yX0_offerDoor yX0_offerDoor, Cond.code yX0_offerDoor cX0_offerDoor 5 none, Cond.methodLink RL 65 yL_addDoor, Cond.static yL_addDoor, Cond.codeWith yL_addDoor cL_addDoor 6 (some .int) [(0, 9, 10, 23), (0, 9, 15, 14), (0, 9, 20, 17)], Cond.classLink RL 23 "java/lang/IndexOutOfBoundsException", Cond.methodLink RL 19 yX0_addDoor, Cond.instanceMethod yX0_addDoor, Cond.selects RX0 yX0_addDoor yX0_addDoor, Cond.code yX0_addDoor cX0_addDoor 6 (some .int), Cond.fieldLink RX0 31 "Stairflow" "flowOf" "[I", Cond.fieldLink RX0 34 "Stairflow" "shareOf" "[I", Cond.methodLink RX0 74 yX0_requirePlace, Cond.instanceMethod yX0_requirePlace, Cond.selects RX0 yX0_requirePlace yX0_requirePlace]
def wsL_act_r4 : List Cond := [Cond.code yX0_requirePlace cX0_requirePlace 2 none, Cond.classLink RX0 162 "java/lang/IndexOutOfBoundsException", Cond.initialized "java/lang/IndexOutOfBoundsException", Cond.methodLink RX0 148 yX0_isPlace, Cond.instanceMethod yX0_isPlace, Cond.selects RX0 yX0_isPlace yX0_isPlace, Cond.code yX0_isPlace cX0_isPlace 2 (some .boolean), Cond.methodLink RL 68 yX0_doors, Cond.instanceMethod yX0_doors, Cond.selects RX0 yX0_doors yX0_doors, Cond.code yX0_doors cX0_doors 1 (some .int), Cond.methodLink RL 71 yL_setDoor, Cond.static yL_setDoor, Cond.codeWith yL_setDoor cL_setDoor 4 (some .int) [(0, 14, 15, 23)], Cond.methodLink RL 25 yX0_setDoor, Cond.instanceMethod yX0_setDoor, Cond.selects RX0 yX0_setDoor yX0_setDoor, Cond.code yX0_setDoor cX0_setDoor 4 (some .boolean), Cond.methodLink RX0 81 yX0_requireDoor, Cond.instanceMethod yX0_requireDoor, Cond.selects RX0 yX0_requireDoor yX0_requireDoor, Cond.code yX0_requireDoor cX0_requireDoor 2 none, Cond.methodLink RX0 108 yX0_isDoor, Cond.instanceMethod yX0_isDoor]
def wsL_act_r5 : List Cond := [Cond.selects RX0 yX0_isDoor yX0_isDoor, Cond.code yX0_isDoor cX0_isDoor 2 (some .boolean), Cond.methodLink RL 74 yL_come, Cond.static yL_come, Cond.codeWith yL_come cL_come 4 (some .int) [(0, 6, 7, 23), (0, 6, 11, 14), (0, 6, 15, 17)], Cond.methodLink RL 29 yX0_come, Cond.instanceMethod yX0_come, Cond.selects RX0 yX0_come yX0_come, Cond.code yX0_come cX0_come 3 (some .int), Cond.fieldLink RX0 13 "Stairflow" "peopleAt" "[I", Cond.methodLink RX0 84 yX0_roomLeft, Cond.instanceMethod yX0_roomLeft, Cond.selects RX0 yX0_roomLeft yX0_roomLeft, Cond.code yX0_roomLeft cX0_roomLeft 2 (some .int), Cond.constant RX0 151 (1000000), Cond.methodLink RL 77 yX0_now, Cond.instanceMethod yX0_now, Cond.selects RX0 yX0_now yX0_now, Cond.code yX0_now cX0_now 1 (some .int), Cond.fieldLink RX0 99 "Stairflow" "timeNow" "I", Cond.methodLink RL 80 yL_setRelease, Cond.static yL_setRelease, Cond.codeWith yL_setRelease cL_setRelease 4 (some .int) [(0, 6, 7, 23), (0, 6, 11, 14)], Cond.methodLink RL 33 yX0_setRelease]
def wsL_act_r6 : List Cond := [Cond.instanceMethod yX0_setRelease, Cond.selects RX0 yX0_setRelease yX0_setRelease, Cond.code yX0_setRelease cX0_setRelease 4 (some .int), Cond.fieldLink RX0 16 "Stairflow" "releaseOf" "[I", Cond.methodLink RL 82 yL_step, Cond.static yL_step, Cond.codeWith yL_step cL_step 3 (some .int) [(0, 5, 6, 14)], Cond.methodLink RL 36 yX0_step, Cond.instanceMethod yX0_step, Cond.selects RX0 yX0_step yX0_step, Cond.code yX0_step cX0_step 4 (some .int), Cond.methodLink RX0 88 yX0_passOneStep, Cond.instanceMethod yX0_passOneStep, Cond.selects RX0 yX0_passOneStep yX0_passOneStep, Cond.code yX0_passOneStep cX0_passOneStep 3 (some .int), Cond.fieldLink RX0 57 "Stairflow" "latestTime" "I", Cond.fieldLink RX0 105 "Stairflow" "waitedSum" "I", Cond.methodLink RX0 112 yX0_grantAll, Cond.instanceMethod yX0_grantAll, Cond.selects RX0 yX0_grantAll yX0_grantAll, Cond.code yX0_grantAll cX0_grantAll 2 none, Cond.fieldLink RX0 50 "Stairflow" "grantedTo" "[I", Cond.methodLink RX0 136 yX0_grantAt, Cond.instanceMethod yX0_grantAt]
def wsL_act_r7 : List Cond := [Cond.selects RX0 yX0_grantAt yX0_grantAt, Cond.code yX0_grantAt cX0_grantAt 5 none, Cond.methodLink RX0 139 yX0_grantRound, Cond.instanceMethod yX0_grantRound, Cond.selects RX0 yX0_grantRound yX0_grantRound, Cond.code yX0_grantRound cX0_grantRound 7 (some .int), Cond.methodLink RX0 145 Lib.Math.min.name, Cond.static Lib.Math.min.name, Cond.initialized "java/lang/Math", Cond.code Lib.Math.min.name Lib.Math.min.code 2 (some .int), Cond.methodLink RX0 142 yX0_wishBy, Cond.instanceMethod yX0_wishBy, Cond.selects RX0 yX0_wishBy yX0_wishBy, Cond.code yX0_wishBy cX0_wishBy 3 (some .int), Cond.methodLink RX0 133 yX0_moveGranted, Cond.instanceMethod yX0_moveGranted, Cond.selects RX0 yX0_moveGranted yX0_moveGranted, Cond.code yX0_moveGranted cX0_moveGranted 5 (some .int), Cond.fieldLink RX0 41 "Stairflow" "passedBy" "[I", Cond.methodLink RX0 92 yX0_inside, Cond.instanceMethod yX0_inside, Cond.selects RX0 yX0_inside yX0_inside, Cond.code yX0_inside cX0_inside 3 (some .int)]
def wsL_act : List Cond := .code yL_act cL_act 6 (some .int) :: ((wsL_act_r1 ++ (wsL_act_r2 ++ (wsL_act_r3 ++ (wsL_act_r4 ++ (wsL_act_r5 ++ (wsL_act_r6 ++ wsL_act_r7)))))) ++ wsX00 ++ (vx_atS RX0 175 "java/lang/IllegalArgumentException" ["java/lang/RuntimeException", "java/lang/Exception"]).filter goodWord ++ (vx_atS RX0 180 "java/lang/IllegalStateException" ["java/lang/RuntimeException", "java/lang/Exception"]).filter goodWord ++ (vx_atS RX0 166 "java/lang/IndexOutOfBoundsException" ["java/lang/RuntimeException", "java/lang/Exception"]).filter goodWord)
def wsL_areAlike_r1 : List Cond := [Cond.methodLink RL 59 yX0_places, Cond.instanceMethod yX0_places, Cond.selects RX0 yX0_places yX0_places, Cond.initialized RX0, Cond.code yX0_places cX0_places 1 (some .int), Cond.fieldLink RX0 53 "Stairflow" "placeCount" "I", Cond.methodLink RL 68 yX0_doors, Cond.instanceMethod yX0_doors, Cond.selects RX0 yX0_doors yX0_doors, Cond.code yX0_doors cX0_doors 1 (some .int), Cond.fieldLink RX0 78 "Stairflow" "doorCount" "I", Cond.methodLink RL 77 yX0_now, Cond.instanceMethod yX0_now, Cond.selects RX0 yX0_now yX0_now, Cond.code yX0_now cX0_now 1 (some .int), Cond.fieldLink RX0 99 "Stairflow" "timeNow" "I", Cond.methodLink RL 84 yX0_inside, Cond.instanceMethod yX0_inside, Cond.selects RX0 yX0_inside yX0_inside, Cond.code yX0_inside cX0_inside 3 (some .int), Cond.fieldLink RX0 13 "Stairflow" "peopleAt" "[I", Cond.methodLink RL 87 yX0_waited, Cond.instanceMethod yX0_waited, Cond.selects RX0 yX0_waited yX0_waited]
def wsL_areAlike_r2 : List Cond := [Cond.code yX0_waited cX0_waited 1 (some .int), Cond.fieldLink RX0 105 "Stairflow" "waitedSum" "I", Cond.methodLink RL 90 yL_latest, Cond.static yL_latest, Cond.initialized RL, Cond.codeWith yL_latest cL_latest 2 (some .int) [(0, 4, 5, 42)], Cond.classLink RL 42 "java/util/NoSuchElementException", Cond.methodLink RL 51 yX0_latest, Cond.instanceMethod yX0_latest, Cond.selects RX0 yX0_latest yX0_latest, Cond.code yX0_latest cX0_latest 1 (some .int), Cond.fieldLink RX0 57 "Stairflow" "latestTime" "I", Cond.methodLink RX0 102 yX0_requireElement, Cond.static yX0_requireElement, Cond.code yX0_requireElement cX0_requireElement 1 none, Cond.classLink RX0 181 "java/util/NoSuchElementException", Cond.initialized "java/util/NoSuchElementException", Cond.methodLink RL 93 yX0_trapped, Cond.instanceMethod yX0_trapped, Cond.selects RX0 yX0_trapped yX0_trapped, Cond.code yX0_trapped cX0_trapped 3 (some .int), Cond.fieldLink RX0 19 "Stairflow" "distanceOf" "[I", Cond.methodLink RL 96 yX0_people, Cond.instanceMethod yX0_people]
def wsL_areAlike_r3 : List Cond := [Cond.selects RX0 yX0_people yX0_people, Cond.code yX0_people cX0_people 2 (some .int), Cond.methodLink RX0 74 yX0_requirePlace, Cond.instanceMethod yX0_requirePlace, Cond.selects RX0 yX0_requirePlace yX0_requirePlace, Cond.code yX0_requirePlace cX0_requirePlace 2 none, Cond.classLink RX0 162 "java/lang/IndexOutOfBoundsException", Cond.initialized "java/lang/IndexOutOfBoundsException", Cond.methodLink RX0 148 yX0_isPlace, Cond.instanceMethod yX0_isPlace, Cond.selects RX0 yX0_isPlace yX0_isPlace, Cond.code yX0_isPlace cX0_isPlace 2 (some .boolean), Cond.methodLink RL 99 yX0_wouldMove, Cond.instanceMethod yX0_wouldMove, Cond.selects RX0 yX0_wouldMove yX0_wouldMove, Cond.code yX0_wouldMove cX0_wouldMove 3 (some .int), Cond.fieldLink RX0 22 "Stairflow" "doorOf" "[I", Cond.fieldLink RX0 50 "Stairflow" "grantedTo" "[I", Cond.methodLink RX0 108 yX0_isDoor, Cond.instanceMethod yX0_isDoor, Cond.selects RX0 yX0_isDoor yX0_isDoor, Cond.code yX0_isDoor cX0_isDoor 2 (some .boolean), Cond.methodLink RX0 112 yX0_grantAll, Cond.instanceMethod yX0_grantAll]
def wsL_areAlike_r4 : List Cond := [Cond.selects RX0 yX0_grantAll yX0_grantAll, Cond.code yX0_grantAll cX0_grantAll 2 none, Cond.methodLink RX0 136 yX0_grantAt, Cond.instanceMethod yX0_grantAt, Cond.selects RX0 yX0_grantAt yX0_grantAt, Cond.code yX0_grantAt cX0_grantAt 5 none, Cond.methodLink RX0 84 yX0_roomLeft, Cond.instanceMethod yX0_roomLeft, Cond.selects RX0 yX0_roomLeft yX0_roomLeft, Cond.code yX0_roomLeft cX0_roomLeft 2 (some .int), Cond.constant RX0 151 (1000000), Cond.fieldLink RX0 9 "Stairflow" "roomOf" "[I", Cond.methodLink RX0 139 yX0_grantRound, Cond.instanceMethod yX0_grantRound, Cond.selects RX0 yX0_grantRound yX0_grantRound, Cond.code yX0_grantRound cX0_grantRound 7 (some .int), Cond.fieldLink RX0 47 "Stairflow" "targetOf" "[I", Cond.fieldLink RX0 34 "Stairflow" "shareOf" "[I", Cond.methodLink RX0 145 Lib.Math.min.name, Cond.static Lib.Math.min.name, Cond.initialized "java/lang/Math", Cond.code Lib.Math.min.name Lib.Math.min.code 2 (some .int), Cond.methodLink RX0 142 yX0_wishBy, Cond.instanceMethod yX0_wishBy]
def wsL_areAlike_r5 : List Cond := [Cond.selects RX0 yX0_wishBy yX0_wishBy, Cond.code yX0_wishBy cX0_wishBy 3 (some .int), Cond.fieldLink RX0 44 "Stairflow" "sourceOf" "[I", Cond.fieldLink RX0 16 "Stairflow" "releaseOf" "[I", Cond.fieldLink RX0 31 "Stairflow" "flowOf" "[I"]
def wsL_areAlike : List Cond := .code yL_areAlike cL_areAlike 4 (some .boolean) :: ((wsL_areAlike_r1 ++ (wsL_areAlike_r2 ++ (wsL_areAlike_r3 ++ (wsL_areAlike_r4 ++ wsL_areAlike_r5)))) ++ wsX00 ++ (gNSat).filter goodWord ++ (vx_atS RX0 166 "java/lang/IndexOutOfBoundsException" ["java/lang/RuntimeException", "java/lang/Exception"]).filter goodWord)
def wsL_arePlacesSo_r1 : List Cond := [Cond.methodLink RL 102 yL_distance, Cond.static yL_distance, Cond.initialized RL, Cond.codeWith yL_distance cL_distance 3 (some .int) [(0, 5, 6, 23), (0, 5, 10, 42)], Cond.classLink RL 23 "java/lang/IndexOutOfBoundsException", Cond.classLink RL 42 "java/util/NoSuchElementException", Cond.constant RL 16 (-99999), Cond.methodLink RL 39 yX0_distance, Cond.instanceMethod yX0_distance, Cond.selects RX0 yX0_distance yX0_distance, Cond.initialized RX0, Cond.code yX0_distance cX0_distance 2 (some .int), Cond.fieldLink RX0 19 "Stairflow" "distanceOf" "[I", Cond.methodLink RX0 74 yX0_requirePlace, Cond.instanceMethod yX0_requirePlace, Cond.selects RX0 yX0_requirePlace yX0_requirePlace, Cond.code yX0_requirePlace cX0_requirePlace 2 none, Cond.classLink RX0 162 "java/lang/IndexOutOfBoundsException", Cond.initialized "java/lang/IndexOutOfBoundsException", Cond.methodLink RX0 148 yX0_isPlace, Cond.instanceMethod yX0_isPlace, Cond.selects RX0 yX0_isPlace yX0_isPlace, Cond.code yX0_isPlace cX0_isPlace 2 (some .boolean), Cond.fieldLink RX0 53 "Stairflow" "placeCount" "I"]
def wsL_arePlacesSo_r2 : List Cond := [Cond.methodLink RX0 102 yX0_requireElement, Cond.static yX0_requireElement, Cond.code yX0_requireElement cX0_requireElement 1 none, Cond.classLink RX0 181 "java/util/NoSuchElementException", Cond.initialized "java/util/NoSuchElementException", Cond.methodLink RL 104 yL_door, Cond.static yL_door, Cond.codeWith yL_door cL_door 3 (some .int) [(0, 5, 6, 23), (0, 5, 10, 42)], Cond.methodLink RL 44 yX0_door, Cond.instanceMethod yX0_door, Cond.selects RX0 yX0_door yX0_door, Cond.code yX0_door cX0_door 2 (some .int), Cond.fieldLink RX0 22 "Stairflow" "doorOf" "[I", Cond.methodLink RL 59 yX0_places, Cond.instanceMethod yX0_places, Cond.selects RX0 yX0_places yX0_places, Cond.code yX0_places cX0_places 1 (some .int), Cond.methodLink RL 96 yX0_people, Cond.instanceMethod yX0_people, Cond.selects RX0 yX0_people yX0_people, Cond.code yX0_people cX0_people 2 (some .int), Cond.fieldLink RX0 13 "Stairflow" "peopleAt" "[I", Cond.methodLink RL 99 yX0_wouldMove, Cond.instanceMethod yX0_wouldMove]
def wsL_arePlacesSo_r3 : List Cond := [Cond.selects RX0 yX0_wouldMove yX0_wouldMove, Cond.code yX0_wouldMove cX0_wouldMove 3 (some .int), Cond.fieldLink RX0 50 "Stairflow" "grantedTo" "[I", Cond.methodLink RX0 108 yX0_isDoor, Cond.instanceMethod yX0_isDoor, Cond.selects RX0 yX0_isDoor yX0_isDoor, Cond.code yX0_isDoor cX0_isDoor 2 (some .boolean), Cond.fieldLink RX0 78 "Stairflow" "doorCount" "I", Cond.methodLink RX0 112 yX0_grantAll, Cond.instanceMethod yX0_grantAll, Cond.selects RX0 yX0_grantAll yX0_grantAll, Cond.code yX0_grantAll cX0_grantAll 2 none, Cond.methodLink RX0 136 yX0_grantAt, Cond.instanceMethod yX0_grantAt, Cond.selects RX0 yX0_grantAt yX0_grantAt, Cond.code yX0_grantAt cX0_grantAt 5 none, Cond.methodLink RX0 84 yX0_roomLeft, Cond.instanceMethod yX0_roomLeft, Cond.selects RX0 yX0_roomLeft yX0_roomLeft, Cond.code yX0_roomLeft cX0_roomLeft 2 (some .int), Cond.constant RX0 151 (1000000), Cond.fieldLink RX0 9 "Stairflow" "roomOf" "[I", Cond.methodLink RX0 139 yX0_grantRound, Cond.instanceMethod yX0_grantRound]
def wsL_arePlacesSo_r4 : List Cond := [Cond.selects RX0 yX0_grantRound yX0_grantRound, Cond.code yX0_grantRound cX0_grantRound 7 (some .int), Cond.fieldLink RX0 47 "Stairflow" "targetOf" "[I", Cond.fieldLink RX0 34 "Stairflow" "shareOf" "[I", Cond.methodLink RX0 145 Lib.Math.min.name, Cond.static Lib.Math.min.name, Cond.initialized "java/lang/Math", Cond.code Lib.Math.min.name Lib.Math.min.code 2 (some .int), Cond.methodLink RX0 142 yX0_wishBy, Cond.instanceMethod yX0_wishBy, Cond.selects RX0 yX0_wishBy yX0_wishBy, Cond.code yX0_wishBy cX0_wishBy 3 (some .int), Cond.fieldLink RX0 44 "Stairflow" "sourceOf" "[I", Cond.fieldLink RX0 16 "Stairflow" "releaseOf" "[I", Cond.fieldLink RX0 99 "Stairflow" "timeNow" "I", Cond.fieldLink RX0 31 "Stairflow" "flowOf" "[I", Cond.methodLink RL 106 yL_bound, Cond.static yL_bound, Cond.codeWith yL_bound cL_bound 2 (some .int) [(0, 4, 5, 17)], Cond.classLink RL 17 "java/lang/IllegalStateException", Cond.methodLink RL 47 yX0_bound, Cond.instanceMethod yX0_bound, Cond.selects RX0 yX0_bound yX0_bound, Cond.code yX0_bound cX0_bound 3 (some .int)]
def wsL_arePlacesSo_r5 : List Cond := [Cond.methodLink RX0 121 Lib.Math.max.name, Cond.static Lib.Math.max.name, Cond.code Lib.Math.max.name Lib.Math.max.code 2 (some .int), Cond.methodLink RX0 115 yX0_trapped, Cond.instanceMethod yX0_trapped, Cond.selects RX0 yX0_trapped yX0_trapped, Cond.code yX0_trapped cX0_trapped 3 (some .int), Cond.methodLink RX0 68 yX0_requireState, Cond.static yX0_requireState, Cond.code yX0_requireState cX0_requireState 1 none, Cond.classLink RX0 176 "java/lang/IllegalStateException", Cond.initialized "java/lang/IllegalStateException", Cond.methodLink RX0 118 yX0_boundAt, Cond.instanceMethod yX0_boundAt, Cond.selects RX0 yX0_boundAt yX0_boundAt, Cond.code yX0_boundAt cX0_boundAt 4 (some .int), Cond.methodLink RX0 127 yX0_peopleFrom, Cond.instanceMethod yX0_peopleFrom, Cond.selects RX0 yX0_peopleFrom yX0_peopleFrom, Cond.code yX0_peopleFrom cX0_peopleFrom 4 (some .int), Cond.methodLink RX0 130 yX0_flowInward, Cond.instanceMethod yX0_flowInward, Cond.selects RX0 yX0_flowInward yX0_flowInward, Cond.code yX0_flowInward cX0_flowInward 7 (some .int)]
def wsL_arePlacesSo_r6 : List Cond := [Cond.fieldLink RX0 25 "Stairflow" "oneEnd" "[I", Cond.fieldLink RX0 28 "Stairflow" "otherEnd" "[I", Cond.fieldLink RX0 37 "Stairflow" "isOpen" "[Z", Cond.methodLink RL 84 yX0_inside, Cond.instanceMethod yX0_inside, Cond.selects RX0 yX0_inside yX0_inside, Cond.code yX0_inside cX0_inside 3 (some .int), Cond.methodLink RL 93 yX0_trapped]
def wsL_arePlacesSo : List Cond := .code yL_arePlacesSo cL_arePlacesSo 7 (some .boolean) :: ((wsL_arePlacesSo_r1 ++ (wsL_arePlacesSo_r2 ++ (wsL_arePlacesSo_r3 ++ (wsL_arePlacesSo_r4 ++ (wsL_arePlacesSo_r5 ++ wsL_arePlacesSo_r6))))) ++ wsX00 ++ (vx_atS RX0 166 "java/lang/IndexOutOfBoundsException" ["java/lang/RuntimeException", "java/lang/Exception"]).filter goodWord ++ (gNSat).filter goodWord ++ (vx_atS RX0 180 "java/lang/IllegalStateException" ["java/lang/RuntimeException", "java/lang/Exception"]).filter goodWord)
def wsL_isStepSo_r1 : List Cond := [Cond.methodLink RL 84 yX0_inside, Cond.instanceMethod yX0_inside, Cond.selects RX0 yX0_inside yX0_inside, Cond.initialized RX0, Cond.code yX0_inside cX0_inside 3 (some .int), Cond.fieldLink RX0 53 "Stairflow" "placeCount" "I", Cond.fieldLink RX0 13 "Stairflow" "peopleAt" "[I", Cond.methodLink RL 96 yX0_people, Cond.instanceMethod yX0_people, Cond.selects RX0 yX0_people yX0_people, Cond.code yX0_people cX0_people 2 (some .int), Cond.methodLink RX0 74 yX0_requirePlace, Cond.instanceMethod yX0_requirePlace, Cond.selects RX0 yX0_requirePlace yX0_requirePlace, Cond.code yX0_requirePlace cX0_requirePlace 2 none, Cond.classLink RX0 162 "java/lang/IndexOutOfBoundsException", Cond.initialized "java/lang/IndexOutOfBoundsException", Cond.methodLink RX0 148 yX0_isPlace, Cond.instanceMethod yX0_isPlace, Cond.selects RX0 yX0_isPlace yX0_isPlace, Cond.code yX0_isPlace cX0_isPlace 2 (some .boolean), Cond.methodLink RL 59 yX0_places, Cond.instanceMethod yX0_places, Cond.selects RX0 yX0_places yX0_places]
def wsL_isStepSo_r2 : List Cond := [Cond.code yX0_places cX0_places 1 (some .int), Cond.methodLink RL 99 yX0_wouldMove, Cond.instanceMethod yX0_wouldMove, Cond.selects RX0 yX0_wouldMove yX0_wouldMove, Cond.code yX0_wouldMove cX0_wouldMove 3 (some .int), Cond.fieldLink RX0 22 "Stairflow" "doorOf" "[I", Cond.fieldLink RX0 50 "Stairflow" "grantedTo" "[I", Cond.methodLink RX0 108 yX0_isDoor, Cond.instanceMethod yX0_isDoor, Cond.selects RX0 yX0_isDoor yX0_isDoor, Cond.code yX0_isDoor cX0_isDoor 2 (some .boolean), Cond.fieldLink RX0 78 "Stairflow" "doorCount" "I", Cond.methodLink RX0 112 yX0_grantAll, Cond.instanceMethod yX0_grantAll, Cond.selects RX0 yX0_grantAll yX0_grantAll, Cond.code yX0_grantAll cX0_grantAll 2 none, Cond.methodLink RX0 136 yX0_grantAt, Cond.instanceMethod yX0_grantAt, Cond.selects RX0 yX0_grantAt yX0_grantAt, Cond.code yX0_grantAt cX0_grantAt 5 none, Cond.methodLink RX0 84 yX0_roomLeft, Cond.instanceMethod yX0_roomLeft, Cond.selects RX0 yX0_roomLeft yX0_roomLeft, Cond.code yX0_roomLeft cX0_roomLeft 2 (some .int)]
def wsL_isStepSo_r3 : List Cond := [Cond.constant RX0 151 (1000000), Cond.fieldLink RX0 9 "Stairflow" "roomOf" "[I", Cond.methodLink RX0 139 yX0_grantRound, Cond.instanceMethod yX0_grantRound, Cond.selects RX0 yX0_grantRound yX0_grantRound, Cond.code yX0_grantRound cX0_grantRound 7 (some .int), Cond.fieldLink RX0 47 "Stairflow" "targetOf" "[I", Cond.fieldLink RX0 34 "Stairflow" "shareOf" "[I", Cond.methodLink RX0 145 Lib.Math.min.name, Cond.static Lib.Math.min.name, Cond.initialized "java/lang/Math", Cond.code Lib.Math.min.name Lib.Math.min.code 2 (some .int), Cond.methodLink RX0 142 yX0_wishBy, Cond.instanceMethod yX0_wishBy, Cond.selects RX0 yX0_wishBy yX0_wishBy, Cond.code yX0_wishBy cX0_wishBy 3 (some .int), Cond.fieldLink RX0 44 "Stairflow" "sourceOf" "[I", Cond.fieldLink RX0 16 "Stairflow" "releaseOf" "[I", Cond.fieldLink RX0 99 "Stairflow" "timeNow" "I", Cond.fieldLink RX0 31 "Stairflow" "flowOf" "[I", Cond.methodLink RL 68 yX0_doors, Cond.instanceMethod yX0_doors, Cond.selects RX0 yX0_doors yX0_doors, Cond.code yX0_doors cX0_doors 1 (some .int)]
def wsL_isStepSo_r4 : List Cond := [Cond.methodLink RL 108 yX0_passed, Cond.instanceMethod yX0_passed, Cond.selects RX0 yX0_passed yX0_passed, Cond.code yX0_passed cX0_passed 2 (some .int), Cond.fieldLink RX0 41 "Stairflow" "passedBy" "[I", Cond.methodLink RX0 81 yX0_requireDoor, Cond.instanceMethod yX0_requireDoor, Cond.selects RX0 yX0_requireDoor yX0_requireDoor, Cond.code yX0_requireDoor cX0_requireDoor 2 none, Cond.methodLink RL 104 yL_door, Cond.static yL_door, Cond.initialized RL, Cond.codeWith yL_door cL_door 3 (some .int) [(0, 5, 6, 23), (0, 5, 10, 42)], Cond.classLink RL 23 "java/lang/IndexOutOfBoundsException", Cond.classLink RL 42 "java/util/NoSuchElementException", Cond.constant RL 16 (-99999), Cond.methodLink RL 44 yX0_door, Cond.instanceMethod yX0_door, Cond.selects RX0 yX0_door yX0_door, Cond.code yX0_door cX0_door 2 (some .int), Cond.methodLink RX0 102 yX0_requireElement, Cond.static yX0_requireElement, Cond.code yX0_requireElement cX0_requireElement 1 none, Cond.classLink RX0 181 "java/util/NoSuchElementException"]
def wsL_isStepSo_r5 : List Cond := [Cond.initialized "java/util/NoSuchElementException", Cond.methodLink RL 87 yX0_waited, Cond.instanceMethod yX0_waited, Cond.selects RX0 yX0_waited yX0_waited, Cond.code yX0_waited cX0_waited 1 (some .int), Cond.fieldLink RX0 105 "Stairflow" "waitedSum" "I", Cond.methodLink RL 77 yX0_now, Cond.instanceMethod yX0_now, Cond.selects RX0 yX0_now yX0_now, Cond.code yX0_now cX0_now 1 (some .int), Cond.methodLink RL 36 yX0_step, Cond.instanceMethod yX0_step, Cond.selects RX0 yX0_step yX0_step, Cond.code yX0_step cX0_step 4 (some .int), Cond.methodLink RX0 60 yX0_isBetween, Cond.static yX0_isBetween, Cond.code yX0_isBetween cX0_isBetween 3 (some .boolean), Cond.methodLink RX0 64 yX0_requireArgument, Cond.static yX0_requireArgument, Cond.code yX0_requireArgument cX0_requireArgument 1 none, Cond.classLink RX0 171 "java/lang/IllegalArgumentException", Cond.initialized "java/lang/IllegalArgumentException", Cond.methodLink RX0 88 yX0_passOneStep, Cond.instanceMethod yX0_passOneStep]
def wsL_isStepSo_r6 : List Cond := [Cond.selects RX0 yX0_passOneStep yX0_passOneStep, Cond.code yX0_passOneStep cX0_passOneStep 3 (some .int), Cond.fieldLink RX0 57 "Stairflow" "latestTime" "I", Cond.methodLink RX0 133 yX0_moveGranted, Cond.instanceMethod yX0_moveGranted, Cond.selects RX0 yX0_moveGranted yX0_moveGranted, Cond.code yX0_moveGranted cX0_moveGranted 5 (some .int), Cond.methodLink RX0 92 yX0_inside, Cond.methodLink RL 90 yL_latest, Cond.static yL_latest, Cond.codeWith yL_latest cL_latest 2 (some .int) [(0, 4, 5, 42)], Cond.methodLink RL 51 yX0_latest, Cond.instanceMethod yX0_latest, Cond.selects RX0 yX0_latest yX0_latest, Cond.code yX0_latest cX0_latest 1 (some .int)]
def wsL_isStepSo : List Cond := .code yL_isStepSo cL_isStepSo 12 (some .boolean) :: ((wsL_isStepSo_r1 ++ (wsL_isStepSo_r2 ++ (wsL_isStepSo_r3 ++ (wsL_isStepSo_r4 ++ (wsL_isStepSo_r5 ++ wsL_isStepSo_r6))))) ++ wsX00 ++ (vx_atS RX0 166 "java/lang/IndexOutOfBoundsException" ["java/lang/RuntimeException", "java/lang/Exception"]).filter goodWord ++ (gNSat).filter goodWord ++ (vx_atS RX0 175 "java/lang/IllegalArgumentException" ["java/lang/RuntimeException", "java/lang/Exception"]).filter goodWord)
def wsL_law0_r1 : List Cond := [Cond.classLink RL 9 RX0, Cond.instantiable RX0 19, Cond.initialized RX0, Cond.arrayClass .long, Cond.constant RL 16 (-99999), Cond.methodLink RL 111 yX0_init, Cond.instanceMethod yX0_init, Cond.code yX0_init cX0_init 1 none, Cond.methodLink RX0 1 objectInit, Cond.instanceMethod objectInit, Cond.code objectInit ⟨#[0xb1]⟩ 1 none, Cond.arrayClass .int, Cond.fieldLink RX0 9 "Stairflow" "roomOf" "[I", Cond.fieldLink RX0 13 "Stairflow" "peopleAt" "[I", Cond.fieldLink RX0 16 "Stairflow" "releaseOf" "[I", Cond.fieldLink RX0 19 "Stairflow" "distanceOf" "[I", Cond.fieldLink RX0 22 "Stairflow" "doorOf" "[I", Cond.fieldLink RX0 25 "Stairflow" "oneEnd" "[I", Cond.fieldLink RX0 28 "Stairflow" "otherEnd" "[I", Cond.fieldLink RX0 31 "Stairflow" "flowOf" "[I", Cond.fieldLink RX0 34 "Stairflow" "shareOf" "[I", Cond.arrayClass .boolean, Cond.fieldLink RX0 37 "Stairflow" "isOpen" "[Z", Cond.fieldLink RX0 41 "Stairflow" "passedBy" "[I"]
def wsL_law0_r2 : List Cond := [Cond.fieldLink RX0 44 "Stairflow" "sourceOf" "[I", Cond.fieldLink RX0 47 "Stairflow" "targetOf" "[I", Cond.fieldLink RX0 50 "Stairflow" "grantedTo" "[I", Cond.fieldLink RX0 53 "Stairflow" "placeCount" "I", Cond.fieldLink RX0 57 "Stairflow" "latestTime" "I", Cond.methodLink RL 112 yL_cell, Cond.static yL_cell, Cond.initialized RL, Cond.code yL_cell cL_cell 2 (some .int), Cond.methodLink RL 116 yL_act, Cond.static yL_act, Cond.code yL_act cL_act 6 (some .int), Cond.methodLink RL 54 yL_low, Cond.static yL_low, Cond.code yL_low cL_low 2 (some .int), Cond.constant RL 7 (2147483647), Cond.methodLink RL 59 yX0_places, Cond.instanceMethod yX0_places, Cond.selects RX0 yX0_places yX0_places, Cond.code yX0_places cX0_places 1 (some .int), Cond.methodLink RL 62 yL_addPlace, Cond.static yL_addPlace, Cond.codeWith yL_addPlace cL_addPlace 3 (some .int) [(0, 5, 6, 14), (0, 5, 10, 17)], Cond.classLink RL 14 "java/lang/IllegalArgumentException"]
def wsL_law0_r3 : List Cond := [Cond.classLink RL 17 "java/lang/IllegalStateException", Cond.methodLink RL 8 yX0_addPlace, Cond.instanceMethod yX0_addPlace, Cond.selects RX0 yX0_addPlace yX0_addPlace, Cond.code yX0_addPlace cX0_addPlace 3 (some .int), Cond.methodLink RX0 60 yX0_isBetween, Cond.static yX0_isBetween, Cond.code yX0_isBetween cX0_isBetween 3 (some .boolean), Cond.methodLink RX0 64 yX0_requireArgument, Cond.static yX0_requireArgument, Cond.code yX0_requireArgument cX0_requireArgument 1 none, Cond.classLink RX0 171 "java/lang/IllegalArgumentException", Cond.initialized "java/lang/IllegalArgumentException", Cond.methodLink RX0 68 yX0_requireState, Cond.static yX0_requireState, Cond.code yX0_requireState cX0_requireState 1 none, Cond.classLink RX0 176 "java/lang/IllegalStateException", Cond.initialized "java/lang/IllegalStateException", Cond.methodLink RX0 71 yX0_findWays, Cond.instanceMethod yX0_findWays, Cond.selects RX0 yX0_findWays yX0_findWays, Cond.code yX0_findWays cX0_findWays 2 none, Cond.fieldLink RX0 78 "Stairflow" "doorCount" "I", Cond.methodLink RX0 152 yX0_measureDistances]
def wsL_law0_r4 : List Cond := [Cond.instanceMethod yX0_measureDistances, Cond.selects RX0 yX0_measureDistances yX0_measureDistances, Cond.code yX0_measureDistances cX0_measureDistances 3 none, Cond.methodLink RX0 159 yX0_reach, Cond.instanceMethod yX0_reach, Cond.selects RX0 yX0_reach yX0_reach, Cond.code yX0_reach cX0_reach 4 none, Cond.methodLink RX0 155 yX0_offerDoor, Cond.instanceMethod yX0_offerDoor, Cond.selects RX0 yX0_offerDoor yX0_offerDoor, Cond.code yX0_offerDoor cX0_offerDoor 5 none, Cond.methodLink RL 65 yL_addDoor, Cond.static yL_addDoor, Cond.codeWith yL_addDoor cL_addDoor 6 (some .int) [(0, 9, 10, 23), (0, 9, 15, 14), (0, 9, 20, 17)], Cond.classLink RL 23 "java/lang/IndexOutOfBoundsException", Cond.methodLink RL 19 yX0_addDoor, Cond.instanceMethod yX0_addDoor, Cond.selects RX0 yX0_addDoor yX0_addDoor, Cond.code yX0_addDoor cX0_addDoor 6 (some .int), Cond.methodLink RX0 74 yX0_requirePlace, Cond.instanceMethod yX0_requirePlace, Cond.selects RX0 yX0_requirePlace yX0_requirePlace, Cond.code yX0_requirePlace cX0_requirePlace 2 none, Cond.classLink RX0 162 "java/lang/IndexOutOfBoundsException"]
def wsL_law0_r5 : List Cond := [Cond.initialized "java/lang/IndexOutOfBoundsException", Cond.methodLink RX0 148 yX0_isPlace, Cond.instanceMethod yX0_isPlace, Cond.selects RX0 yX0_isPlace yX0_isPlace, Cond.code yX0_isPlace cX0_isPlace 2 (some .boolean), Cond.methodLink RL 68 yX0_doors, Cond.instanceMethod yX0_doors, Cond.selects RX0 yX0_doors yX0_doors, Cond.code yX0_doors cX0_doors 1 (some .int), Cond.methodLink RL 71 yL_setDoor, Cond.static yL_setDoor, Cond.codeWith yL_setDoor cL_setDoor 4 (some .int) [(0, 14, 15, 23)], Cond.methodLink RL 25 yX0_setDoor, Cond.instanceMethod yX0_setDoor, Cond.selects RX0 yX0_setDoor yX0_setDoor, Cond.code yX0_setDoor cX0_setDoor 4 (some .boolean), Cond.methodLink RX0 81 yX0_requireDoor, Cond.instanceMethod yX0_requireDoor, Cond.selects RX0 yX0_requireDoor yX0_requireDoor, Cond.code yX0_requireDoor cX0_requireDoor 2 none, Cond.methodLink RX0 108 yX0_isDoor, Cond.instanceMethod yX0_isDoor, Cond.selects RX0 yX0_isDoor yX0_isDoor, Cond.code yX0_isDoor cX0_isDoor 2 (some .boolean)]
def wsL_law0_r6 : List Cond := [Cond.methodLink RL 74 yL_come, Cond.static yL_come, Cond.codeWith yL_come cL_come 4 (some .int) [(0, 6, 7, 23), (0, 6, 11, 14), (0, 6, 15, 17)], Cond.methodLink RL 29 yX0_come, Cond.instanceMethod yX0_come, Cond.selects RX0 yX0_come yX0_come, Cond.code yX0_come cX0_come 3 (some .int), Cond.methodLink RX0 84 yX0_roomLeft, Cond.instanceMethod yX0_roomLeft, Cond.selects RX0 yX0_roomLeft yX0_roomLeft, Cond.code yX0_roomLeft cX0_roomLeft 2 (some .int), Cond.constant RX0 151 (1000000), Cond.methodLink RL 77 yX0_now, Cond.instanceMethod yX0_now, Cond.selects RX0 yX0_now yX0_now, Cond.code yX0_now cX0_now 1 (some .int), Cond.fieldLink RX0 99 "Stairflow" "timeNow" "I", Cond.methodLink RL 80 yL_setRelease, Cond.static yL_setRelease, Cond.codeWith yL_setRelease cL_setRelease 4 (some .int) [(0, 6, 7, 23), (0, 6, 11, 14)], Cond.methodLink RL 33 yX0_setRelease, Cond.instanceMethod yX0_setRelease, Cond.selects RX0 yX0_setRelease yX0_setRelease, Cond.code yX0_setRelease cX0_setRelease 4 (some .int)]
def wsL_law0_r7 : List Cond := [Cond.methodLink RL 82 yL_step, Cond.static yL_step, Cond.codeWith yL_step cL_step 3 (some .int) [(0, 5, 6, 14)], Cond.methodLink RL 36 yX0_step, Cond.instanceMethod yX0_step, Cond.selects RX0 yX0_step yX0_step, Cond.code yX0_step cX0_step 4 (some .int), Cond.methodLink RX0 88 yX0_passOneStep, Cond.instanceMethod yX0_passOneStep, Cond.selects RX0 yX0_passOneStep yX0_passOneStep, Cond.code yX0_passOneStep cX0_passOneStep 3 (some .int), Cond.fieldLink RX0 105 "Stairflow" "waitedSum" "I", Cond.methodLink RX0 112 yX0_grantAll, Cond.instanceMethod yX0_grantAll, Cond.selects RX0 yX0_grantAll yX0_grantAll, Cond.code yX0_grantAll cX0_grantAll 2 none, Cond.methodLink RX0 136 yX0_grantAt, Cond.instanceMethod yX0_grantAt, Cond.selects RX0 yX0_grantAt yX0_grantAt, Cond.code yX0_grantAt cX0_grantAt 5 none, Cond.methodLink RX0 139 yX0_grantRound, Cond.instanceMethod yX0_grantRound, Cond.selects RX0 yX0_grantRound yX0_grantRound, Cond.code yX0_grantRound cX0_grantRound 7 (some .int)]
def wsL_law0_r8 : List Cond := [Cond.methodLink RX0 145 Lib.Math.min.name, Cond.static Lib.Math.min.name, Cond.initialized "java/lang/Math", Cond.code Lib.Math.min.name Lib.Math.min.code 2 (some .int), Cond.methodLink RX0 142 yX0_wishBy, Cond.instanceMethod yX0_wishBy, Cond.selects RX0 yX0_wishBy yX0_wishBy, Cond.code yX0_wishBy cX0_wishBy 3 (some .int), Cond.methodLink RX0 133 yX0_moveGranted, Cond.instanceMethod yX0_moveGranted, Cond.selects RX0 yX0_moveGranted yX0_moveGranted, Cond.code yX0_moveGranted cX0_moveGranted 5 (some .int), Cond.methodLink RX0 92 yX0_inside, Cond.instanceMethod yX0_inside, Cond.selects RX0 yX0_inside yX0_inside, Cond.code yX0_inside cX0_inside 3 (some .int), Cond.methodLink RL 119 yL_areAlike, Cond.static yL_areAlike, Cond.code yL_areAlike cL_areAlike 4 (some .boolean), Cond.methodLink RL 84 yX0_inside, Cond.methodLink RL 87 yX0_waited, Cond.instanceMethod yX0_waited, Cond.selects RX0 yX0_waited yX0_waited, Cond.code yX0_waited cX0_waited 1 (some .int)]
def wsL_law0_r9 : List Cond := [Cond.methodLink RL 90 yL_latest, Cond.static yL_latest, Cond.codeWith yL_latest cL_latest 2 (some .int) [(0, 4, 5, 42)], Cond.classLink RL 42 "java/util/NoSuchElementException", Cond.methodLink RL 51 yX0_latest, Cond.instanceMethod yX0_latest, Cond.selects RX0 yX0_latest yX0_latest, Cond.code yX0_latest cX0_latest 1 (some .int), Cond.methodLink RX0 102 yX0_requireElement, Cond.static yX0_requireElement, Cond.code yX0_requireElement cX0_requireElement 1 none, Cond.classLink RX0 181 "java/util/NoSuchElementException", Cond.initialized "java/util/NoSuchElementException", Cond.methodLink RL 93 yX0_trapped, Cond.instanceMethod yX0_trapped, Cond.selects RX0 yX0_trapped yX0_trapped, Cond.code yX0_trapped cX0_trapped 3 (some .int), Cond.methodLink RL 96 yX0_people, Cond.instanceMethod yX0_people, Cond.selects RX0 yX0_people yX0_people, Cond.code yX0_people cX0_people 2 (some .int), Cond.methodLink RL 99 yX0_wouldMove, Cond.instanceMethod yX0_wouldMove, Cond.selects RX0 yX0_wouldMove yX0_wouldMove]
def wsL_law0_r10 : List Cond := [Cond.code yX0_wouldMove cX0_wouldMove 3 (some .int), Cond.methodLink RL 123 yL_arePlacesSo, Cond.static yL_arePlacesSo, Cond.code yL_arePlacesSo cL_arePlacesSo 7 (some .boolean), Cond.methodLink RL 102 yL_distance, Cond.static yL_distance, Cond.codeWith yL_distance cL_distance 3 (some .int) [(0, 5, 6, 23), (0, 5, 10, 42)], Cond.methodLink RL 39 yX0_distance, Cond.instanceMethod yX0_distance, Cond.selects RX0 yX0_distance yX0_distance, Cond.code yX0_distance cX0_distance 2 (some .int), Cond.methodLink RL 104 yL_door, Cond.static yL_door, Cond.codeWith yL_door cL_door 3 (some .int) [(0, 5, 6, 23), (0, 5, 10, 42)], Cond.methodLink RL 44 yX0_door, Cond.instanceMethod yX0_door, Cond.selects RX0 yX0_door yX0_door, Cond.code yX0_door cX0_door 2 (some .int), Cond.methodLink RL 106 yL_bound, Cond.static yL_bound, Cond.codeWith yL_bound cL_bound 2 (some .int) [(0, 4, 5, 17)], Cond.methodLink RL 47 yX0_bound, Cond.instanceMethod yX0_bound, Cond.selects RX0 yX0_bound yX0_bound]
def wsL_law0_r11 : List Cond := [Cond.code yX0_bound cX0_bound 3 (some .int), Cond.methodLink RX0 121 Lib.Math.max.name, Cond.static Lib.Math.max.name, Cond.code Lib.Math.max.name Lib.Math.max.code 2 (some .int), Cond.methodLink RX0 115 yX0_trapped, Cond.methodLink RX0 118 yX0_boundAt, Cond.instanceMethod yX0_boundAt, Cond.selects RX0 yX0_boundAt yX0_boundAt, Cond.code yX0_boundAt cX0_boundAt 4 (some .int), Cond.methodLink RX0 127 yX0_peopleFrom, Cond.instanceMethod yX0_peopleFrom, Cond.selects RX0 yX0_peopleFrom yX0_peopleFrom, Cond.code yX0_peopleFrom cX0_peopleFrom 4 (some .int), Cond.methodLink RX0 130 yX0_flowInward, Cond.instanceMethod yX0_flowInward, Cond.selects RX0 yX0_flowInward yX0_flowInward, Cond.code yX0_flowInward cX0_flowInward 7 (some .int), Cond.methodLink RL 127 yL_isStepSo, Cond.static yL_isStepSo, Cond.code yL_isStepSo cL_isStepSo 12 (some .boolean), Cond.methodLink RL 108 yX0_passed, Cond.instanceMethod yX0_passed, Cond.selects RX0 yX0_passed yX0_passed, Cond.code yX0_passed cX0_passed 2 (some .int)]
def wsL_law0_r12 : List Cond := [Cond.methodLink RL 131 yX0_clear, Cond.instanceMethod yX0_clear, Cond.selects RX0 yX0_clear yX0_clear, Cond.code yX0_clear cX0_clear 5 (some .int), Cond.methodLink RX0 95 yX0_areAllReleased, Cond.instanceMethod yX0_areAllReleased, Cond.selects RX0 yX0_areAllReleased yX0_areAllReleased, Cond.code yX0_areAllReleased cX0_areAllReleased 2 (some .boolean)]
def wsL_law0 : List Cond := (wsL_law0_r1 ++ (wsL_law0_r2 ++ (wsL_law0_r3 ++ (wsL_law0_r4 ++ (wsL_law0_r5 ++ (wsL_law0_r6 ++ (wsL_law0_r7 ++ (wsL_law0_r8 ++ (wsL_law0_r9 ++ (wsL_law0_r10 ++ (wsL_law0_r11 ++ wsL_law0_r12))))))))))) ++ wsX00 ++ ([] : List Cond)
def wsL_law : List Cond := wsL_law0 ++ (vx_atS RX0 175 "java/lang/IllegalArgumentException" ["java/lang/RuntimeException", "java/lang/Exception"]).filter goodWord ++ (vx_atS RX0 180 "java/lang/IllegalStateException" ["java/lang/RuntimeException", "java/lang/Exception"]).filter goodWord ++ (vx_atS RX0 166 "java/lang/IndexOutOfBoundsException" ["java/lang/RuntimeException", "java/lang/Exception"]).filter goodWord ++ (gNSat).filter goodWord
theorem inlX0 : ∀ w ∈ wsX00, w ∈ wsL_law := fun _ h => List.mem_append_left _ (List.mem_append_left _ (List.mem_append_left _ (List.mem_append_left _ (List.mem_append_left _ (List.mem_append_right _ h)))))
theorem inX1 : ∀ w ∈ wsX10, w ∈ lw_tbl := by decide +kernel
theorem inJx145de : ∀ w ∈ wsJx145de0, w ∈ lw_tbl := by decide +kernel
theorem inJ9 : ∀ w ∈ wsJ90, w ∈ lw_tbl := by decide +kernel
theorem inJ0 : ∀ w ∈ wsJ00, w ∈ lw_tbl := by decide +kernel
set_option maxRecDepth 20000 in
theorem ggX0_addPlace_X0_isBetween : GoodIn wsX0_addPlace wsX0_isBetween := goodIn_r _ [6] (by decide +kernel) (by decide +kernel)
set_option maxRecDepth 20000 in
theorem gX0_addPlace_X0_isBetween : GoodIn wsX0_addPlace (va_wsS RX0 60 yX0_isBetween wsX0_isBetween) := goodIn_app (goodIn_of _ (by decide +kernel)) ggX0_addPlace_X0_isBetween
set_option maxRecDepth 20000 in
theorem ggX0_addPlace_X0_requireArgument : GoodIn wsX0_addPlace wsX0_requireArgument := goodIn_ca (goodIn_r _ [9, 10, 11] (by decide +kernel) (by decide +kernel)) (goodIn_sub (fun _ h => List.mem_cons_of_mem _ (List.mem_append_left _ (List.mem_append_right _ h))) (by decide +kernel))
set_option maxRecDepth 20000 in
theorem gX0_addPlace_X0_requireArgument : GoodIn wsX0_addPlace (va_wsS RX0 64 yX0_requireArgument wsX0_requireArgument) := goodIn_app (goodIn_of _ (by decide +kernel)) ggX0_addPlace_X0_requireArgument
set_option maxRecDepth 20000 in
theorem ggX0_addPlace_X0_requireState : GoodIn wsX0_addPlace wsX0_requireState := goodIn_ca (goodIn_r _ [14, 15, 16] (by decide +kernel) (by decide +kernel)) (goodIn_sub (fun _ h => List.mem_cons_of_mem _ (List.mem_append_right _ h)) (by decide +kernel))
set_option maxRecDepth 20000 in
theorem gX0_addPlace_X0_requireState : GoodIn wsX0_addPlace (va_wsS RX0 68 yX0_requireState wsX0_requireState) := goodIn_app (goodIn_of _ (by decide +kernel)) ggX0_addPlace_X0_requireState
set_option maxRecDepth 20000 in
theorem ggX0_addPlace_X0_findWays : GoodIn wsX0_addPlace wsX0_findWays := goodIn_r _ [20, 1, 21, 22, 23, 24, 25, 26, 27, 28, 29, 5, 30, 31, 32, 33, 34, 35, 36, 37, 38, 39, 40, 41, 42, 43, 44, 45, 46, 47, 48, 49, 50, 51, 52, 53, 54, 55, 56, 57, 58, 59] (by decide +kernel) (by decide +kernel)
set_option maxRecDepth 20000 in
theorem gX0_addPlace_X0_findWays : GoodIn wsX0_addPlace (wsV RX0 71 RX0 yX0_findWays wsX0_findWays) := goodIn_app (goodIn_of _ (by decide +kernel)) ggX0_addPlace_X0_findWays
set_option maxRecDepth 20000 in
theorem ggX0_addDoor_X0_requirePlace : GoodIn wsX0_addDoor wsX0_requirePlace := goodIn_ca (goodIn_r _ [11, 12, 13, 14, 15, 16, 10, 17, 18, 52, 53, 54, 55, 56, 57, 58, 59, 60, 61, 62, 63, 64, 65, 66, 67, 68, 69, 70] (by decide +kernel) (by decide +kernel)) (goodIn_sub (fun _ h => List.mem_cons_of_mem _ (List.mem_append_left _ (List.mem_append_left _ (List.mem_append_right _ h)))) (by decide +kernel))
set_option maxRecDepth 20000 in
theorem gX0_addDoor_X0_requirePlace : GoodIn wsX0_addDoor (wsV RX0 74 RX0 yX0_requirePlace wsX0_requirePlace) := goodIn_app (goodIn_of _ (by decide +kernel)) ggX0_addDoor_X0_requirePlace
set_option maxRecDepth 20000 in
theorem ggX0_addDoor_X0_isBetween : GoodIn wsX0_addDoor wsX0_isBetween := goodIn_r _ [21] (by decide +kernel) (by decide +kernel)
set_option maxRecDepth 20000 in
theorem gX0_addDoor_X0_isBetween : GoodIn wsX0_addDoor (va_wsS RX0 60 yX0_isBetween wsX0_isBetween) := goodIn_app (goodIn_of _ (by decide +kernel)) ggX0_addDoor_X0_isBetween
set_option maxRecDepth 20000 in
theorem ggX0_addDoor_X0_requireArgument : GoodIn wsX0_addDoor wsX0_requireArgument := goodIn_ca (goodIn_r _ [24, 25, 26] (by decide +kernel) (by decide +kernel)) (goodIn_sub (fun _ h => List.mem_cons_of_mem _ (List.mem_append_left _ (List.mem_append_right _ h))) (by decide +kernel))
set_option maxRecDepth 20000 in
theorem gX0_addDoor_X0_requireArgument : GoodIn wsX0_addDoor (va_wsS RX0 64 yX0_requireArgument wsX0_requireArgument) := goodIn_app (goodIn_of _ (by decide +kernel)) ggX0_addDoor_X0_requireArgument
set_option maxRecDepth 20000 in
theorem ggX0_addDoor_X0_requireState : GoodIn wsX0_addDoor wsX0_requireState := goodIn_ca (goodIn_r _ [29, 30, 31] (by decide +kernel) (by decide +kernel)) (goodIn_sub (fun _ h => List.mem_cons_of_mem _ (List.mem_append_right _ h)) (by decide +kernel))
set_option maxRecDepth 20000 in
theorem gX0_addDoor_X0_requireState : GoodIn wsX0_addDoor (va_wsS RX0 68 yX0_requireState wsX0_requireState) := goodIn_app (goodIn_of _ (by decide +kernel)) ggX0_addDoor_X0_requireState
set_option maxRecDepth 20000 in
theorem ggX0_addDoor_X0_findWays : GoodIn wsX0_addDoor wsX0_findWays := goodIn_r _ [35, 18, 36, 1, 37, 38, 2, 3, 39, 40, 41, 10, 42, 43, 6, 44, 45, 46, 47, 48, 49, 50, 51, 52, 53, 54, 55, 56, 57, 58, 59, 60, 61, 62, 63, 64, 65, 66, 67, 68, 69, 70] (by decide +kernel) (by decide +kernel)
set_option maxRecDepth 20000 in
theorem gX0_addDoor_X0_findWays : GoodIn wsX0_addDoor (wsV RX0 71 RX0 yX0_findWays wsX0_findWays) := goodIn_app (goodIn_of _ (by decide +kernel)) ggX0_addDoor_X0_findWays
set_option maxRecDepth 20000 in
theorem ggX0_setDoor_X0_requireDoor : GoodIn wsX0_setDoor wsX0_requireDoor := goodIn_ca (goodIn_r _ [6, 7, 8, 9, 10, 11, 5, 12, 13, 37, 38, 39, 40, 41, 42, 43, 44, 45, 46, 47, 48, 49, 50, 51, 52, 53, 54, 55] (by decide +kernel) (by decide +kernel)) (goodIn_sub (fun _ h => List.mem_cons_of_mem _ (List.mem_append_right _ h)) (by decide +kernel))
set_option maxRecDepth 20000 in
theorem gX0_setDoor_X0_requireDoor : GoodIn wsX0_setDoor (wsV RX0 81 RX0 yX0_requireDoor wsX0_requireDoor) := goodIn_app (goodIn_of _ (by decide +kernel)) ggX0_setDoor_X0_requireDoor
set_option maxRecDepth 20000 in
theorem ggX0_setDoor_X0_findWays : GoodIn wsX0_setDoor wsX0_findWays := goodIn_r _ [17, 18, 19, 13, 20, 21, 22, 23, 24, 25, 26, 5, 27, 28, 1, 29, 30, 31, 32, 33, 34, 35, 36, 37, 38, 39, 40, 41, 42, 43, 44, 45, 46, 47, 48, 49, 50, 51, 52, 53, 54, 55] (by decide +kernel) (by decide +kernel)
set_option maxRecDepth 20000 in
theorem gX0_setDoor_X0_findWays : GoodIn wsX0_setDoor (wsV RX0 71 RX0 yX0_findWays wsX0_findWays) := goodIn_app (goodIn_of _ (by decide +kernel)) ggX0_setDoor_X0_findWays
set_option maxRecDepth 20000 in
theorem ggX0_come_X0_requirePlace : GoodIn wsX0_come wsX0_requirePlace := goodIn_ca (goodIn_r _ [6, 7, 8, 9, 10, 11, 5, 12, 13, 33, 34, 35, 36, 37, 38, 39, 40, 41, 42, 43, 44, 45, 46, 47, 48, 49, 50, 51] (by decide +kernel) (by decide +kernel)) (goodIn_sub (fun _ h => List.mem_cons_of_mem _ (List.mem_append_left _ (List.mem_append_left _ (List.mem_append_right _ h)))) (by decide +kernel))
set_option maxRecDepth 20000 in
theorem gX0_come_X0_requirePlace : GoodIn wsX0_come (wsV RX0 74 RX0 yX0_requirePlace wsX0_requirePlace) := goodIn_app (goodIn_of _ (by decide +kernel)) ggX0_come_X0_requirePlace
set_option maxRecDepth 20000 in
theorem ggX0_come_X0_isBetween : GoodIn wsX0_come wsX0_isBetween := goodIn_r _ [16] (by decide +kernel) (by decide +kernel)
set_option maxRecDepth 20000 in
theorem gX0_come_X0_isBetween : GoodIn wsX0_come (va_wsS RX0 60 yX0_isBetween wsX0_isBetween) := goodIn_app (goodIn_of _ (by decide +kernel)) ggX0_come_X0_isBetween
set_option maxRecDepth 20000 in
theorem ggX0_come_X0_requireArgument : GoodIn wsX0_come wsX0_requireArgument := goodIn_ca (goodIn_r _ [19, 20, 21] (by decide +kernel) (by decide +kernel)) (goodIn_sub (fun _ h => List.mem_cons_of_mem _ (List.mem_append_left _ (List.mem_append_right _ h))) (by decide +kernel))
set_option maxRecDepth 20000 in
theorem gX0_come_X0_requireArgument : GoodIn wsX0_come (va_wsS RX0 64 yX0_requireArgument wsX0_requireArgument) := goodIn_app (goodIn_of _ (by decide +kernel)) ggX0_come_X0_requireArgument
set_option maxRecDepth 20000 in
theorem ggX0_come_X0_roomLeft : GoodIn wsX0_come wsX0_roomLeft := goodIn_r _ [25, 26, 27, 1, 33, 34, 35, 36, 37, 38, 39, 40, 41, 42, 43, 44, 45, 46, 47, 48, 49, 50, 51] (by decide +kernel) (by decide +kernel)
set_option maxRecDepth 20000 in
theorem gX0_come_X0_roomLeft : GoodIn wsX0_come (wsV RX0 84 RX0 yX0_roomLeft wsX0_roomLeft) := goodIn_app (goodIn_of _ (by decide +kernel)) ggX0_come_X0_roomLeft
set_option maxRecDepth 20000 in
theorem ggX0_come_X0_requireState : GoodIn wsX0_come wsX0_requireState := goodIn_ca (goodIn_r _ [30, 31, 32] (by decide +kernel) (by decide +kernel)) (goodIn_sub (fun _ h => List.mem_cons_of_mem _ (List.mem_append_right _ h)) (by decide +kernel))
set_option maxRecDepth 20000 in
theorem gX0_come_X0_requireState : GoodIn wsX0_come (va_wsS RX0 68 yX0_requireState wsX0_requireState) := goodIn_app (goodIn_of _ (by decide +kernel)) ggX0_come_X0_requireState
set_option maxRecDepth 20000 in
theorem ggX0_setRelease_X0_requirePlace : GoodIn wsX0_setRelease wsX0_requirePlace := goodIn_ca (goodIn_r _ [6, 7, 8, 9, 10, 11, 5, 12, 13, 22, 23, 24, 25, 26, 27, 28, 29, 30, 31, 32, 33, 34, 35, 36, 37, 38, 39, 40] (by decide +kernel) (by decide +kernel)) (goodIn_sub (fun _ h => List.mem_cons_of_mem _ (List.mem_append_left _ (List.mem_append_right _ h))) (by decide +kernel))
set_option maxRecDepth 20000 in
theorem gX0_setRelease_X0_requirePlace : GoodIn wsX0_setRelease (wsV RX0 74 RX0 yX0_requirePlace wsX0_requirePlace) := goodIn_app (goodIn_of _ (by decide +kernel)) ggX0_setRelease_X0_requirePlace
set_option maxRecDepth 20000 in
theorem ggX0_setRelease_X0_isBetween : GoodIn wsX0_setRelease wsX0_isBetween := goodIn_r _ [16] (by decide +kernel) (by decide +kernel)
set_option maxRecDepth 20000 in
theorem gX0_setRelease_X0_isBetween : GoodIn wsX0_setRelease (va_wsS RX0 60 yX0_isBetween wsX0_isBetween) := goodIn_app (goodIn_of _ (by decide +kernel)) ggX0_setRelease_X0_isBetween
set_option maxRecDepth 20000 in
theorem ggX0_setRelease_X0_requireArgument : GoodIn wsX0_setRelease wsX0_requireArgument := goodIn_ca (goodIn_r _ [19, 20, 21] (by decide +kernel) (by decide +kernel)) (goodIn_sub (fun _ h => List.mem_cons_of_mem _ (List.mem_append_right _ h)) (by decide +kernel))
set_option maxRecDepth 20000 in
theorem gX0_setRelease_X0_requireArgument : GoodIn wsX0_setRelease (va_wsS RX0 64 yX0_requireArgument wsX0_requireArgument) := goodIn_app (goodIn_of _ (by decide +kernel)) ggX0_setRelease_X0_requireArgument
set_option maxRecDepth 20000 in
theorem ggX0_step_X0_isBetween : GoodIn wsX0_step wsX0_isBetween := goodIn_r _ [5] (by decide +kernel) (by decide +kernel)
set_option maxRecDepth 20000 in
theorem gX0_step_X0_isBetween : GoodIn wsX0_step (va_wsS RX0 60 yX0_isBetween wsX0_isBetween) := goodIn_app (goodIn_of _ (by decide +kernel)) ggX0_step_X0_isBetween
set_option maxRecDepth 20000 in
theorem ggX0_step_X0_requireArgument : GoodIn wsX0_step wsX0_requireArgument := goodIn_ca (goodIn_r _ [8, 9, 10] (by decide +kernel) (by decide +kernel)) (goodIn_sub (fun _ h => List.mem_cons_of_mem _ (List.mem_append_right _ h)) (by decide +kernel))
set_option maxRecDepth 20000 in
theorem gX0_step_X0_requireArgument : GoodIn wsX0_step (va_wsS RX0 64 yX0_requireArgument wsX0_requireArgument) := goodIn_app (goodIn_of _ (by decide +kernel)) ggX0_step_X0_requireArgument
set_option maxRecDepth 20000 in
theorem ggX0_step_X0_passOneStep : GoodIn wsX0_step wsX0_passOneStep := goodIn_r _ [14, 1, 15, 16, 17, 18, 19, 20, 4, 21, 22, 23, 24, 25, 26, 27, 28, 29, 30, 31, 32, 33, 34, 35, 36, 37, 38, 39, 40, 41, 42, 43, 44, 45, 46, 47, 48, 49, 50, 51, 52, 53, 54, 55, 56, 57, 58, 59, 60, 61, 62, 63, 64, 65, 66, 67, 68, 69, 70, 71, 72, 73, 74, 75, 76, 77, 78, 79, 80, 81, 82, 83] (by decide +kernel) (by decide +kernel)
set_option maxRecDepth 20000 in
theorem gX0_step_X0_passOneStep : GoodIn wsX0_step (wsV RX0 88 RX0 yX0_passOneStep wsX0_passOneStep) := goodIn_app (goodIn_of _ (by decide +kernel)) ggX0_step_X0_passOneStep
set_option maxRecDepth 20000 in
theorem ggX0_clear_X0_inside : GoodIn wsX0_clear wsX0_inside := goodIn_r _ [5, 6, 7, 61, 62, 63, 64, 65, 66, 67, 68, 69, 70, 71, 72, 73, 74, 75, 76, 77, 78, 79] (by decide +kernel) (by decide +kernel)
set_option maxRecDepth 20000 in
theorem gX0_clear_X0_inside : GoodIn wsX0_clear (wsV RX0 92 RX0 yX0_inside wsX0_inside) := goodIn_app (goodIn_of _ (by decide +kernel)) ggX0_clear_X0_inside
set_option maxRecDepth 20000 in
theorem ggX0_clear_X0_areAllReleased : GoodIn wsX0_clear wsX0_areAllReleased := goodIn_r _ [11, 6, 12, 13, 61, 62, 63, 64, 65, 66, 67, 68, 69, 70, 71, 72, 73, 74, 75, 76, 77, 78, 79] (by decide +kernel) (by decide +kernel)
set_option maxRecDepth 20000 in
theorem gX0_clear_X0_areAllReleased : GoodIn wsX0_clear (wsV RX0 95 RX0 yX0_areAllReleased wsX0_areAllReleased) := goodIn_app (goodIn_of _ (by decide +kernel)) ggX0_clear_X0_areAllReleased
set_option maxRecDepth 20000 in
theorem ggX0_clear_X0_passOneStep : GoodIn wsX0_clear wsX0_passOneStep := goodIn_r _ [17, 7, 13, 18, 19, 20, 21, 22, 4, 23, 24, 25, 6, 26, 27, 28, 29, 30, 31, 32, 33, 34, 35, 36, 37, 38, 39, 40, 41, 42, 43, 44, 45, 46, 47, 48, 49, 50, 12, 51, 52, 53, 54, 55, 56, 57, 58, 59, 60, 1, 2, 3, 5, 61, 62, 63, 64, 65, 66, 67, 68, 69, 70, 71, 72, 73, 74, 75, 76, 77, 78, 79] (by decide +kernel) (by decide +kernel)
set_option maxRecDepth 20000 in
theorem gX0_clear_X0_passOneStep : GoodIn wsX0_clear (wsV RX0 88 RX0 yX0_passOneStep wsX0_passOneStep) := goodIn_app (goodIn_of _ (by decide +kernel)) ggX0_clear_X0_passOneStep
set_option maxRecDepth 20000 in
theorem ggX0_people_X0_requirePlace : GoodIn wsX0_people wsX0_requirePlace := goodIn_ca (goodIn_r _ [6, 7, 8, 9, 10, 11, 5, 12, 13, 14, 15, 16, 17, 18, 19, 20, 21, 22, 23, 24, 25, 26, 27, 28, 29, 30, 31, 32] (by decide +kernel) (by decide +kernel)) (goodIn_sub (fun _ h => List.mem_cons_of_mem _ (List.mem_append_right _ h)) (by decide +kernel))
set_option maxRecDepth 20000 in
theorem gX0_people_X0_requirePlace : GoodIn wsX0_people (wsV RX0 74 RX0 yX0_requirePlace wsX0_requirePlace) := goodIn_app (goodIn_of _ (by decide +kernel)) ggX0_people_X0_requirePlace
set_option maxRecDepth 20000 in
theorem ggX0_latest_X0_requireElement : GoodIn wsX0_latest wsX0_requireElement := goodIn_ca (goodIn_r _ [5, 6, 7] (by decide +kernel) (by decide +kernel)) (goodIn_sub (fun _ h => List.mem_cons_of_mem _ (List.mem_append_right _ h)) (by decide +kernel))
set_option maxRecDepth 20000 in
theorem gX0_latest_X0_requireElement : GoodIn wsX0_latest (va_wsS RX0 102 yX0_requireElement wsX0_requireElement) := goodIn_app (goodIn_of _ (by decide +kernel)) ggX0_latest_X0_requireElement
set_option maxRecDepth 20000 in
theorem ggX0_passed_X0_requireDoor : GoodIn wsX0_passed wsX0_requireDoor := goodIn_ca (goodIn_r _ [6, 7, 8, 9, 10, 11, 5, 12, 13, 14, 15, 16, 17, 18, 19, 20, 21, 22, 23, 24, 25, 26, 27, 28, 29, 30, 31, 32] (by decide +kernel) (by decide +kernel)) (goodIn_sub (fun _ h => List.mem_cons_of_mem _ (List.mem_append_right _ h)) (by decide +kernel))
set_option maxRecDepth 20000 in
theorem gX0_passed_X0_requireDoor : GoodIn wsX0_passed (wsV RX0 81 RX0 yX0_requireDoor wsX0_requireDoor) := goodIn_app (goodIn_of _ (by decide +kernel)) ggX0_passed_X0_requireDoor
set_option maxRecDepth 20000 in
theorem ggX0_distance_X0_requirePlace : GoodIn wsX0_distance wsX0_requirePlace := goodIn_ca (goodIn_r _ [6, 7, 8, 9, 10, 11, 5, 12, 13, 19, 20, 21, 22, 23, 24, 25, 26, 27, 28, 29, 30, 31, 32, 33, 34, 35, 36, 37] (by decide +kernel) (by decide +kernel)) (goodIn_sub (fun _ h => List.mem_cons_of_mem _ (List.mem_append_left _ (List.mem_append_right _ h))) (by decide +kernel))
set_option maxRecDepth 20000 in
theorem gX0_distance_X0_requirePlace : GoodIn wsX0_distance (wsV RX0 74 RX0 yX0_requirePlace wsX0_requirePlace) := goodIn_app (goodIn_of _ (by decide +kernel)) ggX0_distance_X0_requirePlace
set_option maxRecDepth 20000 in
theorem ggX0_distance_X0_requireElement : GoodIn wsX0_distance wsX0_requireElement := goodIn_ca (goodIn_r _ [16, 17, 18] (by decide +kernel) (by decide +kernel)) (goodIn_sub (fun _ h => List.mem_cons_of_mem _ (List.mem_append_right _ h)) (by decide +kernel))
set_option maxRecDepth 20000 in
theorem gX0_distance_X0_requireElement : GoodIn wsX0_distance (va_wsS RX0 102 yX0_requireElement wsX0_requireElement) := goodIn_app (goodIn_of _ (by decide +kernel)) ggX0_distance_X0_requireElement
set_option maxRecDepth 20000 in
theorem ggX0_door_X0_requirePlace : GoodIn wsX0_door wsX0_requirePlace := goodIn_ca (goodIn_r _ [6, 7, 8, 9, 10, 11, 5, 12, 13, 19, 20, 21, 22, 23, 24, 25, 26, 27, 28, 29, 30, 31, 32, 33, 34, 35, 36, 37] (by decide +kernel) (by decide +kernel)) (goodIn_sub (fun _ h => List.mem_cons_of_mem _ (List.mem_append_left _ (List.mem_append_right _ h))) (by decide +kernel))
set_option maxRecDepth 20000 in
theorem gX0_door_X0_requirePlace : GoodIn wsX0_door (wsV RX0 74 RX0 yX0_requirePlace wsX0_requirePlace) := goodIn_app (goodIn_of _ (by decide +kernel)) ggX0_door_X0_requirePlace
set_option maxRecDepth 20000 in
theorem ggX0_door_X0_requireElement : GoodIn wsX0_door wsX0_requireElement := goodIn_ca (goodIn_r _ [16, 17, 18] (by decide +kernel) (by decide +kernel)) (goodIn_sub (fun _ h => List.mem_cons_of_mem _ (List.mem_append_right _ h)) (by decide +kernel))
set_option maxRecDepth 20000 in
theorem gX0_door_X0_requireElement : GoodIn wsX0_door (va_wsS RX0 102 yX0_requireElement wsX0_requireElement) := goodIn_app (goodIn_of _ (by decide +kernel)) ggX0_door_X0_requireElement
set_option maxRecDepth 20000 in
theorem ggX0_wouldMove_X0_requirePlace : GoodIn wsX0_wouldMove wsX0_requirePlace := goodIn_ca (goodIn_r _ [7, 8, 9, 10, 11, 12, 6, 13, 14, 53, 54, 55, 56, 57, 58, 59, 60, 61, 62, 63, 64, 65, 66, 67, 68, 69, 70, 71] (by decide +kernel) (by decide +kernel)) (goodIn_sub (fun _ h => List.mem_cons_of_mem _ (List.mem_append_right _ h)) (by decide +kernel))
set_option maxRecDepth 20000 in
theorem gX0_wouldMove_X0_requirePlace : GoodIn wsX0_wouldMove (wsV RX0 74 RX0 yX0_requirePlace wsX0_requirePlace) := goodIn_app (goodIn_of _ (by decide +kernel)) ggX0_wouldMove_X0_requirePlace
set_option maxRecDepth 20000 in
theorem ggX0_wouldMove_X0_isDoor : GoodIn wsX0_wouldMove wsX0_isDoor := goodIn_r _ [18, 19, 53, 54, 55, 56, 57, 58, 59, 60, 61, 62, 63, 64, 65, 66, 67, 68, 69, 70, 71] (by decide +kernel) (by decide +kernel)
set_option maxRecDepth 20000 in
theorem gX0_wouldMove_X0_isDoor : GoodIn wsX0_wouldMove (wsV RX0 108 RX0 yX0_isDoor wsX0_isDoor) := goodIn_app (goodIn_of _ (by decide +kernel)) ggX0_wouldMove_X0_isDoor
set_option maxRecDepth 20000 in
theorem ggX0_wouldMove_X0_grantAll : GoodIn wsX0_wouldMove wsX0_grantAll := goodIn_r _ [23, 19, 2, 14, 24, 25, 26, 6, 27, 28, 29, 30, 31, 32, 33, 34, 35, 36, 37, 38, 39, 40, 41, 42, 43, 44, 45, 46, 47, 48, 49, 50, 51, 52, 10, 11, 12, 13, 53, 54, 55, 56, 57, 58, 59, 60, 61, 62, 63, 64, 65, 66, 67, 68, 69, 70, 71] (by decide +kernel) (by decide +kernel)
set_option maxRecDepth 20000 in
theorem gX0_wouldMove_X0_grantAll : GoodIn wsX0_wouldMove (wsV RX0 112 RX0 yX0_grantAll wsX0_grantAll) := goodIn_app (goodIn_of _ (by decide +kernel)) ggX0_wouldMove_X0_grantAll
set_option maxRecDepth 20000 in
theorem ggX0_bound_X0_trapped : GoodIn wsX0_bound wsX0_trapped := goodIn_r _ [10, 1, 11, 12, 35, 36, 37, 38, 39, 40, 41, 42, 43, 44, 45, 46, 47, 48, 49, 50, 51, 52, 53] (by decide +kernel) (by decide +kernel)
set_option maxRecDepth 20000 in
theorem gX0_bound_X0_trapped : GoodIn wsX0_bound (wsV RX0 115 RX0 yX0_trapped wsX0_trapped) := goodIn_app (goodIn_of _ (by decide +kernel)) ggX0_bound_X0_trapped
set_option maxRecDepth 20000 in
theorem ggX0_bound_X0_requireState : GoodIn wsX0_bound wsX0_requireState := goodIn_ca (goodIn_r _ [15, 16, 17] (by decide +kernel) (by decide +kernel)) (goodIn_sub (fun _ h => List.mem_cons_of_mem _ (List.mem_append_right _ h)) (by decide +kernel))
set_option maxRecDepth 20000 in
theorem gX0_bound_X0_requireState : GoodIn wsX0_bound (va_wsS RX0 68 yX0_requireState wsX0_requireState) := goodIn_app (goodIn_of _ (by decide +kernel)) ggX0_bound_X0_requireState
set_option maxRecDepth 20000 in
theorem ggX0_bound_X0_boundAt : GoodIn wsX0_bound wsX0_boundAt := goodIn_r _ [21, 22, 23, 24, 9, 25, 1, 11, 12, 26, 27, 28, 29, 30, 31, 32, 33, 34, 35, 36, 37, 38, 39, 40, 41, 42, 43, 44, 45, 46, 47, 48, 49, 50, 51, 52, 53] (by decide +kernel) (by decide +kernel)
set_option maxRecDepth 20000 in
theorem gX0_bound_X0_boundAt : GoodIn wsX0_bound (wsV RX0 118 RX0 yX0_boundAt wsX0_boundAt) := goodIn_app (goodIn_of _ (by decide +kernel)) ggX0_bound_X0_boundAt
set_option maxRecDepth 20000 in
theorem ggX0_boundAt_X0_peopleFrom : GoodIn wsX0_boundAt wsX0_peopleFrom := goodIn_r _ [5, 6, 7, 8, 18, 19, 20, 21, 22, 23, 24, 25, 26, 27, 28, 29, 30, 31, 32, 33, 34, 35, 36] (by decide +kernel) (by decide +kernel)
set_option maxRecDepth 20000 in
theorem gX0_boundAt_X0_peopleFrom : GoodIn wsX0_boundAt (wsV RX0 127 RX0 yX0_peopleFrom wsX0_peopleFrom) := goodIn_app (goodIn_of _ (by decide +kernel)) ggX0_boundAt_X0_peopleFrom
set_option maxRecDepth 20000 in
theorem ggX0_boundAt_X0_flowInward : GoodIn wsX0_boundAt wsX0_flowInward := goodIn_r _ [12, 13, 7, 14, 15, 16, 17, 18, 19, 20, 21, 22, 23, 24, 25, 26, 27, 28, 29, 30, 31, 32, 33, 34, 35, 36] (by decide +kernel) (by decide +kernel)
set_option maxRecDepth 20000 in
theorem gX0_boundAt_X0_flowInward : GoodIn wsX0_boundAt (wsV RX0 130 RX0 yX0_flowInward wsX0_flowInward) := goodIn_app (goodIn_of _ (by decide +kernel)) ggX0_boundAt_X0_flowInward
set_option maxRecDepth 20000 in
theorem ggX0_passOneStep_X0_grantAll : GoodIn wsX0_passOneStep wsX0_grantAll := goodIn_r _ [9, 10, 11, 12, 13, 14, 15, 8, 16, 17, 18, 19, 20, 21, 22, 1, 23, 24, 25, 26, 27, 28, 29, 30, 31, 32, 33, 34, 35, 36, 37, 38, 2, 39, 40, 41, 42, 43, 53, 54, 55, 56, 57, 58, 59, 60, 61, 62, 63, 64, 65, 66, 67, 68, 69, 70, 71] (by decide +kernel) (by decide +kernel)
set_option maxRecDepth 20000 in
theorem gX0_passOneStep_X0_grantAll : GoodIn wsX0_passOneStep (wsV RX0 112 RX0 yX0_grantAll wsX0_grantAll) := goodIn_app (goodIn_of _ (by decide +kernel)) ggX0_passOneStep_X0_grantAll
set_option maxRecDepth 20000 in
theorem ggX0_passOneStep_X0_moveGranted : GoodIn wsX0_passOneStep wsX0_moveGranted := goodIn_r _ [47, 10, 37, 27, 1, 11, 48, 40, 41, 42, 8, 43, 12, 53, 54, 55, 56, 57, 58, 59, 60, 61, 62, 63, 64, 65, 66, 67, 68, 69, 70, 71] (by decide +kernel) (by decide +kernel)
set_option maxRecDepth 20000 in
theorem gX0_passOneStep_X0_moveGranted : GoodIn wsX0_passOneStep (wsV RX0 133 RX0 yX0_moveGranted wsX0_moveGranted) := goodIn_app (goodIn_of _ (by decide +kernel)) ggX0_passOneStep_X0_moveGranted
set_option maxRecDepth 20000 in
theorem ggX0_passOneStep_X0_inside : GoodIn wsX0_passOneStep wsX0_inside := goodIn_r _ [52, 12, 1, 53, 54, 55, 56, 57, 58, 59, 60, 61, 62, 63, 64, 65, 66, 67, 68, 69, 70, 71] (by decide +kernel) (by decide +kernel)
set_option maxRecDepth 20000 in
theorem gX0_passOneStep_X0_inside : GoodIn wsX0_passOneStep (wsV RX0 92 RX0 yX0_inside wsX0_inside) := goodIn_app (goodIn_of _ (by decide +kernel)) ggX0_passOneStep_X0_inside
set_option maxRecDepth 20000 in
theorem ggX0_grantAll_X0_grantAt : GoodIn wsX0_grantAll wsX0_grantAt := goodIn_r _ [8, 9, 10, 11, 7, 12, 13, 14, 15, 16, 17, 18, 19, 1, 20, 2, 21, 22, 23, 24, 25, 26, 27, 28, 29, 30, 31, 32, 33, 34, 35, 36, 37, 3, 38, 39, 40, 41, 42, 43, 44, 45, 46, 47, 48, 49, 50, 51, 52, 53, 54, 55, 56] (by decide +kernel) (by decide +kernel)
set_option maxRecDepth 20000 in
theorem gX0_grantAll_X0_grantAt : GoodIn wsX0_grantAll (wsV RX0 136 RX0 yX0_grantAt wsX0_grantAt) := goodIn_app (goodIn_of _ (by decide +kernel)) ggX0_grantAll_X0_grantAt
set_option maxRecDepth 20000 in
theorem ggX0_grantAt_X0_roomLeft : GoodIn wsX0_grantAt wsX0_roomLeft := goodIn_r _ [5, 6, 7, 8, 34, 35, 36, 37, 38, 39, 40, 41, 42, 43, 44, 45, 46, 47, 48, 49, 50, 51, 52] (by decide +kernel) (by decide +kernel)
set_option maxRecDepth 20000 in
theorem gX0_grantAt_X0_roomLeft : GoodIn wsX0_grantAt (wsV RX0 84 RX0 yX0_roomLeft wsX0_roomLeft) := goodIn_app (goodIn_of _ (by decide +kernel)) ggX0_grantAt_X0_roomLeft
set_option maxRecDepth 20000 in
theorem ggX0_grantAt_X0_grantRound : GoodIn wsX0_grantAt wsX0_grantRound := goodIn_r _ [12, 13, 14, 15, 16, 17, 18, 19, 20, 21, 22, 23, 4, 24, 25, 26, 27, 8, 28, 29, 30, 31, 32, 33, 34, 35, 36, 37, 38, 39, 40, 41, 42, 43, 44, 45, 46, 47, 48, 49, 50, 51, 52] (by decide +kernel) (by decide +kernel)
set_option maxRecDepth 20000 in
theorem gX0_grantAt_X0_grantRound : GoodIn wsX0_grantAt (wsV RX0 139 RX0 yX0_grantRound wsX0_grantRound) := goodIn_app (goodIn_of _ (by decide +kernel)) ggX0_grantAt_X0_grantRound
set_option maxRecDepth 20000 in
theorem ggX0_grantRound_X0_wishBy : GoodIn wsX0_grantRound wsX0_wishBy := goodIn_r _ [13, 14, 15, 16, 17, 18, 5, 6, 7, 8, 19, 20, 21, 12, 22, 23, 24, 25, 26, 27, 28, 29, 30, 31, 32, 33, 34, 35, 36, 37, 38, 39, 40, 41, 42] (by decide +kernel) (by decide +kernel)
set_option maxRecDepth 20000 in
theorem gX0_grantRound_X0_wishBy : GoodIn wsX0_grantRound (wsV RX0 142 RX0 yX0_wishBy wsX0_wishBy) := goodIn_app (goodIn_of _ (by decide +kernel)) ggX0_grantRound_X0_wishBy
set_option maxRecDepth 20000 in
theorem ggX0_wishBy_X0_isPlace : GoodIn wsX0_wishBy wsX0_isPlace := goodIn_r _ [14, 15, 16, 17, 18, 19, 20, 21, 22, 23, 24, 25, 26, 27, 28, 29, 30, 31, 32, 33, 34] (by decide +kernel) (by decide +kernel)
set_option maxRecDepth 20000 in
theorem gX0_wishBy_X0_isPlace : GoodIn wsX0_wishBy (wsV RX0 148 RX0 yX0_isPlace wsX0_isPlace) := goodIn_app (goodIn_of _ (by decide +kernel)) ggX0_wishBy_X0_isPlace
set_option maxRecDepth 20000 in
theorem ggX0_moveGranted_X0_isPlace : GoodIn wsX0_moveGranted wsX0_isPlace := goodIn_r _ [11, 12, 13, 14, 15, 16, 17, 18, 19, 20, 21, 22, 23, 24, 25, 26, 27, 28, 29, 30, 31] (by decide +kernel) (by decide +kernel)
set_option maxRecDepth 20000 in
theorem gX0_moveGranted_X0_isPlace : GoodIn wsX0_moveGranted (wsV RX0 148 RX0 yX0_isPlace wsX0_isPlace) := goodIn_app (goodIn_of _ (by decide +kernel)) ggX0_moveGranted_X0_isPlace
set_option maxRecDepth 20000 in
theorem ggX0_findWays_X0_measureDistances : GoodIn wsX0_findWays wsX0_measureDistances := goodIn_r _ [12, 13, 1, 3, 14, 6, 7, 15, 16, 17, 11, 18, 23, 24, 25, 26, 27, 28, 29, 30, 31, 32, 33, 34, 35, 36, 37, 38, 39, 40, 41] (by decide +kernel) (by decide +kernel)
set_option maxRecDepth 20000 in
theorem gX0_findWays_X0_measureDistances : GoodIn wsX0_findWays (wsV RX0 152 RX0 yX0_measureDistances wsX0_measureDistances) := goodIn_app (goodIn_of _ (by decide +kernel)) ggX0_findWays_X0_measureDistances
set_option maxRecDepth 20000 in
theorem ggX0_findWays_X0_offerDoor : GoodIn wsX0_findWays wsX0_offerDoor := goodIn_r _ [22, 14, 13, 2, 4, 5, 23, 24, 25, 26, 27, 28, 29, 30, 31, 32, 33, 34, 35, 36, 37, 38, 39, 40, 41] (by decide +kernel) (by decide +kernel)
set_option maxRecDepth 20000 in
theorem gX0_findWays_X0_offerDoor : GoodIn wsX0_findWays (wsV RX0 155 RX0 yX0_offerDoor wsX0_offerDoor) := goodIn_app (goodIn_of _ (by decide +kernel)) ggX0_findWays_X0_offerDoor
set_option maxRecDepth 20000 in
theorem ggX0_measureDistances_X0_reach : GoodIn wsX0_measureDistances wsX0_reach := goodIn_r _ [11, 1, 12, 13, 14, 15, 16, 17, 18, 19, 20, 21, 22, 23, 24, 25, 26, 27, 28, 29, 30] (by decide +kernel) (by decide +kernel)
set_option maxRecDepth 20000 in
theorem gX0_measureDistances_X0_reach : GoodIn wsX0_measureDistances (wsV RX0 159 RX0 yX0_reach wsX0_reach) := goodIn_app (goodIn_of _ (by decide +kernel)) ggX0_measureDistances_X0_reach
set_option maxRecDepth 20000 in
theorem ggX0_requirePlace_X0_isPlace : GoodIn wsX0_requirePlace wsX0_isPlace := goodIn_r _ [7, 8, 9, 10, 11, 12, 13, 14, 15, 16, 17, 18, 19, 20, 21, 22, 23, 24, 25, 26, 27] (by decide +kernel) (by decide +kernel)
set_option maxRecDepth 20000 in
theorem gX0_requirePlace_X0_isPlace : GoodIn wsX0_requirePlace (wsV RX0 148 RX0 yX0_isPlace wsX0_isPlace) := goodIn_app (goodIn_of _ (by decide +kernel)) ggX0_requirePlace_X0_isPlace
set_option maxRecDepth 20000 in
theorem ggX0_requireDoor_X0_isDoor : GoodIn wsX0_requireDoor wsX0_isDoor := goodIn_r _ [7, 8, 9, 10, 11, 12, 13, 14, 15, 16, 17, 18, 19, 20, 21, 22, 23, 24, 25, 26, 27] (by decide +kernel) (by decide +kernel)
set_option maxRecDepth 20000 in
theorem gX0_requireDoor_X0_isDoor : GoodIn wsX0_requireDoor (wsV RX0 108 RX0 yX0_isDoor wsX0_isDoor) := goodIn_app (goodIn_of _ (by decide +kernel)) ggX0_requireDoor_X0_isDoor
theorem dJ9_max_7cf53_0 : decode cJ9_max_7cf53 0 = .ok (.iload_n 0, 1) := by decide +kernel
theorem dJ9_max_7cf53_1 : decode cJ9_max_7cf53 1 = .ok (.iload_n 1, 1) := by decide +kernel
theorem dJ9_max_7cf53_2 : decode cJ9_max_7cf53 2 = .ok (.if_icmp .lt 7, 3) := by decide +kernel
theorem dJ9_max_7cf53_5 : decode cJ9_max_7cf53 5 = .ok (.iload_n 0, 1) := by decide +kernel
theorem dJ9_max_7cf53_6 : decode cJ9_max_7cf53 6 = .ok (.goto 4, 3) := by decide +kernel
theorem dJ9_max_7cf53_9 : decode cJ9_max_7cf53 9 = .ok (.iload_n 1, 1) := by decide +kernel
theorem dJ9_max_7cf53_10 : decode cJ9_max_7cf53 10 = .ok (.ireturn, 1) := by decide +kernel
theorem dJ9_min_7cf53_0 : decode cJ9_min_7cf53 0 = .ok (.iload_n 0, 1) := by decide +kernel
theorem dJ9_min_7cf53_1 : decode cJ9_min_7cf53 1 = .ok (.iload_n 1, 1) := by decide +kernel
theorem dJ9_min_7cf53_2 : decode cJ9_min_7cf53 2 = .ok (.if_icmp .gt 7, 3) := by decide +kernel
theorem dJ9_min_7cf53_5 : decode cJ9_min_7cf53 5 = .ok (.iload_n 0, 1) := by decide +kernel
theorem dJ9_min_7cf53_6 : decode cJ9_min_7cf53 6 = .ok (.goto 4, 3) := by decide +kernel
theorem dJ9_min_7cf53_9 : decode cJ9_min_7cf53 9 = .ok (.iload_n 1, 1) := by decide +kernel
theorem dJ9_min_7cf53_10 : decode cJ9_min_7cf53 10 = .ok (.ireturn, 1) := by decide +kernel
set_option maxRecDepth 20000 in
theorem ggL_addPlace_X0_addPlace : GoodIn wsL_addPlace wsX0_addPlace := goodIn_ca (goodIn_ca (goodIn_r _ [8, 9, 10, 11, 12, 7, 13, 14, 15, 16, 17, 18, 19, 20, 21, 22, 23, 24, 25, 26, 27, 28, 29, 30, 31, 32, 33, 34, 35, 36, 37, 38, 39, 40, 41, 42, 43, 44, 45, 46, 47, 48, 49, 50, 51, 52, 53, 54, 55, 56, 57, 58, 59, 60, 61, 62, 63, 64, 65, 66] (by decide +kernel) (by decide +kernel)) (goodIn_sub (fun _ h => List.mem_cons_of_mem _ (List.mem_append_left _ (List.mem_append_right _ h))) (by decide +kernel))) (goodIn_sub (fun _ h => List.mem_cons_of_mem _ (List.mem_append_right _ h)) (by decide +kernel))
set_option maxRecDepth 20000 in
theorem gL_addPlace_X0_addPlace : GoodIn wsL_addPlace (wsV RL 8 RX0 yX0_addPlace wsX0_addPlace) := goodIn_app (goodIn_of _ (by decide +kernel)) ggL_addPlace_X0_addPlace
set_option maxRecDepth 20000 in
theorem ggL_addDoor_X0_addDoor : GoodIn wsL_addDoor wsX0_addDoor := goodIn_ca (goodIn_ca (goodIn_ca (goodIn_r _ [9, 10, 11, 12, 13, 14, 15, 16, 17, 18, 8, 19, 20, 21, 22, 23, 24, 25, 26, 27, 28, 29, 30, 31, 32, 33, 34, 35, 36, 37, 38, 39, 40, 41, 42, 43, 44, 45, 46, 47, 48, 49, 50, 51, 52, 53, 54, 55, 56, 57, 58, 59, 60, 61, 62, 63, 64, 65, 66, 67, 68, 69, 70, 71, 72, 73, 74, 75, 76, 77, 78] (by decide +kernel) (by decide +kernel)) (goodIn_sub (fun _ h => List.mem_cons_of_mem _ (List.mem_append_left _ (List.mem_append_left _ (List.mem_append_right _ h)))) (by decide +kernel))) (goodIn_sub (fun _ h => List.mem_cons_of_mem _ (List.mem_append_left _ (List.mem_append_right _ h))) (by decide +kernel))) (goodIn_sub (fun _ h => List.mem_cons_of_mem _ (List.mem_append_right _ h)) (by decide +kernel))
set_option maxRecDepth 20000 in
theorem gL_addDoor_X0_addDoor : GoodIn wsL_addDoor (wsV RL 19 RX0 yX0_addDoor wsX0_addDoor) := goodIn_app (goodIn_of _ (by decide +kernel)) ggL_addDoor_X0_addDoor
set_option maxRecDepth 20000 in
theorem ggL_setDoor_X0_setDoor : GoodIn wsL_setDoor wsX0_setDoor := goodIn_ca (goodIn_r _ [7, 8, 9, 10, 11, 6, 12, 13, 14, 15, 16, 17, 18, 19, 20, 21, 22, 23, 24, 25, 26, 27, 28, 29, 30, 31, 32, 33, 34, 35, 36, 37, 38, 39, 40, 41, 42, 43, 44, 45, 46, 47, 48, 49, 50, 51, 52, 53, 54, 55, 56, 57, 58, 59, 60, 61] (by decide +kernel) (by decide +kernel)) (goodIn_sub (fun _ h => List.mem_cons_of_mem _ (List.mem_append_right _ h)) (by decide +kernel))
set_option maxRecDepth 20000 in
theorem gL_setDoor_X0_setDoor : GoodIn wsL_setDoor (wsV RL 25 RX0 yX0_setDoor wsX0_setDoor) := goodIn_app (goodIn_of _ (by decide +kernel)) ggL_setDoor_X0_setDoor
set_option maxRecDepth 20000 in
theorem ggL_come_X0_come : GoodIn wsL_come wsX0_come := goodIn_ca (goodIn_ca (goodIn_ca (goodIn_r _ [9, 10, 11, 12, 13, 8, 14, 15, 16, 17, 18, 19, 20, 21, 22, 23, 24, 25, 26, 27, 28, 29, 30, 31, 32, 33, 34, 35, 36, 37, 38, 39, 40, 41, 42, 43, 44, 45, 46, 47, 48, 49, 50, 51, 52, 53, 54, 55, 56, 57, 58, 59] (by decide +kernel) (by decide +kernel)) (goodIn_sub (fun _ h => List.mem_cons_of_mem _ (List.mem_append_left _ (List.mem_append_left _ (List.mem_append_right _ h)))) (by decide +kernel))) (goodIn_sub (fun _ h => List.mem_cons_of_mem _ (List.mem_append_left _ (List.mem_append_right _ h))) (by decide +kernel))) (goodIn_sub (fun _ h => List.mem_cons_of_mem _ (List.mem_append_right _ h)) (by decide +kernel))
set_option maxRecDepth 20000 in
theorem gL_come_X0_come : GoodIn wsL_come (wsV RL 29 RX0 yX0_come wsX0_come) := goodIn_app (goodIn_of _ (by decide +kernel)) ggL_come_X0_come
set_option maxRecDepth 20000 in
theorem ggL_setRelease_X0_setRelease : GoodIn wsL_setRelease wsX0_setRelease := goodIn_ca (goodIn_ca (goodIn_r _ [8, 9, 10, 11, 12, 7, 13, 14, 15, 16, 17, 18, 19, 20, 21, 22, 23, 24, 25, 26, 27, 28, 29, 30, 31, 32, 33, 34, 35, 36, 37, 38, 39, 40, 41, 42, 43, 44, 45, 46, 47] (by decide +kernel) (by decide +kernel)) (goodIn_sub (fun _ h => List.mem_cons_of_mem _ (List.mem_append_left _ (List.mem_append_right _ h))) (by decide +kernel))) (goodIn_sub (fun _ h => List.mem_cons_of_mem _ (List.mem_append_right _ h)) (by decide +kernel))
set_option maxRecDepth 20000 in
theorem gL_setRelease_X0_setRelease : GoodIn wsL_setRelease (wsV RL 33 RX0 yX0_setRelease wsX0_setRelease) := goodIn_app (goodIn_of _ (by decide +kernel)) ggL_setRelease_X0_setRelease
set_option maxRecDepth 20000 in
theorem ggL_step_X0_step : GoodIn wsL_step wsX0_step := goodIn_ca (goodIn_r _ [7, 8, 9, 10, 6, 11, 12, 13, 14, 15, 16, 17, 18, 19, 20, 21, 22, 23, 24, 25, 26, 27, 28, 29, 30, 31, 32, 33, 34, 35, 36, 37, 38, 39, 40, 41, 42, 43, 44, 45, 46, 47, 48, 49, 50, 51, 52, 53, 54, 55, 56, 57, 58, 59, 60, 61, 62, 63, 64, 65, 66, 67, 68, 69, 70, 71, 72, 73, 74, 75, 76, 77, 78, 79, 80, 81, 82, 83, 84, 85, 86, 87, 88, 89] (by decide +kernel) (by decide +kernel)) (goodIn_sub (fun _ h => List.mem_cons_of_mem _ (List.mem_append_right _ h)) (by decide +kernel))
set_option maxRecDepth 20000 in
theorem gL_step_X0_step : GoodIn wsL_step (wsV RL 36 RX0 yX0_step wsX0_step) := goodIn_app (goodIn_of _ (by decide +kernel)) ggL_step_X0_step
set_option maxRecDepth 20000 in
theorem ggL_distance_X0_distance : GoodIn wsL_distance wsX0_distance := goodIn_ca (goodIn_ca (goodIn_r _ [8, 9, 10, 11, 12, 7, 13, 14, 15, 16, 17, 18, 19, 20, 21, 22, 23, 24, 25, 26, 27, 28, 29, 30, 31, 32, 33, 34, 35, 36, 37, 38, 39, 40, 41, 42, 43, 44] (by decide +kernel) (by decide +kernel)) (goodIn_sub (fun _ h => List.mem_cons_of_mem _ (List.mem_append_left _ (List.mem_append_right _ h))) (by decide +kernel))) (goodIn_sub (fun _ h => List.mem_cons_of_mem _ (List.mem_append_right _ h)) (by decide +kernel))
set_option maxRecDepth 20000 in
theorem gL_distance_X0_distance : GoodIn wsL_distance (wsV RL 39 RX0 yX0_distance wsX0_distance) := goodIn_app (goodIn_of _ (by decide +kernel)) ggL_distance_X0_distance
set_option maxRecDepth 20000 in
theorem ggL_door_X0_door : GoodIn wsL_door wsX0_door := goodIn_ca (goodIn_ca (goodIn_r _ [8, 9, 10, 11, 12, 7, 13, 14, 15, 16, 17, 18, 19, 20, 21, 22, 23, 24, 25, 26, 27, 28, 29, 30, 31, 32, 33, 34, 35, 36, 37, 38, 39, 40, 41, 42, 43, 44] (by decide +kernel) (by decide +kernel)) (goodIn_sub (fun _ h => List.mem_cons_of_mem _ (List.mem_append_left _ (List.mem_append_right _ h))) (by decide +kernel))) (goodIn_sub (fun _ h => List.mem_cons_of_mem _ (List.mem_append_right _ h)) (by decide +kernel))
set_option maxRecDepth 20000 in
theorem gL_door_X0_door : GoodIn wsL_door (wsV RL 44 RX0 yX0_door wsX0_door) := goodIn_app (goodIn_of _ (by decide +kernel)) ggL_door_X0_door
set_option maxRecDepth 20000 in
theorem ggL_bound_X0_bound : GoodIn wsL_bound wsX0_bound := goodIn_ca (goodIn_r _ [6, 7, 8, 9, 10, 11, 12, 13, 14, 5, 15, 16, 17, 18, 19, 20, 21, 22, 23, 24, 25, 26, 27, 28, 29, 30, 31, 32, 33, 34, 35, 36, 37, 38, 39, 40, 41, 42, 43, 44, 45, 46, 47, 48, 49, 50, 51, 52, 53, 54, 55, 56, 57, 58] (by decide +kernel) (by decide +kernel)) (goodIn_sub (fun _ h => List.mem_cons_of_mem _ (List.mem_append_right _ h)) (by decide +kernel))
set_option maxRecDepth 20000 in
theorem gL_bound_X0_bound : GoodIn wsL_bound (wsV RL 47 RX0 yX0_bound wsX0_bound) := goodIn_app (goodIn_of _ (by decide +kernel)) ggL_bound_X0_bound
set_option maxRecDepth 20000 in
theorem ggL_latest_X0_latest : GoodIn wsL_latest wsX0_latest := goodIn_ca (goodIn_r _ [6, 7, 8, 9, 5, 10, 11, 12, 13, 14, 15, 16, 17, 18, 19, 20, 21, 22, 23, 24, 25, 26, 27, 28, 29, 30, 31] (by decide +kernel) (by decide +kernel)) (goodIn_sub (fun _ h => List.mem_cons_of_mem _ (List.mem_append_right _ h)) (by decide +kernel))
set_option maxRecDepth 20000 in
theorem gL_latest_X0_latest : GoodIn wsL_latest (wsV RL 51 RX0 yX0_latest wsX0_latest) := goodIn_app (goodIn_of _ (by decide +kernel)) ggL_latest_X0_latest
set_option maxRecDepth 20000 in
theorem ggL_act_L_low : GoodIn wsL_act wsL_low := goodIn_r _ [4, 5] (by decide +kernel) (by decide +kernel)
set_option maxRecDepth 20000 in
theorem gL_act_L_low : GoodIn wsL_act (va_wsS RL 54 yL_low wsL_low) := goodIn_app (goodIn_of _ (by decide +kernel)) ggL_act_L_low
set_option maxRecDepth 20000 in
theorem ggL_act_X0_places : GoodIn wsL_act wsX0_places := goodIn_r _ [10, 11, 168, 169, 170, 171, 172, 173, 174, 175, 176, 177, 178, 179, 180, 181, 182, 183, 184, 185, 186] (by decide +kernel) (by decide +kernel)
set_option maxRecDepth 20000 in
theorem gL_act_X0_places : GoodIn wsL_act (wsV RL 59 RX0 yX0_places wsX0_places) := goodIn_app (goodIn_of _ (by decide +kernel)) ggL_act_X0_places
set_option maxRecDepth 20000 in
theorem ggL_act_L_addPlace : GoodIn wsL_act wsL_addPlace := goodIn_ca (goodIn_ca (goodIn_r _ [14, 15, 16, 17, 18, 19, 20, 9, 21, 11, 22, 23, 24, 25, 26, 27, 28, 29, 30, 31, 32, 33, 34, 35, 36, 37, 38, 39, 40, 41, 42, 43, 44, 45, 46, 47, 48, 49, 50, 51, 52, 53, 54, 55, 56, 57, 58, 59, 168, 169, 170, 171, 172, 173, 174, 175, 176, 177, 178, 179, 180, 181, 182, 183, 184, 185, 186] (by decide +kernel) (by decide +kernel)) (goodIn_sub (fun _ h => List.mem_cons_of_mem _ (List.mem_append_left _ (List.mem_append_left _ (List.mem_append_right _ h)))) (by decide +kernel))) (goodIn_sub (fun _ h => List.mem_cons_of_mem _ (List.mem_append_left _ (List.mem_append_right _ h))) (by decide +kernel))
set_option maxRecDepth 20000 in
theorem gL_act_L_addPlace : GoodIn wsL_act (va_wsS RL 62 yL_addPlace wsL_addPlace) := goodIn_app (goodIn_of _ (by decide +kernel)) ggL_act_L_addPlace
set_option maxRecDepth 20000 in
theorem ggL_act_L_addDoor : GoodIn wsL_act wsL_addDoor := goodIn_ca (goodIn_ca (goodIn_ca (goodIn_r _ [62, 63, 15, 16, 17, 64, 65, 66, 9, 67, 41, 44, 45, 68, 69, 51, 70, 71, 72, 73, 74, 75, 76, 77, 78, 79, 11, 23, 24, 25, 26, 27, 28, 29, 30, 31, 32, 33, 34, 35, 36, 37, 38, 39, 40, 42, 43, 46, 47, 48, 49, 50, 52, 53, 54, 55, 56, 57, 58, 59, 168, 169, 170, 171, 172, 173, 174, 175, 176, 177, 178, 179, 180, 181, 182, 183, 184, 185, 186] (by decide +kernel) (by decide +kernel)) (goodIn_sub (fun _ h => List.mem_cons_of_mem _ (List.mem_append_right _ h)) (by decide +kernel))) (goodIn_sub (fun _ h => List.mem_cons_of_mem _ (List.mem_append_left _ (List.mem_append_left _ (List.mem_append_right _ h)))) (by decide +kernel))) (goodIn_sub (fun _ h => List.mem_cons_of_mem _ (List.mem_append_left _ (List.mem_append_right _ h))) (by decide +kernel))
set_option maxRecDepth 20000 in
theorem gL_act_L_addDoor : GoodIn wsL_act (va_wsS RL 65 yL_addDoor wsL_addDoor) := goodIn_app (goodIn_of _ (by decide +kernel)) ggL_act_L_addDoor
set_option maxRecDepth 20000 in
theorem ggL_act_X0_doors : GoodIn wsL_act wsX0_doors := goodIn_r _ [83, 41, 168, 169, 170, 171, 172, 173, 174, 175, 176, 177, 178, 179, 180, 181, 182, 183, 184, 185, 186] (by decide +kernel) (by decide +kernel)
set_option maxRecDepth 20000 in
theorem gL_act_X0_doors : GoodIn wsL_act (wsV RL 68 RX0 yX0_doors wsX0_doors) := goodIn_app (goodIn_of _ (by decide +kernel)) ggL_act_X0_doors
set_option maxRecDepth 20000 in
theorem ggL_act_L_setDoor : GoodIn wsL_act wsL_setDoor := goodIn_ca (goodIn_r _ [86, 63, 17, 87, 88, 89, 9, 90, 51, 91, 92, 93, 94, 74, 75, 95, 96, 97, 98, 41, 36, 37, 38, 39, 11, 40, 42, 43, 44, 45, 46, 47, 48, 49, 50, 52, 53, 54, 55, 56, 57, 58, 59, 168, 169, 170, 171, 172, 173, 174, 175, 176, 177, 178, 179, 180, 181, 182, 183, 184, 185, 186] (by decide +kernel) (by decide +kernel)) (goodIn_sub (fun _ h => List.mem_cons_of_mem _ (List.mem_append_right _ h)) (by decide +kernel))
set_option maxRecDepth 20000 in
theorem gL_act_L_setDoor : GoodIn wsL_act (va_wsS RL 71 yL_setDoor wsL_setDoor) := goodIn_app (goodIn_of _ (by decide +kernel)) ggL_act_L_setDoor
set_option maxRecDepth 20000 in
theorem ggL_act_L_come : GoodIn wsL_act wsL_come := goodIn_ca (goodIn_ca (goodIn_ca (goodIn_r _ [101, 63, 15, 16, 17, 102, 103, 104, 9, 105, 106, 70, 71, 72, 73, 74, 75, 76, 77, 78, 79, 11, 23, 24, 25, 26, 27, 28, 29, 30, 107, 108, 109, 110, 111, 22, 31, 32, 33, 34, 35, 168, 169, 170, 171, 172, 173, 174, 175, 176, 177, 178, 179, 180, 181, 182, 183, 184, 185, 186] (by decide +kernel) (by decide +kernel)) (goodIn_sub (fun _ h => List.mem_cons_of_mem _ (List.mem_append_right _ h)) (by decide +kernel))) (goodIn_sub (fun _ h => List.mem_cons_of_mem _ (List.mem_append_left _ (List.mem_append_left _ (List.mem_append_right _ h)))) (by decide +kernel))) (goodIn_sub (fun _ h => List.mem_cons_of_mem _ (List.mem_append_left _ (List.mem_append_right _ h))) (by decide +kernel))
set_option maxRecDepth 20000 in
theorem gL_act_L_come : GoodIn wsL_act (va_wsS RL 74 yL_come wsL_come) := goodIn_app (goodIn_of _ (by decide +kernel)) ggL_act_L_come
set_option maxRecDepth 20000 in
theorem ggL_act_X0_now : GoodIn wsL_act wsX0_now := goodIn_r _ [115, 116, 168, 169, 170, 171, 172, 173, 174, 175, 176, 177, 178, 179, 180, 181, 182, 183, 184, 185, 186] (by decide +kernel) (by decide +kernel)
set_option maxRecDepth 20000 in
theorem gL_act_X0_now : GoodIn wsL_act (wsV RL 77 RX0 yX0_now wsX0_now) := goodIn_app (goodIn_of _ (by decide +kernel)) ggL_act_X0_now
set_option maxRecDepth 20000 in
theorem ggL_act_L_setRelease : GoodIn wsL_act wsL_setRelease := goodIn_ca (goodIn_ca (goodIn_r _ [119, 63, 15, 17, 120, 121, 122, 9, 123, 124, 70, 71, 72, 73, 74, 75, 76, 77, 78, 79, 11, 23, 24, 25, 26, 27, 28, 29, 30, 168, 169, 170, 171, 172, 173, 174, 175, 176, 177, 178, 179, 180, 181, 182, 183, 184, 185, 186] (by decide +kernel) (by decide +kernel)) (goodIn_sub (fun _ h => List.mem_cons_of_mem _ (List.mem_append_right _ h)) (by decide +kernel))) (goodIn_sub (fun _ h => List.mem_cons_of_mem _ (List.mem_append_left _ (List.mem_append_left _ (List.mem_append_right _ h)))) (by decide +kernel))
set_option maxRecDepth 20000 in
theorem gL_act_L_setRelease : GoodIn wsL_act (va_wsS RL 80 yL_setRelease wsL_setRelease) := goodIn_app (goodIn_of _ (by decide +kernel)) ggL_act_L_setRelease
set_option maxRecDepth 20000 in
theorem ggL_act_L_step : GoodIn wsL_act wsL_step := goodIn_ca (goodIn_r _ [127, 15, 17, 128, 129, 130, 9, 131, 106, 23, 24, 25, 26, 27, 28, 29, 30, 132, 133, 134, 135, 116, 136, 137, 138, 139, 140, 141, 41, 142, 11, 143, 144, 145, 146, 107, 108, 109, 110, 111, 22, 147, 148, 149, 150, 43, 69, 151, 152, 153, 154, 155, 156, 157, 158, 42, 124, 68, 76, 77, 78, 79, 159, 160, 161, 162, 163, 164, 165, 166, 167, 168, 169, 170, 171, 172, 173, 174, 175, 176, 177, 178, 179, 180, 181, 182, 183, 184, 185, 186] (by decide +kernel) (by decide +kernel)) (goodIn_sub (fun _ h => List.mem_cons_of_mem _ (List.mem_append_left _ (List.mem_append_left _ (List.mem_append_right _ h)))) (by decide +kernel))
set_option maxRecDepth 20000 in
theorem gL_act_L_step : GoodIn wsL_act (va_wsS RL 82 yL_step wsL_step) := goodIn_app (goodIn_of _ (by decide +kernel)) ggL_act_L_step
set_option maxRecDepth 20000 in
theorem ggL_areAlike_X0_places : GoodIn wsL_areAlike wsX0_places := goodIn_r _ [5, 6, 102, 103, 104, 105, 106, 107, 108, 109, 110, 111, 112, 113, 114, 115, 116, 117, 118, 119, 120] (by decide +kernel) (by decide +kernel)
set_option maxRecDepth 20000 in
theorem gL_areAlike_X0_places : GoodIn wsL_areAlike (wsV RL 59 RX0 yX0_places wsX0_places) := goodIn_app (goodIn_of _ (by decide +kernel)) ggL_areAlike_X0_places
set_option maxRecDepth 20000 in
theorem ggL_areAlike_X0_doors : GoodIn wsL_areAlike wsX0_doors := goodIn_r _ [10, 11, 102, 103, 104, 105, 106, 107, 108, 109, 110, 111, 112, 113, 114, 115, 116, 117, 118, 119, 120] (by decide +kernel) (by decide +kernel)
set_option maxRecDepth 20000 in
theorem gL_areAlike_X0_doors : GoodIn wsL_areAlike (wsV RL 68 RX0 yX0_doors wsX0_doors) := goodIn_app (goodIn_of _ (by decide +kernel)) ggL_areAlike_X0_doors
set_option maxRecDepth 20000 in
theorem ggL_areAlike_X0_now : GoodIn wsL_areAlike wsX0_now := goodIn_r _ [15, 16, 102, 103, 104, 105, 106, 107, 108, 109, 110, 111, 112, 113, 114, 115, 116, 117, 118, 119, 120] (by decide +kernel) (by decide +kernel)
set_option maxRecDepth 20000 in
theorem gL_areAlike_X0_now : GoodIn wsL_areAlike (wsV RL 77 RX0 yX0_now wsX0_now) := goodIn_app (goodIn_of _ (by decide +kernel)) ggL_areAlike_X0_now
set_option maxRecDepth 20000 in
theorem ggL_areAlike_X0_inside : GoodIn wsL_areAlike wsX0_inside := goodIn_r _ [20, 6, 21, 102, 103, 104, 105, 106, 107, 108, 109, 110, 111, 112, 113, 114, 115, 116, 117, 118, 119, 120] (by decide +kernel) (by decide +kernel)
set_option maxRecDepth 20000 in
theorem gL_areAlike_X0_inside : GoodIn wsL_areAlike (wsV RL 84 RX0 yX0_inside wsX0_inside) := goodIn_app (goodIn_of _ (by decide +kernel)) ggL_areAlike_X0_inside
set_option maxRecDepth 20000 in
theorem ggL_areAlike_X0_waited : GoodIn wsL_areAlike wsX0_waited := goodIn_r _ [25, 26, 102, 103, 104, 105, 106, 107, 108, 109, 110, 111, 112, 113, 114, 115, 116, 117, 118, 119, 120] (by decide +kernel) (by decide +kernel)
set_option maxRecDepth 20000 in
theorem gL_areAlike_X0_waited : GoodIn wsL_areAlike (wsV RL 87 RX0 yX0_waited wsX0_waited) := goodIn_app (goodIn_of _ (by decide +kernel)) ggL_areAlike_X0_waited
set_option maxRecDepth 20000 in
theorem ggL_areAlike_L_latest : GoodIn wsL_areAlike wsL_latest := goodIn_ca (goodIn_r _ [30, 31, 32, 33, 34, 4, 35, 36, 37, 38, 39, 40, 41, 102, 103, 104, 105, 106, 107, 108, 109, 110, 111, 112, 113, 114, 115, 116, 117, 118, 119, 120] (by decide +kernel) (by decide +kernel)) (goodIn_sub (fun _ h => List.mem_cons_of_mem _ (List.mem_append_left _ (List.mem_append_right _ h))) (by decide +kernel))
set_option maxRecDepth 20000 in
theorem gL_areAlike_L_latest : GoodIn wsL_areAlike (va_wsS RL 90 yL_latest wsL_latest) := goodIn_app (goodIn_of _ (by decide +kernel)) ggL_areAlike_L_latest
set_option maxRecDepth 20000 in
theorem ggL_areAlike_X0_trapped : GoodIn wsL_areAlike wsX0_trapped := goodIn_r _ [45, 6, 46, 21, 102, 103, 104, 105, 106, 107, 108, 109, 110, 111, 112, 113, 114, 115, 116, 117, 118, 119, 120] (by decide +kernel) (by decide +kernel)
set_option maxRecDepth 20000 in
theorem gL_areAlike_X0_trapped : GoodIn wsL_areAlike (wsV RL 93 RX0 yX0_trapped wsX0_trapped) := goodIn_app (goodIn_of _ (by decide +kernel)) ggL_areAlike_X0_trapped
set_option maxRecDepth 20000 in
theorem ggL_areAlike_X0_people : GoodIn wsL_areAlike wsX0_people := goodIn_ca (goodIn_r _ [50, 21, 51, 52, 53, 4, 54, 55, 56, 57, 58, 59, 60, 6, 102, 103, 104, 105, 106, 107, 108, 109, 110, 111, 112, 113, 114, 115, 116, 117, 118, 119, 120] (by decide +kernel) (by decide +kernel)) (goodIn_sub (fun _ h => List.mem_cons_of_mem _ (List.mem_append_right _ h)) (by decide +kernel))
set_option maxRecDepth 20000 in
theorem gL_areAlike_X0_people : GoodIn wsL_areAlike (wsV RL 96 RX0 yX0_people wsX0_people) := goodIn_app (goodIn_of _ (by decide +kernel)) ggL_areAlike_X0_people
set_option maxRecDepth 20000 in
theorem ggL_areAlike_X0_wouldMove : GoodIn wsL_areAlike wsX0_wouldMove := goodIn_ca (goodIn_r _ [64, 65, 66, 51, 52, 53, 4, 54, 55, 56, 57, 58, 59, 60, 6, 67, 68, 69, 70, 11, 71, 72, 73, 74, 75, 76, 77, 78, 79, 80, 81, 82, 83, 84, 21, 85, 86, 87, 88, 89, 90, 91, 92, 93, 94, 95, 96, 97, 98, 99, 100, 16, 101, 102, 103, 104, 105, 106, 107, 108, 109, 110, 111, 112, 113, 114, 115, 116, 117, 118, 119, 120] (by decide +kernel) (by decide +kernel)) (goodIn_sub (fun _ h => List.mem_cons_of_mem _ (List.mem_append_right _ h)) (by decide +kernel))
set_option maxRecDepth 20000 in
theorem gL_areAlike_X0_wouldMove : GoodIn wsL_areAlike (wsV RL 99 RX0 yX0_wouldMove wsX0_wouldMove) := goodIn_app (goodIn_of _ (by decide +kernel)) ggL_areAlike_X0_wouldMove
set_option maxRecDepth 20000 in
theorem ggL_arePlacesSo_L_distance : GoodIn wsL_arePlacesSo wsL_distance := goodIn_ca (goodIn_ca (goodIn_r _ [4, 5, 6, 7, 8, 9, 10, 11, 12, 13, 14, 15, 16, 17, 18, 19, 20, 21, 22, 23, 24, 25, 26, 27, 28, 29, 129, 130, 131, 132, 133, 134, 135, 136, 137, 138, 139, 140, 141, 142, 143, 144, 145, 146, 147] (by decide +kernel) (by decide +kernel)) (goodIn_sub (fun _ h => List.mem_cons_of_mem _ (List.mem_append_left _ (List.mem_append_left _ (List.mem_append_right _ h)))) (by decide +kernel))) (goodIn_sub (fun _ h => List.mem_cons_of_mem _ (List.mem_append_left _ (List.mem_append_right _ h))) (by decide +kernel))
set_option maxRecDepth 20000 in
theorem gL_arePlacesSo_L_distance : GoodIn wsL_arePlacesSo (va_wsS RL 102 yL_distance wsL_distance) := goodIn_app (goodIn_of _ (by decide +kernel)) ggL_arePlacesSo_L_distance
set_option maxRecDepth 20000 in
theorem ggL_arePlacesSo_L_door : GoodIn wsL_arePlacesSo wsL_door := goodIn_ca (goodIn_ca (goodIn_r _ [32, 5, 6, 7, 33, 34, 35, 11, 36, 37, 14, 15, 16, 17, 18, 19, 20, 21, 22, 23, 24, 25, 26, 27, 28, 29, 129, 130, 131, 132, 133, 134, 135, 136, 137, 138, 139, 140, 141, 142, 143, 144, 145, 146, 147] (by decide +kernel) (by decide +kernel)) (goodIn_sub (fun _ h => List.mem_cons_of_mem _ (List.mem_append_left _ (List.mem_append_left _ (List.mem_append_right _ h)))) (by decide +kernel))) (goodIn_sub (fun _ h => List.mem_cons_of_mem _ (List.mem_append_left _ (List.mem_append_right _ h))) (by decide +kernel))
set_option maxRecDepth 20000 in
theorem gL_arePlacesSo_L_door : GoodIn wsL_arePlacesSo (va_wsS RL 104 yL_door wsL_door) := goodIn_app (goodIn_of _ (by decide +kernel)) ggL_arePlacesSo_L_door
set_option maxRecDepth 20000 in
theorem ggL_arePlacesSo_X0_places : GoodIn wsL_arePlacesSo wsX0_places := goodIn_r _ [41, 24, 129, 130, 131, 132, 133, 134, 135, 136, 137, 138, 139, 140, 141, 142, 143, 144, 145, 146, 147] (by decide +kernel) (by decide +kernel)
set_option maxRecDepth 20000 in
theorem gL_arePlacesSo_X0_places : GoodIn wsL_arePlacesSo (wsV RL 59 RX0 yX0_places wsX0_places) := goodIn_app (goodIn_of _ (by decide +kernel)) ggL_arePlacesSo_X0_places
set_option maxRecDepth 20000 in
theorem ggL_arePlacesSo_X0_people : GoodIn wsL_arePlacesSo wsX0_people := goodIn_ca (goodIn_r _ [45, 46, 14, 15, 16, 11, 17, 18, 19, 20, 21, 22, 23, 24, 129, 130, 131, 132, 133, 134, 135, 136, 137, 138, 139, 140, 141, 142, 143, 144, 145, 146, 147] (by decide +kernel) (by decide +kernel)) (goodIn_sub (fun _ h => List.mem_cons_of_mem _ (List.mem_append_left _ (List.mem_append_left _ (List.mem_append_right _ h)))) (by decide +kernel))
set_option maxRecDepth 20000 in
theorem gL_arePlacesSo_X0_people : GoodIn wsL_arePlacesSo (wsV RL 96 RX0 yX0_people wsX0_people) := goodIn_app (goodIn_of _ (by decide +kernel)) ggL_arePlacesSo_X0_people
set_option maxRecDepth 20000 in
theorem ggL_arePlacesSo_X0_wouldMove : GoodIn wsL_arePlacesSo wsX0_wouldMove := goodIn_ca (goodIn_r _ [50, 37, 51, 14, 15, 16, 11, 17, 18, 19, 20, 21, 22, 23, 24, 52, 53, 54, 55, 56, 57, 58, 59, 60, 61, 62, 63, 64, 65, 66, 67, 68, 69, 70, 46, 71, 72, 73, 74, 75, 76, 77, 78, 79, 80, 81, 82, 83, 84, 85, 86, 87, 88, 129, 130, 131, 132, 133, 134, 135, 136, 137, 138, 139, 140, 141, 142, 143, 144, 145, 146, 147] (by decide +kernel) (by decide +kernel)) (goodIn_sub (fun _ h => List.mem_cons_of_mem _ (List.mem_append_left _ (List.mem_append_left _ (List.mem_append_right _ h)))) (by decide +kernel))
set_option maxRecDepth 20000 in
theorem gL_arePlacesSo_X0_wouldMove : GoodIn wsL_arePlacesSo (wsV RL 99 RX0 yX0_wouldMove wsX0_wouldMove) := goodIn_app (goodIn_of _ (by decide +kernel)) ggL_arePlacesSo_X0_wouldMove
set_option maxRecDepth 20000 in
theorem ggL_arePlacesSo_L_bound : GoodIn wsL_arePlacesSo wsL_bound := goodIn_ca (goodIn_r _ [91, 92, 93, 94, 95, 11, 96, 24, 97, 98, 79, 99, 100, 101, 102, 103, 13, 46, 104, 105, 106, 107, 108, 109, 110, 111, 112, 113, 114, 115, 116, 117, 118, 119, 120, 56, 121, 122, 123, 88, 129, 130, 131, 132, 133, 134, 135, 136, 137, 138, 139, 140, 141, 142, 143, 144, 145, 146, 147] (by decide +kernel) (by decide +kernel)) (goodIn_sub (fun _ h => List.mem_cons_of_mem _ (List.mem_append_right _ h)) (by decide +kernel))
set_option maxRecDepth 20000 in
theorem gL_arePlacesSo_L_bound : GoodIn wsL_arePlacesSo (va_wsS RL 106 yL_bound wsL_bound) := goodIn_app (goodIn_of _ (by decide +kernel)) ggL_arePlacesSo_L_bound
set_option maxRecDepth 20000 in
theorem ggL_arePlacesSo_X0_inside : GoodIn wsL_arePlacesSo wsX0_inside := goodIn_r _ [127, 24, 46, 129, 130, 131, 132, 133, 134, 135, 136, 137, 138, 139, 140, 141, 142, 143, 144, 145, 146, 147] (by decide +kernel) (by decide +kernel)
set_option maxRecDepth 20000 in
theorem gL_arePlacesSo_X0_inside : GoodIn wsL_arePlacesSo (wsV RL 84 RX0 yX0_inside wsX0_inside) := goodIn_app (goodIn_of _ (by decide +kernel)) ggL_arePlacesSo_X0_inside
set_option maxRecDepth 20000 in
theorem ggL_arePlacesSo_X0_trapped : GoodIn wsL_arePlacesSo wsX0_trapped := goodIn_r _ [103, 24, 13, 46, 129, 130, 131, 132, 133, 134, 135, 136, 137, 138, 139, 140, 141, 142, 143, 144, 145, 146, 147] (by decide +kernel) (by decide +kernel)
set_option maxRecDepth 20000 in
theorem gL_arePlacesSo_X0_trapped : GoodIn wsL_arePlacesSo (wsV RL 93 RX0 yX0_trapped wsX0_trapped) := goodIn_app (goodIn_of _ (by decide +kernel)) ggL_arePlacesSo_X0_trapped
set_option maxRecDepth 20000 in
theorem ggL_isStepSo_X0_inside : GoodIn wsL_isStepSo wsX0_inside := goodIn_r _ [5, 6, 7, 136, 137, 138, 139, 140, 141, 142, 143, 144, 145, 146, 147, 148, 149, 150, 151, 152, 153, 154] (by decide +kernel) (by decide +kernel)
set_option maxRecDepth 20000 in
theorem gL_isStepSo_X0_inside : GoodIn wsL_isStepSo (wsV RL 84 RX0 yX0_inside wsX0_inside) := goodIn_app (goodIn_of _ (by decide +kernel)) ggL_isStepSo_X0_inside
set_option maxRecDepth 20000 in
theorem ggL_isStepSo_X0_people : GoodIn wsL_isStepSo wsX0_people := goodIn_ca (goodIn_r _ [11, 7, 12, 13, 14, 4, 15, 16, 17, 18, 19, 20, 21, 6, 136, 137, 138, 139, 140, 141, 142, 143, 144, 145, 146, 147, 148, 149, 150, 151, 152, 153, 154] (by decide +kernel) (by decide +kernel)) (goodIn_sub (fun _ h => List.mem_cons_of_mem _ (List.mem_append_left _ (List.mem_append_left _ (List.mem_append_right _ h)))) (by decide +kernel))
set_option maxRecDepth 20000 in
theorem gL_isStepSo_X0_people : GoodIn wsL_isStepSo (wsV RL 96 RX0 yX0_people wsX0_people) := goodIn_app (goodIn_of _ (by decide +kernel)) ggL_isStepSo_X0_people
set_option maxRecDepth 20000 in
theorem ggL_isStepSo_X0_places : GoodIn wsL_isStepSo wsX0_places := goodIn_r _ [25, 6, 136, 137, 138, 139, 140, 141, 142, 143, 144, 145, 146, 147, 148, 149, 150, 151, 152, 153, 154] (by decide +kernel) (by decide +kernel)
set_option maxRecDepth 20000 in
theorem gL_isStepSo_X0_places : GoodIn wsL_isStepSo (wsV RL 59 RX0 yX0_places wsX0_places) := goodIn_app (goodIn_of _ (by decide +kernel)) ggL_isStepSo_X0_places
set_option maxRecDepth 20000 in
theorem ggL_isStepSo_X0_wouldMove : GoodIn wsL_isStepSo wsX0_wouldMove := goodIn_ca (goodIn_r _ [29, 30, 31, 12, 13, 14, 4, 15, 16, 17, 18, 19, 20, 21, 6, 32, 33, 34, 35, 36, 37, 38, 39, 40, 41, 42, 43, 44, 45, 46, 47, 48, 49, 50, 7, 51, 52, 53, 54, 55, 56, 57, 58, 59, 60, 61, 62, 63, 64, 65, 66, 67, 68, 136, 137, 138, 139, 140, 141, 142, 143, 144, 145, 146, 147, 148, 149, 150, 151, 152, 153, 154] (by decide +kernel) (by decide +kernel)) (goodIn_sub (fun _ h => List.mem_cons_of_mem _ (List.mem_append_left _ (List.mem_append_left _ (List.mem_append_right _ h)))) (by decide +kernel))
set_option maxRecDepth 20000 in
theorem gL_isStepSo_X0_wouldMove : GoodIn wsL_isStepSo (wsV RL 99 RX0 yX0_wouldMove wsX0_wouldMove) := goodIn_app (goodIn_of _ (by decide +kernel)) ggL_isStepSo_X0_wouldMove
set_option maxRecDepth 20000 in
theorem ggL_isStepSo_X0_doors : GoodIn wsL_isStepSo wsX0_doors := goodIn_r _ [72, 36, 136, 137, 138, 139, 140, 141, 142, 143, 144, 145, 146, 147, 148, 149, 150, 151, 152, 153, 154] (by decide +kernel) (by decide +kernel)
set_option maxRecDepth 20000 in
theorem gL_isStepSo_X0_doors : GoodIn wsL_isStepSo (wsV RL 68 RX0 yX0_doors wsX0_doors) := goodIn_app (goodIn_of _ (by decide +kernel)) ggL_isStepSo_X0_doors
set_option maxRecDepth 20000 in
theorem ggL_isStepSo_X0_passed : GoodIn wsL_isStepSo wsX0_passed := goodIn_ca (goodIn_r _ [76, 77, 78, 79, 80, 4, 81, 16, 17, 32, 33, 34, 35, 36, 136, 137, 138, 139, 140, 141, 142, 143, 144, 145, 146, 147, 148, 149, 150, 151, 152, 153, 154] (by decide +kernel) (by decide +kernel)) (goodIn_sub (fun _ h => List.mem_cons_of_mem _ (List.mem_append_left _ (List.mem_append_left _ (List.mem_append_right _ h)))) (by decide +kernel))
set_option maxRecDepth 20000 in
theorem gL_isStepSo_X0_passed : GoodIn wsL_isStepSo (wsV RL 108 RX0 yX0_passed wsX0_passed) := goodIn_app (goodIn_of _ (by decide +kernel)) ggL_isStepSo_X0_passed
set_option maxRecDepth 20000 in
theorem ggL_isStepSo_L_door : GoodIn wsL_isStepSo wsL_door := goodIn_ca (goodIn_ca (goodIn_r _ [85, 86, 87, 88, 89, 90, 91, 4, 92, 30, 12, 13, 14, 15, 16, 17, 18, 19, 20, 21, 6, 93, 94, 95, 96, 97, 136, 137, 138, 139, 140, 141, 142, 143, 144, 145, 146, 147, 148, 149, 150, 151, 152, 153, 154] (by decide +kernel) (by decide +kernel)) (goodIn_sub (fun _ h => List.mem_cons_of_mem _ (List.mem_append_left _ (List.mem_append_left _ (List.mem_append_right _ h)))) (by decide +kernel))) (goodIn_sub (fun _ h => List.mem_cons_of_mem _ (List.mem_append_left _ (List.mem_append_right _ h))) (by decide +kernel))
set_option maxRecDepth 20000 in
theorem gL_isStepSo_L_door : GoodIn wsL_isStepSo (va_wsS RL 104 yL_door wsL_door) := goodIn_app (goodIn_of _ (by decide +kernel)) ggL_isStepSo_L_door
set_option maxRecDepth 20000 in
theorem ggL_isStepSo_X0_waited : GoodIn wsL_isStepSo wsX0_waited := goodIn_r _ [101, 102, 136, 137, 138, 139, 140, 141, 142, 143, 144, 145, 146, 147, 148, 149, 150, 151, 152, 153, 154] (by decide +kernel) (by decide +kernel)
set_option maxRecDepth 20000 in
theorem gL_isStepSo_X0_waited : GoodIn wsL_isStepSo (wsV RL 87 RX0 yX0_waited wsX0_waited) := goodIn_app (goodIn_of _ (by decide +kernel)) ggL_isStepSo_X0_waited
set_option maxRecDepth 20000 in
theorem ggL_isStepSo_X0_now : GoodIn wsL_isStepSo wsX0_now := goodIn_r _ [106, 67, 136, 137, 138, 139, 140, 141, 142, 143, 144, 145, 146, 147, 148, 149, 150, 151, 152, 153, 154] (by decide +kernel) (by decide +kernel)
set_option maxRecDepth 20000 in
theorem gL_isStepSo_X0_now : GoodIn wsL_isStepSo (wsV RL 77 RX0 yX0_now wsX0_now) := goodIn_app (goodIn_of _ (by decide +kernel)) ggL_isStepSo_X0_now
set_option maxRecDepth 20000 in
theorem ggL_isStepSo_X0_step : GoodIn wsL_isStepSo wsX0_step := goodIn_ca (goodIn_r _ [110, 7, 111, 112, 4, 113, 114, 115, 116, 117, 118, 119, 120, 121, 122, 67, 123, 102, 37, 38, 39, 40, 36, 31, 6, 41, 42, 43, 44, 45, 46, 47, 48, 49, 50, 51, 52, 53, 54, 55, 56, 57, 58, 59, 60, 61, 62, 63, 64, 65, 66, 68, 18, 19, 20, 21, 124, 125, 126, 127, 77, 128, 2, 3, 5, 136, 137, 138, 139, 140, 141, 142, 143, 144, 145, 146, 147, 148, 149, 150, 151, 152, 153, 154] (by decide +kernel) (by decide +kernel)) (goodIn_sub (fun _ h => List.mem_cons_of_mem _ (List.mem_append_right _ h)) (by decide +kernel))
set_option maxRecDepth 20000 in
theorem gL_isStepSo_X0_step : GoodIn wsL_isStepSo (wsV RL 36 RX0 yX0_step wsX0_step) := goodIn_app (goodIn_of _ (by decide +kernel)) ggL_isStepSo_X0_step
set_option maxRecDepth 20000 in
theorem ggL_isStepSo_L_latest : GoodIn wsL_isStepSo wsL_latest := goodIn_ca (goodIn_r _ [131, 87, 132, 133, 134, 4, 135, 123, 93, 94, 95, 96, 97, 136, 137, 138, 139, 140, 141, 142, 143, 144, 145, 146, 147, 148, 149, 150, 151, 152, 153, 154] (by decide +kernel) (by decide +kernel)) (goodIn_sub (fun _ h => List.mem_cons_of_mem _ (List.mem_append_left _ (List.mem_append_right _ h))) (by decide +kernel))
set_option maxRecDepth 20000 in
theorem gL_isStepSo_L_latest : GoodIn wsL_isStepSo (va_wsS RL 90 yL_latest wsL_latest) := goodIn_app (goodIn_of _ (by decide +kernel)) ggL_isStepSo_L_latest
set_option maxRecDepth 20000 in
theorem ggL_law_X0_init : GoodIn wsL_law wsX0_init := goodIn_r _ [7, 8, 9, 10, 11, 12, 13, 14, 15, 16, 17, 18, 19, 20, 21, 22, 23, 24, 25, 26, 27, 28, 272, 273, 274, 275, 276, 277, 278, 279, 280, 281, 282, 283, 284, 285, 286, 287, 288, 289, 290] (by decide +kernel) (by decide +kernel)
set_option maxRecDepth 20000 in
theorem gL_law_X0_init : GoodIn wsL_law (wsX0_init) := ggL_law_X0_init
set_option maxRecDepth 20000 in
theorem ggL_law_L_cell : GoodIn wsL_law wsL_cell := goodIn_r _ [32] (by decide +kernel) (by decide +kernel)
set_option maxRecDepth 20000 in
theorem gL_law_L_cell : GoodIn wsL_law (va_wsS RL 112 yL_cell wsL_cell) := goodIn_app (goodIn_of _ (by decide +kernel)) ggL_law_L_cell
set_option maxRecDepth 20000 in
theorem ggL_law_L_act : GoodIn wsL_law wsL_act := goodIn_ca (goodIn_ca (goodIn_ca (goodIn_r _ [35, 36, 37, 31, 38, 39, 40, 41, 42, 2, 43, 27, 44, 45, 46, 47, 48, 4, 49, 50, 51, 52, 12, 53, 54, 55, 56, 57, 58, 59, 60, 61, 62, 63, 64, 65, 66, 67, 68, 69, 16, 70, 24, 25, 17, 18, 71, 72, 73, 74, 15, 22, 75, 76, 77, 78, 79, 80, 81, 82, 83, 84, 85, 86, 87, 88, 89, 90, 19, 20, 91, 92, 93, 94, 95, 96, 97, 98, 99, 100, 101, 102, 103, 104, 105, 106, 107, 108, 109, 110, 111, 112, 113, 114, 115, 116, 117, 118, 119, 120, 121, 122, 123, 124, 125, 126, 13, 127, 128, 129, 130, 131, 132, 133, 134, 135, 136, 137, 138, 139, 140, 141, 142, 143, 14, 144, 145, 146, 147, 148, 149, 150, 151, 152, 153, 154, 28, 155, 156, 157, 158, 159, 26, 160, 161, 162, 163, 164, 165, 166, 167, 168, 169, 170, 171, 172, 173, 174, 175, 176, 177, 178, 179, 23, 180, 181, 182, 183, 272, 273, 274, 275, 276, 277, 278, 279, 280, 281, 282, 283, 284, 285, 286, 287, 288, 289, 290] (by decide +kernel) (by decide +kernel)) (goodIn_sub (fun _ h => List.mem_append_left _ (List.mem_append_left _ (List.mem_append_left _ (List.mem_append_right _ h)))) (by decide +kernel))) (goodIn_sub (fun _ h => List.mem_append_left _ (List.mem_append_left _ (List.mem_append_right _ h))) (by decide +kernel))) (goodIn_sub (fun _ h => List.mem_append_left _ (List.mem_append_right _ h)) (by decide +kernel))
set_option maxRecDepth 20000 in
theorem gL_law_L_act : GoodIn wsL_law (va_wsS RL 116 yL_act wsL_act) := goodIn_app (goodIn_of _ (by decide +kernel)) ggL_law_L_act
set_option maxRecDepth 20000 in
theorem ggL_law_L_areAlike : GoodIn wsL_law wsL_areAlike := goodIn_ca (goodIn_ca (goodIn_r _ [186, 40, 41, 42, 2, 43, 27, 101, 102, 103, 104, 70, 132, 133, 134, 135, 136, 187, 181, 182, 183, 13, 188, 189, 190, 191, 155, 192, 193, 31, 194, 195, 196, 197, 198, 199, 28, 200, 201, 202, 203, 204, 205, 206, 207, 208, 15, 209, 210, 211, 212, 91, 92, 93, 94, 95, 96, 97, 98, 99, 100, 213, 214, 215, 216, 16, 26, 116, 117, 118, 119, 156, 157, 158, 159, 160, 161, 162, 163, 127, 128, 129, 130, 131, 12, 164, 165, 166, 167, 25, 20, 168, 169, 170, 171, 172, 173, 174, 175, 24, 14, 19, 272, 273, 274, 275, 276, 277, 278, 279, 280, 281, 282, 283, 284, 285, 286, 287, 288, 289, 290] (by decide +kernel) (by decide +kernel)) (goodIn_sub (fun _ h => List.mem_append_right _ h) (by decide +kernel))) (goodIn_sub (fun _ h => List.mem_append_left _ (List.mem_append_right _ h)) (by decide +kernel))
set_option maxRecDepth 20000 in
theorem gL_law_L_areAlike : GoodIn wsL_law (va_wsS RL 119 yL_areAlike wsL_areAlike) := goodIn_app (goodIn_of _ (by decide +kernel)) ggL_law_L_areAlike
set_option maxRecDepth 20000 in
theorem ggL_law_L_arePlacesSo : GoodIn wsL_law wsL_arePlacesSo := goodIn_ca (goodIn_ca (goodIn_ca (goodIn_r _ [219, 220, 221, 31, 222, 86, 195, 4, 223, 224, 225, 2, 226, 15, 91, 92, 93, 94, 95, 96, 97, 98, 99, 100, 27, 200, 201, 202, 203, 204, 227, 228, 229, 230, 231, 232, 233, 16, 40, 41, 42, 43, 209, 210, 211, 212, 13, 213, 214, 215, 216, 26, 116, 117, 118, 119, 70, 156, 157, 158, 159, 160, 161, 162, 163, 127, 128, 129, 130, 131, 12, 164, 165, 166, 167, 25, 20, 168, 169, 170, 171, 172, 173, 174, 175, 24, 14, 136, 19, 234, 235, 236, 48, 237, 238, 239, 240, 241, 242, 243, 244, 206, 207, 208, 61, 62, 63, 64, 65, 245, 246, 247, 248, 249, 250, 251, 252, 253, 254, 255, 256, 17, 18, 22, 187, 181, 182, 183, 205, 272, 273, 274, 275, 276, 277, 278, 279, 280, 281, 282, 283, 284, 285, 286, 287, 288, 289, 290] (by decide +kernel) (by decide +kernel)) (goodIn_sub (fun _ h => List.mem_append_left _ (List.mem_append_right _ h)) (by decide +kernel))) (goodIn_sub (fun _ h => List.mem_append_right _ h) (by decide +kernel))) (goodIn_sub (fun _ h => List.mem_append_left _ (List.mem_append_left _ (List.mem_append_right _ h))) (by decide +kernel))
set_option maxRecDepth 20000 in
theorem gL_law_L_arePlacesSo : GoodIn wsL_law (va_wsS RL 123 yL_arePlacesSo wsL_arePlacesSo) := goodIn_app (goodIn_of _ (by decide +kernel)) ggL_law_L_arePlacesSo
set_option maxRecDepth 20000 in
theorem ggL_law_X0_step : GoodIn wsL_law wsX0_step := goodIn_ca (goodIn_r _ [150, 13, 53, 54, 2, 55, 56, 57, 58, 59, 60, 151, 152, 153, 154, 136, 28, 155, 156, 157, 158, 159, 70, 26, 27, 160, 161, 162, 163, 127, 128, 129, 130, 131, 12, 164, 165, 166, 167, 25, 20, 168, 169, 170, 171, 172, 173, 174, 175, 24, 14, 19, 97, 98, 99, 100, 176, 177, 178, 179, 23, 180, 181, 182, 183, 272, 273, 274, 275, 276, 277, 278, 279, 280, 281, 282, 283, 284, 285, 286, 287, 288, 289, 290] (by decide +kernel) (by decide +kernel)) (goodIn_sub (fun _ h => List.mem_append_left _ (List.mem_append_left _ (List.mem_append_left _ (List.mem_append_right _ h)))) (by decide +kernel))
set_option maxRecDepth 20000 in
theorem gL_law_X0_step : GoodIn wsL_law (wsV RL 36 RX0 yX0_step wsX0_step) := goodIn_app (goodIn_of _ (by decide +kernel)) ggL_law_X0_step
set_option maxRecDepth 20000 in
theorem ggL_law_L_isStepSo : GoodIn wsL_law wsL_isStepSo := goodIn_ca (goodIn_ca (goodIn_ca (goodIn_r _ [259, 187, 181, 182, 2, 183, 27, 13, 209, 210, 211, 212, 91, 92, 93, 94, 95, 96, 97, 98, 99, 100, 40, 41, 42, 43, 213, 214, 215, 216, 16, 26, 116, 117, 118, 119, 70, 156, 157, 158, 159, 160, 161, 162, 163, 127, 128, 129, 130, 131, 12, 164, 165, 166, 167, 25, 20, 168, 169, 170, 171, 172, 173, 174, 175, 24, 14, 136, 19, 101, 102, 103, 104, 260, 261, 262, 263, 23, 112, 113, 114, 115, 227, 228, 31, 229, 86, 195, 4, 230, 231, 232, 233, 200, 201, 202, 203, 204, 188, 189, 190, 191, 155, 132, 133, 134, 135, 147, 148, 149, 150, 53, 54, 55, 56, 57, 58, 59, 60, 151, 152, 153, 154, 28, 176, 177, 178, 179, 180, 192, 193, 194, 196, 197, 198, 199, 272, 273, 274, 275, 276, 277, 278, 279, 280, 281, 282, 283, 284, 285, 286, 287, 288, 289, 290] (by decide +kernel) (by decide +kernel)) (goodIn_sub (fun _ h => List.mem_append_left _ (List.mem_append_right _ h)) (by decide +kernel))) (goodIn_sub (fun _ h => List.mem_append_right _ h) (by decide +kernel))) (goodIn_sub (fun _ h => List.mem_append_left _ (List.mem_append_left _ (List.mem_append_left _ (List.mem_append_right _ h)))) (by decide +kernel))
set_option maxRecDepth 20000 in
theorem gL_law_L_isStepSo : GoodIn wsL_law (va_wsS RL 127 yL_isStepSo wsL_isStepSo) := goodIn_app (goodIn_of _ (by decide +kernel)) ggL_law_L_isStepSo
set_option maxRecDepth 20000 in
theorem ggL_law_X0_inside : GoodIn wsL_law wsX0_inside := goodIn_r _ [183, 27, 13, 272, 273, 274, 275, 276, 277, 278, 279, 280, 281, 282, 283, 284, 285, 286, 287, 288, 289, 290] (by decide +kernel) (by decide +kernel)
set_option maxRecDepth 20000 in
theorem gL_law_X0_inside : GoodIn wsL_law (wsV RL 84 RX0 yX0_inside wsX0_inside) := goodIn_app (goodIn_of _ (by decide +kernel)) ggL_law_X0_inside
set_option maxRecDepth 20000 in
theorem ggL_law_L_bound : GoodIn wsL_law wsL_bound := goodIn_ca (goodIn_r _ [236, 48, 237, 238, 239, 2, 240, 27, 241, 242, 170, 243, 244, 206, 207, 208, 15, 13, 61, 62, 63, 64, 65, 245, 246, 247, 248, 249, 250, 251, 252, 253, 254, 255, 256, 70, 17, 18, 22, 19, 272, 273, 274, 275, 276, 277, 278, 279, 280, 281, 282, 283, 284, 285, 286, 287, 288, 289, 290] (by decide +kernel) (by decide +kernel)) (goodIn_sub (fun _ h => List.mem_append_left _ (List.mem_append_left _ (List.mem_append_right _ h))) (by decide +kernel))
set_option maxRecDepth 20000 in
theorem gL_law_L_bound : GoodIn wsL_law (va_wsS RL 106 yL_bound wsL_bound) := goodIn_app (goodIn_of _ (by decide +kernel)) ggL_law_L_bound
set_option maxRecDepth 20000 in
theorem ggL_law_X0_clear : GoodIn wsL_law wsX0_clear := goodIn_r _ [267, 180, 181, 182, 2, 183, 27, 13, 268, 269, 270, 271, 14, 136, 151, 152, 153, 154, 28, 155, 156, 157, 158, 159, 70, 26, 160, 161, 162, 163, 127, 128, 129, 130, 131, 12, 164, 165, 166, 167, 25, 20, 168, 169, 170, 171, 172, 173, 174, 175, 24, 19, 97, 98, 99, 100, 176, 177, 178, 179, 23, 272, 273, 274, 275, 276, 277, 278, 279, 280, 281, 282, 283, 284, 285, 286, 287, 288, 289, 290] (by decide +kernel) (by decide +kernel)
set_option maxRecDepth 20000 in
theorem gL_law_X0_clear : GoodIn wsL_law (wsV RL 131 RX0 yX0_clear wsX0_clear) := goodIn_app (goodIn_of _ (by decide +kernel)) ggL_law_X0_clear
abbrev vwCl : List vw_C := [(RX0, TX0, 19)]
end
section
/-! ===== ints as Int ===== -/
def iI (x : Int) : Int32 := Int32.ofInt x
def gsm (a : Int) : Prop := -2147483648 ≤ a ∧ a < 2147483648
theorem iI_add (a b : Int) : iI a + iI b = iI (a + b) := (Int32.ofInt_add a b).symm
theorem iI_sub (a b : Int) : iI a - iI b = iI (a - b) := (Int32.ofInt_sub a b).symm
theorem iI_neg (a : Int) : -iI a = iI (-a) := (Int32.ofInt_neg a).symm
theorem iI_toInt {a : Int} (h : gsm a) : (iI a).toInt = a := Int32.toInt_ofInt_of_le (by have := h.1; omega) (by have := h.2; omega)
theorem iI_of (x : Int32) : iI x.toInt = x := Int32.ofInt_toInt x
theorem gsm_of (x : Int32) : gsm x.toInt := ⟨by have := x.le_toInt; omega, by have := x.toInt_lt; omega⟩
theorem iI_nat (n : Nat) : iI (n : Int) = Int32.ofNat n := Int32.ofInt_eq_ofNat
theorem iI_cl {a : Int} (h0 : 0 ≤ a) (h1 : a < 2147483648) : (iI a).toNatClampNeg = a.toNat := by
  have h := iI_toInt (a := a) ⟨by omega, h1⟩
  show (iI a).toInt.toNat = a.toNat
  rw [h]
theorem iI_in {a : Int} {n : Nat} (h0 : 0 ≤ a) (h1 : a < n) (hn : n ≤ 2147483648) : vp_in (iI a) n := by
  rw [vp_in_iff, iI_toInt ⟨by omega, by omega⟩]
  exact ⟨h0, h1⟩
theorem iI_le {a b : Int} (ha : gsm a) (hb : gsm b) : iI a ≤ iI b ↔ a ≤ b := by
  rw [Int32.le_iff_toInt_le, iI_toInt ha, iI_toInt hb]
theorem iI_lt {a b : Int} (ha : gsm a) (hb : gsm b) : iI a < iI b ↔ a < b := by
  rw [Int32.lt_iff_toInt_lt, iI_toInt ha, iI_toInt hb]
theorem iI_eq {a b : Int} (ha : gsm a) (hb : gsm b) : iI a = iI b ↔ a = b := by
  rw [← Int32.toInt_inj, iI_toInt ha, iI_toInt hb]
theorem iI_0 : (0 : Int32) = iI 0 := rfl
theorem gsm_i {a : Int} (h0 : -2147483648 ≤ a) (h1 : a < 2147483648) : gsm a := ⟨h0, h1⟩
theorem iI_div {a b : Int} (ha : 0 ≤ a) (ha2 : a < 2147483648) (hb : 0 < b) (hb2 : b < 2147483648) : iI a / iI b = iI (a / b) := by
  have h1 : iI a = nI a.toNat := by rw [show nI a.toNat = Int32.ofNat a.toNat from rfl, ← iI_nat]; rw [Int.toNat_of_nonneg ha]
  have h2 : iI b = nI b.toNat := by rw [show nI b.toNat = Int32.ofNat b.toNat from rfl, ← iI_nat]; rw [Int.toNat_of_nonneg (by omega)]
  rw [h1, h2, pk_div (by omega) (by omega) (by omega), show nI (a.toNat / b.toNat) = Int32.ofNat (a.toNat / b.toNat) from rfl, ← iI_nat]
  congr 1
  rw [Int.natCast_ediv, Int.toNat_of_nonneg ha, Int.toNat_of_nonneg (by omega)]
/-! ===== locals ===== -/
def gL (ls : Array Slot) (lv : List (Option Value)) : Prop := ls.size = lv.length ∧ lv_wf ls ∧ ∀ (k : Nat) (v : Value), lv[k]? = some (some v) → ls[k]? = some (.val v) ∧ v.category = 1
def gAs (lv : List (Option Value)) : List (Nat × Value) := (List.range lv.length).filterMap (fun k => (lv[k]?.join).map (fun v => (k, v)))
theorem gAs_mem {lv : List (Option Value)} {q : Nat × Value} : q ∈ gAs lv ↔ lv[q.1]? = some (some q.2) := by
  obtain ⟨k, v⟩ := q
  unfold gAs
  rw [List.mem_filterMap]
  constructor
  · rintro ⟨a, -, h⟩
    rw [Option.map_eq_some_iff] at h
    obtain ⟨w, h1, h2⟩ := h
    cases h2
    exact Option.join_eq_some_iff.mp h1
  · intro h
    refine ⟨k, List.mem_range.mpr (List.getElem?_eq_some_iff.mp h).1, ?_⟩
    simp only [] at h
    rw [h]
    rfl
theorem gL_has {ls : Array Slot} {lv : List (Option Value)} (h : gL ls lv) : lv_has ls lv.length (gAs lv) := ⟨h.1, h.2.1, fun q hq => (h.2.2 q.1 q.2 (gAs_mem.mp hq)).1⟩
theorem gL_put {ls ls' : Array Slot} {lv : List (Option Value)} {i : Nat} {v : Value} (h : gL ls lv) (hc : v.category = 1) (h' : lv_has ls' lv.length ((i, v) :: (gAs lv).filter (fun q => !(q.1 == i) && !(q.1 + 1 == i && q.2.category == 2)))) : gL ls' (lv.set i (some v)) := by
  refine ⟨by rw [h'.1, List.length_set], h'.2.1, fun k w hk => ?_⟩
  by_cases hki : k = i
  · subst hki
    rw [List.getElem?_set_self (by have := (List.getElem?_eq_some_iff.mp hk).1; rwa [List.length_set] at this)] at hk
    cases hk
    exact ⟨h'.2.2 _ List.mem_cons_self, hc⟩
  · rw [List.getElem?_set_ne (Ne.symm hki)] at hk
    obtain ⟨h1, h2⟩ := h.2.2 k w hk
    refine ⟨h'.2.2 (k, w) (List.mem_cons_of_mem _ (List.mem_filter.mpr ⟨gAs_mem.mpr hk, ?_⟩)), h2⟩
    simp [hki, h2]
theorem gL_entry {l : List Value} {n : Nat} (hn : l.length ≤ n) (hc : ∀ v ∈ l, v.category = 1) {ls : Array Slot} (h : lv_has ls n (lv_args 0 l)) : gL ls (l.map some ++ List.replicate (n - l.length) none) := by
  have key : ∀ (l : List Value) (i : Nat), (∀ v ∈ l, v.category = 1) → ∀ (k : Nat) (v : Value), l[k]? = some v → (i + k, v) ∈ lv_args i l := by
    intro l
    induction l with
    | nil => intro i _ k v h; simp at h
    | cons w l ih =>
      intro i hc k v h
      have hw : w.category = 1 := hc w List.mem_cons_self
      cases k with
      | zero =>
        rw [List.getElem?_cons_zero] at h
        cases h
        simp [lv_args]
      | succ k =>
        rw [List.getElem?_cons_succ] at h
        have := ih (i + 1) (fun v hv => hc v (List.mem_cons_of_mem _ hv)) k v h
        simp only [lv_args, hw]
        rw [show i + (k + 1) = i + 1 + k by omega]
        exact List.mem_cons_of_mem _ this
  refine ⟨by rw [h.1]; simp; omega, h.2.1, fun k v hk => ?_⟩
  by_cases hl : k < l.length
  · rw [List.getElem?_append_left (by simpa using hl), List.getElem?_map, Option.map_eq_some_iff] at hk
    obtain ⟨w, h1, h2⟩ := hk
    cases h2
    have := h.2.2 _ (key l 0 hc k v h1)
    rw [Nat.zero_add] at this
    exact ⟨this, hc v (List.mem_of_getElem? h1)⟩
  · rw [List.getElem?_append_right (by simpa using hl), List.getElem?_replicate] at hk
    split at hk <;> cases hk
end
section
/-! ===== the judgement ===== -/
section GJ
variable {Hb : Heap} {p : Program} {l : Launch} {e : Env} {R : Room} {s : State} {m : MethodId} {args : Array Value} {below : List Frame} {meth : Method} {c : Code} {cells slots : Nat} {Q : State → Prop} {A0 : Nat → Prop} {D : va_G}
variable {own : String} {cc : ByteArray} {nL : Nat} {Ts : List Cond} {tys : List (ClassId × FieldType)} {ws : va_W} {lv lv' : List (Option Value)} {pc : Nat} {st : List Value}
def hE (Hb : Heap) (p : Program) (s : State) (m : MethodId) (args : Array Value) (c : Code) (own : String) (cc : ByteArray) (nL : Nat) (Ts : List Cond) (D : va_G) (tys : List (ClassId × FieldType)) (A0 : Nat → Prop) : Prop :=
  CallFix p m c cc nL s args Ts own ∧ va_K D vwCl tys s ∧ ∀ q : Nat, Hb.size ≤ q → A0 q
abbrev gE (p : Program) (s : State) (m : MethodId) (args : Array Value) (c : Code) (own : String) (cc : ByteArray) (nL : Nat) (Ts : List Cond) (D : va_G) (tys : List (ClassId × FieldType)) (A0 : Nat → Prop) : Prop := hE s.heap p s m args c own cc nL Ts D tys A0
def hJ (Hb : Heap) (p : Program) (l : Launch) (e : Env) (R : Room) (s : State) (m : MethodId) (args : Array Value) (below : List Frame) (meth : Method) (c : Code) (cells slots : Nat) (Q : State → Prop) (A0 : Nat → Prop) (D : va_G) (ws : va_W) (lv : List (Option Value)) (pc : Nat) (st : List Value) : Prop :=
  ∀ (H : Heap) (locs : List Loc) (ls : Array Slot), va_P D vwCl ws H → va_D A0 ws → va_S A0 Hb H locs → gL ls lv → W p l e R s m args below meth c H locs cells slots Q (F0 m pc ls st)
abbrev gJ (p : Program) (l : Launch) (e : Env) (R : Room) (s : State) (m : MethodId) (args : Array Value) (below : List Frame) (meth : Method) (c : Code) (cells slots : Nat) (Q : State → Prop) (A0 : Nat → Prop) (D : va_G) (ws : va_W) (lv : List (Option Value)) (pc : Nat) (st : List Value) : Prop := hJ s.heap p l e R s m args below meth c cells slots Q A0 D ws lv pc st
theorem g_loop (P : Nat → Prop) (n : Nat) (he : P n) (hs : ∀ k, k < n → P (k + 1) → P k) : ∀ k, k ≤ n → P k := by
  intro k hk
  have key : ∀ d k, k + d = n → P k := by
    intro d
    induction d with
    | zero => intro k h; rw [show k = n by omega]; exact he
    | succ d ih => intro k h; exact hs k (by omega) (ih (k + 1) (by omega))
  exact key (n - k) k (by omega)

theorem g_iconst (E : hE Hb p s m args c own cc nL Ts D tys A0) {n : Int} (hdg : decode cc pc = .ok (.iconst n, 1))  (K : hJ Hb p l e R s m args below meth c cells slots Q A0 D ws lv (pc + 1) (.int (iI n) :: st)) : hJ Hb p l e R s m args below meth c cells slots Q A0 D ws lv pc st := by
  obtain ⟨⟨hx, hb, hml, hown, hts⟩, hK, hA⟩ := E
  intro H locs ls hP hD hS hL
  exact lv_iconst hx hb hdg rfl (K H locs ls hP hD hS hL)
theorem g_bipush (E : hE Hb p s m args c own cc nL Ts D tys A0) {n : Int} (hdg : decode cc pc = .ok (.bipush n, 2)) (hv : (Int8.ofInt n).toInt32 = iI n) (K : hJ Hb p l e R s m args below meth c cells slots Q A0 D ws lv (pc + 2) (.int (iI n) :: st)) : hJ Hb p l e R s m args below meth c cells slots Q A0 D ws lv pc st := by
  obtain ⟨⟨hx, hb, hml, hown, hts⟩, hK, hA⟩ := E
  intro H locs ls hP hD hS hL
  exact lv_bipush hx hb hdg hv (K H locs ls hP hD hS hL)
theorem g_sipush (E : hE Hb p s m args c own cc nL Ts D tys A0) {n : Int} (hdg : decode cc pc = .ok (.sipush n, 3)) (hv : (Int16.ofInt n).toInt32 = iI n) (K : hJ Hb p l e R s m args below meth c cells slots Q A0 D ws lv (pc + 3) (.int (iI n) :: st)) : hJ Hb p l e R s m args below meth c cells slots Q A0 D ws lv pc st := by
  obtain ⟨⟨hx, hb, hml, hown, hts⟩, hK, hA⟩ := E
  intro H locs ls hP hD hS hL
  exact lv_sipush hx hb hdg hv (K H locs ls hP hD hS hL)
theorem g_iload_n (E : hE Hb p s m args c own cc nL Ts D tys A0) {k : Fin 4} {i : Nat} {x : Int32} (hdg : decode cc pc = .ok (.iload_n k, 1)) (hi : (k : Nat) = i) (hl : lv[i]? = some (some (.int x))) (K : hJ Hb p l e R s m args below meth c cells slots Q A0 D ws lv (pc + 1) (.int x :: st)) : hJ Hb p l e R s m args below meth c cells slots Q A0 D ws lv pc st := by
  obtain ⟨⟨hx, hb, hml, hown, hts⟩, hK, hA⟩ := E
  intro H locs ls hP hD hS hL
  exact lv_iload_n hx hb hdg hi (hL.2.2 i _ hl).1 (K H locs ls hP hD hS hL)
theorem g_iload (E : hE Hb p s m args c own cc nL Ts D tys A0) {i : Nat} {x : Int32} (hdg : decode cc pc = .ok (.iload i, 2)) (hl : lv[i]? = some (some (.int x))) (K : hJ Hb p l e R s m args below meth c cells slots Q A0 D ws lv (pc + 2) (.int x :: st)) : hJ Hb p l e R s m args below meth c cells slots Q A0 D ws lv pc st := by
  obtain ⟨⟨hx, hb, hml, hown, hts⟩, hK, hA⟩ := E
  intro H locs ls hP hD hS hL
  exact lv_iload hx hb hdg (hL.2.2 i _ hl).1 (K H locs ls hP hD hS hL)
theorem g_istore_n (E : hE Hb p s m args c own cc nL Ts D tys A0) {k : Fin 4} {i : Nat} {x : Int32} (hdg : decode cc pc = .ok (.istore_n k, 1)) (hi : (k : Nat) = i) (hn : i < lv.length) (hl : lv.set i (some (.int x)) = lv') (K : hJ Hb p l e R s m args below meth c cells slots Q A0 D ws lv' (pc + 1) st) : hJ Hb p l e R s m args below meth c cells slots Q A0 D ws lv pc (.int x :: st) := by
  obtain ⟨⟨hx, hb, hml, hown, hts⟩, hK, hA⟩ := E
  intro H locs ls hP hD hS hL
  subst hl
  exact lv_istore_n hx hb hdg hi (gL_has hL) hn rfl (fun ls' hL' => K H locs ls' hP hD hS (gL_put hL rfl hL'))
theorem g_istore (E : hE Hb p s m args c own cc nL Ts D tys A0) {i : Nat} {x : Int32} (hdg : decode cc pc = .ok (.istore i, 2)) (hn : i < lv.length) (hl : lv.set i (some (.int x)) = lv') (K : hJ Hb p l e R s m args below meth c cells slots Q A0 D ws lv' (pc + 2) st) : hJ Hb p l e R s m args below meth c cells slots Q A0 D ws lv pc (.int x :: st) := by
  obtain ⟨⟨hx, hb, hml, hown, hts⟩, hK, hA⟩ := E
  intro H locs ls hP hD hS hL
  subst hl
  exact lv_istore hx hb hdg (gL_has hL) hn rfl (fun ls' hL' => K H locs ls' hP hD hS (gL_put hL rfl hL'))
theorem g_aload_n (E : hE Hb p s m args c own cc nL Ts D tys A0) {k : Fin 4} {i : Nat} {x : Nat} (hdg : decode cc pc = .ok (.aload_n k, 1)) (hi : (k : Nat) = i) (hl : lv[i]? = some (some (.ref x))) (K : hJ Hb p l e R s m args below meth c cells slots Q A0 D ws lv (pc + 1) (.ref x :: st)) : hJ Hb p l e R s m args below meth c cells slots Q A0 D ws lv pc st := by
  obtain ⟨⟨hx, hb, hml, hown, hts⟩, hK, hA⟩ := E
  intro H locs ls hP hD hS hL
  exact lv_aload_n hx hb hdg hi (hL.2.2 i _ hl).1 (K H locs ls hP hD hS hL)
theorem g_aload (E : hE Hb p s m args c own cc nL Ts D tys A0) {i : Nat} {x : Nat} (hdg : decode cc pc = .ok (.aload i, 2)) (hl : lv[i]? = some (some (.ref x))) (K : hJ Hb p l e R s m args below meth c cells slots Q A0 D ws lv (pc + 2) (.ref x :: st)) : hJ Hb p l e R s m args below meth c cells slots Q A0 D ws lv pc st := by
  obtain ⟨⟨hx, hb, hml, hown, hts⟩, hK, hA⟩ := E
  intro H locs ls hP hD hS hL
  exact lv_aload hx hb hdg (hL.2.2 i _ hl).1 (K H locs ls hP hD hS hL)
theorem g_astore_n (E : hE Hb p s m args c own cc nL Ts D tys A0) {k : Fin 4} {i : Nat} {x : Nat} (hdg : decode cc pc = .ok (.astore_n k, 1)) (hi : (k : Nat) = i) (hn : i < lv.length) (hl : lv.set i (some (.ref x)) = lv') (K : hJ Hb p l e R s m args below meth c cells slots Q A0 D ws lv' (pc + 1) st) : hJ Hb p l e R s m args below meth c cells slots Q A0 D ws lv pc (.ref x :: st) := by
  obtain ⟨⟨hx, hb, hml, hown, hts⟩, hK, hA⟩ := E
  intro H locs ls hP hD hS hL
  subst hl
  exact lv_astore_n hx hb hdg hi (gL_has hL) hn rfl (fun ls' hL' => K H locs ls' hP hD hS (gL_put hL rfl hL'))
theorem g_astore (E : hE Hb p s m args c own cc nL Ts D tys A0) {i : Nat} {x : Nat} (hdg : decode cc pc = .ok (.astore i, 2)) (hn : i < lv.length) (hl : lv.set i (some (.ref x)) = lv') (K : hJ Hb p l e R s m args below meth c cells slots Q A0 D ws lv' (pc + 2) st) : hJ Hb p l e R s m args below meth c cells slots Q A0 D ws lv pc (.ref x :: st) := by
  obtain ⟨⟨hx, hb, hml, hown, hts⟩, hK, hA⟩ := E
  intro H locs ls hP hD hS hL
  subst hl
  exact lv_astore hx hb hdg (gL_has hL) hn rfl (fun ls' hL' => K H locs ls' hP hD hS (gL_put hL rfl hL'))
theorem g_iinc (E : hE Hb p s m args c own cc nL Ts D tys A0) {i : Nat} {n a : Int} (hdg : decode cc pc = .ok (.iinc i n, 3)) (h0 : lv[i]? = some (some (.int (iI a)))) (hl : lv.set i (some (.int (iI (a + n)))) = lv') (K : hJ Hb p l e R s m args below meth c cells slots Q A0 D ws lv' (pc + 3) st) : hJ Hb p l e R s m args below meth c cells slots Q A0 D ws lv pc st := by
  obtain ⟨⟨hx, hb, hml, hown, hts⟩, hK, hA⟩ := E
  intro H locs ls hP hD hS hL
  subst hl
  obtain ⟨k, hk⟩ := List.getElem?_of_mem (gAs_mem (q := (i, .int (iI a))).mpr h0)
  exact lv_iinc hx hb hdg (gL_has hL) hk (v := iI (a + n)) (by rw [← iI_add]; rfl) (List.getElem?_eq_some_iff.mp h0).1 rfl (fun ls' hL' => K H locs ls' hP hD hS (gL_put hL rfl hL'))
theorem g_iadd (E : hE Hb p s m args c own cc nL Ts D tys A0) {a b : Int} (hdg : decode cc pc = .ok (.iadd, 1))  (K : hJ Hb p l e R s m args below meth c cells slots Q A0 D ws lv (pc + 1) (.int (iI (a + b)) :: st)) : hJ Hb p l e R s m args below meth c cells slots Q A0 D ws lv pc (.int (iI b) :: .int (iI a) :: st) := by
  obtain ⟨⟨hx, hb, hml, hown, hts⟩, hK, hA⟩ := E
  intro H locs ls hP hD hS hL
  refine lv_iadd hx hb hdg ?_
  rw [iI_add]
  exact K H locs ls hP hD hS hL
theorem g_isub (E : hE Hb p s m args c own cc nL Ts D tys A0) {a b : Int} (hdg : decode cc pc = .ok (.isub, 1))  (K : hJ Hb p l e R s m args below meth c cells slots Q A0 D ws lv (pc + 1) (.int (iI (a - b)) :: st)) : hJ Hb p l e R s m args below meth c cells slots Q A0 D ws lv pc (.int (iI b) :: .int (iI a) :: st) := by
  obtain ⟨⟨hx, hb, hml, hown, hts⟩, hK, hA⟩ := E
  intro H locs ls hP hD hS hL
  refine lv_isub hx hb hdg ?_
  rw [iI_sub]
  exact K H locs ls hP hD hS hL
theorem g_idiv (E : hE Hb p s m args c own cc nL Ts D tys A0) {a b : Int} (hdg : decode cc pc = .ok (.idiv, 1)) (hr : 0 ≤ a ∧ a < 2147483648 ∧ 0 < b ∧ b < 2147483648) (K : hJ Hb p l e R s m args below meth c cells slots Q A0 D ws lv (pc + 1) (.int (iI (a / b)) :: st)) : hJ Hb p l e R s m args below meth c cells slots Q A0 D ws lv pc (.int (iI b) :: .int (iI a) :: st) := by
  obtain ⟨⟨hx, hb, hml, hown, hts⟩, hK, hA⟩ := E
  intro H locs ls hP hD hS hL
  refine lv_idiv hx hb hdg (by rw [iI_0, iI_eq ⟨by omega, by omega⟩ ⟨by omega, by omega⟩]; omega) ?_
  rw [iI_div hr.1 hr.2.1 hr.2.2.1 hr.2.2.2]
  exact K H locs ls hP hD hS hL
theorem g_iandZ (E : hE Hb p s m args c own cc nL Ts D tys A0) {a b : Int} (hdg : decode cc pc = .ok (.iand, 1)) {v : Int} (hv : iI a &&& iI b = iI v) (K : hJ Hb p l e R s m args below meth c cells slots Q A0 D ws lv (pc + 1) (.int (iI v) :: st)) : hJ Hb p l e R s m args below meth c cells slots Q A0 D ws lv pc (.int (iI b) :: .int (iI a) :: st) := by
  obtain ⟨⟨hx, hb, hml, hown, hts⟩, hK, hA⟩ := E
  intro H locs ls hP hD hS hL
  refine lv_iand hx hb hdg ?_
  rw [hv]
  exact K H locs ls hP hD hS hL
theorem g_dup (E : hE Hb p s m args c own cc nL Ts D tys A0) {v : Value} (hdg : decode cc pc = .ok (.dup, 1)) (hv : v.category = 1) (K : hJ Hb p l e R s m args below meth c cells slots Q A0 D ws lv (pc + 1) (v :: v :: st)) : hJ Hb p l e R s m args below meth c cells slots Q A0 D ws lv pc (v :: st) := by
  obtain ⟨⟨hx, hb, hml, hown, hts⟩, hK, hA⟩ := E
  intro H locs ls hP hD hS hL
  exact lv_dup hx hb hdg hv (K H locs ls hP hD hS hL)
theorem g_pop (E : hE Hb p s m args c own cc nL Ts D tys A0) {v : Value} (hdg : decode cc pc = .ok (.pop, 1)) (hv : v.category = 1) (K : hJ Hb p l e R s m args below meth c cells slots Q A0 D ws lv (pc + 1) st) : hJ Hb p l e R s m args below meth c cells slots Q A0 D ws lv pc (v :: st) := by
  obtain ⟨⟨hx, hb, hml, hown, hts⟩, hK, hA⟩ := E
  intro H locs ls hP hD hS hL
  exact lv_pop hx hb hdg hv (K H locs ls hP hD hS hL)
theorem g_dup2 (E : hE Hb p s m args c own cc nL Ts D tys A0) {v w : Value} (hdg : decode cc pc = .ok (.dup2, 1)) (hv : v.category = 1) (hw : w.category = 1) (K : hJ Hb p l e R s m args below meth c cells slots Q A0 D ws lv (pc + 1) (v :: w :: v :: w :: st)) : hJ Hb p l e R s m args below meth c cells slots Q A0 D ws lv pc (v :: w :: st) := by
  obtain ⟨⟨hx, hb, hml, hown, hts⟩, hK, hA⟩ := E
  intro H locs ls hP hD hS hL
  exact lv_dup2_11 hx hb hdg hv hw (K H locs ls hP hD hS hL)
theorem g_goto (E : hE Hb p s m args c own cc nL Ts D tys A0) {off : Int} {tgt : Nat} (hdg : decode cc pc = .ok (.goto off, 3)) (ht : (pc : Int) + off = (tgt : Int)) (K : hJ Hb p l e R s m args below meth c cells slots Q A0 D ws lv tgt st) : hJ Hb p l e R s m args below meth c cells slots Q A0 D ws lv pc st := by
  obtain ⟨⟨hx, hb, hml, hown, hts⟩, hK, hA⟩ := E
  intro H locs ls hP hD hS hL
  exact lv_goto hx hb hdg ht (K H locs ls hP hD hS hL)
theorem g_icmp_eq (E : hE Hb p s m args c own cc nL Ts D tys A0) {a b : Int} {off : Int} {tgt : Nat} (hdg : decode cc pc = .ok (.if_icmp .eq off, 3)) (ht : (pc : Int) + off = (tgt : Int)) (hr : (-2147483648 ≤ a ∧ a < 2147483648) ∧ (-2147483648 ≤ b ∧ b < 2147483648)) (kt : a = b → hJ Hb p l e R s m args below meth c cells slots Q A0 D ws lv tgt st) (kf : ¬ a = b → hJ Hb p l e R s m args below meth c cells slots Q A0 D ws lv (pc + 3) st) : hJ Hb p l e R s m args below meth c cells slots Q A0 D ws lv pc (.int (iI b) :: .int (iI a) :: st) := by
  obtain ⟨⟨hx, hb, hml, hown, hts⟩, hK, hA⟩ := E
  intro H locs ls hP hD hS hL
  have ha : gsm a := hr.1
  have hb0 : gsm b := hr.2
  exact lv_icmp_eq hx hb hdg ht (fun h => by exact kt ((iI_eq ha hb0).mp h) H locs ls hP hD hS hL) (fun h => by exact kf (fun h2 => h ((iI_eq ha hb0).mpr h2)) H locs ls hP hD hS hL)
theorem g_icmp_eq_t (E : hE Hb p s m args c own cc nL Ts D tys A0) {a b : Int} {off : Int} {tgt : Nat} (hdg : decode cc pc = .ok (.if_icmp .eq off, 3)) (ht : (pc : Int) + off = (tgt : Int)) (hr : (-2147483648 ≤ a ∧ a < 2147483648) ∧ (-2147483648 ≤ b ∧ b < 2147483648)) (h : a = b) (K : hJ Hb p l e R s m args below meth c cells slots Q A0 D ws lv tgt st) : hJ Hb p l e R s m args below meth c cells slots Q A0 D ws lv pc (.int (iI b) :: .int (iI a) :: st) := g_icmp_eq E hdg ht hr (fun _ => K) (fun h2 => absurd h h2)
theorem g_icmp_eq_f (E : hE Hb p s m args c own cc nL Ts D tys A0) {a b : Int} {off : Int} {tgt : Nat} (hdg : decode cc pc = .ok (.if_icmp .eq off, 3)) (ht : (pc : Int) + off = (tgt : Int)) (hr : (-2147483648 ≤ a ∧ a < 2147483648) ∧ (-2147483648 ≤ b ∧ b < 2147483648)) (h : ¬ a = b) (K : hJ Hb p l e R s m args below meth c cells slots Q A0 D ws lv (pc + 3) st) : hJ Hb p l e R s m args below meth c cells slots Q A0 D ws lv pc (.int (iI b) :: .int (iI a) :: st) := g_icmp_eq E hdg ht hr (fun h2 => absurd h2 h) (fun _ => K)
theorem g_if_eq (E : hE Hb p s m args c own cc nL Ts D tys A0) {a : Int} {off : Int} {tgt : Nat} (hdg : decode cc pc = .ok (.ifCond .eq off, 3)) (ht : (pc : Int) + off = (tgt : Int)) (hr : -2147483648 ≤ a ∧ a < 2147483648) (kt : a = 0 → hJ Hb p l e R s m args below meth c cells slots Q A0 D ws lv tgt st) (kf : ¬ a = 0 → hJ Hb p l e R s m args below meth c cells slots Q A0 D ws lv (pc + 3) st) : hJ Hb p l e R s m args below meth c cells slots Q A0 D ws lv pc (.int (iI a) :: st) := by
  obtain ⟨⟨hx, hb, hml, hown, hts⟩, hK, hA⟩ := E
  intro H locs ls hP hD hS hL
  have ha : gsm a := hr
  have hb0 : gsm 0 := ⟨by decide, by decide⟩
  exact lv_if_eq hx hb hdg ht (fun h => by rw [iI_0] at h; exact kt ((iI_eq ha hb0).mp h) H locs ls hP hD hS hL) (fun h => by rw [iI_0] at h; exact kf (fun h2 => h ((iI_eq ha hb0).mpr h2)) H locs ls hP hD hS hL)
theorem g_if_eq_t (E : hE Hb p s m args c own cc nL Ts D tys A0) {a : Int} {off : Int} {tgt : Nat} (hdg : decode cc pc = .ok (.ifCond .eq off, 3)) (ht : (pc : Int) + off = (tgt : Int)) (hr : -2147483648 ≤ a ∧ a < 2147483648) (h : a = 0) (K : hJ Hb p l e R s m args below meth c cells slots Q A0 D ws lv tgt st) : hJ Hb p l e R s m args below meth c cells slots Q A0 D ws lv pc (.int (iI a) :: st) := g_if_eq E hdg ht hr (fun _ => K) (fun h2 => absurd h h2)
theorem g_if_eq_f (E : hE Hb p s m args c own cc nL Ts D tys A0) {a : Int} {off : Int} {tgt : Nat} (hdg : decode cc pc = .ok (.ifCond .eq off, 3)) (ht : (pc : Int) + off = (tgt : Int)) (hr : -2147483648 ≤ a ∧ a < 2147483648) (h : ¬ a = 0) (K : hJ Hb p l e R s m args below meth c cells slots Q A0 D ws lv (pc + 3) st) : hJ Hb p l e R s m args below meth c cells slots Q A0 D ws lv pc (.int (iI a) :: st) := g_if_eq E hdg ht hr (fun h2 => absurd h2 h) (fun _ => K)
theorem g_icmp_ne (E : hE Hb p s m args c own cc nL Ts D tys A0) {a b : Int} {off : Int} {tgt : Nat} (hdg : decode cc pc = .ok (.if_icmp .ne off, 3)) (ht : (pc : Int) + off = (tgt : Int)) (hr : (-2147483648 ≤ a ∧ a < 2147483648) ∧ (-2147483648 ≤ b ∧ b < 2147483648)) (kt : ¬ a = b → hJ Hb p l e R s m args below meth c cells slots Q A0 D ws lv tgt st) (kf : a = b → hJ Hb p l e R s m args below meth c cells slots Q A0 D ws lv (pc + 3) st) : hJ Hb p l e R s m args below meth c cells slots Q A0 D ws lv pc (.int (iI b) :: .int (iI a) :: st) := by
  obtain ⟨⟨hx, hb, hml, hown, hts⟩, hK, hA⟩ := E
  intro H locs ls hP hD hS hL
  have ha : gsm a := hr.1
  have hb0 : gsm b := hr.2
  refine lv_icmp_ne hx hb hdg ht (fun h => ?_) (fun h => ?_)
  · skip
    exact kt (fun h2 => h ((iI_eq ha hb0).mpr h2)) H locs ls hP hD hS hL
  · skip
    exact kf (by first | exact (iI_eq ha hb0).mp h | exact (iI_eq ha hb0).mp (Decidable.not_not.mp h)) H locs ls hP hD hS hL
theorem g_icmp_ne_t (E : hE Hb p s m args c own cc nL Ts D tys A0) {a b : Int} {off : Int} {tgt : Nat} (hdg : decode cc pc = .ok (.if_icmp .ne off, 3)) (ht : (pc : Int) + off = (tgt : Int)) (hr : (-2147483648 ≤ a ∧ a < 2147483648) ∧ (-2147483648 ≤ b ∧ b < 2147483648)) (h : ¬ a = b) (K : hJ Hb p l e R s m args below meth c cells slots Q A0 D ws lv tgt st) : hJ Hb p l e R s m args below meth c cells slots Q A0 D ws lv pc (.int (iI b) :: .int (iI a) :: st) := g_icmp_ne E hdg ht hr (fun _ => K) (fun h2 => absurd h2 h)
theorem g_icmp_ne_f (E : hE Hb p s m args c own cc nL Ts D tys A0) {a b : Int} {off : Int} {tgt : Nat} (hdg : decode cc pc = .ok (.if_icmp .ne off, 3)) (ht : (pc : Int) + off = (tgt : Int)) (hr : (-2147483648 ≤ a ∧ a < 2147483648) ∧ (-2147483648 ≤ b ∧ b < 2147483648)) (h : a = b) (K : hJ Hb p l e R s m args below meth c cells slots Q A0 D ws lv (pc + 3) st) : hJ Hb p l e R s m args below meth c cells slots Q A0 D ws lv pc (.int (iI b) :: .int (iI a) :: st) := g_icmp_ne E hdg ht hr (fun h2 => absurd h h2) (fun _ => K)
theorem g_if_ne (E : hE Hb p s m args c own cc nL Ts D tys A0) {a : Int} {off : Int} {tgt : Nat} (hdg : decode cc pc = .ok (.ifCond .ne off, 3)) (ht : (pc : Int) + off = (tgt : Int)) (hr : -2147483648 ≤ a ∧ a < 2147483648) (kt : ¬ a = 0 → hJ Hb p l e R s m args below meth c cells slots Q A0 D ws lv tgt st) (kf : a = 0 → hJ Hb p l e R s m args below meth c cells slots Q A0 D ws lv (pc + 3) st) : hJ Hb p l e R s m args below meth c cells slots Q A0 D ws lv pc (.int (iI a) :: st) := by
  obtain ⟨⟨hx, hb, hml, hown, hts⟩, hK, hA⟩ := E
  intro H locs ls hP hD hS hL
  have ha : gsm a := hr
  have hb0 : gsm 0 := ⟨by decide, by decide⟩
  refine lv_if_ne hx hb hdg ht (fun h => ?_) (fun h => ?_)
  · rw [iI_0] at h
    exact kt (fun h2 => h ((iI_eq ha hb0).mpr h2)) H locs ls hP hD hS hL
  · rw [iI_0] at h
    exact kf (by first | exact (iI_eq ha hb0).mp h | exact (iI_eq ha hb0).mp (Decidable.not_not.mp h)) H locs ls hP hD hS hL
theorem g_if_ne_t (E : hE Hb p s m args c own cc nL Ts D tys A0) {a : Int} {off : Int} {tgt : Nat} (hdg : decode cc pc = .ok (.ifCond .ne off, 3)) (ht : (pc : Int) + off = (tgt : Int)) (hr : -2147483648 ≤ a ∧ a < 2147483648) (h : ¬ a = 0) (K : hJ Hb p l e R s m args below meth c cells slots Q A0 D ws lv tgt st) : hJ Hb p l e R s m args below meth c cells slots Q A0 D ws lv pc (.int (iI a) :: st) := g_if_ne E hdg ht hr (fun _ => K) (fun h2 => absurd h2 h)
theorem g_if_ne_f (E : hE Hb p s m args c own cc nL Ts D tys A0) {a : Int} {off : Int} {tgt : Nat} (hdg : decode cc pc = .ok (.ifCond .ne off, 3)) (ht : (pc : Int) + off = (tgt : Int)) (hr : -2147483648 ≤ a ∧ a < 2147483648) (h : a = 0) (K : hJ Hb p l e R s m args below meth c cells slots Q A0 D ws lv (pc + 3) st) : hJ Hb p l e R s m args below meth c cells slots Q A0 D ws lv pc (.int (iI a) :: st) := g_if_ne E hdg ht hr (fun h2 => absurd h h2) (fun _ => K)
theorem g_icmp_lt (E : hE Hb p s m args c own cc nL Ts D tys A0) {a b : Int} {off : Int} {tgt : Nat} (hdg : decode cc pc = .ok (.if_icmp .lt off, 3)) (ht : (pc : Int) + off = (tgt : Int)) (hr : (-2147483648 ≤ a ∧ a < 2147483648) ∧ (-2147483648 ≤ b ∧ b < 2147483648)) (kt : a < b → hJ Hb p l e R s m args below meth c cells slots Q A0 D ws lv tgt st) (kf : ¬ a < b → hJ Hb p l e R s m args below meth c cells slots Q A0 D ws lv (pc + 3) st) : hJ Hb p l e R s m args below meth c cells slots Q A0 D ws lv pc (.int (iI b) :: .int (iI a) :: st) := by
  obtain ⟨⟨hx, hb, hml, hown, hts⟩, hK, hA⟩ := E
  intro H locs ls hP hD hS hL
  have ha : gsm a := hr.1
  have hb0 : gsm b := hr.2
  exact lv_icmp_lt hx hb hdg ht (fun h => by exact kt ((iI_lt ha hb0).mp h) H locs ls hP hD hS hL) (fun h => by exact kf (fun h2 => h ((iI_lt ha hb0).mpr h2)) H locs ls hP hD hS hL)
theorem g_icmp_lt_t (E : hE Hb p s m args c own cc nL Ts D tys A0) {a b : Int} {off : Int} {tgt : Nat} (hdg : decode cc pc = .ok (.if_icmp .lt off, 3)) (ht : (pc : Int) + off = (tgt : Int)) (hr : (-2147483648 ≤ a ∧ a < 2147483648) ∧ (-2147483648 ≤ b ∧ b < 2147483648)) (h : a < b) (K : hJ Hb p l e R s m args below meth c cells slots Q A0 D ws lv tgt st) : hJ Hb p l e R s m args below meth c cells slots Q A0 D ws lv pc (.int (iI b) :: .int (iI a) :: st) := g_icmp_lt E hdg ht hr (fun _ => K) (fun h2 => absurd h h2)
theorem g_icmp_lt_f (E : hE Hb p s m args c own cc nL Ts D tys A0) {a b : Int} {off : Int} {tgt : Nat} (hdg : decode cc pc = .ok (.if_icmp .lt off, 3)) (ht : (pc : Int) + off = (tgt : Int)) (hr : (-2147483648 ≤ a ∧ a < 2147483648) ∧ (-2147483648 ≤ b ∧ b < 2147483648)) (h : ¬ a < b) (K : hJ Hb p l e R s m args below meth c cells slots Q A0 D ws lv (pc + 3) st) : hJ Hb p l e R s m args below meth c cells slots Q A0 D ws lv pc (.int (iI b) :: .int (iI a) :: st) := g_icmp_lt E hdg ht hr (fun h2 => absurd h2 h) (fun _ => K)
theorem g_if_lt (E : hE Hb p s m args c own cc nL Ts D tys A0) {a : Int} {off : Int} {tgt : Nat} (hdg : decode cc pc = .ok (.ifCond .lt off, 3)) (ht : (pc : Int) + off = (tgt : Int)) (hr : -2147483648 ≤ a ∧ a < 2147483648) (kt : a < 0 → hJ Hb p l e R s m args below meth c cells slots Q A0 D ws lv tgt st) (kf : ¬ a < 0 → hJ Hb p l e R s m args below meth c cells slots Q A0 D ws lv (pc + 3) st) : hJ Hb p l e R s m args below meth c cells slots Q A0 D ws lv pc (.int (iI a) :: st) := by
  obtain ⟨⟨hx, hb, hml, hown, hts⟩, hK, hA⟩ := E
  intro H locs ls hP hD hS hL
  have ha : gsm a := hr
  have hb0 : gsm 0 := ⟨by decide, by decide⟩
  exact lv_if_lt hx hb hdg ht (fun h => by rw [iI_0] at h; exact kt ((iI_lt ha hb0).mp h) H locs ls hP hD hS hL) (fun h => by rw [iI_0] at h; exact kf (fun h2 => h ((iI_lt ha hb0).mpr h2)) H locs ls hP hD hS hL)
theorem g_if_lt_t (E : hE Hb p s m args c own cc nL Ts D tys A0) {a : Int} {off : Int} {tgt : Nat} (hdg : decode cc pc = .ok (.ifCond .lt off, 3)) (ht : (pc : Int) + off = (tgt : Int)) (hr : -2147483648 ≤ a ∧ a < 2147483648) (h : a < 0) (K : hJ Hb p l e R s m args below meth c cells slots Q A0 D ws lv tgt st) : hJ Hb p l e R s m args below meth c cells slots Q A0 D ws lv pc (.int (iI a) :: st) := g_if_lt E hdg ht hr (fun _ => K) (fun h2 => absurd h h2)
theorem g_if_lt_f (E : hE Hb p s m args c own cc nL Ts D tys A0) {a : Int} {off : Int} {tgt : Nat} (hdg : decode cc pc = .ok (.ifCond .lt off, 3)) (ht : (pc : Int) + off = (tgt : Int)) (hr : -2147483648 ≤ a ∧ a < 2147483648) (h : ¬ a < 0) (K : hJ Hb p l e R s m args below meth c cells slots Q A0 D ws lv (pc + 3) st) : hJ Hb p l e R s m args below meth c cells slots Q A0 D ws lv pc (.int (iI a) :: st) := g_if_lt E hdg ht hr (fun h2 => absurd h2 h) (fun _ => K)
theorem g_icmp_ge (E : hE Hb p s m args c own cc nL Ts D tys A0) {a b : Int} {off : Int} {tgt : Nat} (hdg : decode cc pc = .ok (.if_icmp .ge off, 3)) (ht : (pc : Int) + off = (tgt : Int)) (hr : (-2147483648 ≤ a ∧ a < 2147483648) ∧ (-2147483648 ≤ b ∧ b < 2147483648)) (kt : b ≤ a → hJ Hb p l e R s m args below meth c cells slots Q A0 D ws lv tgt st) (kf : ¬ b ≤ a → hJ Hb p l e R s m args below meth c cells slots Q A0 D ws lv (pc + 3) st) : hJ Hb p l e R s m args below meth c cells slots Q A0 D ws lv pc (.int (iI b) :: .int (iI a) :: st) := by
  obtain ⟨⟨hx, hb, hml, hown, hts⟩, hK, hA⟩ := E
  intro H locs ls hP hD hS hL
  have ha : gsm a := hr.1
  have hb0 : gsm b := hr.2
  exact lv_icmp_ge hx hb hdg ht (fun h => by exact kt ((iI_le hb0 ha).mp h) H locs ls hP hD hS hL) (fun h => by exact kf (fun h2 => h ((iI_le hb0 ha).mpr h2)) H locs ls hP hD hS hL)
theorem g_icmp_ge_t (E : hE Hb p s m args c own cc nL Ts D tys A0) {a b : Int} {off : Int} {tgt : Nat} (hdg : decode cc pc = .ok (.if_icmp .ge off, 3)) (ht : (pc : Int) + off = (tgt : Int)) (hr : (-2147483648 ≤ a ∧ a < 2147483648) ∧ (-2147483648 ≤ b ∧ b < 2147483648)) (h : b ≤ a) (K : hJ Hb p l e R s m args below meth c cells slots Q A0 D ws lv tgt st) : hJ Hb p l e R s m args below meth c cells slots Q A0 D ws lv pc (.int (iI b) :: .int (iI a) :: st) := g_icmp_ge E hdg ht hr (fun _ => K) (fun h2 => absurd h h2)
theorem g_icmp_ge_f (E : hE Hb p s m args c own cc nL Ts D tys A0) {a b : Int} {off : Int} {tgt : Nat} (hdg : decode cc pc = .ok (.if_icmp .ge off, 3)) (ht : (pc : Int) + off = (tgt : Int)) (hr : (-2147483648 ≤ a ∧ a < 2147483648) ∧ (-2147483648 ≤ b ∧ b < 2147483648)) (h : ¬ b ≤ a) (K : hJ Hb p l e R s m args below meth c cells slots Q A0 D ws lv (pc + 3) st) : hJ Hb p l e R s m args below meth c cells slots Q A0 D ws lv pc (.int (iI b) :: .int (iI a) :: st) := g_icmp_ge E hdg ht hr (fun h2 => absurd h2 h) (fun _ => K)
theorem g_if_ge (E : hE Hb p s m args c own cc nL Ts D tys A0) {a : Int} {off : Int} {tgt : Nat} (hdg : decode cc pc = .ok (.ifCond .ge off, 3)) (ht : (pc : Int) + off = (tgt : Int)) (hr : -2147483648 ≤ a ∧ a < 2147483648) (kt : 0 ≤ a → hJ Hb p l e R s m args below meth c cells slots Q A0 D ws lv tgt st) (kf : ¬ 0 ≤ a → hJ Hb p l e R s m args below meth c cells slots Q A0 D ws lv (pc + 3) st) : hJ Hb p l e R s m args below meth c cells slots Q A0 D ws lv pc (.int (iI a) :: st) := by
  obtain ⟨⟨hx, hb, hml, hown, hts⟩, hK, hA⟩ := E
  intro H locs ls hP hD hS hL
  have ha : gsm a := hr
  have hb0 : gsm 0 := ⟨by decide, by decide⟩
  exact lv_if_ge hx hb hdg ht (fun h => by rw [iI_0] at h; exact kt ((iI_le hb0 ha).mp h) H locs ls hP hD hS hL) (fun h => by rw [iI_0] at h; exact kf (fun h2 => h ((iI_le hb0 ha).mpr h2)) H locs ls hP hD hS hL)
theorem g_if_ge_t (E : hE Hb p s m args c own cc nL Ts D tys A0) {a : Int} {off : Int} {tgt : Nat} (hdg : decode cc pc = .ok (.ifCond .ge off, 3)) (ht : (pc : Int) + off = (tgt : Int)) (hr : -2147483648 ≤ a ∧ a < 2147483648) (h : 0 ≤ a) (K : hJ Hb p l e R s m args below meth c cells slots Q A0 D ws lv tgt st) : hJ Hb p l e R s m args below meth c cells slots Q A0 D ws lv pc (.int (iI a) :: st) := g_if_ge E hdg ht hr (fun _ => K) (fun h2 => absurd h h2)
theorem g_if_ge_f (E : hE Hb p s m args c own cc nL Ts D tys A0) {a : Int} {off : Int} {tgt : Nat} (hdg : decode cc pc = .ok (.ifCond .ge off, 3)) (ht : (pc : Int) + off = (tgt : Int)) (hr : -2147483648 ≤ a ∧ a < 2147483648) (h : ¬ 0 ≤ a) (K : hJ Hb p l e R s m args below meth c cells slots Q A0 D ws lv (pc + 3) st) : hJ Hb p l e R s m args below meth c cells slots Q A0 D ws lv pc (.int (iI a) :: st) := g_if_ge E hdg ht hr (fun h2 => absurd h2 h) (fun _ => K)
theorem g_icmp_gt (E : hE Hb p s m args c own cc nL Ts D tys A0) {a b : Int} {off : Int} {tgt : Nat} (hdg : decode cc pc = .ok (.if_icmp .gt off, 3)) (ht : (pc : Int) + off = (tgt : Int)) (hr : (-2147483648 ≤ a ∧ a < 2147483648) ∧ (-2147483648 ≤ b ∧ b < 2147483648)) (kt : b < a → hJ Hb p l e R s m args below meth c cells slots Q A0 D ws lv tgt st) (kf : ¬ b < a → hJ Hb p l e R s m args below meth c cells slots Q A0 D ws lv (pc + 3) st) : hJ Hb p l e R s m args below meth c cells slots Q A0 D ws lv pc (.int (iI b) :: .int (iI a) :: st) := by
  obtain ⟨⟨hx, hb, hml, hown, hts⟩, hK, hA⟩ := E
  intro H locs ls hP hD hS hL
  have ha : gsm a := hr.1
  have hb0 : gsm b := hr.2
  exact lv_icmp_gt hx hb hdg ht (fun h => by exact kt ((iI_lt hb0 ha).mp h) H locs ls hP hD hS hL) (fun h => by exact kf (fun h2 => h ((iI_lt hb0 ha).mpr h2)) H locs ls hP hD hS hL)
theorem g_icmp_gt_t (E : hE Hb p s m args c own cc nL Ts D tys A0) {a b : Int} {off : Int} {tgt : Nat} (hdg : decode cc pc = .ok (.if_icmp .gt off, 3)) (ht : (pc : Int) + off = (tgt : Int)) (hr : (-2147483648 ≤ a ∧ a < 2147483648) ∧ (-2147483648 ≤ b ∧ b < 2147483648)) (h : b < a) (K : hJ Hb p l e R s m args below meth c cells slots Q A0 D ws lv tgt st) : hJ Hb p l e R s m args below meth c cells slots Q A0 D ws lv pc (.int (iI b) :: .int (iI a) :: st) := g_icmp_gt E hdg ht hr (fun _ => K) (fun h2 => absurd h h2)
theorem g_icmp_gt_f (E : hE Hb p s m args c own cc nL Ts D tys A0) {a b : Int} {off : Int} {tgt : Nat} (hdg : decode cc pc = .ok (.if_icmp .gt off, 3)) (ht : (pc : Int) + off = (tgt : Int)) (hr : (-2147483648 ≤ a ∧ a < 2147483648) ∧ (-2147483648 ≤ b ∧ b < 2147483648)) (h : ¬ b < a) (K : hJ Hb p l e R s m args below meth c cells slots Q A0 D ws lv (pc + 3) st) : hJ Hb p l e R s m args below meth c cells slots Q A0 D ws lv pc (.int (iI b) :: .int (iI a) :: st) := g_icmp_gt E hdg ht hr (fun h2 => absurd h2 h) (fun _ => K)
theorem g_if_gt (E : hE Hb p s m args c own cc nL Ts D tys A0) {a : Int} {off : Int} {tgt : Nat} (hdg : decode cc pc = .ok (.ifCond .gt off, 3)) (ht : (pc : Int) + off = (tgt : Int)) (hr : -2147483648 ≤ a ∧ a < 2147483648) (kt : 0 < a → hJ Hb p l e R s m args below meth c cells slots Q A0 D ws lv tgt st) (kf : ¬ 0 < a → hJ Hb p l e R s m args below meth c cells slots Q A0 D ws lv (pc + 3) st) : hJ Hb p l e R s m args below meth c cells slots Q A0 D ws lv pc (.int (iI a) :: st) := by
  obtain ⟨⟨hx, hb, hml, hown, hts⟩, hK, hA⟩ := E
  intro H locs ls hP hD hS hL
  have ha : gsm a := hr
  have hb0 : gsm 0 := ⟨by decide, by decide⟩
  exact lv_if_gt hx hb hdg ht (fun h => by rw [iI_0] at h; exact kt ((iI_lt hb0 ha).mp h) H locs ls hP hD hS hL) (fun h => by rw [iI_0] at h; exact kf (fun h2 => h ((iI_lt hb0 ha).mpr h2)) H locs ls hP hD hS hL)
theorem g_if_gt_t (E : hE Hb p s m args c own cc nL Ts D tys A0) {a : Int} {off : Int} {tgt : Nat} (hdg : decode cc pc = .ok (.ifCond .gt off, 3)) (ht : (pc : Int) + off = (tgt : Int)) (hr : -2147483648 ≤ a ∧ a < 2147483648) (h : 0 < a) (K : hJ Hb p l e R s m args below meth c cells slots Q A0 D ws lv tgt st) : hJ Hb p l e R s m args below meth c cells slots Q A0 D ws lv pc (.int (iI a) :: st) := g_if_gt E hdg ht hr (fun _ => K) (fun h2 => absurd h h2)
theorem g_if_gt_f (E : hE Hb p s m args c own cc nL Ts D tys A0) {a : Int} {off : Int} {tgt : Nat} (hdg : decode cc pc = .ok (.ifCond .gt off, 3)) (ht : (pc : Int) + off = (tgt : Int)) (hr : -2147483648 ≤ a ∧ a < 2147483648) (h : ¬ 0 < a) (K : hJ Hb p l e R s m args below meth c cells slots Q A0 D ws lv (pc + 3) st) : hJ Hb p l e R s m args below meth c cells slots Q A0 D ws lv pc (.int (iI a) :: st) := g_if_gt E hdg ht hr (fun h2 => absurd h2 h) (fun _ => K)
theorem g_icmp_le (E : hE Hb p s m args c own cc nL Ts D tys A0) {a b : Int} {off : Int} {tgt : Nat} (hdg : decode cc pc = .ok (.if_icmp .le off, 3)) (ht : (pc : Int) + off = (tgt : Int)) (hr : (-2147483648 ≤ a ∧ a < 2147483648) ∧ (-2147483648 ≤ b ∧ b < 2147483648)) (kt : a ≤ b → hJ Hb p l e R s m args below meth c cells slots Q A0 D ws lv tgt st) (kf : ¬ a ≤ b → hJ Hb p l e R s m args below meth c cells slots Q A0 D ws lv (pc + 3) st) : hJ Hb p l e R s m args below meth c cells slots Q A0 D ws lv pc (.int (iI b) :: .int (iI a) :: st) := by
  obtain ⟨⟨hx, hb, hml, hown, hts⟩, hK, hA⟩ := E
  intro H locs ls hP hD hS hL
  have ha : gsm a := hr.1
  have hb0 : gsm b := hr.2
  exact lv_icmp_le hx hb hdg ht (fun h => by exact kt ((iI_le ha hb0).mp h) H locs ls hP hD hS hL) (fun h => by exact kf (fun h2 => h ((iI_le ha hb0).mpr h2)) H locs ls hP hD hS hL)
theorem g_icmp_le_t (E : hE Hb p s m args c own cc nL Ts D tys A0) {a b : Int} {off : Int} {tgt : Nat} (hdg : decode cc pc = .ok (.if_icmp .le off, 3)) (ht : (pc : Int) + off = (tgt : Int)) (hr : (-2147483648 ≤ a ∧ a < 2147483648) ∧ (-2147483648 ≤ b ∧ b < 2147483648)) (h : a ≤ b) (K : hJ Hb p l e R s m args below meth c cells slots Q A0 D ws lv tgt st) : hJ Hb p l e R s m args below meth c cells slots Q A0 D ws lv pc (.int (iI b) :: .int (iI a) :: st) := g_icmp_le E hdg ht hr (fun _ => K) (fun h2 => absurd h h2)
theorem g_icmp_le_f (E : hE Hb p s m args c own cc nL Ts D tys A0) {a b : Int} {off : Int} {tgt : Nat} (hdg : decode cc pc = .ok (.if_icmp .le off, 3)) (ht : (pc : Int) + off = (tgt : Int)) (hr : (-2147483648 ≤ a ∧ a < 2147483648) ∧ (-2147483648 ≤ b ∧ b < 2147483648)) (h : ¬ a ≤ b) (K : hJ Hb p l e R s m args below meth c cells slots Q A0 D ws lv (pc + 3) st) : hJ Hb p l e R s m args below meth c cells slots Q A0 D ws lv pc (.int (iI b) :: .int (iI a) :: st) := g_icmp_le E hdg ht hr (fun h2 => absurd h2 h) (fun _ => K)
theorem g_if_le (E : hE Hb p s m args c own cc nL Ts D tys A0) {a : Int} {off : Int} {tgt : Nat} (hdg : decode cc pc = .ok (.ifCond .le off, 3)) (ht : (pc : Int) + off = (tgt : Int)) (hr : -2147483648 ≤ a ∧ a < 2147483648) (kt : a ≤ 0 → hJ Hb p l e R s m args below meth c cells slots Q A0 D ws lv tgt st) (kf : ¬ a ≤ 0 → hJ Hb p l e R s m args below meth c cells slots Q A0 D ws lv (pc + 3) st) : hJ Hb p l e R s m args below meth c cells slots Q A0 D ws lv pc (.int (iI a) :: st) := by
  obtain ⟨⟨hx, hb, hml, hown, hts⟩, hK, hA⟩ := E
  intro H locs ls hP hD hS hL
  have ha : gsm a := hr
  have hb0 : gsm 0 := ⟨by decide, by decide⟩
  exact lv_if_le hx hb hdg ht (fun h => by rw [iI_0] at h; exact kt ((iI_le ha hb0).mp h) H locs ls hP hD hS hL) (fun h => by rw [iI_0] at h; exact kf (fun h2 => h ((iI_le ha hb0).mpr h2)) H locs ls hP hD hS hL)
theorem g_if_le_t (E : hE Hb p s m args c own cc nL Ts D tys A0) {a : Int} {off : Int} {tgt : Nat} (hdg : decode cc pc = .ok (.ifCond .le off, 3)) (ht : (pc : Int) + off = (tgt : Int)) (hr : -2147483648 ≤ a ∧ a < 2147483648) (h : a ≤ 0) (K : hJ Hb p l e R s m args below meth c cells slots Q A0 D ws lv tgt st) : hJ Hb p l e R s m args below meth c cells slots Q A0 D ws lv pc (.int (iI a) :: st) := g_if_le E hdg ht hr (fun _ => K) (fun h2 => absurd h h2)
theorem g_if_le_f (E : hE Hb p s m args c own cc nL Ts D tys A0) {a : Int} {off : Int} {tgt : Nat} (hdg : decode cc pc = .ok (.ifCond .le off, 3)) (ht : (pc : Int) + off = (tgt : Int)) (hr : -2147483648 ≤ a ∧ a < 2147483648) (h : ¬ a ≤ 0) (K : hJ Hb p l e R s m args below meth c cells slots Q A0 D ws lv (pc + 3) st) : hJ Hb p l e R s m args below meth c cells slots Q A0 D ws lv pc (.int (iI a) :: st) := g_if_le E hdg ht hr (fun h2 => absurd h2 h) (fun _ => K)
end GJ
end
section
/-! ===== the world of one object with arrays of its own ===== -/
def gu (f : Nat → Int) (i : Nat) (v : Int) : Nat → Int := fun j => if j = i then v else f j
theorem gu_s (f : Nat → Int) (i : Nat) (v : Int) : gu f i v i = v := if_pos rfl
theorem gu_n (f : Nat → Int) {i j : Nat} (v : Int) (h : j ≠ i) : gu f i v j = f j := if_neg h
def gFv (r : Nat → Nat) (F : List Int) (x : Bool × Nat) : Value := if x.1 = true then .int (iI (F.getD x.2 0)) else .ref (r x.2)
def gAc (cI cZ : ClassId) (x : Bool × Nat) (f : Nat → Int) : va_E := .inl (if x.1 = true then cZ else cI, x.2, .inl (fun j => iI (f j)))
def gAr (cI cZ : ClassId) (r : Nat → Nat) : Nat → List (Bool × Nat) → List (Nat → Int) → va_W
  | k, x :: al, f :: A => (r k, gAc cI cZ x f) :: gAr cI cZ r (k + 1) al A
  | _, _, _ => []
def gW (ci : Nat) (fs al : List (Bool × Nat)) (cI cZ : ClassId) (q : Nat) (r : Nat → Nat) (F : List Int) (A : List (Nat → Int)) : va_W :=
  (q, .inr (ci, fs.map (gFv r F))) :: gAr cI cZ r 0 al A
def gTy (cI cZ : ClassId) : List (ClassId × FieldType) := [(cI, .int), (cZ, .boolean)]
theorem gAr_a {cI cZ : ClassId} {r : Nat → Nat} {x : Bool × Nat} {f : Nat → Int} : ∀ {al : List (Bool × Nat)} {A : List (Nat → Int)} {k j : Nat}, al[k]? = some x → A[k]? = some f → (gAr cI cZ r j al A)[k]? = some (r (j + k), gAc cI cZ x f) := by
  intro al
  induction al with
  | nil => intro A k j h; simp at h
  | cons y al ih =>
    intro A k j h1 h2
    cases A with
    | nil => simp at h2
    | cons g A =>
      cases k with
      | zero =>
        rw [List.getElem?_cons_zero] at h1 h2
        cases h1
        cases h2
        rfl
      | succ k =>
        rw [List.getElem?_cons_succ] at h1 h2
        show (gAr cI cZ r (j + 1) al A)[k]? = _
        rw [ih h1 h2, show j + 1 + k = j + (k + 1) by omega]
theorem gAr_set {cI cZ : ClassId} {r : Nat → Nat} {x : Bool × Nat} {f : Nat → Int} : ∀ {al : List (Bool × Nat)} {A : List (Nat → Int)} {k j : Nat}, al[k]? = some x → k < A.length → (gAr cI cZ r j al A).set k (r (j + k), gAc cI cZ x f) = gAr cI cZ r j al (A.set k f) := by
  intro al
  induction al with
  | nil => intro A k j h; simp at h
  | cons y al ih =>
    intro A k j h1 h2
    cases A with
    | nil => simp at h2
    | cons g A =>
      cases k with
      | zero =>
        rw [List.getElem?_cons_zero] at h1
        cases h1
        rfl
      | succ k =>
        rw [List.getElem?_cons_succ] at h1
        show (r j, gAc cI cZ y g) :: ((gAr cI cZ r (j + 1) al A).set k _) = (r j, gAc cI cZ y g) :: gAr cI cZ r (j + 1) al (A.set k f)
        rw [← ih h1 (by simpa using h2), show j + 1 + k = j + (k + 1) by omega]
theorem gW_0 {ci : Nat} {fs al : List (Bool × Nat)} {cI cZ : ClassId} {q : Nat} {r : Nat → Nat} {F : List Int} {A : List (Nat → Int)} : (gW ci fs al cI cZ q r F A)[0]? = some (q, .inr (ci, fs.map (gFv r F))) := rfl
theorem gW_a {ci : Nat} {fs al : List (Bool × Nat)} {cI cZ : ClassId} {q : Nat} {r : Nat → Nat} {F : List Int} {A : List (Nat → Int)} {k n : Nat} {z : Bool} {f : Nat → Int} (h : al[k]? = some (z, n)) (h2 : A[k]? = some f) : (gW ci fs al cI cZ q r F A)[k + 1]? = some (r k, .inl (if z = true then cZ else cI, n, .inl (fun j => iI (f j)))) := by
  unfold gW
  rw [List.getElem?_cons_succ, gAr_a h h2, Nat.zero_add]
  rfl
theorem gW_setF {ci : Nat} {fs al : List (Bool × Nat)} {cI cZ : ClassId} {q : Nat} {r : Nat → Nat} {F : List Int} {A : List (Nat → Int)} {i j : Nat} {v : Int} (h : fs[j]? = some (true, i)) (hi : i < F.length) (hu : ∀ j', j' < fs.length → fs[j']? = some (true, i) → j' = j) : (gW ci fs al cI cZ q r F A).set 0 (q, .inr (ci, (fs.map (gFv r F)).set j (.int (iI v)))) = gW ci fs al cI cZ q r (F.set i v) A := by
  unfold gW
  rw [List.set_cons_zero]
  congr 4
  apply List.ext_getElem?
  intro k
  by_cases hk : k = j
  · subst hk
    have hl := (List.getElem?_eq_some_iff.mp h).1
    rw [List.getElem?_set_self (by simpa using hl), List.getElem?_map, h]
    simp [gFv, List.getD_eq_getElem?_getD, List.getElem?_set_self hi]
  · rw [List.getElem?_set_ne (Ne.symm hk), List.getElem?_map, List.getElem?_map]
    cases hx : fs[k]? with
    | none => rfl
    | some x =>
      obtain ⟨b, n⟩ := x
      cases b with
      | false => simp [gFv]
      | true =>
        have hn : i ≠ n := fun hn => hk (hu k (List.getElem?_eq_some_iff.mp hx).1 (by rw [hx, hn]))
        simp [gFv, List.getD_eq_getElem?_getD, List.getElem?_set_ne hn]
theorem gW_setA {ci : Nat} {fs al : List (Bool × Nat)} {cI cZ : ClassId} {q : Nat} {r : Nat → Nat} {F : List Int} {A : List (Nat → Int)} {k n i : Nat} {z : Bool} {v : Int} {g : Nat → Int} (h : al[k]? = some (z, n)) (h2 : A[k]? = some g) {f : Nat → Int32} (hf : ∀ j, f j = if j = i then iI v else iI (g j)) : (gW ci fs al cI cZ q r F A).set (k + 1) (r k, .inl (if z = true then cZ else cI, n, .inl f)) = gW ci fs al cI cZ q r F (A.set k (gu g i v)) := by
  unfold gW
  rw [List.set_cons_succ]
  congr 1
  rw [← gAr_set (f := gu g i v) h (List.getElem?_eq_some_iff.mp h2).1, Nat.zero_add]
  congr 2
  show _ = gAc cI cZ (z, n) (gu g i v)
  unfold gAc
  congr 4
  funext j
  rw [hf]
  simp only [gu]
  by_cases hj : j = i <;> simp [hj]
section GW
variable {Hb : Heap} {p : Program} {l : Launch} {e : Env} {R : Room} {s : State} {m : MethodId} {args : Array Value} {below : List Frame} {meth : Method} {c : Code} {cells slots : Nat} {Q : State → Prop} {A0 : Nat → Prop} {D : va_G}
variable {own : String} {cc : ByteArray} {nL : Nat} {Ts : List Cond} {lv lv' : List (Option Value)} {pc : Nat} {st : List Value}
variable {ci : Nat} {fs al : List (Bool × Nat)} {cI cZ : ClassId} {q : Nat} {r : Nat → Nat} {F F' : List Int} {A A' : List (Nat → Int)}
theorem g_getI (E : hE Hb p s m args c own cc nL Ts D (gTy cI cZ) A0) {j i : Nat} {C : String} {T : u_T} {N index : Nat} (hin : ∀ w ∈ u_ws C T N, w ∈ Ts) (hc : vwCl[ci]? = some (C, T, N)) (hlink : Cond.fieldLink own index (T j).1 (T j).2.1 (T j).2.2.1 ∈ Ts) (hdg : decode cc pc = .ok (.getfield index, 3)) (hj : j < N) (hf : fs[j]? = some (true, i)) {v : Int} (hv : F[i]? = some v) (K : hJ Hb p l e R s m args below meth c cells slots Q A0 D (gW ci fs al cI cZ q r F A) lv (pc + 3) (.int (iI v) :: st)) : hJ Hb p l e R s m args below meth c cells slots Q A0 D (gW ci fs al cI cZ q r F A) lv pc (.ref q :: st) := by
  obtain ⟨⟨hx, hb, hml, hown, hts⟩, hK, hA⟩ := E
  intro H locs ls hP hD hS hL
  exact va_get (D := D) (v := .int (iI v)) hx hb hts hin hown hK hP 0 gW_0 hc j hj (hts _ hlink) (fun _ h9 => h9) (by rw [List.getElem?_map, hf]; simp [gFv, List.getD_eq_getElem?_getD, hv]) hdg (K H locs ls hP hD hS hL)
theorem g_getR (E : hE Hb p s m args c own cc nL Ts D (gTy cI cZ) A0) {j k : Nat} {C : String} {T : u_T} {N index : Nat} (hin : ∀ w ∈ u_ws C T N, w ∈ Ts) (hc : vwCl[ci]? = some (C, T, N)) (hlink : Cond.fieldLink own index (T j).1 (T j).2.1 (T j).2.2.1 ∈ Ts) (hdg : decode cc pc = .ok (.getfield index, 3)) (hj : j < N) (hf : fs[j]? = some (false, k)) (K : hJ Hb p l e R s m args below meth c cells slots Q A0 D (gW ci fs al cI cZ q r F A) lv (pc + 3) (.ref (r k) :: st)) : hJ Hb p l e R s m args below meth c cells slots Q A0 D (gW ci fs al cI cZ q r F A) lv pc (.ref q :: st) := by
  obtain ⟨⟨hx, hb, hml, hown, hts⟩, hK, hA⟩ := E
  intro H locs ls hP hD hS hL
  exact va_get (D := D) (v := .ref (r k)) hx hb hts hin hown hK hP 0 gW_0 hc j hj (hts _ hlink) (fun _ h9 => h9) (by rw [List.getElem?_map, hf]; simp [gFv]) hdg (K H locs ls hP hD hS hL)
theorem g_putI (E : hE Hb p s m args c own cc nL Ts D (gTy cI cZ) A0) {j i : Nat} {v : Int} {ty0 : Nat → FieldType} {C : String} {T : u_T} {N index : Nat} (hin : ∀ w ∈ u_ws C T N, w ∈ Ts) (hc : vwCl[ci]? = some (C, T, N)) (hlink : Cond.fieldLink own index (T j).1 (T j).2.1 (T j).2.2.1 ∈ Ts) (hdg : decode cc pc = .ok (.putfield index, 3)) (hty : ∀ k, k < N → parseFieldDescriptor (T k).2.2.1 = some (ty0 k)) (hnm : ∀ a, a < N → ∀ b, b < N → a ≠ b → (T a).2.1 ≠ (T b).2.1) (hj : j < N) (hf : fs[j]? = some (true, i)) (hu : ∀ j', j' < fs.length → fs[j']? = some (true, i) → j' = j) (hfin : (T j).2.2.2 = false) (hd : parseFieldDescriptor (T j).2.2.1 = some .int) (hi : i < F.length) (hF : F.set i v = F') (K : hJ Hb p l e R s m args below meth c cells slots Q A0 D (gW ci fs al cI cZ q r F' A) lv (pc + 3) st) : hJ Hb p l e R s m args below meth c cells slots Q A0 D (gW ci fs al cI cZ q r F A) lv pc (.int (iI v) :: .ref q :: st) := by
  obtain ⟨⟨hx, hb, hml, hown, hts⟩, hK, hA⟩ := E
  intro H locs ls hP hD hS hL
  refine va_put (D := D) (v := .int (iI v)) (ty := .int) hx hb hts hin ty0 hty hnm hown hK hP hD hS 0 gW_0 hc j hj (hts _ hlink) (fun _ h9 => h9) hfin hd rfl rfl (by have := (List.getElem?_eq_some_iff.mp hf).1; simpa using this) hdg (fun H1 locs1 hP1 hD1 hS1 => ?_)
  rw [gW_setF hf hi hu, hF] at hP1 hD1
  exact K H1 locs1 ls hP1 hD1 hS1 hL
theorem g_ald (E : hE Hb p s m args c own cc nL Ts D (gTy cI cZ) A0) {k n i : Nat} {x : Int} {f : Nat → Int} (hdg : decode cc pc = .ok (.iaload, 1)) (ha : al[k]? = some (false, n)) (hf : A[k]? = some f) (hx0 : x = (i : Int)) (hi : i < n ∧ n ≤ 2147483648) (K : hJ Hb p l e R s m args below meth c cells slots Q A0 D (gW ci fs al cI cZ q r F A) lv (pc + 1) (.int (iI (f i)) :: st)) : hJ Hb p l e R s m args below meth c cells slots Q A0 D (gW ci fs al cI cZ q r F A) lv pc (.int (iI x) :: .ref (r k) :: st) := by
  obtain ⟨⟨hx, hb, hml, hown, hts⟩, hK, hA⟩ := E
  intro H locs ls hP hD hS hL
  subst hx0
  have hcl : (iI (i : Int)).toNatClampNeg = i := by rw [iI_cl (by omega) (by omega), Int.toNat_natCast]
  refine va_iald (D := D) (cl := vwCl) hx hb hK hP (k + 1) 0 (gW_a ha hf) rfl (iI_in (a := (i : Int)) (n := n) (by omega) (by omega) hi.2) hdg ?_
  rw [hcl]
  exact (K H locs ls hP hD hS hL)
theorem g_zld (E : hE Hb p s m args c own cc nL Ts D (gTy cI cZ) A0) {k n i : Nat} {x : Int} {f : Nat → Int} (hdg : decode cc pc = .ok (.baload, 1)) (ha : al[k]? = some (true, n)) (hf : A[k]? = some f) (hx0 : x = (i : Int)) (hi : i < n ∧ n ≤ 2147483648) (K : hJ Hb p l e R s m args below meth c cells slots Q A0 D (gW ci fs al cI cZ q r F A) lv (pc + 1) (.int (iI (f i)) :: st)) : hJ Hb p l e R s m args below meth c cells slots Q A0 D (gW ci fs al cI cZ q r F A) lv pc (.int (iI x) :: .ref (r k) :: st) := by
  obtain ⟨⟨hx, hb, hml, hown, hts⟩, hK, hA⟩ := E
  intro H locs ls hP hD hS hL
  subst hx0
  have hcl : (iI (i : Int)).toNatClampNeg = i := by rw [iI_cl (by omega) (by omega), Int.toNat_natCast]
  refine va_zald (D := D) (cl := vwCl) hx hb hK hP (k + 1) 1 (gW_a ha hf) rfl (iI_in (a := (i : Int)) (n := n) (by omega) (by omega) hi.2) hdg ?_
  rw [hcl]
  exact (K H locs ls hP hD hS hL)
theorem g_ast (E : hE Hb p s m args c own cc nL Ts D (gTy cI cZ) A0) {k n i : Nat} {x v : Int} {f : Nat → Int} (hdg : decode cc pc = .ok (.iastore, 1)) (ha : al[k]? = some (false, n)) (hf : A[k]? = some f) (hx0 : x = (i : Int)) (hi : i < n ∧ n ≤ 2147483648) (hA' : A.set k (gu f i v) = A') (K : hJ Hb p l e R s m args below meth c cells slots Q A0 D (gW ci fs al cI cZ q r F A') lv (pc + 1) st) : hJ Hb p l e R s m args below meth c cells slots Q A0 D (gW ci fs al cI cZ q r F A) lv pc (.int (iI v) :: .int (iI x) :: .ref (r k) :: st) := by
  obtain ⟨⟨hx, hb, hml, hown, hts⟩, hK, hA⟩ := E
  intro H locs ls hP hD hS hL
  subst hx0
  refine va_iast (D := D) (cl := vwCl) hx hb hK hP hD hS (k + 1) 0 (gW_a ha hf) rfl (iI_in (a := (i : Int)) (n := n) (by omega) (by omega) hi.2) hdg (fun H1 locs1 hP1 hD1 hS1 => ?_)
  rw [iI_cl (by omega) (by omega), Int.toNat_natCast, gW_setA (z := false) ha hf (i := i) (v := v) (fun j => by simp [upd]), hA'] at hP1 hD1
  exact K H1 locs1 ls hP1 hD1 hS1 hL
theorem g_zst (E : hE Hb p s m args c own cc nL Ts D (gTy cI cZ) A0) {k n i : Nat} {x v : Int} {f : Nat → Int} (hdg : decode cc pc = .ok (.bastore, 1)) (ha : al[k]? = some (true, n)) (hf : A[k]? = some f) (hx0 : x = (i : Int)) (hi : i < n ∧ n ≤ 2147483648) (hv : v = 0 ∨ v = 1) (hA' : A.set k (gu f i v) = A') (K : hJ Hb p l e R s m args below meth c cells slots Q A0 D (gW ci fs al cI cZ q r F A') lv (pc + 1) st) : hJ Hb p l e R s m args below meth c cells slots Q A0 D (gW ci fs al cI cZ q r F A) lv pc (.int (iI v) :: .int (iI x) :: .ref (r k) :: st) := by
  obtain ⟨⟨hx, hb, hml, hown, hts⟩, hK, hA⟩ := E
  intro H locs ls hP hD hS hL
  subst hx0
  refine va_zast (D := D) (cl := vwCl) hx hb hK hP hD hS (k + 1) 1 (gW_a ha hf) rfl (iI_in (a := (i : Int)) (n := n) (by omega) (by omega) hi.2) hdg (fun H1 locs1 hP1 hD1 hS1 => ?_)
  rw [iI_cl (by omega) (by omega), Int.toNat_natCast, show vp_nar .boolean (iI v) = iI v by (rcases hv with rfl | rfl <;> rfl), gW_setA (z := true) ha hf (i := i) (v := v) (fun j => by simp [upd]), hA'] at hP1 hD1
  exact K H1 locs1 ls hP1 hD1 hS1 hL
end GW
end
section
/-! ===== contracts and calls ===== -/
def gR (n : Nat) : Room := { frames := n, cells := 0, slots := 0, locals := 27 * n }
def gRx (n : Nat) : Room := { frames := n, cells := 1, slots := 6, locals := 27 * n }
def gB0 (D : va_G) (tys : List (ClassId × FieldType)) (W0 : va_W) (sz : Nat) (U : State) : Prop := U.heap.size = sz ∧ va_P D vwCl W0 U.heap ∧ va_K D vwCl tys U ∧ va_D (fun _ => True) W0
def gB1 (D : va_G) (tys : List (ClassId × FieldType)) (A : Nat → Prop) (W1 : va_W) (t : State) : Prop := va_P D vwCl W1 t.heap ∧ va_K D vwCl tys t ∧ va_D A W1
/-- returns the int rv, the world W0 becomes W1, nothing is made -/
def gMI (l : Launch) (y : MethodName) (ws : List Cond) (n : Nat) (D : va_G) (tys : List (ClassId × FieldType)) (W0 : va_W) (av : List Value) (rv : Int) (W1 : va_W) : Prop :=
  ∀ sz : Nat, Met l y ws (gR n) (va_Pc av (gB0 D tys W0 sz)) (va_Qi (fun (r : Int32) (_ : Unit) => r = iI rv) (fun _ t => gB1 D tys (va_A W0 sz) W1 t) (va_A W0 sz)) 0 0 (va_A W0 sz)
/-- returns nothing -/
def gMV (l : Launch) (y : MethodName) (ws : List Cond) (n : Nat) (D : va_G) (tys : List (ClassId × FieldType)) (W0 : va_W) (av : List Value) (W1 : va_W) : Prop :=
  ∀ sz : Nat, Met l y ws (gR n) (va_Pc av (gB0 D tys W0 sz)) (va_Qv (fun (_ : Unit) => True) (fun _ t => gB1 D tys (va_A W0 sz) W1 t) (va_A W0 sz)) 0 0 (va_A W0 sz)
def gStr : List (Nat × String) := [(164, "no such place"), (169, "no such door"), (173, "an argument is out of range"), (178, "the bench does not allow this now"), (183, "there is none")]
def gIX : String := "java/lang/IndexOutOfBoundsException"
def gIA : String := "java/lang/IllegalArgumentException"
def gIS : String := "java/lang/IllegalStateException"
def gEx : List String := [gIX, gIA, gIS, gNS]
def gNcs : List (String × String) := [(gIX, gIA), (gIX, gIS), (gIX, gNS), (gIA, gIX), (gIA, gIS), (gIA, gNS), (gIS, gIX), (gIS, gIA), (gIS, gNS), (gNS, gIX), (gNS, gIA), (gNS, gIS)]
def gDe : List MethodName := [Bundle.initS gRE, Bundle.initS "java/lang/Exception", Bundle.initS Bundle.tN]
def gBad (cls : String) : List Cond := [.castable cls cls, .declares (Bundle.initS gRE), .declares (Bundle.initS "java/lang/Exception"), .declares (Bundle.initS Bundle.tN)]
/-- what a throw needs of the launch's statics and tables -/
def gKT (A : Nat → Prop) (U : State) (H : Heap) : Prop :=
  vx_Zq Bundle.tN "UNASSIGNED_STACK" Bundle.steD A U H ∧ vx_Zq Bundle.tN "SUPPRESSED_SENTINEL" Bundle.listD A U H ∧ (∀ x ∈ gStr, ∃ a, vk_R RX0 x.1 x.2 a U) ∧ (∀ x ∈ gEx, va_Nw (.castable x x) U) ∧ (∀ x ∈ gNcs, va_Nc x.1 x.2 U) ∧ ∀ x ∈ gDe, va_Nw (.declares x) U
theorem gKT.bad {A : Nat → Prop} {U : State} {H : Heap} (h : gKT A U H) {cls : String} (hc : cls ∈ gEx) {args : Array Value} : ∀ w ∈ gBad cls, w.before args U = true := by
  obtain ⟨h1, h2, h3, h4, h5, h6⟩ := h
  exact vx_c (va_Nw.use rfl (h4 _ hc)) (vx_c (va_Nw.use rfl (h6 _ (by decide +kernel))) (vx_c (va_Nw.use rfl (h6 _ (by decide +kernel))) (vx_c (va_Nw.use rfl (h6 _ (by decide +kernel))) vx_n)))
theorem gKT.call {A0 A1 : Nat → Prop} {s U : State} {Hb H : Heap} {locs : List Loc} (h : gKT A0 s Hb) (hS : va_S A0 Hb H locs) (hF : ∀ q, A1 q → A0 q) (hU : U.heap = H) (hW : s.WarmedH U.vm) : gKT A1 U U.heap := by
  obtain ⟨h1, h2, h3, h4, h5, h6⟩ := h
  have hk : ∀ a : Nat, a < Hb.size → ¬ A0 a → U.heap[a]? = Hb[a]? := fun a ha hn => by rw [hU]; exact hS.2.1 a ha hn
  refine ⟨((h1.moved hW.alike).kept hk).narrow hF, ((h2.moved hW.alike).kept hk).narrow hF, fun x hx => ?_, fun x hx => va_Nw.warmC hW (h4 x hx), fun x hx => va_Nc.moved hW.alike (h5 x hx), fun x hx => va_Nw.warmD hW (h6 x hx)⟩
  obtain ⟨a, ha⟩ := h3 x hx
  exact ⟨a, vk_R.warm hW ha⟩
/-- throws E, the world stays -/
def gMT (l : Launch) (y : MethodName) (ws : List Cond) (n : Nat) (D : va_G) (tys : List (ClassId × FieldType)) (W0 : va_W) (av : List Value) (E : String) : Prop :=
  ∀ sz : Nat, vx_Met l y ws (gRx n) (va_Pc av (fun U => gB0 D tys W0 sz U ∧ gKT (va_A W0 sz) U U.heap)) (va_Qv (fun (_ : Unit) => False) (fun _ _ => True) (va_A W0 sz)) (vx_X (fun (_ : Unit) => True) (fun E' _ t => E' = E ∧ sz + 1 ≤ t.heap.size ∧ gB1 D tys (va_A W0 sz) W0 t) (va_A W0 sz)) 1 6 (va_A W0 sz)
def gQT (below : List Frame) (args : Array Value) (s : State) (D : va_G) (tys : List (ClassId × FieldType)) (W0 : va_W) (E : String) (A0 : Nat → Prop) : State → Prop :=
  vx_MQ below (va_Qv (fun (_ : Unit) => False) (fun _ _ => True) A0) (vx_X (fun (_ : Unit) => True) (fun E' _ t => E' = E ∧ s.heap.size + 1 ≤ t.heap.size ∧ gB1 D tys A0 W0 t) A0) args s 1 6 A0
theorem g_slen : ∀ {l : List Value}, (∀ v ∈ l, v.category = 1) → (lg_sl l).length = l.length := by
  intro l
  induction l with
  | nil => intro _; rfl
  | cons v l ih =>
    intro h
    have hv := h v List.mem_cons_self
    have := ih (fun w hw => h w (List.mem_cons_of_mem _ hw))
    unfold lg_sl at this ⊢
    rw [List.flatMap_cons, List.length_append, this, hv]
    simp
    omega
theorem g_isC (wr wc : va_W) : (List.range' wr.length wc.length).map (fun i => (wr ++ wc)[i]?) = wc.map some := by
  apply List.ext_getElem?
  intro i
  rw [List.getElem?_map, List.getElem?_map]
  by_cases hi : i < wc.length
  · rw [List.getElem?_range' hi, Option.map_some, List.getElem?_append_right (by omega), List.getElem?_eq_getElem (by omega)]
    simp [List.getElem?_eq_getElem hi]
  · rw [List.getElem?_eq_none (by simp; omega), List.getElem?_eq_none (by omega)]
    rfl
theorem g_isR (wr wc : va_W) : (List.range wr.length).map (fun i => (wr ++ wc)[i]?) = wr.map some := by
  apply List.ext_getElem?
  intro i
  rw [List.getElem?_map, List.getElem?_map]
  by_cases hi : i < wr.length
  · rw [List.getElem?_range hi, Option.map_some, List.getElem?_append_left hi, List.getElem?_eq_getElem hi]
    rfl
  · rw [List.getElem?_eq_none (by simp; omega), List.getElem?_eq_none (by omega)]
    rfl
theorem g_nd : ∀ l : List Nat, l.Nodup → va_nd l = true := by
  intro l
  induction l with
  | nil => intro _; rfl
  | cons a l ih =>
    intro h
    rw [List.nodup_cons] at h
    simp [va_nd, h.1, ih h.2]
theorem g_dis (a b : Nat) : ∀ i ∈ List.range a, i ∉ List.range' a b := by
  intro i hi h
  rw [List.mem_range] at hi
  rw [List.mem_range'_1] at h
  omega
theorem g_Pr {D : va_G} {cl : List vw_C} {w1 w2 : va_W} {H : Heap} (h : va_P D cl (w1 ++ w2) H) : va_P D cl w2 H := fun k q hk => h (w1.length + k) q (by rw [List.getElem?_append_right (by omega)]; simpa using hk)
theorem g_Dr {A : Nat → Prop} {w1 w2 : va_W} (h : va_D A (w1 ++ w2)) : va_D A w2 := by
  have key : ∀ (k : Nat) (q : Nat × va_E), w2[k]? = some q → (w1 ++ w2)[w1.length + k]? = some q := fun k q hk => by rw [List.getElem?_append_right (by omega)]; simpa using hk
  exact ⟨fun i j p q hi hj hpq => by have := h.1 _ _ p q (key i p hi) (key j q hj) hpq; omega, fun k q hk => h.2 _ q (key k q hk)⟩
section GC
variable {Hb : Heap} {p : Program} {l : Launch} {e : Env} {R : Room} {s : State} {m : MethodId} {args : Array Value} {below : List Frame} {meth : Method} {c : Code} {cells slots : Nat} {Q : State → Prop} {A0 : Nat → Prop} {D : va_G}
variable {own : String} {cc : ByteArray} {nL : Nat} {Ts : List Cond} {tys : List (ClassId × FieldType)} {lv : List (Option Value)} {pc : Nat} {st st0 : List Value}
/-- a call of an instance method whose world lies last -/
theorem g_callI (E : hE Hb p s m args c own cc nL Ts D tys A0) {C : String} {y : MethodName} {bytes : ByteArray} {maxL index lam n q ci N : Nat} {T : u_T} {fs : List Value} {ret : Option FieldType} {wsY : List Cond} {wr wc wc' : va_W} {As : List Value} {rv : Int}
    (hM : gMI l y wsY lam D tys wc (.ref q :: As) rv wc') (cw : CallW R s args own C index y bytes maxL ret wsY (gR lam) 0 0 n) (hn : As.length = n) (hlv : lv.length = nL) (hst : st0 = As.reverse ++ .ref q :: st) (hcat : (st.map fun v => v.category).sum ≤ 8) (he : wc[0]? = some (q, .inr (ci, fs))) (hc : vwCl[ci]? = some (C, T, N))
    (hdg : decode cc pc = .ok (.invokevirtual index, 3)) (hcs : cells ≤ R.cells ∧ slots ≤ R.slots) (K : hJ Hb p l e R s m args below meth c cells slots Q A0 D (wr ++ wc') lv (pc + 3) (.int (iI rv) :: st)) : hJ Hb p l e R s m args below meth c cells slots Q A0 D (wr ++ wc) lv pc st0 := by
  obtain ⟨⟨hx, hb, hml, hown, hts⟩, hK, hA⟩ := E
  intro H locs ls hP hD hS hL
  subst hst
  have hPc := g_Pr hP
  have hDc := g_Dr hD
  have hFc := va_free (wc := wc) hD hS hA _ (g_isC wr wc)
  refine va_calli (va_runV (As := As) (rest := st) ⟨hx, hb, hml, hown, hts⟩ (hM H.size) cw ⟨fun a U g mk q => by obtain ⟨q0, q1, qP, qK, qD⟩ := q; exact ⟨q0, q1, qP, va_K.moved (u := U) (U := U.calling g mk a) (Vm.Alike.refl U.vm) qK, qD⟩, va_recv hK hPc hc he, fun U hU hW => ⟨rfl, by rw [hU], by rw [hU]; exact hPc, va_K.moved hW.alike hK, hDc.weaken (fun _ _ _ _ => trivial)⟩⟩ rfl hn (hL.1.trans hlv) rfl (lv_room hcat) hdg hcs) hS (fun q _ h => hFc q h) hFc (fun r u t H1 locs1 ht hvm hw hB hz1 hk1 hS1 => ?_)
  obtain ⟨hP1, hK1, hD1⟩ := hB
  rw [ht] at hP1
  obtain ⟨hP2, hD2⟩ := va_join hP hD _ _ (g_isC wr wc) (g_isR wr wc) (g_nd _ List.nodup_range) (g_dis _ _) hk1 hFc hP1 hD1
  rw [hw]
  exact K H1 locs1 ls hP2 hD2 hS1 hL
theorem g_callV (E : hE Hb p s m args c own cc nL Ts D tys A0) {C : String} {y : MethodName} {bytes : ByteArray} {maxL index lam n q ci N : Nat} {T : u_T} {fs : List Value} {ret : Option FieldType} {wsY : List Cond} {wr wc wc' : va_W} {As : List Value}
    (hM : gMV l y wsY lam D tys wc (.ref q :: As) wc') (cw : CallW R s args own C index y bytes maxL ret wsY (gR lam) 0 0 n) (hn : As.length = n) (hlv : lv.length = nL) (hst : st0 = As.reverse ++ .ref q :: st) (hcat : (st.map fun v => v.category).sum ≤ 8) (he : wc[0]? = some (q, .inr (ci, fs))) (hc : vwCl[ci]? = some (C, T, N))
    (hdg : decode cc pc = .ok (.invokevirtual index, 3)) (hcs : cells ≤ R.cells ∧ slots ≤ R.slots) (K : hJ Hb p l e R s m args below meth c cells slots Q A0 D (wr ++ wc') lv (pc + 3) st) : hJ Hb p l e R s m args below meth c cells slots Q A0 D (wr ++ wc) lv pc st0 := by
  obtain ⟨⟨hx, hb, hml, hown, hts⟩, hK, hA⟩ := E
  intro H locs ls hP hD hS hL
  subst hst
  have hPc := g_Pr hP
  have hDc := g_Dr hD
  have hFc := va_free (wc := wc) hD hS hA _ (g_isC wr wc)
  refine va_callv (va_runV (As := As) (rest := st) ⟨hx, hb, hml, hown, hts⟩ (hM H.size) cw ⟨fun a U g mk q => by obtain ⟨q0, q1, qP, qK, qD⟩ := q; exact ⟨q0, q1, qP, va_K.moved (u := U) (U := U.calling g mk a) (Vm.Alike.refl U.vm) qK, qD⟩, va_recv hK hPc hc he, fun U hU hW => ⟨rfl, by rw [hU], by rw [hU]; exact hPc, va_K.moved hW.alike hK, hDc.weaken (fun _ _ _ _ => trivial)⟩⟩ rfl hn (hL.1.trans hlv) rfl (lv_room hcat) hdg hcs) hS (fun q _ h => hFc q h) hFc (fun u t H1 locs1 ht hvm hw hB hz1 hk1 hS1 => ?_)
  obtain ⟨hP1, hK1, hD1⟩ := hB
  rw [ht] at hP1
  obtain ⟨hP2, hD2⟩ := va_join hP hD _ _ (g_isC wr wc) (g_isR wr wc) (g_nd _ List.nodup_range) (g_dis _ _) hk1 hFc hP1 hD1
  exact K H1 locs1 ls hP2 hD2 hS1 hL
/-- static calls that touch no cell -/
theorem g_callSI (E : hE Hb p s m args c own cc nL Ts D tys A0) {y : MethodName} {bytes : ByteArray} {maxL index lam n : Nat} {ret : Option FieldType} {wsY : List Cond} {ws : va_W} {As : List Value} {rv : Int}
    (hM : gMI l y wsY lam D tys [] As rv []) (cw : CallB R s args own index y bytes maxL ret wsY (gR lam) 0 0 n ∧ (Cond.static y).before args s = true) (hn : As.length = n) (hlv : lv.length = nL) (hst : st0 = As.reverse ++ st) (hcat : (st.map fun v => v.category).sum ≤ 8)
    (hdg : decode cc pc = .ok (.invokestatic index, 3)) (hcs : cells ≤ R.cells ∧ slots ≤ R.slots) (K : hJ Hb p l e R s m args below meth c cells slots Q A0 D ws lv (pc + 3) (.int (iI rv) :: st)) : hJ Hb p l e R s m args below meth c cells slots Q A0 D ws lv pc st0 := by
  obtain ⟨⟨hx, hb, hml, hown, hts⟩, hK, hA⟩ := E
  intro H locs ls hP hD hS hL
  subst hst
  have hP0 : va_P D vwCl [] H := fun k q h => by simp at h
  have hD0 : ∀ A : Nat → Prop, va_D A [] := fun A => ⟨fun i j p q h => by simp at h, fun k q h => by simp at h⟩
  have hFc : ∀ q, va_A [] H.size q → A0 q := fun q h => by
    rcases h with ⟨k, e, h⟩ | h
    · simp at h
    · exact hA q (Nat.le_trans hS.1 h)
  refine va_calli (va_runS (As := As) (rest := st) ⟨hx, hb, hml, hown, hts⟩ (hM H.size) cw ⟨fun a U g mk q => by obtain ⟨q0, q1, qP, qK, qD⟩ := q; exact ⟨q0, q1, qP, va_K.moved (u := U) (U := U.calling g mk a) (Vm.Alike.refl U.vm) qK, qD⟩, fun U hU hW => ⟨rfl, by rw [hU], by rw [hU]; exact hP0, va_K.moved hW.alike hK, hD0 _⟩⟩ rfl hn (hL.1.trans hlv) rfl (lv_room hcat) hdg hcs) hS (fun q _ h => hFc q h) hFc (fun r u t H1 locs1 ht hvm hw hB hz1 hk1 hS1 => ?_)
  rw [hw]
  exact K H1 locs1 ls (hP.kept (fun k q hk => hk1 q.1 (hP k q hk).lt (fun h => by
    rcases h with ⟨k, e, h⟩ | h
    · simp at h
    · exact absurd (hP k q hk).lt (by omega)))) hD hS1 hL
theorem g_callSV (E : hE Hb p s m args c own cc nL Ts D tys A0) {y : MethodName} {bytes : ByteArray} {maxL index lam n : Nat} {ret : Option FieldType} {wsY : List Cond} {ws : va_W} {As : List Value}
    (hM : gMV l y wsY lam D tys [] As []) (cw : CallB R s args own index y bytes maxL ret wsY (gR lam) 0 0 n ∧ (Cond.static y).before args s = true) (hn : As.length = n) (hlv : lv.length = nL) (hst : st0 = As.reverse ++ st) (hcat : (st.map fun v => v.category).sum ≤ 8)
    (hdg : decode cc pc = .ok (.invokestatic index, 3)) (hcs : cells ≤ R.cells ∧ slots ≤ R.slots) (K : hJ Hb p l e R s m args below meth c cells slots Q A0 D ws lv (pc + 3) st) : hJ Hb p l e R s m args below meth c cells slots Q A0 D ws lv pc st0 := by
  obtain ⟨⟨hx, hb, hml, hown, hts⟩, hK, hA⟩ := E
  intro H locs ls hP hD hS hL
  subst hst
  have hP0 : va_P D vwCl [] H := fun k q h => by simp at h
  have hD0 : ∀ A : Nat → Prop, va_D A [] := fun A => ⟨fun i j p q h => by simp at h, fun k q h => by simp at h⟩
  have hFc : ∀ q, va_A [] H.size q → A0 q := fun q h => by
    rcases h with ⟨k, e, h⟩ | h
    · simp at h
    · exact hA q (Nat.le_trans hS.1 h)
  refine va_callv (va_runS (As := As) (rest := st) ⟨hx, hb, hml, hown, hts⟩ (hM H.size) cw ⟨fun a U g mk q => by obtain ⟨q0, q1, qP, qK, qD⟩ := q; exact ⟨q0, q1, qP, va_K.moved (u := U) (U := U.calling g mk a) (Vm.Alike.refl U.vm) qK, qD⟩, fun U hU hW => ⟨rfl, by rw [hU], by rw [hU]; exact hP0, va_K.moved hW.alike hK, hD0 _⟩⟩ rfl hn (hL.1.trans hlv) rfl (lv_room hcat) hdg hcs) hS (fun q _ h => hFc q h) hFc (fun u t H1 locs1 ht hvm hw hB hz1 hk1 hS1 => ?_)
  exact K H1 locs1 ls (hP.kept (fun k q hk => hk1 q.1 (hP k q hk).lt (fun h => by
    rcases h with ⟨k, e, h⟩ | h
    · simp at h
    · exact absurd (hP k q hk).lt (by omega)))) hD hS1 hL
/-- a callee that throws E, in a method that owes the throw of E -/
theorem g_callT (E : gE p s m args c own cc nL Ts D tys A0) {C : String} {y : MethodName} {bytes : ByteArray} {maxL index lam n q ci N : Nat} {T : u_T} {fs : List Value} {ret : Option FieldType} {wsY : List Cond} {wc : va_W} {As : List Value} {EX : String}
    (hM : gMT l y wsY lam D tys wc (.ref q :: As) EX) (hT : gKT A0 s s.heap) (hlk : meth.locks = false) (htb : ∀ x ∈ c.exceptionTable.toList, False) (cw : CallW R s args own C index y bytes maxL ret wsY (gRx lam) 1 6 n) (hn : As.length = n) (hlv : lv.length = nL) (hst : st0 = As.reverse ++ .ref q :: st) (hcat : (st.map fun v => v.category).sum ≤ 8) (he : wc[0]? = some (q, .inr (ci, fs))) (hc : vwCl[ci]? = some (C, T, N))
    (hdg : decode cc pc = .ok (.invokevirtual index, 3)) (hcs : 1 ≤ R.cells ∧ 6 ≤ R.slots) : gJ p l e R s m args below meth c 0 0 (gQT below args s D tys wc EX A0) A0 D wc lv pc st0 := by
  obtain ⟨⟨hx, hb, hml, hown, hts⟩, hK, hA⟩ := E
  intro H locs ls hP hD hS hL
  subst hst
  have hFc := va_free (wc := wc) hD hS hA _ (g_isC [] wc)
  refine vx_callv (vx_runV (As := As) (rest := st) (cells := 0) (slots := 0) ⟨hx, hb, hml, hown, hts⟩ (hM H.size) cw ⟨fun a U g mk q => by obtain ⟨q0, ⟨q1, qP, qK, qD⟩, qT⟩ := q; exact ⟨q0, ⟨q1, qP, va_K.moved (u := U) (U := U.calling g mk a) (Vm.Alike.refl U.vm) qK, qD⟩, qT⟩, va_recv hK hP hc he, fun U hU hW => ⟨rfl, ⟨by rw [hU], by rw [hU]; exact hP, va_K.moved hW.alike hK, hD.weaken (fun _ _ _ _ => trivial)⟩, gKT.call hT hS hFc hU hW⟩⟩ rfl hn (hL.1.trans hlv) rfl (lv_room hcat) hdg (by simpa using hcs)) hS (fun q _ h => hFc q h) hFc (fun q _ h => hFc q h) (fun E9 ce q9 u t H1 locs1 ht hvm hp hB hz hk hS1 hce hcv hcl => ?_) (fun u t H1 locs1 ht hvm hw hB hz1 hk1 hS1 => hw.elim)
  obtain ⟨rfl, hz9, hP1, hK1, hD1⟩ := hB
  rw [ht] at hP1 hz9
  exact vx_out (fun x hx => (htb x hx).elim) hlk hce hcv hcl (fun t' ht' hvm' => ⟨(), trivial, ⟨rfl, by rw [ht']; exact Nat.le_trans (Nat.succ_le_succ hS.1) hz9, by rw [ht']; exact hP1, va_K.moved hvm' hK, hD1.weaken (fun k q _ h => hFc q.1 h)⟩, hS1.F ht'⟩) hS1.2.2 (by simp) (by simp)
theorem g_callTS (E : gE p s m args c own cc nL Ts D tys A0) {y : MethodName} {bytes : ByteArray} {maxL index lam n : Nat} {ret : Option FieldType} {wsY : List Cond} {wc : va_W} {As : List Value} {EX : String}
    (hM : gMT l y wsY lam D tys [] As EX) (hT : gKT A0 s s.heap) (hlk : meth.locks = false) (htb : ∀ x ∈ c.exceptionTable.toList, False) (cw : CallB R s args own index y bytes maxL ret wsY (gRx lam) 1 6 n ∧ (Cond.static y).before args s = true) (hn : As.length = n) (hlv : lv.length = nL) (hst : st0 = As.reverse ++ st) (hcat : (st.map fun v => v.category).sum ≤ 8)
    (hdg : decode cc pc = .ok (.invokestatic index, 3)) (hcs : 1 ≤ R.cells ∧ 6 ≤ R.slots) : gJ p l e R s m args below meth c 0 0 (gQT below args s D tys wc EX A0) A0 D wc lv pc st0 := by
  obtain ⟨⟨hx, hb, hml, hown, hts⟩, hK, hA⟩ := E
  intro H locs ls hP hD hS hL
  subst hst
  have hP0 : va_P D vwCl [] H := fun k q h => by simp at h
  have hD0 : ∀ A : Nat → Prop, va_D A [] := fun A => ⟨fun i j p q h => by simp at h, fun k q h => by simp at h⟩
  have hFc : ∀ q, va_A [] H.size q → A0 q := fun q h => by
    rcases h with ⟨k, e, h⟩ | h
    · simp at h
    · exact hA q (Nat.le_trans hS.1 h)
  refine vx_callv (vx_runS (As := As) (rest := st) (cells := 0) (slots := 0) ⟨hx, hb, hml, hown, hts⟩ (hM H.size) cw ⟨fun a U g mk q => by obtain ⟨q0, ⟨q1, qP, qK, qD⟩, qT⟩ := q; exact ⟨q0, ⟨q1, qP, va_K.moved (u := U) (U := U.calling g mk a) (Vm.Alike.refl U.vm) qK, qD⟩, qT⟩, fun U hU hW => ⟨rfl, ⟨by rw [hU], by rw [hU]; exact hP0, va_K.moved hW.alike hK, hD0 _⟩, gKT.call hT hS hFc hU hW⟩⟩ rfl hn (hL.1.trans hlv) rfl (lv_room hcat) hdg (by simpa using hcs)) hS (fun q _ h => hFc q h) hFc (fun q _ h => hFc q h) (fun E9 ce q9 u t H1 locs1 ht hvm hp hB hz hk hS1 hce hcv hcl => ?_) (fun u t H1 locs1 ht hvm hw hB hz1 hk1 hS1 => hw.elim)
  obtain ⟨rfl, hz9, -, hK1, -⟩ := hB
  rw [ht] at hz9
  have hP1 : va_P D vwCl wc H1 := hP.kept (fun k q hk9 => hk q.1 (hP k q hk9).lt (fun h => by
    rcases h with ⟨k, e, h⟩ | h
    · simp at h
    · exact absurd (hP k q hk9).lt (by omega)))
  exact vx_out (fun x hx => (htb x hx).elim) hlk hce hcv hcl (fun t' ht' hvm' => ⟨(), trivial, ⟨rfl, by rw [ht']; exact Nat.le_trans (Nat.succ_le_succ hS.1) hz9, by rw [ht']; exact hP1, va_K.moved hvm' hK, hD⟩, hS1.F ht'⟩) hS1.2.2 (by simp) (by simp)
/-- 'throw new E("..")' in a method that owes it -/
theorem g_throw (E : gE p s m args c own cc nL Ts D tys A0) {cls text : String} {names : List String} {ik is ic : Nat} {wc : va_W}
    (hfl : l.stackTraces = false) (hT : gKT A0 s s.heap) (hlk : meth.locks = false) (htb : ∀ x ∈ c.exceptionTable.toList, False) (hlv : lv.length = nL)
    (hcls : Bundle.fit cls = true) (hnames : ∀ n ∈ names, Bundle.fit n = true) (hk : Cond.classLink own ik cls ∈ Ts) (hini : Cond.initialized cls ∈ Ts) (hown9 : own = RX0) (hstr : (is, text) ∈ gStr) (hcx : cls ∈ gEx)
    (hw : ∀ w ∈ (vx_atS own ic cls names).filter goodWord, w ∈ Ts) (hw2 : ∀ w ∈ (vx_atS own ic cls names).filter (fun w => !goodWord w), w ∈ gBad cls)
    (hgood : ∀ w ∈ Cond.classLink own ik cls :: Cond.initialized cls :: vx_atS own ic cls names, vx_ot w = true)
    (d0 : decode cc pc = .ok (.new ik, 3)) (d3 : decode cc (pc + 3) = .ok (.dup, 1)) (d4 : decode cc (pc + 4) = .ok (.ldc is, 2)) (d6 : decode cc (pc + 6) = .ok (.invokespecial ic, 3)) (d9 : decode cc (pc + 9) = .ok (.athrow, 1))
    (hRf : names.length + 3 < R.frames) (hRl : (st.map fun v => v.category).sum + (13 * (names.length + 1) + 43) ≤ R.locals) (hcs : 1 ≤ R.cells ∧ 6 ≤ R.slots) : gJ p l e R s m args below meth c 0 0 (gQT below args s D tys wc cls A0) A0 D wc lv pc st := by
  obtain ⟨⟨hx, hb, hml, hown, hts⟩, hK, hA⟩ := E
  intro H locs ls hP hD hS hL
  have hbad := hT.bad (args := args) hcx
  obtain ⟨t1, t2, t3, t4, t5, t6⟩ := hT
  obtain ⟨sa, hsa⟩ := t3 _ hstr
  subst hown9
  refine vx_throwS hx hb hfl (names := names) hown hcls hnames (hts _ hk) (hts _ hini) hsa (vx_hat (fun w h => hts w (hw w h)) hw2 hbad) hgood t1 t2 hS ((hL.1.trans hlv).trans hml.symm) d0 d3 d4 d6 d9 (fun x hx => (htb x hx).elim) hRf hRl (by simpa using hcs.1) (by simpa using hcs.2) hlk (fun t hvm hz hk9 => ⟨(), trivial, ⟨rfl, Nat.le_trans (Nat.succ_le_succ hS.1) hz, hP.kept (fun k q hk0 => hk9 q.1 (hP k q hk0).lt), va_K.moved hvm hK, hD⟩, ⟨Nat.le_trans hS.1 (Nat.le_of_succ_le hz), fun q h1 h2 => by rw [hk9 q (Nat.lt_of_lt_of_le h1 hS.1)]; exact hS.2.1 q h1 h2⟩⟩) hS.2.2 (by simp) (by simp)
end GC
/-! ===== a contract out of a walk ===== -/
theorem g_ofI {l : Launch} {y : MethodName} {ws ws' : List Cond} {lam : Nat} {D : va_G} {tys : List (ClassId × FieldType)} {W0 W1 : va_W} {av : List Value} {rv : Int} {own : String} {cc : ByteArray} {maxL : Nat} {ty : FieldType}
    (hy : plainName y.cls = true) (hcls : y.cls = own) (hw : ws = Cond.code y cc maxL (some ty) :: ws') (hlen : av.length ≤ maxL) (hcat : ∀ v ∈ av, v.category = 1) (hnar : narrow ty (.int (iI rv)) = .int (iI rv))
    (body : ∀ (p : Program) (e : Env) (s : State) (m : MethodId) (args : Array Value) (below : List Frame) (meth : Method) (c : Code) (Q : State → Prop) (A0 : Nat → Prop), gE p s m args c own cc maxL ws D tys A0 → (∀ (lv : List (Option Value)) (pc : Nat), decode cc pc = .ok (.ireturn, 1) → gJ p l e (gR lam) s m args below meth c 0 0 Q A0 D W1 lv pc [.int (iI rv)]) →
      gJ p l e (gR lam) s m args below meth c 0 0 Q A0 D W0 (av.map some ++ List.replicate (maxL - av.length) none) 0 []) : gMI l y ws lam D tys W0 av rv W1 := by
  intro sz
  refine Met.ofW (cc := cc) (maxL := maxL) (ret := some ty) hy hw ?_
  intro p e s m args below meth c s₁ B hml hv
  obtain ⟨rfl, hsz, hP, hK, hD0⟩ := hv
  have hts := atoms_spec (ws := ws) B.pre
  have hown : s.vm.findClass own = some m.cls := by rw [← hcls]; exact findClass_of_methodNamed B.named
  subst hsz
  have hD := hD0.self (sz := s.heap.size)
  have hl := lv_entry av (n := maxL) (by rw [g_slen hcat]; exact hlen)
  rw [lg_entry_eq]
  refine body p e s m _ below meth c _ (va_A W0 s.heap.size) ⟨⟨B.exec, B.bytes, hml, hown, hts⟩, hK, fun q h => Or.inr h⟩ ?_ s.heap [] _ hP hD va_S.rf (gL_entry hlen hcat hl)
  intro lv pc hdg H locs ls hP9 hD9 hS9 hL9
  exact W.zret (v := iI rv) B.exec B.bytes B.returns hnar (fun t ht hW => ⟨⟨iI rv, (), rfl, rfl, by rw [ht]; exact hP9, va_K.moved hW.alike hK, hD9⟩, hS9.F ht⟩) hS9.2.2 hdg
theorem g_ofV {l : Launch} {y : MethodName} {ws ws' : List Cond} {lam : Nat} {D : va_G} {tys : List (ClassId × FieldType)} {W0 W1 : va_W} {av : List Value} {own : String} {cc : ByteArray} {maxL : Nat}
    (hy : plainName y.cls = true) (hcls : y.cls = own) (hw : ws = Cond.code y cc maxL none :: ws') (hlen : av.length ≤ maxL) (hcat : ∀ v ∈ av, v.category = 1)
    (body : ∀ (p : Program) (e : Env) (s : State) (m : MethodId) (args : Array Value) (below : List Frame) (meth : Method) (c : Code) (Q : State → Prop) (A0 : Nat → Prop), gE p s m args c own cc maxL ws D tys A0 → (∀ (lv : List (Option Value)) (pc : Nat), decode cc pc = .ok (.return_, 1) → gJ p l e (gR lam) s m args below meth c 0 0 Q A0 D W1 lv pc []) →
      gJ p l e (gR lam) s m args below meth c 0 0 Q A0 D W0 (av.map some ++ List.replicate (maxL - av.length) none) 0 []) : gMV l y ws lam D tys W0 av W1 := by
  intro sz
  refine Met.ofW (cc := cc) (maxL := maxL) (ret := none) hy hw ?_
  intro p e s m args below meth c s₁ B hml hv
  obtain ⟨rfl, hsz, hP, hK, hD0⟩ := hv
  have hts := atoms_spec (ws := ws) B.pre
  have hown : s.vm.findClass own = some m.cls := by rw [← hcls]; exact findClass_of_methodNamed B.named
  subst hsz
  have hD := hD0.self (sz := s.heap.size)
  have hl := lv_entry av (n := maxL) (by rw [g_slen hcat]; exact hlen)
  rw [lg_entry_eq]
  refine body p e s m _ below meth c _ (va_A W0 s.heap.size) ⟨⟨B.exec, B.bytes, hml, hown, hts⟩, hK, fun q h => Or.inr h⟩ ?_ s.heap [] _ hP hD va_S.rf (gL_entry hlen hcat hl)
  intro lv pc hdg H locs ls hP9 hD9 hS9 hL9
  exact W.vret B.exec B.bytes B.returns (fun t ht hW => ⟨⟨(), rfl, trivial, by rw [ht]; exact hP9, va_K.moved hW.alike hK, hD9⟩, hS9.F ht⟩) hS9.2.2 hdg
theorem g_ofT {l : Launch} {y : MethodName} {ws ws' : List Cond} {lam : Nat} {D : va_G} {tys : List (ClassId × FieldType)} {W0 : va_W} {av : List Value} {EX own : String} {cc : ByteArray} {maxL : Nat} {ret : Option FieldType}
    (hy : plainName y.cls = true) (hcls : y.cls = own) (hw : ws = Cond.code y cc maxL ret :: ws') (hlen : av.length ≤ maxL) (hcat : ∀ v ∈ av, v.category = 1)
    (body : ∀ (p : Program) (e : Env) (s : State) (m : MethodId) (args : Array Value) (below : List Frame) (meth : Method) (c : Code) (A0 : Nat → Prop), gE p s m args c own cc maxL ws D tys A0 → gKT A0 s s.heap → meth.locks = false → (∀ x ∈ c.exceptionTable.toList, False) →
      gJ p l e (gRx lam) s m args below meth c 0 0 (gQT below args s D tys W0 EX A0) A0 D W0 (av.map some ++ List.replicate (maxL - av.length) none) 0 []) : gMT l y ws lam D tys W0 av EX := by
  intro sz
  refine vx_ofW (cc := cc) (maxL := maxL) (ret := ret) hy hw ?_
  intro p e s m args below meth c s₁ B hml htb hv
  obtain ⟨rfl, ⟨hsz, hP, hK, hD0⟩, hT⟩ := hv
  have hts := atoms_spec (ws := ws) B.pre
  have hown : s.vm.findClass own = some m.cls := by rw [← hcls]; exact findClass_of_methodNamed B.named
  subst hsz
  have hD := hD0.self (sz := s.heap.size)
  have hl := lv_entry av (n := maxL) (by rw [g_slen hcat]; exact hlen)
  rw [lg_entry_eq]
  exact body p e s m _ below meth c (va_A W0 s.heap.size) ⟨⟨B.exec, B.bytes, hml, hown, hts⟩, hK, fun q h => Or.inr h⟩ hT B.notSynchronized htb s.heap [] _ hP hD va_S.rf (gL_entry hlen hcat hl)
section GC2
variable {Hb : Heap} {p : Program} {l : Launch} {e : Env} {R : Room} {s : State} {m : MethodId} {args : Array Value} {below : List Frame} {meth : Method} {c : Code} {cells slots : Nat} {Q : State → Prop} {A0 : Nat → Prop} {D : va_G}
variable {own : String} {cc : ByteArray} {nL : Nat} {Ts : List Cond} {tys : List (ClassId × FieldType)} {lv : List (Option Value)} {pc : Nat} {st st0 : List Value}
/-- .. the callee's world is the caller's -/
theorem g_callI0 (E : hE Hb p s m args c own cc nL Ts D tys A0) {C : String} {y : MethodName} {bytes : ByteArray} {maxL index lam n q ci N : Nat} {T : u_T} {fs : List Value} {ret : Option FieldType} {wsY : List Cond} {wc wc' : va_W} {As : List Value} {rv : Int}
    (hM : gMI l y wsY lam D tys wc (.ref q :: As) rv wc') (cw : CallW R s args own C index y bytes maxL ret wsY (gR lam) 0 0 n) (hn : As.length = n) (hlv : lv.length = nL) (hst : st0 = As.reverse ++ .ref q :: st) (hcat : (st.map fun v => v.category).sum ≤ 8) (he : wc[0]? = some (q, .inr (ci, fs))) (hc : vwCl[ci]? = some (C, T, N))
    (hdg : decode cc pc = .ok (.invokevirtual index, 3)) (hcs : cells ≤ R.cells ∧ slots ≤ R.slots) (K : hJ Hb p l e R s m args below meth c cells slots Q A0 D wc' lv (pc + 3) (.int (iI rv) :: st)) : hJ Hb p l e R s m args below meth c cells slots Q A0 D wc lv pc st0 := g_callI E (wr := []) hM cw hn hlv hst hcat he hc hdg hcs K
theorem g_callV0 (E : hE Hb p s m args c own cc nL Ts D tys A0) {C : String} {y : MethodName} {bytes : ByteArray} {maxL index lam n q ci N : Nat} {T : u_T} {fs : List Value} {ret : Option FieldType} {wsY : List Cond} {wc wc' : va_W} {As : List Value}
    (hM : gMV l y wsY lam D tys wc (.ref q :: As) wc') (cw : CallW R s args own C index y bytes maxL ret wsY (gR lam) 0 0 n) (hn : As.length = n) (hlv : lv.length = nL) (hst : st0 = As.reverse ++ .ref q :: st) (hcat : (st.map fun v => v.category).sum ≤ 8) (he : wc[0]? = some (q, .inr (ci, fs))) (hc : vwCl[ci]? = some (C, T, N))
    (hdg : decode cc pc = .ok (.invokevirtual index, 3)) (hcs : cells ≤ R.cells ∧ slots ≤ R.slots) (K : hJ Hb p l e R s m args below meth c cells slots Q A0 D wc' lv (pc + 3) st) : hJ Hb p l e R s m args below meth c cells slots Q A0 D wc lv pc st0 := g_callV E (wr := []) hM cw hn hlv hst hcat he hc hdg hcs K
theorem g_ri {cc : ByteArray} {rv v : Int} {W1 : va_W} (h : v = rv) (hret : ∀ (lv : List (Option Value)) (pc : Nat), decode cc pc = .ok (.ireturn, 1) → hJ Hb p l e R s m args below meth c cells slots Q A0 D W1 lv pc [.int (iI rv)]) {lv : List (Option Value)} {pc : Nat} (hdg : decode cc pc = .ok (.ireturn, 1)) : hJ Hb p l e R s m args below meth c cells slots Q A0 D W1 lv pc [.int (iI v)] := by
  subst h
  exact hret lv pc hdg
theorem g_mmin (E : hE Hb p s m args c own cc nL Ts D tys A0) {index : Nat} {a b v : Int} {ws : va_W} (h1 : Cond.methodLink own index Lib.Math.min.name ∈ Ts) (h2 : Cond.static Lib.Math.min.name ∈ Ts) (h3 : Cond.initialized "java/lang/Math" ∈ Ts) (h4 : Cond.code Lib.Math.min.name Lib.Math.min.code 2 (some .int) ∈ Ts) (hdg : decode cc pc = .ok (.invokestatic index, 3)) (hlv : lv.length = nL)
    (hR : 1 ≤ R.frames ∧ (st.map fun v => v.category).sum + 13 ≤ R.locals ∧ cells ≤ R.cells ∧ slots ≤ R.slots) (hr : (-2147483648 ≤ a ∧ a < 2147483648) ∧ (-2147483648 ≤ b ∧ b < 2147483648)) (hv : (if b < a then b else a) = v)
    (K : hJ Hb p l e R s m args below meth c cells slots Q A0 D ws lv (pc + 3) (.int (iI v) :: st)) : hJ Hb p l e R s m args below meth c cells slots Q A0 D ws lv pc (.int (iI b) :: .int (iI a) :: st) := by
  obtain ⟨⟨hx, hb, hml, hown, hts⟩, hK, hA⟩ := E
  intro H locs ls hP hD hS hL
  subst hv
  refine va_mmin hx hb (hml.trans (hL.1.trans hlv).symm) hown (hts _ h1) (hts _ h2) (hts _ h3) (hts _ h4) hR.1 hR.2.1 hR.2.2.1 hR.2.2.2 hdg ?_
  have e9 : (if iI b < iI a then iI b else iI a) = iI (if b < a then b else a) := by
    by_cases h : b < a
    · rw [if_pos h, if_pos ((iI_lt hr.2 hr.1).mpr h)]
    · rw [if_neg h, if_neg (fun h2 => h ((iI_lt hr.2 hr.1).mp h2))]
  rw [e9]
  exact K H locs ls hP hD hS hL
theorem g_mmax (E : hE Hb p s m args c own cc nL Ts D tys A0) {index : Nat} {a b v : Int} {ws : va_W} (h1 : Cond.methodLink own index Lib.Math.max.name ∈ Ts) (h2 : Cond.static Lib.Math.max.name ∈ Ts) (h3 : Cond.initialized "java/lang/Math" ∈ Ts) (h4 : Cond.code Lib.Math.max.name Lib.Math.max.code 2 (some .int) ∈ Ts) (hdg : decode cc pc = .ok (.invokestatic index, 3)) (hlv : lv.length = nL)
    (hR : 1 ≤ R.frames ∧ (st.map fun v => v.category).sum + 13 ≤ R.locals ∧ cells ≤ R.cells ∧ slots ≤ R.slots) (hr : (-2147483648 ≤ a ∧ a < 2147483648) ∧ (-2147483648 ≤ b ∧ b < 2147483648)) (hv : (if a < b then b else a) = v)
    (K : hJ Hb p l e R s m args below meth c cells slots Q A0 D ws lv (pc + 3) (.int (iI v) :: st)) : hJ Hb p l e R s m args below meth c cells slots Q A0 D ws lv pc (.int (iI b) :: .int (iI a) :: st) := by
  obtain ⟨⟨hx, hb, hml, hown, hts⟩, hK, hA⟩ := E
  intro H locs ls hP hD hS hL
  subst hv
  refine va_mmax hx hb (hml.trans (hL.1.trans hlv).symm) hown (hts _ h1) (hts _ h2) (hts _ h3) (hts _ h4) hR.1 hR.2.1 hR.2.2.1 hR.2.2.2 hdg ?_
  have e9 : (if iI a < iI b then iI b else iI a) = iI (if a < b then b else a) := by
    by_cases h : a < b
    · rw [if_pos h, if_pos ((iI_lt hr.1 hr.2).mpr h)]
    · rw [if_neg h, if_neg (fun h2 => h ((iI_lt hr.1 hr.2).mp h2))]
  rw [e9]
  exact K H locs ls hP hD hS hL
theorem g_ldcI (E : hE Hb p s m args c own cc nL Ts D tys A0) {index : Nat} {v : Int} {ws : va_W} (hc : Cond.constant own index (iI v) ∈ Ts) (hdg : decode cc pc = .ok (.ldc index, 2)) (K : hJ Hb p l e R s m args below meth c cells slots Q A0 D ws lv (pc + 2) (.int (iI v) :: st)) : hJ Hb p l e R s m args below meth c cells slots Q A0 D ws lv pc st := by
  obtain ⟨⟨hx, hb, hml, hown, hts⟩, hK, hA⟩ := E
  intro H locs ls hP hD hS hL
  exact lv_ldc hx hb hown (hts _ hc) hdg (K H locs ls hP hD hS hL)
/-- another view of the same world or stack -/
theorem g_eq {ws ws' : va_W} {lv lv' : List (Option Value)} {st st' : List Value} (h : hJ Hb p l e R s m args below meth c cells slots Q A0 D ws' lv' pc st') (hw : ws = ws') (hl : lv = lv') (hs : st = st') : hJ Hb p l e R s m args below meth c cells slots Q A0 D ws lv pc st := by
  subst hw hl hs
  exact h
end GC2
end
section
/-! ===== what the methods compute, over Int ===== -/
def pMin (a b : Int) : Int := if b < a then b else a
/-- the sum of f over 1 .. k - 1 -/
def pSum (f : Nat → Int) : Nat → Int
  | 0 => 0
  | k + 1 => if k = 0 then 0 else pSum f k + f k
theorem pSum_1 (f : Nat → Int) : pSum f 1 = 0 := rfl
theorem pSum_s (f : Nat → Int) {k : Nat} (h : 1 ≤ k) : pSum f (k + 1) = pSum f k + f k := if_neg (by omega)
/-- the sum of f over 0 .. k - 1 -/
def qSum (f : Nat → Int) : Nat → Int
  | 0 => 0
  | k + 1 => qSum f k + f k
/-- what would go by door d -/
def pWish (P t : Int) (pe re fl sr : Nat → Int) (d : Nat) : Int := if 0 ≤ sr d ∧ sr d < P ∧ re (sr d).toNat ≤ t then pMin (pe (sr d).toNat) (fl d) else 0
/-- one round of grants at the place p: what is granted, what is left -/
def pG (w sh tg : Nat → Int) (p : Int) (G : Nat → Int) (L : Int) : Nat → (Nat → Int) × Int
  | 0 => (G, L)
  | k + 1 => if tg k = p then (gu (pG w sh tg p G L k).1 k ((pG w sh tg p G L k).1 k + pMin (pMin (sh k) (w k - (pG w sh tg p G L k).1 k)) (pG w sh tg p G L k).2), (pG w sh tg p G L k).2 - pMin (pMin (sh k) (w k - (pG w sh tg p G L k).1 k)) (pG w sh tg p G L k).2) else pG w sh tg p G L k
/-- n rounds -/
def pR (w sh tg : Nat → Int) (p : Int) (Dn : Nat) (G : Nat → Int) (L : Int) : Nat → (Nat → Int) × Int
  | 0 => (G, L)
  | n + 1 => pG w sh tg p (pR w sh tg p Dn G L n).1 (pR w sh tg p Dn G L n).2 Dn
def pRoom (rm pe : Nat → Int) (p : Nat) : Int := if p = 0 then 1000000 else rm p - pe p
def pZ (G : Nat → Int) : Nat → Nat → Int
  | 0 => G
  | k + 1 => gu (pZ G k) k 0
/-- all places, one after the other -/
def pA (w sh tg rm pe : Nat → Int) (Dn : Nat) (G : Nat → Int) : Nat → Nat → Int
  | 0 => G
  | p + 1 => (pR w sh tg (p : Int) Dn (pA w sh tg rm pe Dn G p) (pRoom rm pe p) 9).1
/-- the move -/
def pIn (P x : Int) : Prop := 0 ≤ x ∧ x < P
def pMove (P : Int) (sr tg G : Nat → Int) (f : Nat → Int) : Nat → Nat → Int
  | 0 => f
  | k + 1 => if (0 ≤ sr k ∧ sr k < P) ∧ (0 ≤ tg k ∧ tg k < P) then gu (gu (pMove P sr tg G f k) (sr k).toNat (pMove P sr tg G f k (sr k).toNat - G k)) (tg k).toNat (gu (pMove P sr tg G f k) (sr k).toNat (pMove P sr tg G f k (sr k).toNat - G k) (tg k).toNat + G k) else pMove P sr tg G f k
def pPass (P : Int) (sr tg G : Nat → Int) (f : Nat → Int) : Nat → Nat → Int
  | 0 => f
  | k + 1 => if (0 ≤ sr k ∧ sr k < P) ∧ (0 ≤ tg k ∧ tg k < P) then gu (pPass P sr tg G f k) k (pPass P sr tg G f k k + G k) else pPass P sr tg G f k
def pMoved (P : Int) (sr tg G : Nat → Int) : Nat → Int
  | 0 => 0
  | k + 1 => if (0 ≤ sr k ∧ sr k < P) ∧ (0 ≤ tg k ∧ tg k < P) then pMoved P sr tg G k + G k else pMoved P sr tg G k
/-- distances: one try, one door, one round, all rounds -/
def pReach (f : Nat → Int) (a b : Nat) (d : Int) : Nat → Int := if f a = -1 ∧ f b = d - 1 then gu f a d else f
def pRd (one oth op : Nat → Int) (d : Int) (f : Nat → Int) : Nat → Nat → Int
  | 0 => f
  | k + 1 => if op k = 0 then pRd one oth op d f k else pReach (pReach (pRd one oth op d f k) (one k).toNat (oth k).toNat d) (oth k).toNat (one k).toNat d
def pMs (one oth op : Nat → Int) (Dn : Nat) (f : Nat → Int) : Nat → Nat → Int
  | 0 => f
  | 1 => f
  | k + 2 => pRd one oth op ((k + 1 : Nat) : Int) (pMs one oth op Dn f (k + 1)) Dn
def pN (f : Nat → Int) : Nat → Nat → Int
  | 0 => f
  | 1 => f
  | k + 2 => gu (pN f (k + 1)) (k + 1) (-1)
/-- the distances as X lays them -/
def pDist (one oth op : Nat → Int) (P Dn : Nat) (f : Nat → Int) : Nat → Int := pMs one oth op Dn (pN (gu f 0 0) P) P
/-- the doors of places, and whence and where a door leads: (doorOf, source, target) -/
def pFit (di : Nat → Int) (op : Int) (a b : Nat) : Prop := op ≠ 0 ∧ 1 ≤ di a ∧ di b = di a - 1
def pOf (di : Nat → Int) (op : Int) (k a b : Nat) (T : (Nat → Int) × (Nat → Int) × (Nat → Int)) : (Nat → Int) × (Nat → Int) × (Nat → Int) :=
  if (op ≠ 0 ∧ 1 ≤ di a ∧ di b = di a - 1) ∧ T.1 a = -1 then (gu T.1 a (k : Int), gu T.2.1 k (a : Int), gu T.2.2 k (b : Int)) else T
def pOff (one oth op di : Nat → Int) (T : (Nat → Int) × (Nat → Int) × (Nat → Int)) : Nat → (Nat → Int) × (Nat → Int) × (Nat → Int)
  | 0 => T
  | k + 1 => pOf di (op k) k (oth k).toNat (one k).toNat (pOf di (op k) k (one k).toNat (oth k).toNat ((pOff one oth op di T k).1, gu (pOff one oth op di T k).2.1 k (-1), gu (pOff one oth op di T k).2.2 k (-1)))
def pM1 (f : Nat → Int) : Nat → Nat → Int
  | 0 => f
  | k + 1 => gu (pM1 f k) k (-1)
def pWays (one oth op di : Nat → Int) (P Dn : Nat) (T : (Nat → Int) × (Nat → Int) × (Nat → Int)) : (Nat → Int) × (Nat → Int) × (Nat → Int) := pOff one oth op di (pM1 T.1 P, T.2.1, T.2.2) Dn
/-- the bound -/
def pCrowd (di pe : Nat → Int) (d : Int) (P : Nat) : Int := pSum (fun j => if d ≤ di j then pe j else 0) P
def pJoin (di one oth op : Nat → Int) (d : Int) (k : Nat) : Prop := (di (one k).toNat = d ∧ di (oth k).toNat = d - 1 ∨ di (oth k).toNat = d ∧ di (one k).toNat = d - 1) ∧ op k ≠ 0
def pFlow (di one oth op fl : Nat → Int) (d : Int) (Dn : Nat) : Int := qSum (fun k => if ((di (one k).toNat = d ∧ di (oth k).toNat = d - 1) ∨ (di (oth k).toNat = d ∧ di (one k).toNat = d - 1)) ∧ op k ≠ 0 then fl k else 0) Dn
def pBd (cr fl d : Int) : Int := if cr = 0 ∨ fl = 0 then 0 else d - 1 + (cr + fl - 1) / fl
def pBound (di one oth op fl pe : Nat → Int) (P Dn : Nat) : Nat → Int
  | 0 => 0
  | 1 => 0
  | d + 2 => if pBound di one oth op fl pe P Dn (d + 1) < pBd (pCrowd di pe ((d + 1 : Nat) : Int) P) (pFlow di one oth op fl ((d + 1 : Nat) : Int) Dn) ((d + 1 : Nat) : Int) then pBd (pCrowd di pe ((d + 1 : Nat) : Int) P) (pFlow di one oth op fl ((d + 1 : Nat) : Int) Dn) ((d + 1 : Nat) : Int) else pBound di one oth op fl pe P Dn (d + 1)
end
section
/-! ===== bounds of what is computed ===== -/
def gB (f : Nat → Int) : Prop := ∀ j : Nat, -2147483648 ≤ f j ∧ f j < 2147483648
theorem gu_B {f : Nat → Int} {i : Nat} {v : Int} (h : gB f) (hv : -2147483648 ≤ v ∧ v < 2147483648) : gB (gu f i v) := by
  intro j
  unfold gu
  split
  · exact hv
  · exact h j
theorem gu_self {f : Nat → Int} {i : Nat} {v : Int} (h : v = f i) : gu f i v = f := by
  funext j
  unfold gu
  split
  · rename_i e; rw [h, e]
  · rfl
theorem pReach_B {f : Nat → Int} {a b : Nat} {d : Int} (h : gB f) (hd : -2147483648 ≤ d ∧ d < 2147483648) : gB (pReach f a b d) := by
  unfold pReach
  split
  · exact gu_B h hd
  · exact h
theorem pRd_B {one oth op : Nat → Int} {d : Int} {f : Nat → Int} (h : gB f) (hd : -2147483648 ≤ d ∧ d < 2147483648) : ∀ k, gB (pRd one oth op d f k) := by
  intro k
  induction k with
  | zero => exact h
  | succ k ih =>
    unfold pRd
    split
    · exact ih
    · exact pReach_B (pReach_B ih hd) hd
theorem pMs_s {one oth op : Nat → Int} {Dn : Nat} {f : Nat → Int} {k : Nat} (h : 1 ≤ k) : pMs one oth op Dn f (k + 1) = pRd one oth op (k : Int) (pMs one oth op Dn f k) Dn := by
  cases k with
  | zero => omega
  | succ k => rfl
theorem pMs_B {one oth op : Nat → Int} {Dn : Nat} {f : Nat → Int} (h : gB f) : ∀ k, k ≤ 100 → gB (pMs one oth op Dn f k) := by
  intro k
  induction k with
  | zero => intro _; exact h
  | succ k ih =>
    intro hk
    rcases Nat.eq_zero_or_pos k with rfl | h1
    · exact h
    · rw [pMs_s h1]
      exact pRd_B (ih (by omega)) (by omega) Dn
theorem pN_s {f : Nat → Int} {k : Nat} (h : 1 ≤ k) : pN f (k + 1) = gu (pN f k) k (-1) := by
  cases k with
  | zero => omega
  | succ k => rfl
theorem pN_B {f : Nat → Int} (h : gB f) : ∀ k, gB (pN f k) := by
  intro k
  induction k with
  | zero => exact h
  | succ k ih =>
    rcases Nat.eq_zero_or_pos k with rfl | h1
    · exact h
    · rw [pN_s h1]
      exact gu_B ih (by omega)
theorem pDist_B {one oth op : Nat → Int} {P Dn : Nat} {f : Nat → Int} (h : gB f) (hP : P ≤ 11) : gB (pDist one oth op P Dn f) := pMs_B (pN_B (gu_B h (by omega)) _) _ (by omega)
theorem pRd_0 {one oth op : Nat → Int} {d : Int} {f : Nat → Int} {k : Nat} (h : op k = 0) : pRd one oth op d f (k + 1) = pRd one oth op d f k := if_pos h
theorem pRd_1 {one oth op : Nat → Int} {d : Int} {f : Nat → Int} {k : Nat} (h : ¬ op k = 0) : pRd one oth op d f (k + 1) = pReach (pReach (pRd one oth op d f k) (one k).toNat (oth k).toNat d) (oth k).toNat (one k).toNat d := if_neg h
theorem pM1_B {f : Nat → Int} (h : gB f) : ∀ k, gB (pM1 f k) := by
  intro k
  induction k with
  | zero => exact h
  | succ k ih => exact gu_B ih (by omega)
theorem pOf_B {di : Nat → Int} {op : Int} {k a b : Nat} {T : (Nat → Int) × (Nat → Int) × (Nat → Int)} (h : gB T.1) (hk : k ≤ 100) : gB (pOf di op k a b T).1 := by
  unfold pOf
  split
  · exact gu_B h (by omega)
  · exact h
theorem pOff_B {one oth op di : Nat → Int} {T : (Nat → Int) × (Nat → Int) × (Nat → Int)} (h : gB T.1) : ∀ k, k ≤ 100 → gB (pOff one oth op di T k).1 := by
  intro k
  induction k with
  | zero => intro _; exact h
  | succ k ih =>
    intro hk
    exact pOf_B (pOf_B (ih (by omega)) (by omega)) (by omega)
/-! grants -/
def gGI (w sh G : Nat → Int) (L : Int) (Dn : Nat) : Prop := (∀ j, j < Dn → (0 ≤ G j ∧ G j ≤ w j) ∧ w j ≤ 9 ∧ 1 ≤ sh j ∧ sh j ≤ 5) ∧ 0 ≤ L ∧ L < 2147483648
theorem pMin_c (a b : Int) : (pMin a b = a ∧ a ≤ b) ∨ (pMin a b = b ∧ b ≤ a) := by
  unfold pMin
  split
  · right; omega
  · left; omega
theorem pG_inv {w sh tg : Nat → Int} {p : Int} {G : Nat → Int} {L : Int} {Dn : Nat} (h : gGI w sh G L Dn) : ∀ k, k ≤ Dn → gGI w sh (pG w sh tg p G L k).1 (pG w sh tg p G L k).2 Dn ∧ (pG w sh tg p G L k).2 ≤ L := by
  intro k
  induction k with
  | zero => intro _; exact ⟨h, Int.le_refl _⟩
  | succ k ih =>
    intro hk
    obtain ⟨⟨h1, h2, h3⟩, h4⟩ := ih (by omega)
    obtain ⟨⟨g1, g2⟩, g3, g4, g5⟩ := h1 k (by omega)
    unfold pG
    split
    · have c1 := pMin_c (sh k) (w k - (pG w sh tg p G L k).1 k)
      have c2 := pMin_c (pMin (sh k) (w k - (pG w sh tg p G L k).1 k)) (pG w sh tg p G L k).2
      refine ⟨⟨fun j hj => ?_, ?_, ?_⟩, ?_⟩
      · obtain ⟨⟨a1, a2⟩, a3⟩ := h1 j hj
        refine ⟨?_, a3⟩
        simp only [gu]
        split
        · rename_i e; subst e; omega
        · exact ⟨a1, a2⟩
      · simp only; omega
      · simp only; omega
      · simp only; omega
    · exact ⟨⟨h1, h2, h3⟩, h4⟩
theorem pG_same {w sh tg : Nat → Int} {p : Int} {G : Nat → Int} {L : Int} {Dn : Nat} (h : gGI w sh G L Dn) : ∀ k, k ≤ Dn → (pG w sh tg p G L k).2 = L → (pG w sh tg p G L k).1 = G := by
  intro k
  induction k with
  | zero => intro _ _; rfl
  | succ k ih =>
    intro hk e
    obtain ⟨⟨h1, h2, h3⟩, h4⟩ := pG_inv (tg := tg) (p := p) h k (by omega)
    obtain ⟨⟨g1, g2⟩, g3, g4, g5⟩ := h1 k (by omega)
    unfold pG at e ⊢
    split at e
    · rename_i ht
      rw [if_pos ht]
      have c1 := pMin_c (sh k) (w k - (pG w sh tg p G L k).1 k)
      have c2 := pMin_c (pMin (sh k) (w k - (pG w sh tg p G L k).1 k)) (pG w sh tg p G L k).2
      simp only at e ⊢
      have e0 : (pG w sh tg p G L k).2 = L := by omega
      rw [gu_self (by omega)]
      exact ih (by omega) e0
    · rename_i ht
      rw [if_neg ht]
      exact ih (by omega) e
theorem pR_inv {w sh tg : Nat → Int} {p : Int} {G : Nat → Int} {L : Int} {Dn : Nat} (h : gGI w sh G L Dn) : ∀ n, gGI w sh (pR w sh tg p Dn G L n).1 (pR w sh tg p Dn G L n).2 Dn := by
  intro n
  induction n with
  | zero => exact h
  | succ n ih => exact (pG_inv ih Dn (Nat.le_refl _)).1
theorem pR_stop {w sh tg : Nat → Int} {p : Int} {G : Nat → Int} {L : Int} {Dn : Nat} (h : gGI w sh G L Dn) {n : Nat} (e : (pR w sh tg p Dn G L (n + 1)).2 = (pR w sh tg p Dn G L n).2) : ∀ m, pR w sh tg p Dn G L (n + m) = pR w sh tg p Dn G L n := by
  have h1 : pR w sh tg p Dn G L (n + 1) = pR w sh tg p Dn G L n := Prod.ext (pG_same (pR_inv h n) Dn (Nat.le_refl _) e) e
  intro m
  induction m with
  | zero => rfl
  | succ m ih =>
    show pG w sh tg p (pR w sh tg p Dn G L (n + m)).1 (pR w sh tg p Dn G L (n + m)).2 Dn = _
    rw [ih]
    exact h1
theorem pR_out {w sh tg : Nat → Int} {p : Int} {G : Nat → Int} {L : Int} {Dn : Nat} (h : gGI w sh G L Dn) {n N : Nat} (e : (pR w sh tg p Dn G L (n + 1)).2 = (pR w sh tg p Dn G L n).2) (hN : n + 1 ≤ N) : pR w sh tg p Dn G L N = pR w sh tg p Dn G L (n + 1) := by
  rw [show N = n + (N - n) by omega, pR_stop h e, ← pR_stop h e 1]
theorem pWish_B {P t : Int} {pe re fl sr : Nat → Int} {Dn : Nat} (hpe : ∀ j : Nat, (j : Int) < P → 1 ≤ j → 0 ≤ pe j) (hp0 : 0 ≤ pe 0) (hfl : ∀ j, j < Dn → 1 ≤ fl j ∧ fl j ≤ 9) : ∀ j, j < Dn → 0 ≤ pWish P t pe re fl sr j ∧ pWish P t pe re fl sr j ≤ 9 := by
  intro j hj
  have h1 := hfl j hj
  unfold pWish
  split
  · rename_i h
    have c := pMin_c (pe (sr j).toNat) (fl j)
    have h2 : 0 ≤ pe (sr j).toNat := by
      rcases Nat.eq_zero_or_pos (sr j).toNat with h0 | h0
      · rw [h0]; exact hp0
      · exact hpe _ (by omega) h0
    omega
  · omega
theorem pZ_0 {G : Nat → Int} : ∀ k j, j < k → pZ G k j = 0 := by
  intro k
  induction k with
  | zero => intro j hj; omega
  | succ k ih =>
    intro j hj
    unfold pZ gu
    split
    · rfl
    · exact ih j (by omega)
theorem pA_inv {w sh tg rm pe : Nat → Int} {Dn : Nat} {G : Nat → Int} (h : ∀ j, j < Dn → (0 ≤ G j ∧ G j ≤ w j) ∧ w j ≤ 9 ∧ 1 ≤ sh j ∧ sh j ≤ 5) {P : Nat} (hr : ∀ p : Nat, p < P → 0 ≤ pRoom rm pe p ∧ pRoom rm pe p < 2147483648) : ∀ p, p ≤ P → ∀ j, j < Dn → (0 ≤ pA w sh tg rm pe Dn G p j ∧ pA w sh tg rm pe Dn G p j ≤ w j) ∧ w j ≤ 9 ∧ 1 ≤ sh j ∧ sh j ≤ 5 := by
  intro p
  induction p with
  | zero => intro _; exact h
  | succ p ih =>
    intro hp
    exact (pR_inv (w := w) (sh := sh) (tg := tg) (p := (p : Int)) (L := pRoom rm pe p) ⟨ih (by omega), hr p (by omega)⟩ 9).1
theorem pA_gGI {w sh tg rm pe : Nat → Int} {Dn : Nat} {G : Nat → Int} (h : ∀ j, j < Dn → (0 ≤ G j ∧ G j ≤ w j) ∧ w j ≤ 9 ∧ 1 ≤ sh j ∧ sh j ≤ 5) {P : Nat} (hr : ∀ p : Nat, p < P → 0 ≤ pRoom rm pe p ∧ pRoom rm pe p < 2147483648) {p : Nat} (hp : p < P) : gGI w sh (pA w sh tg rm pe Dn G p) (pRoom rm pe p) Dn := ⟨pA_inv h hr p (by omega), hr p hp⟩
end
section
/-! ===== a step, many steps ===== -/
def xG (P Dn : Nat) (t : Int) (f0 f1 f2 f7 f8 f11 f12 f13 : Nat → Int) : Nat → Int := pA (pWish (P : Int) t f1 f2 f7 f11) f8 f12 f0 f1 Dn (pZ f13 Dn) P
/-- people, passed, granted, time, latest, waited -/
abbrev xS : Type := (Nat → Int) × (Nat → Int) × (Nat → Int) × Int × Int × Int
def xGS (P Dn : Nat) (f0 f2 f7 f8 f11 f12 : Nat → Int) (S : xS) : Nat → Int := xG P Dn S.2.2.2.1 f0 S.1 f2 f7 f8 f11 f12 S.2.2.1
def xMv (P Dn : Nat) (f0 f2 f7 f8 f11 f12 : Nat → Int) (S : xS) : Int := pMoved (P : Int) f11 f12 (xGS P Dn f0 f2 f7 f8 f11 f12 S) Dn
def xStep (P Dn : Nat) (f0 f2 f7 f8 f11 f12 : Nat → Int) (S : xS) : xS :=
  (pMove (P : Int) f11 f12 (xGS P Dn f0 f2 f7 f8 f11 f12 S) S.1 Dn, pPass (P : Int) f11 f12 (xGS P Dn f0 f2 f7 f8 f11 f12 S) S.2.1 Dn, xGS P Dn f0 f2 f7 f8 f11 f12 S, S.2.2.2.1 + 1,
    (if S.1 0 < pMove (P : Int) f11 f12 (xGS P Dn f0 f2 f7 f8 f11 f12 S) S.1 Dn 0 then S.2.2.2.1 + 1 else S.2.2.2.2.1), S.2.2.2.2.2 + pSum (pMove (P : Int) f11 f12 (xGS P Dn f0 f2 f7 f8 f11 f12 S) S.1 Dn) P)
def xIt (P Dn : Nat) (f0 f2 f7 f8 f11 f12 : Nat → Int) (S : xS) : Nat → xS
  | 0 => S
  | k + 1 => xStep P Dn f0 f2 f7 f8 f11 f12 (xIt P Dn f0 f2 f7 f8 f11 f12 S k)
/-- what a step needs -/
def xOk (P Dn : Nat) (f0 f2 f7 f8 f11 f12 : Nat → Int) (S : xS) : Prop :=
  (-2147483648 ≤ S.2.2.2.1 ∧ S.2.2.2.1 < 2147483647) ∧ (∀ j : Nat, 1 ≤ j → j < P → 0 ≤ S.1 j ∧ S.1 j ≤ f0 j ∧ f0 j ≤ 30) ∧ (0 ≤ S.1 0 ∧ S.1 0 < 1073741824) ∧
    (-2147483648 ≤ pMove (P : Int) f11 f12 (xGS P Dn f0 f2 f7 f8 f11 f12 S) S.1 Dn 0 ∧ pMove (P : Int) f11 f12 (xGS P Dn f0 f2 f7 f8 f11 f12 S) S.1 Dn 0 < 2147483648) ∧
    (-2147483648 ≤ xMv P Dn f0 f2 f7 f8 f11 f12 S ∧ xMv P Dn f0 f2 f7 f8 f11 f12 S < 2147483648) ∧ (-2147483648 ≤ pSum S.1 P ∧ pSum S.1 P < 2147483648)
theorem pBd_b {cr fl d : Int} (h1 : 0 ≤ cr ∧ cr ≤ 10000) (h2 : 0 ≤ fl ∧ fl ≤ 1000) (h3 : 1 ≤ d ∧ d ≤ 11) : 0 ≤ pBd cr fl d ∧ pBd cr fl d ≤ 20000 := by
  unfold pBd
  split
  · omega
  · have h4 : (cr + fl - 1) / fl ≤ cr + fl - 1 := Int.ediv_le_self _ (by omega)
    have h5 : 0 ≤ (cr + fl - 1) / fl := Int.ediv_nonneg (by omega) (by omega)
    omega
theorem pBound_s {di one oth op fl pe : Nat → Int} {P Dn d : Nat} (h : 1 ≤ d) : pBound di one oth op fl pe P Dn (d + 1) = (if pBound di one oth op fl pe P Dn d < pBd (pCrowd di pe (d : Int) P) (pFlow di one oth op fl (d : Int) Dn) (d : Int) then pBd (pCrowd di pe (d : Int) P) (pFlow di one oth op fl (d : Int) Dn) (d : Int) else pBound di one oth op fl pe P Dn d) := by
  cases d with
  | zero => omega
  | succ d => rfl
theorem pBound_b {di one oth op fl pe : Nat → Int} {P Dn : Nat} (h : ∀ d : Nat, 1 ≤ d → d < P → (0 ≤ pCrowd di pe (d : Int) P ∧ pCrowd di pe (d : Int) P ≤ 10000) ∧ 0 ≤ pFlow di one oth op fl (d : Int) Dn ∧ pFlow di one oth op fl (d : Int) Dn ≤ 1000) (hP : P ≤ 11) : ∀ d, d ≤ P → 0 ≤ pBound di one oth op fl pe P Dn d ∧ pBound di one oth op fl pe P Dn d ≤ 20000 := by
  intro d
  induction d with
  | zero => intro _; show (0 : Int) ≤ 0 ∧ (0 : Int) ≤ 20000; omega
  | succ d ih =>
    intro hd
    rcases Nat.eq_zero_or_pos d with rfl | h1
    · show (0 : Int) ≤ 0 ∧ (0 : Int) ≤ 20000
      omega
    · rw [pBound_s h1]
      obtain ⟨h2, h3⟩ := h d h1 (by omega)
      have h4 := pBd_b h2 h3 (d := (d : Int)) (by omega)
      have h5 := ih (by omega)
      split
      · exact h4
      · exact h5
end
section
/-! ===== a throw of NoSuchElementException (its constructor's own call has another index; the rest follows the library's law of a constructor's walk, Stand.ctorThrowS) ===== -/
theorem gx_sub1 : ∀ x ∈ Bundle.throwableAtoms, x ∈ gNSall := by decide +kernel
theorem gx_sub2 : ∀ x ∈ Bundle.throwableSAtoms, x ∈ gNSall := by decide +kernel
theorem gx_sub3 : ∀ x ∈ Bundle.chainSAtoms gRE ["java/lang/Exception"], x ∈ gNSall := by decide +kernel
theorem gx_sub4 : ∀ x ∈ Bundle.passSAtoms gNS gRE 13 prog_13_method_4_code, x ∈ gNSall := by decide +kernel
def gx_rest : List Cond := [.methodLink "Stairflow" 185 (Bundle.initS gNS), .instantiable gNS 6, .selects gNS Bundle.tFill0 Bundle.tFill0, .selects gNS Bundle.tFill Bundle.tFill, .lays gNS Bundle.tN "cause" "Ljava/lang/Throwable;", .lays gNS Bundle.tN "stackTrace" Bundle.steD, .lays gNS Bundle.tN "suppressedExceptions" Bundle.listD, .lays gNS Bundle.tN "detailMessage" "Ljava/lang/String;", .isRef (.static Bundle.tN "UNASSIGNED_STACK" Bundle.steD), .isRef (.static Bundle.tN "SUPPRESSED_SENTINEL" Bundle.listD), .fieldLink Bundle.tN 198 Bundle.tN "backtrace" "Ljava/lang/Object;", .lays Bundle.tN Bundle.tN "backtrace" "Ljava/lang/Object;", .lays gNS Bundle.tN "backtrace" "Ljava/lang/Object;", .instanceMethod (Bundle.initS gNS), .code (Bundle.initS gNS) prog_13_method_4_code 2 none]
theorem gx_sub5 : ∀ x ∈ gx_rest, x ∈ gNSall := by decide +kernel
theorem gx_at {i : Nat} {w : Cond} {args : Array Value} {s : State} (h : ∀ a ∈ gNSall, a.before args s = true) (hi : gx_rest[i]? = some w) : w.before args s = true := h _ (gx_sub5 _ (List.mem_of_getElem? hi))
section GX
variable {p : Program} {l : Launch} {e : Env} {R : Room} {s : State} {m₀ : MethodId} {args : Array Value} {below : List Frame} {meth : Method} {c : Code} {W : State} {locs : List Loc} {cells slots : Nat}
set_option maxHeartbeats 4000000 in
theorem gx_ctor (X : Stand p l e R s m₀ args below meth c W locs cells slots) (hexec : p.tables.exec = Jvm.exec) (htr : e.platform.stackTraces = false)
    (hown : s.vm.findClass "Stairflow" = some m₀.cls) (h : ∀ a ∈ gNSall, a.before args s = true)
    (hlocs : ∀ x ∈ locs, ∀ cell, s.heap[x.base]? = some cell → cell.vm.isStatics = false)
    {a : Addr} {cX : ClassId} {kX : Class} (hfoundX : s.vm.findClass gNS = some cX) (hkX : s.vm.classes[cX]? = some kX) (hcell : W.heap[a]? = some (freshCell cX kX)) (hnew : s.heap.size ≤ a)
    {msg : Value} (hmsg : msg.isRef = true)
    {g : JFrame} (hg : g.method = m₀) (hsize : g.locals.size = c.maxLocals) (hlocked : g.locked = none) (hentered : g.entered = []) {rest : List Value} (hstack : g.stack = msg :: .ref a :: .ref a :: rest)
    (hd6 : decode c.code g.pc = .ok (.invokespecial 185, 3)) (hd9 : decode c.code (g.pc + 3) = .ok (.athrow, 1)) (hout : ∀ x ∈ c.exceptionTable.toList, covers x (g.pc + 3) = false)
    (hRframes : 5 < R.frames) (hRlocals : 2 * g.monitorRoom + ((Value.ref a :: rest).map fun v => v.category).sum + 81 ≤ R.locals) (hlocks : meth.locks = false) :
    ∃ U : State, Steps p.tables e below (W.setTop g) U ∧ U.status = .running ∧ Ended U below (.threw a) ∧ s.WarmedH U.vm ∧ s.sameButNew ({ U with vm := s.vm } : State) locs cells slots ∧
      ∃ ce, U.heap[a]? = some ce ∧ s.vm.findClass gNS = some ce.cls ∧ ce.vm = .none := by
  have howns : e.platform.frameOwnsMonitors = true := by rw [X.admits.platform]
  have hfin : e.platform.finalization = false := by rw [X.admits.platform]
  have hpl : e.platform.magicAccessors = ({} : Platform).magicAccessors := by rw [X.admits.platform]
  obtain ⟨T, Z0, L, -, Y⟩ := ThrowableC.of_atoms (args := args) howns hfin hpl (fun x hx => h x (gx_sub1 x hx))
  obtain ⟨Z, M, LZ, LM, hnZ⟩ := Init0T.ofS_atoms (args := args) hpl L Y (fun x hx => h x (gx_sub2 x hx))
  obtain ⟨P1, L1, hP1m, hs1⟩ := PassC.ofS_atoms (args := args) (s := s) hpl (X := gNS) (Y := gRE) (index := 13) (bytes := prog_13_method_4_code) (by decide +kernel) (by decide +kernel) (by decide +kernel) (by decide +kernel) (by decide +kernel) (by decide +kernel) (fun x hx => h x (gx_sub4 x hx))
  obtain ⟨P2, Ps, hlen, L2, hL, hP2m, hsup, hpass⟩ := Bundle.chainS (args := args) hpl hnZ ["java/lang/Exception"] gRE (by decide +kernel) (by decide +kernel) (fun x hx => h x (gx_sub3 x hx))
  have hsupP : P1.sup = P2.m := Option.some.inj (hs1.symm.trans hP2m)
  have hfound : s.vm.findClass gNS = some P1.m.cls := findClass_of_methodNamed hP1m
  cases Option.some.inj (hfoundX.symm.trans hfound)
  obtain ⟨c1, kX', hc1, hk, hord, -, -, hn6⟩ := Cond.instantiable_spec (gx_at (i := 1) h rfl)
  cases Option.some.inj (hc1.symm.trans hfound)
  cases Option.some.inj (hkX.symm.trans hk)
  have hsel0 : selectMethod e.platform s.vm P1.m.cls T.fill0 = .method T.fill0 := by
    obtain ⟨c2, r2, m2, q1, q2, q3, q4, -⟩ := Cond.selects_spec (gx_at (i := 2) h rfl)
    cases Option.some.inj (q1.symm.trans hfound)
    cases Option.some.inj (q2.symm.trans (State.methodFound?_of_named Y.fill0 (by decide)))
    cases Option.some.inj (q3.symm.trans Y.fill0)
    rw [Launch.admits_selectMethod X.admits]; exact q4
  have hselF : selectMethod e.platform s.vm P1.m.cls T.fill = .method T.fill := by
    obtain ⟨c2, r2, m2, q1, q2, q3, q4, -⟩ := Cond.selects_spec (gx_at (i := 3) h rfl)
    cases Option.some.inj (q1.symm.trans hfound)
    cases Option.some.inj (q2.symm.trans (State.methodFound?_of_named Y.fill (by decide)))
    cases Option.some.inj (q3.symm.trans Y.fill)
    rw [Launch.admits_selectMethod X.admits]; exact q4
  obtain ⟨cellS0, hcS0, hiss⟩ := Y.statics
  obtain ⟨u0, hu0⟩ := Cond.staticRefV Y.unassigned L.unassignedStatic L.statics hcS0 hiss (gx_at (i := 8) h rfl)
  obtain ⟨sen, hsen⟩ := Cond.staticRefV Y.sentinel L.sentinelStatic L.statics hcS0 hiss (gx_at (i := 9) h rfl)
  obtain ⟨ci198, i198, fB, hk198, hg198, ha198, hsB, -, hnB, htB, hffB⟩ := Cond.ownField (t := .object "java/lang/Object") Y.found L.cls (by decide +kernel) (gx_at (i := 10) h rfl) (gx_at (i := 11) h rfl) e.platform hpl
  obtain ⟨cellS, hcS', heS, -, hkeep⟩ := X.same.2.2.2.2.2 T.aS cellS0 hcS0
  have hcellS : W.heap[T.aS]? = some cellS := hcS'
  have hout' : ∀ i, (⟨T.aS, i⟩ : Loc) ∉ locs := fun i hmem => by
    have h9 := hlocs _ hmem cellS0 hcS0
    rw [hiss] at h9; cases h9
  have hknownS : cellS.vm ≠ .unknown := by
    rw [heS]; intro hu
    rw [show cellS0.vm = .unknown from hu] at hiss
    cases hiss
  have hneS : T.aS ≠ a := Nat.ne_of_lt (Nat.lt_of_lt_of_le (Array.getElem?_eq_some_iff.mp hcS0).1 hnew)
  obtain ⟨iM, hffM⟩ := Y.msg
  obtain ⟨tyC, dC, hdC, hdnC⟩ := Cond.laysAt hfound hk Y.cause (gx_at (i := 4) h rfl)
  obtain ⟨tyS, dS, hdS, hdnS⟩ := Cond.laysAt hfound hk Y.stack (gx_at (i := 5) h rfl)
  obtain ⟨tyP, dP, hdP, hdnP⟩ := Cond.laysAt hfound hk Y.supp (gx_at (i := 6) h rfl)
  obtain ⟨tyM, dM, hdM, hdnM⟩ := Cond.laysAt hfound hk hffM (gx_at (i := 7) h rfl)
  obtain ⟨tyB, dB, hdB, hdnB⟩ := Cond.laysAt hfound hk hffB (gx_at (i := 12) h rfl)
  have bC := Cond.laysApart hdB hdC hdnB hdnC (by rw [hnB, Y.causeName]; decide)
  have bS := Cond.laysApart hdB hdS hdnB hdnS (by rw [hnB, Y.stackName]; decide)
  have bP := Cond.laysApart hdB hdP hdnB hdnP (by rw [hnB, Y.suppName]; decide)
  have hskip : SkipFacts T e.platform s (fun u => u) u0 ((preparedCellV T.toThrowableT (freshCell P1.m.cls kX) a u0 sen).withEntry W.cur) :=
    ⟨{ ci198 := ci198, i198 := i198, fBack := fB }, ⟨hk198, hg198, ha198, hsB⟩, by
      have h9 := fresh_default (c := P1.m.cls) tyB
      rw [htB] at h9
      simpa [preparedCellV, Cell.setSlot, Cell.withEntry, Array.getElem?_setIfInBounds, bC, bS, bP, bC.symm, bS.symm, bP.symm, defaultValue] using h9, fun _ _ => rfl⟩
  obtain ⟨tm, methC, cdC, kC, vm₁, hnC, -, -, -, -, -, -, -, hW₁, st1⟩ := Steps.initColdS (tb := p.tables) (e := e) (below := below) (s := s) (U := W) X.here hexec X.warmed hpl hown (t := Bundle.initS gNS) rfl rfl (by decide +kernel)
    (gx_at (i := 0) h rfl) (gx_at (i := 13) h rfl) (bytes := prog_13_method_4_code) (maxL := 2) (gx_at (i := 14) h rfl) (f := g) hg (a := a) (msg := msg) (rest := .ref a :: rest) hstack hd6
  cases Option.some.inj (hnC.symm.trans hP1m)
  have X₁ := X.noted hW₁
  obtain ⟨vm₂, X₂, st2⟩ := X₁.ctorMessageOffV hexec (g := { g with stack := .ref a :: rest }) hg hsize T L Z LZ M LM (P1 :: P2 :: Ps)
    (fun P hP => by rcases List.mem_cons.mp hP with rfl | hP; exact L1; rcases List.mem_cons.mp hP with rfl | hP; exact L2; exact hL P hP) ⟨hsupP, hsup, hpass⟩ (u0 := u0) (sen := sen) (self := a) hmsg (cell := freshCell P1.m.cls kX) (cellS := cellS)
    hcell (fun _ => by simp) (by simp) rfl rfl hsel0 hselF hcellS hneS hknownS (by rw [hkeep _ (hout' _)]; exact hu0) (by rw [hkeep _ (hout' _)]; exact hsen)
    (Takes.of_laid hk hord tyC (by rw [Y.causeType]; rfl)) (Takes.of_laid hk hord tyS (by rw [Y.stackType]; exact fits_refV_array _ u0)) (Takes.of_laid hk hord tyP (by rw [Y.suppType]; exact fits_refV_object _ sen))
    (Takes.of_laid hk hord tyM (by rw [Y.msgType]; exact fits_refV_object _ ⟨msg, hmsg⟩)) Y.objLocals hskip htr [] hd6
    (by simp only [List.length_cons, hlen, List.length_nil]; omega) (by simp only [List.length_cons, hlen, List.length_nil]; exact hRlocals)
  obtain ⟨hwalk, hrun, hended, hWU, hsame⟩ := X₂.athrowLeaves hexec (g := { g with stack := .ref a :: rest, pc := g.pc + 3 }) hg hlocked hentered hout (a := a) (rest := rest) rfl hd9
  have hlt : a < ((W.setVm vm₁).setVm vm₂).heap.size := (Array.getElem?_eq_some_iff.mp hcell).1
  have hU := heapAt_setCell_self (s := (W.setVm vm₁).setVm vm₂) (plainBareV T.toThrowableT (freshCell P1.m.cls kX) a u0 sen msg) hlt
  refine ⟨_, st1 _ (fun acts => ?_), hrun, hended, hWU, hsame.weaken (fun y hy hlt' => ?_) (Nat.le_refl _) (Nat.le_refl _), _, hU, hfound, rfl⟩
  · rw [doInvoke_state]
    exact st2 _ hwalk
  · rcases List.mem_append.mp hy with h1 | h1
    · exact h1
    · exfalso
      have hb : y.base = a := by
        simp only [List.mem_cons, List.not_mem_nil, or_false] at h1
        rcases h1 with rfl | rfl | rfl | rfl | rfl <;> rfl
      rw [hb] at hlt'
      exact Nat.not_lt.mpr hnew hlt'
end GX
end
section
section GX2
variable {p : Program} {l : Launch} {e : Env} {R : Room} {s : State} {m : MethodId} {args : Array Value} {below : List Frame} {meth : Method} {c : Code} {A0 : Nat → Prop} {D : va_G}
variable {cc : ByteArray} {nL : Nat} {Ts : List Cond} {tys : List (ClassId × FieldType)} {lv : List (Option Value)} {pc : Nat} {st : List Value}
set_option maxHeartbeats 4000000 in
/-- 'throw new NoSuchElementException("there is none")' in a method of Stairflow that owes it -/
theorem g_throwNS (E : gE p s m args c "Stairflow" cc nL Ts D tys A0) {wc : va_W}
    (hfl : l.stackTraces = false) (hT : gKT A0 s s.heap) (hlk : meth.locks = false) (htb : ∀ x ∈ c.exceptionTable.toList, False) (hlv : lv.length = nL)
    (hk : Cond.classLink "Stairflow" 181 gNS ∈ Ts) (hini : Cond.initialized gNS ∈ Ts) (hw : ∀ w ∈ gNSat.filter goodWord, w ∈ Ts)
    (d0 : decode cc pc = .ok (.new 181, 3)) (d3 : decode cc (pc + 3) = .ok (.dup, 1)) (d4 : decode cc (pc + 4) = .ok (.ldc 183, 2)) (d6 : decode cc (pc + 6) = .ok (.invokespecial 185, 3)) (d9 : decode cc (pc + 9) = .ok (.athrow, 1))
    (hRf : 5 < R.frames) (hRl : (st.map fun v => v.category).sum + 82 ≤ R.locals) (hcs : 1 ≤ R.cells ∧ 6 ≤ R.slots) : gJ p l e R s m args below meth c 0 0 (gQT below args s D tys wc gNS A0) A0 D wc lv pc st := by
  obtain ⟨⟨hx, hb, hml, hown, hts⟩, hK, hA⟩ := E
  intro H locs ls hP hD hS hL
  have hbad := hT.bad (args := args) (cls := gNS) (by decide +kernel)
  obtain ⟨t1, t2, t3, t4, t5, t6⟩ := hT
  obtain ⟨sa, hsa⟩ := t3 (183, "there is none") (by decide +kernel)
  have hat0 : ∀ w ∈ gNSat, w.before args s = true := vx_hat (B := gBad gNS) (fun w h => hts w (hw w h)) (by decide +kernel) hbad
  have hgood : ∀ w ∈ Cond.classLink "Stairflow" 181 gNS :: Cond.initialized gNS :: gNSat, vx_ot w = true := by decide +kernel
  intro T hT X
  have htr : e.platform.stackTraces = false := (show e.platform.stackTraces = l.stackTraces by rw [X.admits.platform]).trans hfl
  have Y := vx_rebase X (R' := { frames := R.frames, locals := R.locals, cells := 1, slots := 6 }) (Nat.le_refl _) (Nat.le_refl _) (by simpa using hcs.1) (by simpa using hcs.2)
  obtain ⟨s', hA'⟩ : ∃ z, z = (T.setVm s.vm).setFrames (.invoking m args :: below) := ⟨_, rfl⟩
  rw [← hA'] at Y
  have hvm : s'.vm = s.vm := by rw [hA']; rfl
  have hhp : s'.heap = H := by rw [hA']; exact hT
  have hW0 : s.WarmedH s'.vm := by rw [hvm]; exact State.WarmedH.refl s
  have hat' : ∀ w ∈ gNSat, w.before args s' = true := fun w hw9 => vx_ot_at hW0 hvm.symm (hgood w (List.mem_cons_of_mem _ (List.mem_cons_of_mem _ hw9))) (hat0 w hw9)
  have hk' : (Cond.classLink "Stairflow" 181 gNS).before args s' = true := vx_ot_at hW0 hvm.symm (hgood _ List.mem_cons_self) (hts _ hk)
  have hini' : (Cond.initialized gNS).before args s' = true := vx_ot_at hW0 hvm.symm (hgood _ (List.mem_cons_of_mem _ List.mem_cons_self)) (hts _ hini)
  have hU' : vx_Zq Bundle.tN "UNASSIGNED_STACK" Bundle.steD A0 s' s'.heap := by rw [hhp]; exact vx_Zq.moved hW0.alike (t1.kept hS.2.1)
  have hN' : vx_Zq Bundle.tN "SUPPRESSED_SENTINEL" Bundle.listD A0 s' s'.heap := by rw [hhp]; exact vx_Zq.moved hW0.alike (t2.kept hS.2.1)
  have h : ∀ w ∈ gNSall, w.before args s' = true := vx_own hat' (vx_isRefq hU'.1) (vx_isRefq hN'.1) hU'.2.word hN'.2.word
  have hown' : s'.vm.findClass "Stairflow" = some m.cls := by rw [hvm]; exact hown
  have hins : (Cond.instantiable gNS 6).before args s' = true := gx_at (i := 1) h rfl
  obtain ⟨vm₁, cX, kX, hfX, hkX, -, -, X₁, st1⟩ := Y.newCold hx (own := "Stairflow") (C := gNS) (index := 181) (n := 6) hown' hk' hins hini'
    (g := F0 m pc ls st) rfl (by rw [hb]; exact d0) (Nat.le_refl _) (Nat.le_refl _)
  generalize hT1 : (T.setVm vm₁).pushCell { cls := cX, slots := kX.instanceTypes.map defaultValue, vm := .none } = T1 at X₁ st1
  have hcat : (Value.ref T.heap.size).category = 1 := rfl
  have hcellA : T1.heap[T.heap.size]? = some (freshCell cX kX) := by rw [← hT1]; exact State.heap_pushCell_size _ _
  have d3' : decode c.code (pc + 3) = .ok (.dup, 1) := by rw [hb]; exact d3
  have d4' : decode c.code (pc + 4) = .ok (.ldc 183, 2) := by rw [hb]; exact d4
  have hstr' : vk_R "Stairflow" 183 "there is none" sa s' := vk_R.warm hW0 hsa
  have hsize : ls.size = c.maxLocals := (hL.1.trans hlv).trans hml.symm
  obtain ⟨U, hsteps, hrun, hend, hW, hsame, ce, hce, hO, hOv⟩ := gx_ctor X₁ hx htr hown' h (fun x hx => nomatch hx) hfX hkX hcellA (by rw [hhp, hT]; exact Nat.le_refl _) (msg := .ref sa) rfl
    (g := { method := m, pc := pc + 6, locals := ls, stack := .ref sa :: .ref T.heap.size :: .ref T.heap.size :: st, locked := none }) rfl hsize rfl rfl (rest := st) rfl
    (by rw [hb]; exact d6) (by rw [hb]; exact d9) (fun x hx => (htb x hx).elim) hRf (by show 2 * 0 + _ + 81 ≤ _; simp only [List.map_cons, List.sum_cons, hcat]; omega) hlk
  obtain ⟨f1, f2⟩ := vx_frame hsame
  rw [hhp] at f1 f2
  have hWs : s.WarmedH U.vm := State.WarmedH.trans hW0 hW
  have hcl : s.vm.findClass gNS = some ce.cls := by
    rw [hvm] at hO
    exact hO
  have hall : s.sameButNew ({ U with vm := s.vm } : State) locs 1 6 := by
    subst hA'
    obtain ⟨e1, e2⟩ := hsame
    rw [State.setFrames_setFrames] at e1
    have h2 : (T.setVm s.vm).sameButNew ({ U with vm := s.vm } : State) [] (0 + 1) (0 + 6) := ⟨e1, e2⟩
    have h3 := X.same.trans h2
    rw [List.append_nil] at h3
    exact h3.mono (by simp) (by simp)
  have hk9 : ∀ q : Nat, q < H.size → U.heap[q]? = H[q]? := fun q hq => f2 q hq (fun z hz => nomatch hz)
  refine ⟨U, ?_, .threw T.heap.size, hrun, hend, Or.inr ⟨T.heap.size, rfl, gNS, ce, locs, ⟨(), trivial, ⟨rfl, Nat.le_trans (Nat.succ_le_succ hS.1) (by have h8 := (Array.getElem?_eq_some_iff.mp hce).1; rw [hT] at h8; exact h8), hP.kept (fun k q hk0 => hk9 q.1 (hP k q hk0).lt), va_K.moved hWs.alike hK, hD⟩, ⟨Nat.le_trans hS.1 f1, fun q h1 h2 => by rw [hk9 q (Nat.lt_of_lt_of_le h1 hS.1)]; exact hS.2.1 q h1 h2⟩⟩, hce, hOv, hcl, hWs, hall, hS.2.2⟩⟩
  refine st1 _ ?_
  show Steps p.tables e below (T1.setTop { method := m, pc := pc + 3, locals := ls, stack := .ref T.heap.size :: st, locked := none }) _
  jvm_step X₁.here [X₁.here.top, hx, d3', Value.category]
  exact X₁.ldcString hx (own := "Stairflow") (text := "there is none") (index := 183) (a := sa) hown' hstr'.1 hstr'.2
    (g := { method := m, pc := pc + 4, locals := ls, stack := .ref T.heap.size :: .ref T.heap.size :: st, locked := none }) rfl d4' _ hsteps
end GX2
end
section
theorem dX0_init_0 : decode cX0_init 0 = .ok (.aload_n 0, 1) := by decide +kernel
theorem dX0_init_1 : decode cX0_init 1 = .ok (.invokespecial 1, 3) := by decide +kernel
theorem dX0_init_4 : decode cX0_init 4 = .ok (.aload_n 0, 1) := by decide +kernel
theorem dX0_init_5 : decode cX0_init 5 = .ok (.bipush 11, 2) := by decide +kernel
theorem dX0_init_7 : decode cX0_init 7 = .ok (.newarray .int, 2) := by decide +kernel
theorem dX0_init_9 : decode cX0_init 9 = .ok (.putfield 9, 3) := by decide +kernel
theorem dX0_init_12 : decode cX0_init 12 = .ok (.aload_n 0, 1) := by decide +kernel
theorem dX0_init_13 : decode cX0_init 13 = .ok (.bipush 11, 2) := by decide +kernel
theorem dX0_init_15 : decode cX0_init 15 = .ok (.newarray .int, 2) := by decide +kernel
theorem dX0_init_17 : decode cX0_init 17 = .ok (.putfield 13, 3) := by decide +kernel
theorem dX0_init_20 : decode cX0_init 20 = .ok (.aload_n 0, 1) := by decide +kernel
theorem dX0_init_21 : decode cX0_init 21 = .ok (.bipush 11, 2) := by decide +kernel
theorem dX0_init_23 : decode cX0_init 23 = .ok (.newarray .int, 2) := by decide +kernel
theorem dX0_init_25 : decode cX0_init 25 = .ok (.putfield 16, 3) := by decide +kernel
theorem dX0_init_28 : decode cX0_init 28 = .ok (.aload_n 0, 1) := by decide +kernel
theorem dX0_init_29 : decode cX0_init 29 = .ok (.bipush 11, 2) := by decide +kernel
theorem dX0_init_31 : decode cX0_init 31 = .ok (.newarray .int, 2) := by decide +kernel
theorem dX0_init_33 : decode cX0_init 33 = .ok (.putfield 19, 3) := by decide +kernel
theorem dX0_init_36 : decode cX0_init 36 = .ok (.aload_n 0, 1) := by decide +kernel
theorem dX0_init_37 : decode cX0_init 37 = .ok (.bipush 11, 2) := by decide +kernel
theorem dX0_init_39 : decode cX0_init 39 = .ok (.newarray .int, 2) := by decide +kernel
theorem dX0_init_41 : decode cX0_init 41 = .ok (.putfield 22, 3) := by decide +kernel
theorem dX0_init_44 : decode cX0_init 44 = .ok (.aload_n 0, 1) := by decide +kernel
theorem dX0_init_45 : decode cX0_init 45 = .ok (.bipush 16, 2) := by decide +kernel
theorem dX0_init_47 : decode cX0_init 47 = .ok (.newarray .int, 2) := by decide +kernel
theorem dX0_init_49 : decode cX0_init 49 = .ok (.putfield 25, 3) := by decide +kernel
theorem dX0_init_52 : decode cX0_init 52 = .ok (.aload_n 0, 1) := by decide +kernel
theorem dX0_init_53 : decode cX0_init 53 = .ok (.bipush 16, 2) := by decide +kernel
theorem dX0_init_55 : decode cX0_init 55 = .ok (.newarray .int, 2) := by decide +kernel
theorem dX0_init_57 : decode cX0_init 57 = .ok (.putfield 28, 3) := by decide +kernel
theorem dX0_init_60 : decode cX0_init 60 = .ok (.aload_n 0, 1) := by decide +kernel
theorem dX0_init_61 : decode cX0_init 61 = .ok (.bipush 16, 2) := by decide +kernel
theorem dX0_init_63 : decode cX0_init 63 = .ok (.newarray .int, 2) := by decide +kernel
theorem dX0_init_65 : decode cX0_init 65 = .ok (.putfield 31, 3) := by decide +kernel
theorem dX0_init_68 : decode cX0_init 68 = .ok (.aload_n 0, 1) := by decide +kernel
theorem dX0_init_69 : decode cX0_init 69 = .ok (.bipush 16, 2) := by decide +kernel
theorem dX0_init_71 : decode cX0_init 71 = .ok (.newarray .int, 2) := by decide +kernel
theorem dX0_init_73 : decode cX0_init 73 = .ok (.putfield 34, 3) := by decide +kernel
theorem dX0_init_76 : decode cX0_init 76 = .ok (.aload_n 0, 1) := by decide +kernel
theorem dX0_init_77 : decode cX0_init 77 = .ok (.bipush 16, 2) := by decide +kernel
theorem dX0_init_79 : decode cX0_init 79 = .ok (.newarray .boolean, 2) := by decide +kernel
theorem dX0_init_81 : decode cX0_init 81 = .ok (.putfield 37, 3) := by decide +kernel
theorem dX0_init_84 : decode cX0_init 84 = .ok (.aload_n 0, 1) := by decide +kernel
theorem dX0_init_85 : decode cX0_init 85 = .ok (.bipush 16, 2) := by decide +kernel
theorem dX0_init_87 : decode cX0_init 87 = .ok (.newarray .int, 2) := by decide +kernel
theorem dX0_init_89 : decode cX0_init 89 = .ok (.putfield 41, 3) := by decide +kernel
theorem dX0_init_92 : decode cX0_init 92 = .ok (.aload_n 0, 1) := by decide +kernel
theorem dX0_init_93 : decode cX0_init 93 = .ok (.bipush 16, 2) := by decide +kernel
theorem dX0_init_95 : decode cX0_init 95 = .ok (.newarray .int, 2) := by decide +kernel
theorem dX0_init_97 : decode cX0_init 97 = .ok (.putfield 44, 3) := by decide +kernel
theorem dX0_init_100 : decode cX0_init 100 = .ok (.aload_n 0, 1) := by decide +kernel
theorem dX0_init_101 : decode cX0_init 101 = .ok (.bipush 16, 2) := by decide +kernel
theorem dX0_init_103 : decode cX0_init 103 = .ok (.newarray .int, 2) := by decide +kernel
theorem dX0_init_105 : decode cX0_init 105 = .ok (.putfield 47, 3) := by decide +kernel
theorem dX0_init_108 : decode cX0_init 108 = .ok (.aload_n 0, 1) := by decide +kernel
theorem dX0_init_109 : decode cX0_init 109 = .ok (.bipush 16, 2) := by decide +kernel
theorem dX0_init_111 : decode cX0_init 111 = .ok (.newarray .int, 2) := by decide +kernel
theorem dX0_init_113 : decode cX0_init 113 = .ok (.putfield 50, 3) := by decide +kernel
theorem dX0_init_116 : decode cX0_init 116 = .ok (.aload_n 0, 1) := by decide +kernel
theorem dX0_init_117 : decode cX0_init 117 = .ok (.iconst 1, 1) := by decide +kernel
theorem dX0_init_118 : decode cX0_init 118 = .ok (.putfield 53, 3) := by decide +kernel
theorem dX0_init_121 : decode cX0_init 121 = .ok (.aload_n 0, 1) := by decide +kernel
theorem dX0_init_122 : decode cX0_init 122 = .ok (.iconst (-1), 1) := by decide +kernel
theorem dX0_init_123 : decode cX0_init 123 = .ok (.putfield 57, 3) := by decide +kernel
theorem dX0_init_126 : decode cX0_init 126 = .ok (.aload_n 0, 1) := by decide +kernel
theorem dX0_init_127 : decode cX0_init 127 = .ok (.getfield 22, 3) := by decide +kernel
theorem dX0_init_130 : decode cX0_init 130 = .ok (.iconst 0, 1) := by decide +kernel
theorem dX0_init_131 : decode cX0_init 131 = .ok (.iconst (-1), 1) := by decide +kernel
theorem dX0_init_132 : decode cX0_init 132 = .ok (.iastore, 1) := by decide +kernel
theorem dX0_init_133 : decode cX0_init 133 = .ok (.return_, 1) := by decide +kernel
theorem dX0_addPlace_0 : decode cX0_addPlace 0 = .ok (.iload_n 1, 1) := by decide +kernel
theorem dX0_addPlace_1 : decode cX0_addPlace 1 = .ok (.iconst 1, 1) := by decide +kernel
theorem dX0_addPlace_2 : decode cX0_addPlace 2 = .ok (.bipush 30, 2) := by decide +kernel
theorem dX0_addPlace_4 : decode cX0_addPlace 4 = .ok (.invokestatic 60, 3) := by decide +kernel
theorem dX0_addPlace_7 : decode cX0_addPlace 7 = .ok (.invokestatic 64, 3) := by decide +kernel
theorem dX0_addPlace_10 : decode cX0_addPlace 10 = .ok (.aload_n 0, 1) := by decide +kernel
theorem dX0_addPlace_11 : decode cX0_addPlace 11 = .ok (.getfield 53, 3) := by decide +kernel
theorem dX0_addPlace_14 : decode cX0_addPlace 14 = .ok (.bipush 11, 2) := by decide +kernel
theorem dX0_addPlace_16 : decode cX0_addPlace 16 = .ok (.if_icmp .ge 7, 3) := by decide +kernel
theorem dX0_addPlace_19 : decode cX0_addPlace 19 = .ok (.iconst 1, 1) := by decide +kernel
theorem dX0_addPlace_20 : decode cX0_addPlace 20 = .ok (.goto 4, 3) := by decide +kernel
theorem dX0_addPlace_23 : decode cX0_addPlace 23 = .ok (.iconst 0, 1) := by decide +kernel
theorem dX0_addPlace_24 : decode cX0_addPlace 24 = .ok (.invokestatic 68, 3) := by decide +kernel
theorem dX0_addPlace_27 : decode cX0_addPlace 27 = .ok (.aload_n 0, 1) := by decide +kernel
theorem dX0_addPlace_28 : decode cX0_addPlace 28 = .ok (.getfield 53, 3) := by decide +kernel
theorem dX0_addPlace_31 : decode cX0_addPlace 31 = .ok (.istore_n 2, 1) := by decide +kernel
theorem dX0_addPlace_32 : decode cX0_addPlace 32 = .ok (.aload_n 0, 1) := by decide +kernel
theorem dX0_addPlace_33 : decode cX0_addPlace 33 = .ok (.getfield 9, 3) := by decide +kernel
theorem dX0_addPlace_36 : decode cX0_addPlace 36 = .ok (.iload_n 2, 1) := by decide +kernel
theorem dX0_addPlace_37 : decode cX0_addPlace 37 = .ok (.iload_n 1, 1) := by decide +kernel
theorem dX0_addPlace_38 : decode cX0_addPlace 38 = .ok (.iastore, 1) := by decide +kernel
theorem dX0_addPlace_39 : decode cX0_addPlace 39 = .ok (.aload_n 0, 1) := by decide +kernel
theorem dX0_addPlace_40 : decode cX0_addPlace 40 = .ok (.dup, 1) := by decide +kernel
theorem dX0_addPlace_41 : decode cX0_addPlace 41 = .ok (.getfield 53, 3) := by decide +kernel
theorem dX0_addPlace_44 : decode cX0_addPlace 44 = .ok (.iconst 1, 1) := by decide +kernel
theorem dX0_addPlace_45 : decode cX0_addPlace 45 = .ok (.iadd, 1) := by decide +kernel
theorem dX0_addPlace_46 : decode cX0_addPlace 46 = .ok (.putfield 53, 3) := by decide +kernel
theorem dX0_addPlace_49 : decode cX0_addPlace 49 = .ok (.aload_n 0, 1) := by decide +kernel
theorem dX0_addPlace_50 : decode cX0_addPlace 50 = .ok (.invokevirtual 71, 3) := by decide +kernel
theorem dX0_addPlace_53 : decode cX0_addPlace 53 = .ok (.iload_n 2, 1) := by decide +kernel
theorem dX0_addPlace_54 : decode cX0_addPlace 54 = .ok (.ireturn, 1) := by decide +kernel
theorem dX0_addDoor_0 : decode cX0_addDoor 0 = .ok (.aload_n 0, 1) := by decide +kernel
theorem dX0_addDoor_1 : decode cX0_addDoor 1 = .ok (.iload_n 1, 1) := by decide +kernel
theorem dX0_addDoor_2 : decode cX0_addDoor 2 = .ok (.invokevirtual 74, 3) := by decide +kernel
theorem dX0_addDoor_5 : decode cX0_addDoor 5 = .ok (.aload_n 0, 1) := by decide +kernel
theorem dX0_addDoor_6 : decode cX0_addDoor 6 = .ok (.iload_n 2, 1) := by decide +kernel
theorem dX0_addDoor_7 : decode cX0_addDoor 7 = .ok (.invokevirtual 74, 3) := by decide +kernel
theorem dX0_addDoor_10 : decode cX0_addDoor 10 = .ok (.iload_n 1, 1) := by decide +kernel
theorem dX0_addDoor_11 : decode cX0_addDoor 11 = .ok (.iload_n 2, 1) := by decide +kernel
theorem dX0_addDoor_12 : decode cX0_addDoor 12 = .ok (.if_icmp .eq 27, 3) := by decide +kernel
theorem dX0_addDoor_15 : decode cX0_addDoor 15 = .ok (.iload_n 3, 1) := by decide +kernel
theorem dX0_addDoor_16 : decode cX0_addDoor 16 = .ok (.iconst 1, 1) := by decide +kernel
theorem dX0_addDoor_17 : decode cX0_addDoor 17 = .ok (.bipush 9, 2) := by decide +kernel
theorem dX0_addDoor_19 : decode cX0_addDoor 19 = .ok (.invokestatic 60, 3) := by decide +kernel
theorem dX0_addDoor_22 : decode cX0_addDoor 22 = .ok (.ifCond .eq 17, 3) := by decide +kernel
theorem dX0_addDoor_25 : decode cX0_addDoor 25 = .ok (.iload 4, 2) := by decide +kernel
theorem dX0_addDoor_27 : decode cX0_addDoor 27 = .ok (.iconst 1, 1) := by decide +kernel
theorem dX0_addDoor_28 : decode cX0_addDoor 28 = .ok (.iconst 5, 1) := by decide +kernel
theorem dX0_addDoor_29 : decode cX0_addDoor 29 = .ok (.invokestatic 60, 3) := by decide +kernel
theorem dX0_addDoor_32 : decode cX0_addDoor 32 = .ok (.ifCond .eq 7, 3) := by decide +kernel
theorem dX0_addDoor_35 : decode cX0_addDoor 35 = .ok (.iconst 1, 1) := by decide +kernel
theorem dX0_addDoor_36 : decode cX0_addDoor 36 = .ok (.goto 4, 3) := by decide +kernel
theorem dX0_addDoor_39 : decode cX0_addDoor 39 = .ok (.iconst 0, 1) := by decide +kernel
theorem dX0_addDoor_40 : decode cX0_addDoor 40 = .ok (.invokestatic 64, 3) := by decide +kernel
theorem dX0_addDoor_43 : decode cX0_addDoor 43 = .ok (.aload_n 0, 1) := by decide +kernel
theorem dX0_addDoor_44 : decode cX0_addDoor 44 = .ok (.getfield 78, 3) := by decide +kernel
theorem dX0_addDoor_47 : decode cX0_addDoor 47 = .ok (.bipush 16, 2) := by decide +kernel
theorem dX0_addDoor_49 : decode cX0_addDoor 49 = .ok (.if_icmp .ge 7, 3) := by decide +kernel
theorem dX0_addDoor_52 : decode cX0_addDoor 52 = .ok (.iconst 1, 1) := by decide +kernel
theorem dX0_addDoor_53 : decode cX0_addDoor 53 = .ok (.goto 4, 3) := by decide +kernel
theorem dX0_addDoor_56 : decode cX0_addDoor 56 = .ok (.iconst 0, 1) := by decide +kernel
theorem dX0_addDoor_57 : decode cX0_addDoor 57 = .ok (.invokestatic 68, 3) := by decide +kernel
theorem dX0_addDoor_60 : decode cX0_addDoor 60 = .ok (.aload_n 0, 1) := by decide +kernel
theorem dX0_addDoor_61 : decode cX0_addDoor 61 = .ok (.getfield 78, 3) := by decide +kernel
theorem dX0_addDoor_64 : decode cX0_addDoor 64 = .ok (.istore 5, 2) := by decide +kernel
theorem dX0_addDoor_66 : decode cX0_addDoor 66 = .ok (.aload_n 0, 1) := by decide +kernel
theorem dX0_addDoor_67 : decode cX0_addDoor 67 = .ok (.getfield 25, 3) := by decide +kernel
theorem dX0_addDoor_70 : decode cX0_addDoor 70 = .ok (.iload 5, 2) := by decide +kernel
theorem dX0_addDoor_72 : decode cX0_addDoor 72 = .ok (.iload_n 1, 1) := by decide +kernel
theorem dX0_addDoor_73 : decode cX0_addDoor 73 = .ok (.iastore, 1) := by decide +kernel
theorem dX0_addDoor_74 : decode cX0_addDoor 74 = .ok (.aload_n 0, 1) := by decide +kernel
theorem dX0_addDoor_75 : decode cX0_addDoor 75 = .ok (.getfield 28, 3) := by decide +kernel
theorem dX0_addDoor_78 : decode cX0_addDoor 78 = .ok (.iload 5, 2) := by decide +kernel
theorem dX0_addDoor_80 : decode cX0_addDoor 80 = .ok (.iload_n 2, 1) := by decide +kernel
theorem dX0_addDoor_81 : decode cX0_addDoor 81 = .ok (.iastore, 1) := by decide +kernel
theorem dX0_addDoor_82 : decode cX0_addDoor 82 = .ok (.aload_n 0, 1) := by decide +kernel
theorem dX0_addDoor_83 : decode cX0_addDoor 83 = .ok (.getfield 31, 3) := by decide +kernel
theorem dX0_addDoor_86 : decode cX0_addDoor 86 = .ok (.iload 5, 2) := by decide +kernel
theorem dX0_addDoor_88 : decode cX0_addDoor 88 = .ok (.iload_n 3, 1) := by decide +kernel
theorem dX0_addDoor_89 : decode cX0_addDoor 89 = .ok (.iastore, 1) := by decide +kernel
theorem dX0_addDoor_90 : decode cX0_addDoor 90 = .ok (.aload_n 0, 1) := by decide +kernel
theorem dX0_addDoor_91 : decode cX0_addDoor 91 = .ok (.getfield 34, 3) := by decide +kernel
theorem dX0_addDoor_94 : decode cX0_addDoor 94 = .ok (.iload 5, 2) := by decide +kernel
theorem dX0_addDoor_96 : decode cX0_addDoor 96 = .ok (.iload 4, 2) := by decide +kernel
theorem dX0_addDoor_98 : decode cX0_addDoor 98 = .ok (.iastore, 1) := by decide +kernel
theorem dX0_addDoor_99 : decode cX0_addDoor 99 = .ok (.aload_n 0, 1) := by decide +kernel
theorem dX0_addDoor_100 : decode cX0_addDoor 100 = .ok (.getfield 37, 3) := by decide +kernel
theorem dX0_addDoor_103 : decode cX0_addDoor 103 = .ok (.iload 5, 2) := by decide +kernel
theorem dX0_addDoor_105 : decode cX0_addDoor 105 = .ok (.iconst 1, 1) := by decide +kernel
theorem dX0_addDoor_106 : decode cX0_addDoor 106 = .ok (.bastore, 1) := by decide +kernel
theorem dX0_addDoor_107 : decode cX0_addDoor 107 = .ok (.aload_n 0, 1) := by decide +kernel
theorem dX0_addDoor_108 : decode cX0_addDoor 108 = .ok (.dup, 1) := by decide +kernel
theorem dX0_addDoor_109 : decode cX0_addDoor 109 = .ok (.getfield 78, 3) := by decide +kernel
theorem dX0_addDoor_112 : decode cX0_addDoor 112 = .ok (.iconst 1, 1) := by decide +kernel
theorem dX0_addDoor_113 : decode cX0_addDoor 113 = .ok (.iadd, 1) := by decide +kernel
theorem dX0_addDoor_114 : decode cX0_addDoor 114 = .ok (.putfield 78, 3) := by decide +kernel
theorem dX0_addDoor_117 : decode cX0_addDoor 117 = .ok (.aload_n 0, 1) := by decide +kernel
theorem dX0_addDoor_118 : decode cX0_addDoor 118 = .ok (.invokevirtual 71, 3) := by decide +kernel
theorem dX0_addDoor_121 : decode cX0_addDoor 121 = .ok (.iload 5, 2) := by decide +kernel
theorem dX0_addDoor_123 : decode cX0_addDoor 123 = .ok (.ireturn, 1) := by decide +kernel
theorem dX0_setDoor_0 : decode cX0_setDoor 0 = .ok (.aload_n 0, 1) := by decide +kernel
theorem dX0_setDoor_1 : decode cX0_setDoor 1 = .ok (.iload_n 1, 1) := by decide +kernel
theorem dX0_setDoor_2 : decode cX0_setDoor 2 = .ok (.invokevirtual 81, 3) := by decide +kernel
theorem dX0_setDoor_5 : decode cX0_setDoor 5 = .ok (.aload_n 0, 1) := by decide +kernel
theorem dX0_setDoor_6 : decode cX0_setDoor 6 = .ok (.getfield 37, 3) := by decide +kernel
theorem dX0_setDoor_9 : decode cX0_setDoor 9 = .ok (.iload_n 1, 1) := by decide +kernel
theorem dX0_setDoor_10 : decode cX0_setDoor 10 = .ok (.baload, 1) := by decide +kernel
theorem dX0_setDoor_11 : decode cX0_setDoor 11 = .ok (.istore_n 3, 1) := by decide +kernel
theorem dX0_setDoor_12 : decode cX0_setDoor 12 = .ok (.aload_n 0, 1) := by decide +kernel
theorem dX0_setDoor_13 : decode cX0_setDoor 13 = .ok (.getfield 37, 3) := by decide +kernel
theorem dX0_setDoor_16 : decode cX0_setDoor 16 = .ok (.iload_n 1, 1) := by decide +kernel
theorem dX0_setDoor_17 : decode cX0_setDoor 17 = .ok (.iload_n 2, 1) := by decide +kernel
theorem dX0_setDoor_18 : decode cX0_setDoor 18 = .ok (.bastore, 1) := by decide +kernel
theorem dX0_setDoor_19 : decode cX0_setDoor 19 = .ok (.aload_n 0, 1) := by decide +kernel
theorem dX0_setDoor_20 : decode cX0_setDoor 20 = .ok (.invokevirtual 71, 3) := by decide +kernel
theorem dX0_setDoor_23 : decode cX0_setDoor 23 = .ok (.iload_n 3, 1) := by decide +kernel
theorem dX0_setDoor_24 : decode cX0_setDoor 24 = .ok (.ireturn, 1) := by decide +kernel
theorem dX0_come_0 : decode cX0_come 0 = .ok (.aload_n 0, 1) := by decide +kernel
theorem dX0_come_1 : decode cX0_come 1 = .ok (.iload_n 1, 1) := by decide +kernel
theorem dX0_come_2 : decode cX0_come 2 = .ok (.invokevirtual 74, 3) := by decide +kernel
theorem dX0_come_5 : decode cX0_come 5 = .ok (.iload_n 1, 1) := by decide +kernel
theorem dX0_come_6 : decode cX0_come 6 = .ok (.ifCond .eq 17, 3) := by decide +kernel
theorem dX0_come_9 : decode cX0_come 9 = .ok (.iload_n 2, 1) := by decide +kernel
theorem dX0_come_10 : decode cX0_come 10 = .ok (.iconst 1, 1) := by decide +kernel
theorem dX0_come_11 : decode cX0_come 11 = .ok (.bipush 30, 2) := by decide +kernel
theorem dX0_come_13 : decode cX0_come 13 = .ok (.invokestatic 60, 3) := by decide +kernel
theorem dX0_come_16 : decode cX0_come 16 = .ok (.ifCond .eq 7, 3) := by decide +kernel
theorem dX0_come_19 : decode cX0_come 19 = .ok (.iconst 1, 1) := by decide +kernel
theorem dX0_come_20 : decode cX0_come 20 = .ok (.goto 4, 3) := by decide +kernel
theorem dX0_come_23 : decode cX0_come 23 = .ok (.iconst 0, 1) := by decide +kernel
theorem dX0_come_24 : decode cX0_come 24 = .ok (.invokestatic 64, 3) := by decide +kernel
theorem dX0_come_27 : decode cX0_come 27 = .ok (.iload_n 2, 1) := by decide +kernel
theorem dX0_come_28 : decode cX0_come 28 = .ok (.aload_n 0, 1) := by decide +kernel
theorem dX0_come_29 : decode cX0_come 29 = .ok (.iload_n 1, 1) := by decide +kernel
theorem dX0_come_30 : decode cX0_come 30 = .ok (.invokevirtual 84, 3) := by decide +kernel
theorem dX0_come_33 : decode cX0_come 33 = .ok (.if_icmp .gt 7, 3) := by decide +kernel
theorem dX0_come_36 : decode cX0_come 36 = .ok (.iconst 1, 1) := by decide +kernel
theorem dX0_come_37 : decode cX0_come 37 = .ok (.goto 4, 3) := by decide +kernel
theorem dX0_come_40 : decode cX0_come 40 = .ok (.iconst 0, 1) := by decide +kernel
theorem dX0_come_41 : decode cX0_come 41 = .ok (.invokestatic 68, 3) := by decide +kernel
theorem dX0_come_44 : decode cX0_come 44 = .ok (.aload_n 0, 1) := by decide +kernel
theorem dX0_come_45 : decode cX0_come 45 = .ok (.getfield 13, 3) := by decide +kernel
theorem dX0_come_48 : decode cX0_come 48 = .ok (.iload_n 1, 1) := by decide +kernel
theorem dX0_come_49 : decode cX0_come 49 = .ok (.dup2, 1) := by decide +kernel
theorem dX0_come_50 : decode cX0_come 50 = .ok (.iaload, 1) := by decide +kernel
theorem dX0_come_51 : decode cX0_come 51 = .ok (.iload_n 2, 1) := by decide +kernel
theorem dX0_come_52 : decode cX0_come 52 = .ok (.iadd, 1) := by decide +kernel
theorem dX0_come_53 : decode cX0_come 53 = .ok (.iastore, 1) := by decide +kernel
theorem dX0_come_54 : decode cX0_come 54 = .ok (.aload_n 0, 1) := by decide +kernel
theorem dX0_come_55 : decode cX0_come 55 = .ok (.getfield 13, 3) := by decide +kernel
theorem dX0_come_58 : decode cX0_come 58 = .ok (.iload_n 1, 1) := by decide +kernel
theorem dX0_come_59 : decode cX0_come 59 = .ok (.iaload, 1) := by decide +kernel
theorem dX0_come_60 : decode cX0_come 60 = .ok (.ireturn, 1) := by decide +kernel
theorem dX0_setRelease_0 : decode cX0_setRelease 0 = .ok (.aload_n 0, 1) := by decide +kernel
theorem dX0_setRelease_1 : decode cX0_setRelease 1 = .ok (.iload_n 1, 1) := by decide +kernel
theorem dX0_setRelease_2 : decode cX0_setRelease 2 = .ok (.invokevirtual 74, 3) := by decide +kernel
theorem dX0_setRelease_5 : decode cX0_setRelease 5 = .ok (.iload_n 2, 1) := by decide +kernel
theorem dX0_setRelease_6 : decode cX0_setRelease 6 = .ok (.iconst 0, 1) := by decide +kernel
theorem dX0_setRelease_7 : decode cX0_setRelease 7 = .ok (.sipush 1000, 3) := by decide +kernel
theorem dX0_setRelease_10 : decode cX0_setRelease 10 = .ok (.invokestatic 60, 3) := by decide +kernel
theorem dX0_setRelease_13 : decode cX0_setRelease 13 = .ok (.invokestatic 64, 3) := by decide +kernel
theorem dX0_setRelease_16 : decode cX0_setRelease 16 = .ok (.aload_n 0, 1) := by decide +kernel
theorem dX0_setRelease_17 : decode cX0_setRelease 17 = .ok (.getfield 16, 3) := by decide +kernel
theorem dX0_setRelease_20 : decode cX0_setRelease 20 = .ok (.iload_n 1, 1) := by decide +kernel
theorem dX0_setRelease_21 : decode cX0_setRelease 21 = .ok (.iaload, 1) := by decide +kernel
theorem dX0_setRelease_22 : decode cX0_setRelease 22 = .ok (.istore_n 3, 1) := by decide +kernel
theorem dX0_setRelease_23 : decode cX0_setRelease 23 = .ok (.aload_n 0, 1) := by decide +kernel
theorem dX0_setRelease_24 : decode cX0_setRelease 24 = .ok (.getfield 16, 3) := by decide +kernel
theorem dX0_setRelease_27 : decode cX0_setRelease 27 = .ok (.iload_n 1, 1) := by decide +kernel
theorem dX0_setRelease_28 : decode cX0_setRelease 28 = .ok (.iload_n 2, 1) := by decide +kernel
theorem dX0_setRelease_29 : decode cX0_setRelease 29 = .ok (.iastore, 1) := by decide +kernel
theorem dX0_setRelease_30 : decode cX0_setRelease 30 = .ok (.iload_n 3, 1) := by decide +kernel
theorem dX0_setRelease_31 : decode cX0_setRelease 31 = .ok (.ireturn, 1) := by decide +kernel
theorem dX0_places_0 : decode cX0_places 0 = .ok (.aload_n 0, 1) := by decide +kernel
theorem dX0_places_1 : decode cX0_places 1 = .ok (.getfield 53, 3) := by decide +kernel
theorem dX0_places_4 : decode cX0_places 4 = .ok (.ireturn, 1) := by decide +kernel
theorem dX0_doors_0 : decode cX0_doors 0 = .ok (.aload_n 0, 1) := by decide +kernel
theorem dX0_doors_1 : decode cX0_doors 1 = .ok (.getfield 78, 3) := by decide +kernel
theorem dX0_doors_4 : decode cX0_doors 4 = .ok (.ireturn, 1) := by decide +kernel
theorem dX0_step_0 : decode cX0_step 0 = .ok (.iload_n 1, 1) := by decide +kernel
theorem dX0_step_1 : decode cX0_step 1 = .ok (.iconst 1, 1) := by decide +kernel
theorem dX0_step_2 : decode cX0_step 2 = .ok (.bipush 50, 2) := by decide +kernel
theorem dX0_step_4 : decode cX0_step 4 = .ok (.invokestatic 60, 3) := by decide +kernel
theorem dX0_step_7 : decode cX0_step 7 = .ok (.invokestatic 64, 3) := by decide +kernel
theorem dX0_step_10 : decode cX0_step 10 = .ok (.aload_n 0, 1) := by decide +kernel
theorem dX0_step_11 : decode cX0_step 11 = .ok (.getfield 13, 3) := by decide +kernel
theorem dX0_step_14 : decode cX0_step 14 = .ok (.iconst 0, 1) := by decide +kernel
theorem dX0_step_15 : decode cX0_step 15 = .ok (.iaload, 1) := by decide +kernel
theorem dX0_step_16 : decode cX0_step 16 = .ok (.istore_n 2, 1) := by decide +kernel
theorem dX0_step_17 : decode cX0_step 17 = .ok (.iconst 0, 1) := by decide +kernel
theorem dX0_step_18 : decode cX0_step 18 = .ok (.istore_n 3, 1) := by decide +kernel
theorem dX0_step_19 : decode cX0_step 19 = .ok (.iload_n 3, 1) := by decide +kernel
theorem dX0_step_20 : decode cX0_step 20 = .ok (.iload_n 1, 1) := by decide +kernel
theorem dX0_step_21 : decode cX0_step 21 = .ok (.if_icmp .ge 14, 3) := by decide +kernel
theorem dX0_step_24 : decode cX0_step 24 = .ok (.aload_n 0, 1) := by decide +kernel
theorem dX0_step_25 : decode cX0_step 25 = .ok (.invokevirtual 88, 3) := by decide +kernel
theorem dX0_step_28 : decode cX0_step 28 = .ok (.pop, 1) := by decide +kernel
theorem dX0_step_29 : decode cX0_step 29 = .ok (.iinc 3 1, 3) := by decide +kernel
theorem dX0_step_32 : decode cX0_step 32 = .ok (.goto (-13), 3) := by decide +kernel
theorem dX0_step_35 : decode cX0_step 35 = .ok (.aload_n 0, 1) := by decide +kernel
theorem dX0_step_36 : decode cX0_step 36 = .ok (.getfield 13, 3) := by decide +kernel
theorem dX0_step_39 : decode cX0_step 39 = .ok (.iconst 0, 1) := by decide +kernel
theorem dX0_step_40 : decode cX0_step 40 = .ok (.iaload, 1) := by decide +kernel
theorem dX0_step_41 : decode cX0_step 41 = .ok (.iload_n 2, 1) := by decide +kernel
theorem dX0_step_42 : decode cX0_step 42 = .ok (.isub, 1) := by decide +kernel
theorem dX0_step_43 : decode cX0_step 43 = .ok (.ireturn, 1) := by decide +kernel
theorem dX0_clear_0 : decode cX0_clear 0 = .ok (.iconst 0, 1) := by decide +kernel
theorem dX0_clear_1 : decode cX0_clear 1 = .ok (.istore_n 1, 1) := by decide +kernel
theorem dX0_clear_2 : decode cX0_clear 2 = .ok (.iconst 0, 1) := by decide +kernel
theorem dX0_clear_3 : decode cX0_clear 3 = .ok (.istore_n 2, 1) := by decide +kernel
theorem dX0_clear_4 : decode cX0_clear 4 = .ok (.iload_n 1, 1) := by decide +kernel
theorem dX0_clear_5 : decode cX0_clear 5 = .ok (.sipush 300, 3) := by decide +kernel
theorem dX0_clear_8 : decode cX0_clear 8 = .ok (.if_icmp .ge 46, 3) := by decide +kernel
theorem dX0_clear_11 : decode cX0_clear 11 = .ok (.iload_n 2, 1) := by decide +kernel
theorem dX0_clear_12 : decode cX0_clear 12 = .ok (.ifCond .ne 42, 3) := by decide +kernel
theorem dX0_clear_15 : decode cX0_clear 15 = .ok (.aload_n 0, 1) := by decide +kernel
theorem dX0_clear_16 : decode cX0_clear 16 = .ok (.invokevirtual 92, 3) := by decide +kernel
theorem dX0_clear_19 : decode cX0_clear 19 = .ok (.ifCond .le 35, 3) := by decide +kernel
theorem dX0_clear_22 : decode cX0_clear 22 = .ok (.aload_n 0, 1) := by decide +kernel
theorem dX0_clear_23 : decode cX0_clear 23 = .ok (.invokevirtual 95, 3) := by decide +kernel
theorem dX0_clear_26 : decode cX0_clear 26 = .ok (.istore_n 3, 1) := by decide +kernel
theorem dX0_clear_27 : decode cX0_clear 27 = .ok (.aload_n 0, 1) := by decide +kernel
theorem dX0_clear_28 : decode cX0_clear 28 = .ok (.invokevirtual 88, 3) := by decide +kernel
theorem dX0_clear_31 : decode cX0_clear 31 = .ok (.istore 4, 2) := by decide +kernel
theorem dX0_clear_33 : decode cX0_clear 33 = .ok (.iload 4, 2) := by decide +kernel
theorem dX0_clear_35 : decode cX0_clear 35 = .ok (.ifCond .ne 11, 3) := by decide +kernel
theorem dX0_clear_38 : decode cX0_clear 38 = .ok (.iload_n 3, 1) := by decide +kernel
theorem dX0_clear_39 : decode cX0_clear 39 = .ok (.ifCond .eq 7, 3) := by decide +kernel
theorem dX0_clear_42 : decode cX0_clear 42 = .ok (.iconst 1, 1) := by decide +kernel
theorem dX0_clear_43 : decode cX0_clear 43 = .ok (.goto 4, 3) := by decide +kernel
theorem dX0_clear_46 : decode cX0_clear 46 = .ok (.iconst 0, 1) := by decide +kernel
theorem dX0_clear_47 : decode cX0_clear 47 = .ok (.istore_n 2, 1) := by decide +kernel
theorem dX0_clear_48 : decode cX0_clear 48 = .ok (.iinc 1 1, 3) := by decide +kernel
theorem dX0_clear_51 : decode cX0_clear 51 = .ok (.goto (-47), 3) := by decide +kernel
theorem dX0_clear_54 : decode cX0_clear 54 = .ok (.iload_n 1, 1) := by decide +kernel
theorem dX0_clear_55 : decode cX0_clear 55 = .ok (.ireturn, 1) := by decide +kernel
theorem dX0_now_0 : decode cX0_now 0 = .ok (.aload_n 0, 1) := by decide +kernel
theorem dX0_now_1 : decode cX0_now 1 = .ok (.getfield 99, 3) := by decide +kernel
theorem dX0_now_4 : decode cX0_now 4 = .ok (.ireturn, 1) := by decide +kernel
theorem dX0_people_0 : decode cX0_people 0 = .ok (.aload_n 0, 1) := by decide +kernel
theorem dX0_people_1 : decode cX0_people 1 = .ok (.iload_n 1, 1) := by decide +kernel
theorem dX0_people_2 : decode cX0_people 2 = .ok (.invokevirtual 74, 3) := by decide +kernel
theorem dX0_people_5 : decode cX0_people 5 = .ok (.aload_n 0, 1) := by decide +kernel
theorem dX0_people_6 : decode cX0_people 6 = .ok (.getfield 13, 3) := by decide +kernel
theorem dX0_people_9 : decode cX0_people 9 = .ok (.iload_n 1, 1) := by decide +kernel
theorem dX0_people_10 : decode cX0_people 10 = .ok (.iaload, 1) := by decide +kernel
theorem dX0_people_11 : decode cX0_people 11 = .ok (.ireturn, 1) := by decide +kernel
theorem dX0_inside_0 : decode cX0_inside 0 = .ok (.iconst 0, 1) := by decide +kernel
theorem dX0_inside_1 : decode cX0_inside 1 = .ok (.istore_n 1, 1) := by decide +kernel
theorem dX0_inside_2 : decode cX0_inside 2 = .ok (.iconst 1, 1) := by decide +kernel
theorem dX0_inside_3 : decode cX0_inside 3 = .ok (.istore_n 2, 1) := by decide +kernel
theorem dX0_inside_4 : decode cX0_inside 4 = .ok (.iload_n 2, 1) := by decide +kernel
theorem dX0_inside_5 : decode cX0_inside 5 = .ok (.aload_n 0, 1) := by decide +kernel
theorem dX0_inside_6 : decode cX0_inside 6 = .ok (.getfield 53, 3) := by decide +kernel
theorem dX0_inside_9 : decode cX0_inside 9 = .ok (.if_icmp .ge 18, 3) := by decide +kernel
theorem dX0_inside_12 : decode cX0_inside 12 = .ok (.iload_n 1, 1) := by decide +kernel
theorem dX0_inside_13 : decode cX0_inside 13 = .ok (.aload_n 0, 1) := by decide +kernel
theorem dX0_inside_14 : decode cX0_inside 14 = .ok (.getfield 13, 3) := by decide +kernel
theorem dX0_inside_17 : decode cX0_inside 17 = .ok (.iload_n 2, 1) := by decide +kernel
theorem dX0_inside_18 : decode cX0_inside 18 = .ok (.iaload, 1) := by decide +kernel
theorem dX0_inside_19 : decode cX0_inside 19 = .ok (.iadd, 1) := by decide +kernel
theorem dX0_inside_20 : decode cX0_inside 20 = .ok (.istore_n 1, 1) := by decide +kernel
theorem dX0_inside_21 : decode cX0_inside 21 = .ok (.iinc 2 1, 3) := by decide +kernel
theorem dX0_inside_24 : decode cX0_inside 24 = .ok (.goto (-20), 3) := by decide +kernel
theorem dX0_inside_27 : decode cX0_inside 27 = .ok (.iload_n 1, 1) := by decide +kernel
theorem dX0_inside_28 : decode cX0_inside 28 = .ok (.ireturn, 1) := by decide +kernel
theorem dX0_latest_0 : decode cX0_latest 0 = .ok (.aload_n 0, 1) := by decide +kernel
theorem dX0_latest_1 : decode cX0_latest 1 = .ok (.getfield 57, 3) := by decide +kernel
theorem dX0_latest_4 : decode cX0_latest 4 = .ok (.iconst (-1), 1) := by decide +kernel
theorem dX0_latest_5 : decode cX0_latest 5 = .ok (.if_icmp .eq 7, 3) := by decide +kernel
theorem dX0_latest_8 : decode cX0_latest 8 = .ok (.iconst 1, 1) := by decide +kernel
theorem dX0_latest_9 : decode cX0_latest 9 = .ok (.goto 4, 3) := by decide +kernel
theorem dX0_latest_12 : decode cX0_latest 12 = .ok (.iconst 0, 1) := by decide +kernel
theorem dX0_latest_13 : decode cX0_latest 13 = .ok (.invokestatic 102, 3) := by decide +kernel
theorem dX0_latest_16 : decode cX0_latest 16 = .ok (.aload_n 0, 1) := by decide +kernel
theorem dX0_latest_17 : decode cX0_latest 17 = .ok (.getfield 57, 3) := by decide +kernel
theorem dX0_latest_20 : decode cX0_latest 20 = .ok (.ireturn, 1) := by decide +kernel
theorem dX0_passed_0 : decode cX0_passed 0 = .ok (.aload_n 0, 1) := by decide +kernel
theorem dX0_passed_1 : decode cX0_passed 1 = .ok (.iload_n 1, 1) := by decide +kernel
theorem dX0_passed_2 : decode cX0_passed 2 = .ok (.invokevirtual 81, 3) := by decide +kernel
theorem dX0_passed_5 : decode cX0_passed 5 = .ok (.aload_n 0, 1) := by decide +kernel
theorem dX0_passed_6 : decode cX0_passed 6 = .ok (.getfield 41, 3) := by decide +kernel
theorem dX0_passed_9 : decode cX0_passed 9 = .ok (.iload_n 1, 1) := by decide +kernel
theorem dX0_passed_10 : decode cX0_passed 10 = .ok (.iaload, 1) := by decide +kernel
theorem dX0_passed_11 : decode cX0_passed 11 = .ok (.ireturn, 1) := by decide +kernel
theorem dX0_waited_0 : decode cX0_waited 0 = .ok (.aload_n 0, 1) := by decide +kernel
theorem dX0_waited_1 : decode cX0_waited 1 = .ok (.getfield 105, 3) := by decide +kernel
theorem dX0_waited_4 : decode cX0_waited 4 = .ok (.ireturn, 1) := by decide +kernel
theorem dX0_distance_0 : decode cX0_distance 0 = .ok (.aload_n 0, 1) := by decide +kernel
theorem dX0_distance_1 : decode cX0_distance 1 = .ok (.iload_n 1, 1) := by decide +kernel
theorem dX0_distance_2 : decode cX0_distance 2 = .ok (.invokevirtual 74, 3) := by decide +kernel
theorem dX0_distance_5 : decode cX0_distance 5 = .ok (.aload_n 0, 1) := by decide +kernel
theorem dX0_distance_6 : decode cX0_distance 6 = .ok (.getfield 19, 3) := by decide +kernel
theorem dX0_distance_9 : decode cX0_distance 9 = .ok (.iload_n 1, 1) := by decide +kernel
theorem dX0_distance_10 : decode cX0_distance 10 = .ok (.iaload, 1) := by decide +kernel
theorem dX0_distance_11 : decode cX0_distance 11 = .ok (.iconst (-1), 1) := by decide +kernel
theorem dX0_distance_12 : decode cX0_distance 12 = .ok (.if_icmp .eq 7, 3) := by decide +kernel
theorem dX0_distance_15 : decode cX0_distance 15 = .ok (.iconst 1, 1) := by decide +kernel
theorem dX0_distance_16 : decode cX0_distance 16 = .ok (.goto 4, 3) := by decide +kernel
theorem dX0_distance_19 : decode cX0_distance 19 = .ok (.iconst 0, 1) := by decide +kernel
theorem dX0_distance_20 : decode cX0_distance 20 = .ok (.invokestatic 102, 3) := by decide +kernel
theorem dX0_distance_23 : decode cX0_distance 23 = .ok (.aload_n 0, 1) := by decide +kernel
theorem dX0_distance_24 : decode cX0_distance 24 = .ok (.getfield 19, 3) := by decide +kernel
theorem dX0_distance_27 : decode cX0_distance 27 = .ok (.iload_n 1, 1) := by decide +kernel
theorem dX0_distance_28 : decode cX0_distance 28 = .ok (.iaload, 1) := by decide +kernel
theorem dX0_distance_29 : decode cX0_distance 29 = .ok (.ireturn, 1) := by decide +kernel
theorem dX0_door_0 : decode cX0_door 0 = .ok (.aload_n 0, 1) := by decide +kernel
theorem dX0_door_1 : decode cX0_door 1 = .ok (.iload_n 1, 1) := by decide +kernel
theorem dX0_door_2 : decode cX0_door 2 = .ok (.invokevirtual 74, 3) := by decide +kernel
theorem dX0_door_5 : decode cX0_door 5 = .ok (.aload_n 0, 1) := by decide +kernel
theorem dX0_door_6 : decode cX0_door 6 = .ok (.getfield 22, 3) := by decide +kernel
theorem dX0_door_9 : decode cX0_door 9 = .ok (.iload_n 1, 1) := by decide +kernel
theorem dX0_door_10 : decode cX0_door 10 = .ok (.iaload, 1) := by decide +kernel
theorem dX0_door_11 : decode cX0_door 11 = .ok (.iconst (-1), 1) := by decide +kernel
theorem dX0_door_12 : decode cX0_door 12 = .ok (.if_icmp .eq 7, 3) := by decide +kernel
theorem dX0_door_15 : decode cX0_door 15 = .ok (.iconst 1, 1) := by decide +kernel
theorem dX0_door_16 : decode cX0_door 16 = .ok (.goto 4, 3) := by decide +kernel
theorem dX0_door_19 : decode cX0_door 19 = .ok (.iconst 0, 1) := by decide +kernel
theorem dX0_door_20 : decode cX0_door 20 = .ok (.invokestatic 102, 3) := by decide +kernel
theorem dX0_door_23 : decode cX0_door 23 = .ok (.aload_n 0, 1) := by decide +kernel
theorem dX0_door_24 : decode cX0_door 24 = .ok (.getfield 22, 3) := by decide +kernel
theorem dX0_door_27 : decode cX0_door 27 = .ok (.iload_n 1, 1) := by decide +kernel
theorem dX0_door_28 : decode cX0_door 28 = .ok (.iaload, 1) := by decide +kernel
theorem dX0_door_29 : decode cX0_door 29 = .ok (.ireturn, 1) := by decide +kernel
theorem dX0_trapped_0 : decode cX0_trapped 0 = .ok (.iconst 0, 1) := by decide +kernel
theorem dX0_trapped_1 : decode cX0_trapped 1 = .ok (.istore_n 1, 1) := by decide +kernel
theorem dX0_trapped_2 : decode cX0_trapped 2 = .ok (.iconst 1, 1) := by decide +kernel
theorem dX0_trapped_3 : decode cX0_trapped 3 = .ok (.istore_n 2, 1) := by decide +kernel
theorem dX0_trapped_4 : decode cX0_trapped 4 = .ok (.iload_n 2, 1) := by decide +kernel
theorem dX0_trapped_5 : decode cX0_trapped 5 = .ok (.aload_n 0, 1) := by decide +kernel
theorem dX0_trapped_6 : decode cX0_trapped 6 = .ok (.getfield 53, 3) := by decide +kernel
theorem dX0_trapped_9 : decode cX0_trapped 9 = .ok (.if_icmp .ge 28, 3) := by decide +kernel
theorem dX0_trapped_12 : decode cX0_trapped 12 = .ok (.aload_n 0, 1) := by decide +kernel
theorem dX0_trapped_13 : decode cX0_trapped 13 = .ok (.getfield 19, 3) := by decide +kernel
theorem dX0_trapped_16 : decode cX0_trapped 16 = .ok (.iload_n 2, 1) := by decide +kernel
theorem dX0_trapped_17 : decode cX0_trapped 17 = .ok (.iaload, 1) := by decide +kernel
theorem dX0_trapped_18 : decode cX0_trapped 18 = .ok (.iconst (-1), 1) := by decide +kernel
theorem dX0_trapped_19 : decode cX0_trapped 19 = .ok (.if_icmp .ne 12, 3) := by decide +kernel
theorem dX0_trapped_22 : decode cX0_trapped 22 = .ok (.iload_n 1, 1) := by decide +kernel
theorem dX0_trapped_23 : decode cX0_trapped 23 = .ok (.aload_n 0, 1) := by decide +kernel
theorem dX0_trapped_24 : decode cX0_trapped 24 = .ok (.getfield 13, 3) := by decide +kernel
theorem dX0_trapped_27 : decode cX0_trapped 27 = .ok (.iload_n 2, 1) := by decide +kernel
theorem dX0_trapped_28 : decode cX0_trapped 28 = .ok (.iaload, 1) := by decide +kernel
theorem dX0_trapped_29 : decode cX0_trapped 29 = .ok (.iadd, 1) := by decide +kernel
theorem dX0_trapped_30 : decode cX0_trapped 30 = .ok (.istore_n 1, 1) := by decide +kernel
theorem dX0_trapped_31 : decode cX0_trapped 31 = .ok (.iinc 2 1, 3) := by decide +kernel
theorem dX0_trapped_34 : decode cX0_trapped 34 = .ok (.goto (-30), 3) := by decide +kernel
theorem dX0_trapped_37 : decode cX0_trapped 37 = .ok (.iload_n 1, 1) := by decide +kernel
theorem dX0_trapped_38 : decode cX0_trapped 38 = .ok (.ireturn, 1) := by decide +kernel
theorem dX0_wouldMove_0 : decode cX0_wouldMove 0 = .ok (.aload_n 0, 1) := by decide +kernel
theorem dX0_wouldMove_1 : decode cX0_wouldMove 1 = .ok (.iload_n 1, 1) := by decide +kernel
theorem dX0_wouldMove_2 : decode cX0_wouldMove 2 = .ok (.invokevirtual 74, 3) := by decide +kernel
theorem dX0_wouldMove_5 : decode cX0_wouldMove 5 = .ok (.aload_n 0, 1) := by decide +kernel
theorem dX0_wouldMove_6 : decode cX0_wouldMove 6 = .ok (.getfield 22, 3) := by decide +kernel
theorem dX0_wouldMove_9 : decode cX0_wouldMove 9 = .ok (.iload_n 1, 1) := by decide +kernel
theorem dX0_wouldMove_10 : decode cX0_wouldMove 10 = .ok (.iaload, 1) := by decide +kernel
theorem dX0_wouldMove_11 : decode cX0_wouldMove 11 = .ok (.istore_n 2, 1) := by decide +kernel
theorem dX0_wouldMove_12 : decode cX0_wouldMove 12 = .ok (.aload_n 0, 1) := by decide +kernel
theorem dX0_wouldMove_13 : decode cX0_wouldMove 13 = .ok (.iload_n 2, 1) := by decide +kernel
theorem dX0_wouldMove_14 : decode cX0_wouldMove 14 = .ok (.invokevirtual 108, 3) := by decide +kernel
theorem dX0_wouldMove_17 : decode cX0_wouldMove 17 = .ok (.ifCond .ne 5, 3) := by decide +kernel
theorem dX0_wouldMove_20 : decode cX0_wouldMove 20 = .ok (.iconst 0, 1) := by decide +kernel
theorem dX0_wouldMove_21 : decode cX0_wouldMove 21 = .ok (.ireturn, 1) := by decide +kernel
theorem dX0_wouldMove_22 : decode cX0_wouldMove 22 = .ok (.aload_n 0, 1) := by decide +kernel
theorem dX0_wouldMove_23 : decode cX0_wouldMove 23 = .ok (.invokevirtual 112, 3) := by decide +kernel
theorem dX0_wouldMove_26 : decode cX0_wouldMove 26 = .ok (.aload_n 0, 1) := by decide +kernel
theorem dX0_wouldMove_27 : decode cX0_wouldMove 27 = .ok (.getfield 50, 3) := by decide +kernel
theorem dX0_wouldMove_30 : decode cX0_wouldMove 30 = .ok (.iload_n 2, 1) := by decide +kernel
theorem dX0_wouldMove_31 : decode cX0_wouldMove 31 = .ok (.iaload, 1) := by decide +kernel
theorem dX0_wouldMove_32 : decode cX0_wouldMove 32 = .ok (.ireturn, 1) := by decide +kernel
theorem dX0_bound_0 : decode cX0_bound 0 = .ok (.aload_n 0, 1) := by decide +kernel
theorem dX0_bound_1 : decode cX0_bound 1 = .ok (.invokevirtual 115, 3) := by decide +kernel
theorem dX0_bound_4 : decode cX0_bound 4 = .ok (.ifCond .ne 7, 3) := by decide +kernel
theorem dX0_bound_7 : decode cX0_bound 7 = .ok (.iconst 1, 1) := by decide +kernel
theorem dX0_bound_8 : decode cX0_bound 8 = .ok (.goto 4, 3) := by decide +kernel
theorem dX0_bound_11 : decode cX0_bound 11 = .ok (.iconst 0, 1) := by decide +kernel
theorem dX0_bound_12 : decode cX0_bound 12 = .ok (.invokestatic 68, 3) := by decide +kernel
theorem dX0_bound_15 : decode cX0_bound 15 = .ok (.iconst 0, 1) := by decide +kernel
theorem dX0_bound_16 : decode cX0_bound 16 = .ok (.istore_n 1, 1) := by decide +kernel
theorem dX0_bound_17 : decode cX0_bound 17 = .ok (.iconst 1, 1) := by decide +kernel
theorem dX0_bound_18 : decode cX0_bound 18 = .ok (.istore_n 2, 1) := by decide +kernel
theorem dX0_bound_19 : decode cX0_bound 19 = .ok (.iload_n 2, 1) := by decide +kernel
theorem dX0_bound_20 : decode cX0_bound 20 = .ok (.aload_n 0, 1) := by decide +kernel
theorem dX0_bound_21 : decode cX0_bound 21 = .ok (.getfield 53, 3) := by decide +kernel
theorem dX0_bound_24 : decode cX0_bound 24 = .ok (.if_icmp .ge 19, 3) := by decide +kernel
theorem dX0_bound_27 : decode cX0_bound 27 = .ok (.iload_n 1, 1) := by decide +kernel
theorem dX0_bound_28 : decode cX0_bound 28 = .ok (.aload_n 0, 1) := by decide +kernel
theorem dX0_bound_29 : decode cX0_bound 29 = .ok (.iload_n 2, 1) := by decide +kernel
theorem dX0_bound_30 : decode cX0_bound 30 = .ok (.invokevirtual 118, 3) := by decide +kernel
theorem dX0_bound_33 : decode cX0_bound 33 = .ok (.invokestatic 121, 3) := by decide +kernel
theorem dX0_bound_36 : decode cX0_bound 36 = .ok (.istore_n 1, 1) := by decide +kernel
theorem dX0_bound_37 : decode cX0_bound 37 = .ok (.iinc 2 1, 3) := by decide +kernel
theorem dX0_bound_40 : decode cX0_bound 40 = .ok (.goto (-21), 3) := by decide +kernel
theorem dX0_bound_43 : decode cX0_bound 43 = .ok (.iload_n 1, 1) := by decide +kernel
theorem dX0_bound_44 : decode cX0_bound 44 = .ok (.ireturn, 1) := by decide +kernel
theorem dX0_boundAt_0 : decode cX0_boundAt 0 = .ok (.aload_n 0, 1) := by decide +kernel
theorem dX0_boundAt_1 : decode cX0_boundAt 1 = .ok (.iload_n 1, 1) := by decide +kernel
theorem dX0_boundAt_2 : decode cX0_boundAt 2 = .ok (.invokevirtual 127, 3) := by decide +kernel
theorem dX0_boundAt_5 : decode cX0_boundAt 5 = .ok (.istore_n 2, 1) := by decide +kernel
theorem dX0_boundAt_6 : decode cX0_boundAt 6 = .ok (.aload_n 0, 1) := by decide +kernel
theorem dX0_boundAt_7 : decode cX0_boundAt 7 = .ok (.iload_n 1, 1) := by decide +kernel
theorem dX0_boundAt_8 : decode cX0_boundAt 8 = .ok (.invokevirtual 130, 3) := by decide +kernel
theorem dX0_boundAt_11 : decode cX0_boundAt 11 = .ok (.istore_n 3, 1) := by decide +kernel
theorem dX0_boundAt_12 : decode cX0_boundAt 12 = .ok (.iload_n 2, 1) := by decide +kernel
theorem dX0_boundAt_13 : decode cX0_boundAt 13 = .ok (.ifCond .eq 7, 3) := by decide +kernel
theorem dX0_boundAt_16 : decode cX0_boundAt 16 = .ok (.iload_n 3, 1) := by decide +kernel
theorem dX0_boundAt_17 : decode cX0_boundAt 17 = .ok (.ifCond .ne 5, 3) := by decide +kernel
theorem dX0_boundAt_20 : decode cX0_boundAt 20 = .ok (.iconst 0, 1) := by decide +kernel
theorem dX0_boundAt_21 : decode cX0_boundAt 21 = .ok (.ireturn, 1) := by decide +kernel
theorem dX0_boundAt_22 : decode cX0_boundAt 22 = .ok (.iload_n 1, 1) := by decide +kernel
theorem dX0_boundAt_23 : decode cX0_boundAt 23 = .ok (.iconst 1, 1) := by decide +kernel
theorem dX0_boundAt_24 : decode cX0_boundAt 24 = .ok (.isub, 1) := by decide +kernel
theorem dX0_boundAt_25 : decode cX0_boundAt 25 = .ok (.iload_n 2, 1) := by decide +kernel
theorem dX0_boundAt_26 : decode cX0_boundAt 26 = .ok (.iload_n 3, 1) := by decide +kernel
theorem dX0_boundAt_27 : decode cX0_boundAt 27 = .ok (.iadd, 1) := by decide +kernel
theorem dX0_boundAt_28 : decode cX0_boundAt 28 = .ok (.iconst 1, 1) := by decide +kernel
theorem dX0_boundAt_29 : decode cX0_boundAt 29 = .ok (.isub, 1) := by decide +kernel
theorem dX0_boundAt_30 : decode cX0_boundAt 30 = .ok (.iload_n 3, 1) := by decide +kernel
theorem dX0_boundAt_31 : decode cX0_boundAt 31 = .ok (.idiv, 1) := by decide +kernel
theorem dX0_boundAt_32 : decode cX0_boundAt 32 = .ok (.iadd, 1) := by decide +kernel
theorem dX0_boundAt_33 : decode cX0_boundAt 33 = .ok (.ireturn, 1) := by decide +kernel
theorem dX0_peopleFrom_0 : decode cX0_peopleFrom 0 = .ok (.iconst 0, 1) := by decide +kernel
theorem dX0_peopleFrom_1 : decode cX0_peopleFrom 1 = .ok (.istore_n 2, 1) := by decide +kernel
theorem dX0_peopleFrom_2 : decode cX0_peopleFrom 2 = .ok (.iconst 1, 1) := by decide +kernel
theorem dX0_peopleFrom_3 : decode cX0_peopleFrom 3 = .ok (.istore_n 3, 1) := by decide +kernel
theorem dX0_peopleFrom_4 : decode cX0_peopleFrom 4 = .ok (.iload_n 3, 1) := by decide +kernel
theorem dX0_peopleFrom_5 : decode cX0_peopleFrom 5 = .ok (.aload_n 0, 1) := by decide +kernel
theorem dX0_peopleFrom_6 : decode cX0_peopleFrom 6 = .ok (.getfield 53, 3) := by decide +kernel
theorem dX0_peopleFrom_9 : decode cX0_peopleFrom 9 = .ok (.if_icmp .ge 28, 3) := by decide +kernel
theorem dX0_peopleFrom_12 : decode cX0_peopleFrom 12 = .ok (.aload_n 0, 1) := by decide +kernel
theorem dX0_peopleFrom_13 : decode cX0_peopleFrom 13 = .ok (.getfield 19, 3) := by decide +kernel
theorem dX0_peopleFrom_16 : decode cX0_peopleFrom 16 = .ok (.iload_n 3, 1) := by decide +kernel
theorem dX0_peopleFrom_17 : decode cX0_peopleFrom 17 = .ok (.iaload, 1) := by decide +kernel
theorem dX0_peopleFrom_18 : decode cX0_peopleFrom 18 = .ok (.iload_n 1, 1) := by decide +kernel
theorem dX0_peopleFrom_19 : decode cX0_peopleFrom 19 = .ok (.if_icmp .lt 12, 3) := by decide +kernel
theorem dX0_peopleFrom_22 : decode cX0_peopleFrom 22 = .ok (.iload_n 2, 1) := by decide +kernel
theorem dX0_peopleFrom_23 : decode cX0_peopleFrom 23 = .ok (.aload_n 0, 1) := by decide +kernel
theorem dX0_peopleFrom_24 : decode cX0_peopleFrom 24 = .ok (.getfield 13, 3) := by decide +kernel
theorem dX0_peopleFrom_27 : decode cX0_peopleFrom 27 = .ok (.iload_n 3, 1) := by decide +kernel
theorem dX0_peopleFrom_28 : decode cX0_peopleFrom 28 = .ok (.iaload, 1) := by decide +kernel
theorem dX0_peopleFrom_29 : decode cX0_peopleFrom 29 = .ok (.iadd, 1) := by decide +kernel
theorem dX0_peopleFrom_30 : decode cX0_peopleFrom 30 = .ok (.istore_n 2, 1) := by decide +kernel
theorem dX0_peopleFrom_31 : decode cX0_peopleFrom 31 = .ok (.iinc 3 1, 3) := by decide +kernel
theorem dX0_peopleFrom_34 : decode cX0_peopleFrom 34 = .ok (.goto (-30), 3) := by decide +kernel
theorem dX0_peopleFrom_37 : decode cX0_peopleFrom 37 = .ok (.iload_n 2, 1) := by decide +kernel
theorem dX0_peopleFrom_38 : decode cX0_peopleFrom 38 = .ok (.ireturn, 1) := by decide +kernel
theorem dX0_flowInward_0 : decode cX0_flowInward 0 = .ok (.iconst 0, 1) := by decide +kernel
theorem dX0_flowInward_1 : decode cX0_flowInward 1 = .ok (.istore_n 2, 1) := by decide +kernel
theorem dX0_flowInward_2 : decode cX0_flowInward 2 = .ok (.iconst 0, 1) := by decide +kernel
theorem dX0_flowInward_3 : decode cX0_flowInward 3 = .ok (.istore_n 3, 1) := by decide +kernel
theorem dX0_flowInward_4 : decode cX0_flowInward 4 = .ok (.iload_n 3, 1) := by decide +kernel
theorem dX0_flowInward_5 : decode cX0_flowInward 5 = .ok (.aload_n 0, 1) := by decide +kernel
theorem dX0_flowInward_6 : decode cX0_flowInward 6 = .ok (.getfield 78, 3) := by decide +kernel
theorem dX0_flowInward_9 : decode cX0_flowInward 9 = .ok (.if_icmp .ge 93, 3) := by decide +kernel
theorem dX0_flowInward_12 : decode cX0_flowInward 12 = .ok (.aload_n 0, 1) := by decide +kernel
theorem dX0_flowInward_13 : decode cX0_flowInward 13 = .ok (.getfield 19, 3) := by decide +kernel
theorem dX0_flowInward_16 : decode cX0_flowInward 16 = .ok (.aload_n 0, 1) := by decide +kernel
theorem dX0_flowInward_17 : decode cX0_flowInward 17 = .ok (.getfield 25, 3) := by decide +kernel
theorem dX0_flowInward_20 : decode cX0_flowInward 20 = .ok (.iload_n 3, 1) := by decide +kernel
theorem dX0_flowInward_21 : decode cX0_flowInward 21 = .ok (.iaload, 1) := by decide +kernel
theorem dX0_flowInward_22 : decode cX0_flowInward 22 = .ok (.iaload, 1) := by decide +kernel
theorem dX0_flowInward_23 : decode cX0_flowInward 23 = .ok (.istore 4, 2) := by decide +kernel
theorem dX0_flowInward_25 : decode cX0_flowInward 25 = .ok (.aload_n 0, 1) := by decide +kernel
theorem dX0_flowInward_26 : decode cX0_flowInward 26 = .ok (.getfield 19, 3) := by decide +kernel
theorem dX0_flowInward_29 : decode cX0_flowInward 29 = .ok (.aload_n 0, 1) := by decide +kernel
theorem dX0_flowInward_30 : decode cX0_flowInward 30 = .ok (.getfield 28, 3) := by decide +kernel
theorem dX0_flowInward_33 : decode cX0_flowInward 33 = .ok (.iload_n 3, 1) := by decide +kernel
theorem dX0_flowInward_34 : decode cX0_flowInward 34 = .ok (.iaload, 1) := by decide +kernel
theorem dX0_flowInward_35 : decode cX0_flowInward 35 = .ok (.iaload, 1) := by decide +kernel
theorem dX0_flowInward_36 : decode cX0_flowInward 36 = .ok (.istore 5, 2) := by decide +kernel
theorem dX0_flowInward_38 : decode cX0_flowInward 38 = .ok (.iload 4, 2) := by decide +kernel
theorem dX0_flowInward_40 : decode cX0_flowInward 40 = .ok (.iload_n 1, 1) := by decide +kernel
theorem dX0_flowInward_41 : decode cX0_flowInward 41 = .ok (.if_icmp .ne 11, 3) := by decide +kernel
theorem dX0_flowInward_44 : decode cX0_flowInward 44 = .ok (.iload 5, 2) := by decide +kernel
theorem dX0_flowInward_46 : decode cX0_flowInward 46 = .ok (.iload_n 1, 1) := by decide +kernel
theorem dX0_flowInward_47 : decode cX0_flowInward 47 = .ok (.iconst 1, 1) := by decide +kernel
theorem dX0_flowInward_48 : decode cX0_flowInward 48 = .ok (.isub, 1) := by decide +kernel
theorem dX0_flowInward_49 : decode cX0_flowInward 49 = .ok (.if_icmp .eq 17, 3) := by decide +kernel
theorem dX0_flowInward_52 : decode cX0_flowInward 52 = .ok (.iload 5, 2) := by decide +kernel
theorem dX0_flowInward_54 : decode cX0_flowInward 54 = .ok (.iload_n 1, 1) := by decide +kernel
theorem dX0_flowInward_55 : decode cX0_flowInward 55 = .ok (.if_icmp .ne 15, 3) := by decide +kernel
theorem dX0_flowInward_58 : decode cX0_flowInward 58 = .ok (.iload 4, 2) := by decide +kernel
theorem dX0_flowInward_60 : decode cX0_flowInward 60 = .ok (.iload_n 1, 1) := by decide +kernel
theorem dX0_flowInward_61 : decode cX0_flowInward 61 = .ok (.iconst 1, 1) := by decide +kernel
theorem dX0_flowInward_62 : decode cX0_flowInward 62 = .ok (.isub, 1) := by decide +kernel
theorem dX0_flowInward_63 : decode cX0_flowInward 63 = .ok (.if_icmp .ne 7, 3) := by decide +kernel
theorem dX0_flowInward_66 : decode cX0_flowInward 66 = .ok (.iconst 1, 1) := by decide +kernel
theorem dX0_flowInward_67 : decode cX0_flowInward 67 = .ok (.goto 4, 3) := by decide +kernel
theorem dX0_flowInward_70 : decode cX0_flowInward 70 = .ok (.iconst 0, 1) := by decide +kernel
theorem dX0_flowInward_71 : decode cX0_flowInward 71 = .ok (.istore 6, 2) := by decide +kernel
theorem dX0_flowInward_73 : decode cX0_flowInward 73 = .ok (.aload_n 0, 1) := by decide +kernel
theorem dX0_flowInward_74 : decode cX0_flowInward 74 = .ok (.getfield 37, 3) := by decide +kernel
theorem dX0_flowInward_77 : decode cX0_flowInward 77 = .ok (.iload_n 3, 1) := by decide +kernel
theorem dX0_flowInward_78 : decode cX0_flowInward 78 = .ok (.baload, 1) := by decide +kernel
theorem dX0_flowInward_79 : decode cX0_flowInward 79 = .ok (.ifCond .eq 17, 3) := by decide +kernel
theorem dX0_flowInward_82 : decode cX0_flowInward 82 = .ok (.iload 6, 2) := by decide +kernel
theorem dX0_flowInward_84 : decode cX0_flowInward 84 = .ok (.ifCond .eq 12, 3) := by decide +kernel
theorem dX0_flowInward_87 : decode cX0_flowInward 87 = .ok (.iload_n 2, 1) := by decide +kernel
theorem dX0_flowInward_88 : decode cX0_flowInward 88 = .ok (.aload_n 0, 1) := by decide +kernel
theorem dX0_flowInward_89 : decode cX0_flowInward 89 = .ok (.getfield 31, 3) := by decide +kernel
theorem dX0_flowInward_92 : decode cX0_flowInward 92 = .ok (.iload_n 3, 1) := by decide +kernel
theorem dX0_flowInward_93 : decode cX0_flowInward 93 = .ok (.iaload, 1) := by decide +kernel
theorem dX0_flowInward_94 : decode cX0_flowInward 94 = .ok (.iadd, 1) := by decide +kernel
theorem dX0_flowInward_95 : decode cX0_flowInward 95 = .ok (.istore_n 2, 1) := by decide +kernel
theorem dX0_flowInward_96 : decode cX0_flowInward 96 = .ok (.iinc 3 1, 3) := by decide +kernel
theorem dX0_flowInward_99 : decode cX0_flowInward 99 = .ok (.goto (-95), 3) := by decide +kernel
theorem dX0_flowInward_102 : decode cX0_flowInward 102 = .ok (.iload_n 2, 1) := by decide +kernel
theorem dX0_flowInward_103 : decode cX0_flowInward 103 = .ok (.ireturn, 1) := by decide +kernel
theorem dX0_passOneStep_0 : decode cX0_passOneStep 0 = .ok (.aload_n 0, 1) := by decide +kernel
theorem dX0_passOneStep_1 : decode cX0_passOneStep 1 = .ok (.invokevirtual 112, 3) := by decide +kernel
theorem dX0_passOneStep_4 : decode cX0_passOneStep 4 = .ok (.aload_n 0, 1) := by decide +kernel
theorem dX0_passOneStep_5 : decode cX0_passOneStep 5 = .ok (.getfield 13, 3) := by decide +kernel
theorem dX0_passOneStep_8 : decode cX0_passOneStep 8 = .ok (.iconst 0, 1) := by decide +kernel
theorem dX0_passOneStep_9 : decode cX0_passOneStep 9 = .ok (.iaload, 1) := by decide +kernel
theorem dX0_passOneStep_10 : decode cX0_passOneStep 10 = .ok (.istore_n 1, 1) := by decide +kernel
theorem dX0_passOneStep_11 : decode cX0_passOneStep 11 = .ok (.aload_n 0, 1) := by decide +kernel
theorem dX0_passOneStep_12 : decode cX0_passOneStep 12 = .ok (.invokevirtual 133, 3) := by decide +kernel
theorem dX0_passOneStep_15 : decode cX0_passOneStep 15 = .ok (.istore_n 2, 1) := by decide +kernel
theorem dX0_passOneStep_16 : decode cX0_passOneStep 16 = .ok (.aload_n 0, 1) := by decide +kernel
theorem dX0_passOneStep_17 : decode cX0_passOneStep 17 = .ok (.dup, 1) := by decide +kernel
theorem dX0_passOneStep_18 : decode cX0_passOneStep 18 = .ok (.getfield 99, 3) := by decide +kernel
theorem dX0_passOneStep_21 : decode cX0_passOneStep 21 = .ok (.iconst 1, 1) := by decide +kernel
theorem dX0_passOneStep_22 : decode cX0_passOneStep 22 = .ok (.iadd, 1) := by decide +kernel
theorem dX0_passOneStep_23 : decode cX0_passOneStep 23 = .ok (.putfield 99, 3) := by decide +kernel
theorem dX0_passOneStep_26 : decode cX0_passOneStep 26 = .ok (.aload_n 0, 1) := by decide +kernel
theorem dX0_passOneStep_27 : decode cX0_passOneStep 27 = .ok (.getfield 13, 3) := by decide +kernel
theorem dX0_passOneStep_30 : decode cX0_passOneStep 30 = .ok (.iconst 0, 1) := by decide +kernel
theorem dX0_passOneStep_31 : decode cX0_passOneStep 31 = .ok (.iaload, 1) := by decide +kernel
theorem dX0_passOneStep_32 : decode cX0_passOneStep 32 = .ok (.iload_n 1, 1) := by decide +kernel
theorem dX0_passOneStep_33 : decode cX0_passOneStep 33 = .ok (.if_icmp .le 11, 3) := by decide +kernel
theorem dX0_passOneStep_36 : decode cX0_passOneStep 36 = .ok (.aload_n 0, 1) := by decide +kernel
theorem dX0_passOneStep_37 : decode cX0_passOneStep 37 = .ok (.aload_n 0, 1) := by decide +kernel
theorem dX0_passOneStep_38 : decode cX0_passOneStep 38 = .ok (.getfield 99, 3) := by decide +kernel
theorem dX0_passOneStep_41 : decode cX0_passOneStep 41 = .ok (.putfield 57, 3) := by decide +kernel
theorem dX0_passOneStep_44 : decode cX0_passOneStep 44 = .ok (.aload_n 0, 1) := by decide +kernel
theorem dX0_passOneStep_45 : decode cX0_passOneStep 45 = .ok (.dup, 1) := by decide +kernel
theorem dX0_passOneStep_46 : decode cX0_passOneStep 46 = .ok (.getfield 105, 3) := by decide +kernel
theorem dX0_passOneStep_49 : decode cX0_passOneStep 49 = .ok (.aload_n 0, 1) := by decide +kernel
theorem dX0_passOneStep_50 : decode cX0_passOneStep 50 = .ok (.invokevirtual 92, 3) := by decide +kernel
theorem dX0_passOneStep_53 : decode cX0_passOneStep 53 = .ok (.iadd, 1) := by decide +kernel
theorem dX0_passOneStep_54 : decode cX0_passOneStep 54 = .ok (.putfield 105, 3) := by decide +kernel
theorem dX0_passOneStep_57 : decode cX0_passOneStep 57 = .ok (.iload_n 2, 1) := by decide +kernel
theorem dX0_passOneStep_58 : decode cX0_passOneStep 58 = .ok (.ireturn, 1) := by decide +kernel
theorem dX0_grantAll_0 : decode cX0_grantAll 0 = .ok (.iconst 0, 1) := by decide +kernel
theorem dX0_grantAll_1 : decode cX0_grantAll 1 = .ok (.istore_n 1, 1) := by decide +kernel
theorem dX0_grantAll_2 : decode cX0_grantAll 2 = .ok (.iload_n 1, 1) := by decide +kernel
theorem dX0_grantAll_3 : decode cX0_grantAll 3 = .ok (.aload_n 0, 1) := by decide +kernel
theorem dX0_grantAll_4 : decode cX0_grantAll 4 = .ok (.getfield 78, 3) := by decide +kernel
theorem dX0_grantAll_7 : decode cX0_grantAll 7 = .ok (.if_icmp .ge 16, 3) := by decide +kernel
theorem dX0_grantAll_10 : decode cX0_grantAll 10 = .ok (.aload_n 0, 1) := by decide +kernel
theorem dX0_grantAll_11 : decode cX0_grantAll 11 = .ok (.getfield 50, 3) := by decide +kernel
theorem dX0_grantAll_14 : decode cX0_grantAll 14 = .ok (.iload_n 1, 1) := by decide +kernel
theorem dX0_grantAll_15 : decode cX0_grantAll 15 = .ok (.iconst 0, 1) := by decide +kernel
theorem dX0_grantAll_16 : decode cX0_grantAll 16 = .ok (.iastore, 1) := by decide +kernel
theorem dX0_grantAll_17 : decode cX0_grantAll 17 = .ok (.iinc 1 1, 3) := by decide +kernel
theorem dX0_grantAll_20 : decode cX0_grantAll 20 = .ok (.goto (-18), 3) := by decide +kernel
theorem dX0_grantAll_23 : decode cX0_grantAll 23 = .ok (.iconst 0, 1) := by decide +kernel
theorem dX0_grantAll_24 : decode cX0_grantAll 24 = .ok (.istore_n 1, 1) := by decide +kernel
theorem dX0_grantAll_25 : decode cX0_grantAll 25 = .ok (.iload_n 1, 1) := by decide +kernel
theorem dX0_grantAll_26 : decode cX0_grantAll 26 = .ok (.aload_n 0, 1) := by decide +kernel
theorem dX0_grantAll_27 : decode cX0_grantAll 27 = .ok (.getfield 53, 3) := by decide +kernel
theorem dX0_grantAll_30 : decode cX0_grantAll 30 = .ok (.if_icmp .ge 14, 3) := by decide +kernel
theorem dX0_grantAll_33 : decode cX0_grantAll 33 = .ok (.aload_n 0, 1) := by decide +kernel
theorem dX0_grantAll_34 : decode cX0_grantAll 34 = .ok (.iload_n 1, 1) := by decide +kernel
theorem dX0_grantAll_35 : decode cX0_grantAll 35 = .ok (.invokevirtual 136, 3) := by decide +kernel
theorem dX0_grantAll_38 : decode cX0_grantAll 38 = .ok (.iinc 1 1, 3) := by decide +kernel
theorem dX0_grantAll_41 : decode cX0_grantAll 41 = .ok (.goto (-16), 3) := by decide +kernel
theorem dX0_grantAll_44 : decode cX0_grantAll 44 = .ok (.return_, 1) := by decide +kernel
theorem dX0_grantAt_0 : decode cX0_grantAt 0 = .ok (.aload_n 0, 1) := by decide +kernel
theorem dX0_grantAt_1 : decode cX0_grantAt 1 = .ok (.iload_n 1, 1) := by decide +kernel
theorem dX0_grantAt_2 : decode cX0_grantAt 2 = .ok (.invokevirtual 84, 3) := by decide +kernel
theorem dX0_grantAt_5 : decode cX0_grantAt 5 = .ok (.istore_n 2, 1) := by decide +kernel
theorem dX0_grantAt_6 : decode cX0_grantAt 6 = .ok (.iconst 0, 1) := by decide +kernel
theorem dX0_grantAt_7 : decode cX0_grantAt 7 = .ok (.istore_n 3, 1) := by decide +kernel
theorem dX0_grantAt_8 : decode cX0_grantAt 8 = .ok (.iload_n 3, 1) := by decide +kernel
theorem dX0_grantAt_9 : decode cX0_grantAt 9 = .ok (.bipush 9, 2) := by decide +kernel
theorem dX0_grantAt_11 : decode cX0_grantAt 11 = .ok (.if_icmp .ge 28, 3) := by decide +kernel
theorem dX0_grantAt_14 : decode cX0_grantAt 14 = .ok (.aload_n 0, 1) := by decide +kernel
theorem dX0_grantAt_15 : decode cX0_grantAt 15 = .ok (.iload_n 1, 1) := by decide +kernel
theorem dX0_grantAt_16 : decode cX0_grantAt 16 = .ok (.iload_n 2, 1) := by decide +kernel
theorem dX0_grantAt_17 : decode cX0_grantAt 17 = .ok (.invokevirtual 139, 3) := by decide +kernel
theorem dX0_grantAt_20 : decode cX0_grantAt 20 = .ok (.istore 4, 2) := by decide +kernel
theorem dX0_grantAt_22 : decode cX0_grantAt 22 = .ok (.iload 4, 2) := by decide +kernel
theorem dX0_grantAt_24 : decode cX0_grantAt 24 = .ok (.ifCond .ne 4, 3) := by decide +kernel
theorem dX0_grantAt_27 : decode cX0_grantAt 27 = .ok (.return_, 1) := by decide +kernel
theorem dX0_grantAt_28 : decode cX0_grantAt 28 = .ok (.iload_n 2, 1) := by decide +kernel
theorem dX0_grantAt_29 : decode cX0_grantAt 29 = .ok (.iload 4, 2) := by decide +kernel
theorem dX0_grantAt_31 : decode cX0_grantAt 31 = .ok (.isub, 1) := by decide +kernel
theorem dX0_grantAt_32 : decode cX0_grantAt 32 = .ok (.istore_n 2, 1) := by decide +kernel
theorem dX0_grantAt_33 : decode cX0_grantAt 33 = .ok (.iinc 3 1, 3) := by decide +kernel
theorem dX0_grantAt_36 : decode cX0_grantAt 36 = .ok (.goto (-28), 3) := by decide +kernel
theorem dX0_grantAt_39 : decode cX0_grantAt 39 = .ok (.return_, 1) := by decide +kernel
theorem dX0_grantRound_0 : decode cX0_grantRound 0 = .ok (.iload_n 2, 1) := by decide +kernel
theorem dX0_grantRound_1 : decode cX0_grantRound 1 = .ok (.istore_n 3, 1) := by decide +kernel
theorem dX0_grantRound_2 : decode cX0_grantRound 2 = .ok (.iconst 0, 1) := by decide +kernel
theorem dX0_grantRound_3 : decode cX0_grantRound 3 = .ok (.istore 4, 2) := by decide +kernel
theorem dX0_grantRound_5 : decode cX0_grantRound 5 = .ok (.iload 4, 2) := by decide +kernel
theorem dX0_grantRound_7 : decode cX0_grantRound 7 = .ok (.aload_n 0, 1) := by decide +kernel
theorem dX0_grantRound_8 : decode cX0_grantRound 8 = .ok (.getfield 78, 3) := by decide +kernel
theorem dX0_grantRound_11 : decode cX0_grantRound 11 = .ok (.if_icmp .ge 71, 3) := by decide +kernel
theorem dX0_grantRound_14 : decode cX0_grantRound 14 = .ok (.aload_n 0, 1) := by decide +kernel
theorem dX0_grantRound_15 : decode cX0_grantRound 15 = .ok (.getfield 47, 3) := by decide +kernel
theorem dX0_grantRound_18 : decode cX0_grantRound 18 = .ok (.iload 4, 2) := by decide +kernel
theorem dX0_grantRound_20 : decode cX0_grantRound 20 = .ok (.iaload, 1) := by decide +kernel
theorem dX0_grantRound_21 : decode cX0_grantRound 21 = .ok (.iload_n 1, 1) := by decide +kernel
theorem dX0_grantRound_22 : decode cX0_grantRound 22 = .ok (.if_icmp .ne 54, 3) := by decide +kernel
theorem dX0_grantRound_25 : decode cX0_grantRound 25 = .ok (.aload_n 0, 1) := by decide +kernel
theorem dX0_grantRound_26 : decode cX0_grantRound 26 = .ok (.iload 4, 2) := by decide +kernel
theorem dX0_grantRound_28 : decode cX0_grantRound 28 = .ok (.invokevirtual 142, 3) := by decide +kernel
theorem dX0_grantRound_31 : decode cX0_grantRound 31 = .ok (.aload_n 0, 1) := by decide +kernel
theorem dX0_grantRound_32 : decode cX0_grantRound 32 = .ok (.getfield 50, 3) := by decide +kernel
theorem dX0_grantRound_35 : decode cX0_grantRound 35 = .ok (.iload 4, 2) := by decide +kernel
theorem dX0_grantRound_37 : decode cX0_grantRound 37 = .ok (.iaload, 1) := by decide +kernel
theorem dX0_grantRound_38 : decode cX0_grantRound 38 = .ok (.isub, 1) := by decide +kernel
theorem dX0_grantRound_39 : decode cX0_grantRound 39 = .ok (.istore 5, 2) := by decide +kernel
theorem dX0_grantRound_41 : decode cX0_grantRound 41 = .ok (.aload_n 0, 1) := by decide +kernel
theorem dX0_grantRound_42 : decode cX0_grantRound 42 = .ok (.getfield 34, 3) := by decide +kernel
theorem dX0_grantRound_45 : decode cX0_grantRound 45 = .ok (.iload 4, 2) := by decide +kernel
theorem dX0_grantRound_47 : decode cX0_grantRound 47 = .ok (.iaload, 1) := by decide +kernel
theorem dX0_grantRound_48 : decode cX0_grantRound 48 = .ok (.iload 5, 2) := by decide +kernel
theorem dX0_grantRound_50 : decode cX0_grantRound 50 = .ok (.invokestatic 145, 3) := by decide +kernel
theorem dX0_grantRound_53 : decode cX0_grantRound 53 = .ok (.iload_n 3, 1) := by decide +kernel
theorem dX0_grantRound_54 : decode cX0_grantRound 54 = .ok (.invokestatic 145, 3) := by decide +kernel
theorem dX0_grantRound_57 : decode cX0_grantRound 57 = .ok (.istore 6, 2) := by decide +kernel
theorem dX0_grantRound_59 : decode cX0_grantRound 59 = .ok (.aload_n 0, 1) := by decide +kernel
theorem dX0_grantRound_60 : decode cX0_grantRound 60 = .ok (.getfield 50, 3) := by decide +kernel
theorem dX0_grantRound_63 : decode cX0_grantRound 63 = .ok (.iload 4, 2) := by decide +kernel
theorem dX0_grantRound_65 : decode cX0_grantRound 65 = .ok (.dup2, 1) := by decide +kernel
theorem dX0_grantRound_66 : decode cX0_grantRound 66 = .ok (.iaload, 1) := by decide +kernel
theorem dX0_grantRound_67 : decode cX0_grantRound 67 = .ok (.iload 6, 2) := by decide +kernel
theorem dX0_grantRound_69 : decode cX0_grantRound 69 = .ok (.iadd, 1) := by decide +kernel
theorem dX0_grantRound_70 : decode cX0_grantRound 70 = .ok (.iastore, 1) := by decide +kernel
theorem dX0_grantRound_71 : decode cX0_grantRound 71 = .ok (.iload_n 3, 1) := by decide +kernel
theorem dX0_grantRound_72 : decode cX0_grantRound 72 = .ok (.iload 6, 2) := by decide +kernel
theorem dX0_grantRound_74 : decode cX0_grantRound 74 = .ok (.isub, 1) := by decide +kernel
theorem dX0_grantRound_75 : decode cX0_grantRound 75 = .ok (.istore_n 3, 1) := by decide +kernel
theorem dX0_grantRound_76 : decode cX0_grantRound 76 = .ok (.iinc 4 1, 3) := by decide +kernel
theorem dX0_grantRound_79 : decode cX0_grantRound 79 = .ok (.goto (-74), 3) := by decide +kernel
theorem dX0_grantRound_82 : decode cX0_grantRound 82 = .ok (.iload_n 2, 1) := by decide +kernel
theorem dX0_grantRound_83 : decode cX0_grantRound 83 = .ok (.iload_n 3, 1) := by decide +kernel
theorem dX0_grantRound_84 : decode cX0_grantRound 84 = .ok (.isub, 1) := by decide +kernel
theorem dX0_grantRound_85 : decode cX0_grantRound 85 = .ok (.ireturn, 1) := by decide +kernel
theorem dX0_wishBy_0 : decode cX0_wishBy 0 = .ok (.aload_n 0, 1) := by decide +kernel
theorem dX0_wishBy_1 : decode cX0_wishBy 1 = .ok (.getfield 44, 3) := by decide +kernel
theorem dX0_wishBy_4 : decode cX0_wishBy 4 = .ok (.iload_n 1, 1) := by decide +kernel
theorem dX0_wishBy_5 : decode cX0_wishBy 5 = .ok (.iaload, 1) := by decide +kernel
theorem dX0_wishBy_6 : decode cX0_wishBy 6 = .ok (.istore_n 2, 1) := by decide +kernel
theorem dX0_wishBy_7 : decode cX0_wishBy 7 = .ok (.aload_n 0, 1) := by decide +kernel
theorem dX0_wishBy_8 : decode cX0_wishBy 8 = .ok (.iload_n 2, 1) := by decide +kernel
theorem dX0_wishBy_9 : decode cX0_wishBy 9 = .ok (.invokevirtual 148, 3) := by decide +kernel
theorem dX0_wishBy_12 : decode cX0_wishBy 12 = .ok (.ifCond .eq 16, 3) := by decide +kernel
theorem dX0_wishBy_15 : decode cX0_wishBy 15 = .ok (.aload_n 0, 1) := by decide +kernel
theorem dX0_wishBy_16 : decode cX0_wishBy 16 = .ok (.getfield 16, 3) := by decide +kernel
theorem dX0_wishBy_19 : decode cX0_wishBy 19 = .ok (.iload_n 2, 1) := by decide +kernel
theorem dX0_wishBy_20 : decode cX0_wishBy 20 = .ok (.iaload, 1) := by decide +kernel
theorem dX0_wishBy_21 : decode cX0_wishBy 21 = .ok (.aload_n 0, 1) := by decide +kernel
theorem dX0_wishBy_22 : decode cX0_wishBy 22 = .ok (.getfield 99, 3) := by decide +kernel
theorem dX0_wishBy_25 : decode cX0_wishBy 25 = .ok (.if_icmp .le 5, 3) := by decide +kernel
theorem dX0_wishBy_28 : decode cX0_wishBy 28 = .ok (.iconst 0, 1) := by decide +kernel
theorem dX0_wishBy_29 : decode cX0_wishBy 29 = .ok (.ireturn, 1) := by decide +kernel
theorem dX0_wishBy_30 : decode cX0_wishBy 30 = .ok (.aload_n 0, 1) := by decide +kernel
theorem dX0_wishBy_31 : decode cX0_wishBy 31 = .ok (.getfield 13, 3) := by decide +kernel
theorem dX0_wishBy_34 : decode cX0_wishBy 34 = .ok (.iload_n 2, 1) := by decide +kernel
theorem dX0_wishBy_35 : decode cX0_wishBy 35 = .ok (.iaload, 1) := by decide +kernel
theorem dX0_wishBy_36 : decode cX0_wishBy 36 = .ok (.aload_n 0, 1) := by decide +kernel
theorem dX0_wishBy_37 : decode cX0_wishBy 37 = .ok (.getfield 31, 3) := by decide +kernel
theorem dX0_wishBy_40 : decode cX0_wishBy 40 = .ok (.iload_n 1, 1) := by decide +kernel
theorem dX0_wishBy_41 : decode cX0_wishBy 41 = .ok (.iaload, 1) := by decide +kernel
theorem dX0_wishBy_42 : decode cX0_wishBy 42 = .ok (.invokestatic 145, 3) := by decide +kernel
theorem dX0_wishBy_45 : decode cX0_wishBy 45 = .ok (.ireturn, 1) := by decide +kernel
theorem dX0_moveGranted_0 : decode cX0_moveGranted 0 = .ok (.iconst 0, 1) := by decide +kernel
theorem dX0_moveGranted_1 : decode cX0_moveGranted 1 = .ok (.istore_n 1, 1) := by decide +kernel
theorem dX0_moveGranted_2 : decode cX0_moveGranted 2 = .ok (.iconst 0, 1) := by decide +kernel
theorem dX0_moveGranted_3 : decode cX0_moveGranted 3 = .ok (.istore_n 2, 1) := by decide +kernel
theorem dX0_moveGranted_4 : decode cX0_moveGranted 4 = .ok (.iload_n 2, 1) := by decide +kernel
theorem dX0_moveGranted_5 : decode cX0_moveGranted 5 = .ok (.aload_n 0, 1) := by decide +kernel
theorem dX0_moveGranted_6 : decode cX0_moveGranted 6 = .ok (.getfield 78, 3) := by decide +kernel
theorem dX0_moveGranted_9 : decode cX0_moveGranted 9 = .ok (.if_icmp .ge 96, 3) := by decide +kernel
theorem dX0_moveGranted_12 : decode cX0_moveGranted 12 = .ok (.aload_n 0, 1) := by decide +kernel
theorem dX0_moveGranted_13 : decode cX0_moveGranted 13 = .ok (.getfield 44, 3) := by decide +kernel
theorem dX0_moveGranted_16 : decode cX0_moveGranted 16 = .ok (.iload_n 2, 1) := by decide +kernel
theorem dX0_moveGranted_17 : decode cX0_moveGranted 17 = .ok (.iaload, 1) := by decide +kernel
theorem dX0_moveGranted_18 : decode cX0_moveGranted 18 = .ok (.istore_n 3, 1) := by decide +kernel
theorem dX0_moveGranted_19 : decode cX0_moveGranted 19 = .ok (.aload_n 0, 1) := by decide +kernel
theorem dX0_moveGranted_20 : decode cX0_moveGranted 20 = .ok (.getfield 47, 3) := by decide +kernel
theorem dX0_moveGranted_23 : decode cX0_moveGranted 23 = .ok (.iload_n 2, 1) := by decide +kernel
theorem dX0_moveGranted_24 : decode cX0_moveGranted 24 = .ok (.iaload, 1) := by decide +kernel
theorem dX0_moveGranted_25 : decode cX0_moveGranted 25 = .ok (.istore 4, 2) := by decide +kernel
theorem dX0_moveGranted_27 : decode cX0_moveGranted 27 = .ok (.aload_n 0, 1) := by decide +kernel
theorem dX0_moveGranted_28 : decode cX0_moveGranted 28 = .ok (.iload_n 3, 1) := by decide +kernel
theorem dX0_moveGranted_29 : decode cX0_moveGranted 29 = .ok (.invokevirtual 148, 3) := by decide +kernel
theorem dX0_moveGranted_32 : decode cX0_moveGranted 32 = .ok (.ifCond .eq 67, 3) := by decide +kernel
theorem dX0_moveGranted_35 : decode cX0_moveGranted 35 = .ok (.aload_n 0, 1) := by decide +kernel
theorem dX0_moveGranted_36 : decode cX0_moveGranted 36 = .ok (.iload 4, 2) := by decide +kernel
theorem dX0_moveGranted_38 : decode cX0_moveGranted 38 = .ok (.invokevirtual 148, 3) := by decide +kernel
theorem dX0_moveGranted_41 : decode cX0_moveGranted 41 = .ok (.ifCond .eq 58, 3) := by decide +kernel
theorem dX0_moveGranted_44 : decode cX0_moveGranted 44 = .ok (.aload_n 0, 1) := by decide +kernel
theorem dX0_moveGranted_45 : decode cX0_moveGranted 45 = .ok (.getfield 13, 3) := by decide +kernel
theorem dX0_moveGranted_48 : decode cX0_moveGranted 48 = .ok (.iload_n 3, 1) := by decide +kernel
theorem dX0_moveGranted_49 : decode cX0_moveGranted 49 = .ok (.dup2, 1) := by decide +kernel
theorem dX0_moveGranted_50 : decode cX0_moveGranted 50 = .ok (.iaload, 1) := by decide +kernel
theorem dX0_moveGranted_51 : decode cX0_moveGranted 51 = .ok (.aload_n 0, 1) := by decide +kernel
theorem dX0_moveGranted_52 : decode cX0_moveGranted 52 = .ok (.getfield 50, 3) := by decide +kernel
theorem dX0_moveGranted_55 : decode cX0_moveGranted 55 = .ok (.iload_n 2, 1) := by decide +kernel
theorem dX0_moveGranted_56 : decode cX0_moveGranted 56 = .ok (.iaload, 1) := by decide +kernel
theorem dX0_moveGranted_57 : decode cX0_moveGranted 57 = .ok (.isub, 1) := by decide +kernel
theorem dX0_moveGranted_58 : decode cX0_moveGranted 58 = .ok (.iastore, 1) := by decide +kernel
theorem dX0_moveGranted_59 : decode cX0_moveGranted 59 = .ok (.aload_n 0, 1) := by decide +kernel
theorem dX0_moveGranted_60 : decode cX0_moveGranted 60 = .ok (.getfield 13, 3) := by decide +kernel
theorem dX0_moveGranted_63 : decode cX0_moveGranted 63 = .ok (.iload 4, 2) := by decide +kernel
theorem dX0_moveGranted_65 : decode cX0_moveGranted 65 = .ok (.dup2, 1) := by decide +kernel
theorem dX0_moveGranted_66 : decode cX0_moveGranted 66 = .ok (.iaload, 1) := by decide +kernel
theorem dX0_moveGranted_67 : decode cX0_moveGranted 67 = .ok (.aload_n 0, 1) := by decide +kernel
theorem dX0_moveGranted_68 : decode cX0_moveGranted 68 = .ok (.getfield 50, 3) := by decide +kernel
theorem dX0_moveGranted_71 : decode cX0_moveGranted 71 = .ok (.iload_n 2, 1) := by decide +kernel
theorem dX0_moveGranted_72 : decode cX0_moveGranted 72 = .ok (.iaload, 1) := by decide +kernel
theorem dX0_moveGranted_73 : decode cX0_moveGranted 73 = .ok (.iadd, 1) := by decide +kernel
theorem dX0_moveGranted_74 : decode cX0_moveGranted 74 = .ok (.iastore, 1) := by decide +kernel
theorem dX0_moveGranted_75 : decode cX0_moveGranted 75 = .ok (.aload_n 0, 1) := by decide +kernel
theorem dX0_moveGranted_76 : decode cX0_moveGranted 76 = .ok (.getfield 41, 3) := by decide +kernel
theorem dX0_moveGranted_79 : decode cX0_moveGranted 79 = .ok (.iload_n 2, 1) := by decide +kernel
theorem dX0_moveGranted_80 : decode cX0_moveGranted 80 = .ok (.dup2, 1) := by decide +kernel
theorem dX0_moveGranted_81 : decode cX0_moveGranted 81 = .ok (.iaload, 1) := by decide +kernel
theorem dX0_moveGranted_82 : decode cX0_moveGranted 82 = .ok (.aload_n 0, 1) := by decide +kernel
theorem dX0_moveGranted_83 : decode cX0_moveGranted 83 = .ok (.getfield 50, 3) := by decide +kernel
theorem dX0_moveGranted_86 : decode cX0_moveGranted 86 = .ok (.iload_n 2, 1) := by decide +kernel
theorem dX0_moveGranted_87 : decode cX0_moveGranted 87 = .ok (.iaload, 1) := by decide +kernel
theorem dX0_moveGranted_88 : decode cX0_moveGranted 88 = .ok (.iadd, 1) := by decide +kernel
theorem dX0_moveGranted_89 : decode cX0_moveGranted 89 = .ok (.iastore, 1) := by decide +kernel
theorem dX0_moveGranted_90 : decode cX0_moveGranted 90 = .ok (.iload_n 1, 1) := by decide +kernel
theorem dX0_moveGranted_91 : decode cX0_moveGranted 91 = .ok (.aload_n 0, 1) := by decide +kernel
theorem dX0_moveGranted_92 : decode cX0_moveGranted 92 = .ok (.getfield 50, 3) := by decide +kernel
theorem dX0_moveGranted_95 : decode cX0_moveGranted 95 = .ok (.iload_n 2, 1) := by decide +kernel
theorem dX0_moveGranted_96 : decode cX0_moveGranted 96 = .ok (.iaload, 1) := by decide +kernel
theorem dX0_moveGranted_97 : decode cX0_moveGranted 97 = .ok (.iadd, 1) := by decide +kernel
theorem dX0_moveGranted_98 : decode cX0_moveGranted 98 = .ok (.istore_n 1, 1) := by decide +kernel
theorem dX0_moveGranted_99 : decode cX0_moveGranted 99 = .ok (.iinc 2 1, 3) := by decide +kernel
theorem dX0_moveGranted_102 : decode cX0_moveGranted 102 = .ok (.goto (-98), 3) := by decide +kernel
theorem dX0_moveGranted_105 : decode cX0_moveGranted 105 = .ok (.iload_n 1, 1) := by decide +kernel
theorem dX0_moveGranted_106 : decode cX0_moveGranted 106 = .ok (.ireturn, 1) := by decide +kernel
theorem dX0_roomLeft_0 : decode cX0_roomLeft 0 = .ok (.iload_n 1, 1) := by decide +kernel
theorem dX0_roomLeft_1 : decode cX0_roomLeft 1 = .ok (.ifCond .ne 8, 3) := by decide +kernel
theorem dX0_roomLeft_4 : decode cX0_roomLeft 4 = .ok (.ldc 151, 2) := by decide +kernel
theorem dX0_roomLeft_6 : decode cX0_roomLeft 6 = .ok (.goto 16, 3) := by decide +kernel
theorem dX0_roomLeft_9 : decode cX0_roomLeft 9 = .ok (.aload_n 0, 1) := by decide +kernel
theorem dX0_roomLeft_10 : decode cX0_roomLeft 10 = .ok (.getfield 9, 3) := by decide +kernel
theorem dX0_roomLeft_13 : decode cX0_roomLeft 13 = .ok (.iload_n 1, 1) := by decide +kernel
theorem dX0_roomLeft_14 : decode cX0_roomLeft 14 = .ok (.iaload, 1) := by decide +kernel
theorem dX0_roomLeft_15 : decode cX0_roomLeft 15 = .ok (.aload_n 0, 1) := by decide +kernel
theorem dX0_roomLeft_16 : decode cX0_roomLeft 16 = .ok (.getfield 13, 3) := by decide +kernel
theorem dX0_roomLeft_19 : decode cX0_roomLeft 19 = .ok (.iload_n 1, 1) := by decide +kernel
theorem dX0_roomLeft_20 : decode cX0_roomLeft 20 = .ok (.iaload, 1) := by decide +kernel
theorem dX0_roomLeft_21 : decode cX0_roomLeft 21 = .ok (.isub, 1) := by decide +kernel
theorem dX0_roomLeft_22 : decode cX0_roomLeft 22 = .ok (.ireturn, 1) := by decide +kernel
theorem dX0_areAllReleased_0 : decode cX0_areAllReleased 0 = .ok (.iconst 0, 1) := by decide +kernel
theorem dX0_areAllReleased_1 : decode cX0_areAllReleased 1 = .ok (.istore_n 1, 1) := by decide +kernel
theorem dX0_areAllReleased_2 : decode cX0_areAllReleased 2 = .ok (.iload_n 1, 1) := by decide +kernel
theorem dX0_areAllReleased_3 : decode cX0_areAllReleased 3 = .ok (.aload_n 0, 1) := by decide +kernel
theorem dX0_areAllReleased_4 : decode cX0_areAllReleased 4 = .ok (.getfield 53, 3) := by decide +kernel
theorem dX0_areAllReleased_7 : decode cX0_areAllReleased 7 = .ok (.if_icmp .ge 24, 3) := by decide +kernel
theorem dX0_areAllReleased_10 : decode cX0_areAllReleased 10 = .ok (.aload_n 0, 1) := by decide +kernel
theorem dX0_areAllReleased_11 : decode cX0_areAllReleased 11 = .ok (.getfield 16, 3) := by decide +kernel
theorem dX0_areAllReleased_14 : decode cX0_areAllReleased 14 = .ok (.iload_n 1, 1) := by decide +kernel
theorem dX0_areAllReleased_15 : decode cX0_areAllReleased 15 = .ok (.iaload, 1) := by decide +kernel
theorem dX0_areAllReleased_16 : decode cX0_areAllReleased 16 = .ok (.aload_n 0, 1) := by decide +kernel
theorem dX0_areAllReleased_17 : decode cX0_areAllReleased 17 = .ok (.getfield 99, 3) := by decide +kernel
theorem dX0_areAllReleased_20 : decode cX0_areAllReleased 20 = .ok (.if_icmp .le 5, 3) := by decide +kernel
theorem dX0_areAllReleased_23 : decode cX0_areAllReleased 23 = .ok (.iconst 0, 1) := by decide +kernel
theorem dX0_areAllReleased_24 : decode cX0_areAllReleased 24 = .ok (.ireturn, 1) := by decide +kernel
theorem dX0_areAllReleased_25 : decode cX0_areAllReleased 25 = .ok (.iinc 1 1, 3) := by decide +kernel
theorem dX0_areAllReleased_28 : decode cX0_areAllReleased 28 = .ok (.goto (-26), 3) := by decide +kernel
theorem dX0_areAllReleased_31 : decode cX0_areAllReleased 31 = .ok (.iconst 1, 1) := by decide +kernel
theorem dX0_areAllReleased_32 : decode cX0_areAllReleased 32 = .ok (.ireturn, 1) := by decide +kernel
theorem dX0_findWays_0 : decode cX0_findWays 0 = .ok (.aload_n 0, 1) := by decide +kernel
theorem dX0_findWays_1 : decode cX0_findWays 1 = .ok (.invokevirtual 152, 3) := by decide +kernel
theorem dX0_findWays_4 : decode cX0_findWays 4 = .ok (.iconst 0, 1) := by decide +kernel
theorem dX0_findWays_5 : decode cX0_findWays 5 = .ok (.istore_n 1, 1) := by decide +kernel
theorem dX0_findWays_6 : decode cX0_findWays 6 = .ok (.iload_n 1, 1) := by decide +kernel
theorem dX0_findWays_7 : decode cX0_findWays 7 = .ok (.aload_n 0, 1) := by decide +kernel
theorem dX0_findWays_8 : decode cX0_findWays 8 = .ok (.getfield 53, 3) := by decide +kernel
theorem dX0_findWays_11 : decode cX0_findWays 11 = .ok (.if_icmp .ge 16, 3) := by decide +kernel
theorem dX0_findWays_14 : decode cX0_findWays 14 = .ok (.aload_n 0, 1) := by decide +kernel
theorem dX0_findWays_15 : decode cX0_findWays 15 = .ok (.getfield 22, 3) := by decide +kernel
theorem dX0_findWays_18 : decode cX0_findWays 18 = .ok (.iload_n 1, 1) := by decide +kernel
theorem dX0_findWays_19 : decode cX0_findWays 19 = .ok (.iconst (-1), 1) := by decide +kernel
theorem dX0_findWays_20 : decode cX0_findWays 20 = .ok (.iastore, 1) := by decide +kernel
theorem dX0_findWays_21 : decode cX0_findWays 21 = .ok (.iinc 1 1, 3) := by decide +kernel
theorem dX0_findWays_24 : decode cX0_findWays 24 = .ok (.goto (-18), 3) := by decide +kernel
theorem dX0_findWays_27 : decode cX0_findWays 27 = .ok (.iconst 0, 1) := by decide +kernel
theorem dX0_findWays_28 : decode cX0_findWays 28 = .ok (.istore_n 1, 1) := by decide +kernel
theorem dX0_findWays_29 : decode cX0_findWays 29 = .ok (.iload_n 1, 1) := by decide +kernel
theorem dX0_findWays_30 : decode cX0_findWays 30 = .ok (.aload_n 0, 1) := by decide +kernel
theorem dX0_findWays_31 : decode cX0_findWays 31 = .ok (.getfield 78, 3) := by decide +kernel
theorem dX0_findWays_34 : decode cX0_findWays 34 = .ok (.if_icmp .ge 57, 3) := by decide +kernel
theorem dX0_findWays_37 : decode cX0_findWays 37 = .ok (.aload_n 0, 1) := by decide +kernel
theorem dX0_findWays_38 : decode cX0_findWays 38 = .ok (.getfield 44, 3) := by decide +kernel
theorem dX0_findWays_41 : decode cX0_findWays 41 = .ok (.iload_n 1, 1) := by decide +kernel
theorem dX0_findWays_42 : decode cX0_findWays 42 = .ok (.iconst (-1), 1) := by decide +kernel
theorem dX0_findWays_43 : decode cX0_findWays 43 = .ok (.iastore, 1) := by decide +kernel
theorem dX0_findWays_44 : decode cX0_findWays 44 = .ok (.aload_n 0, 1) := by decide +kernel
theorem dX0_findWays_45 : decode cX0_findWays 45 = .ok (.getfield 47, 3) := by decide +kernel
theorem dX0_findWays_48 : decode cX0_findWays 48 = .ok (.iload_n 1, 1) := by decide +kernel
theorem dX0_findWays_49 : decode cX0_findWays 49 = .ok (.iconst (-1), 1) := by decide +kernel
theorem dX0_findWays_50 : decode cX0_findWays 50 = .ok (.iastore, 1) := by decide +kernel
theorem dX0_findWays_51 : decode cX0_findWays 51 = .ok (.aload_n 0, 1) := by decide +kernel
theorem dX0_findWays_52 : decode cX0_findWays 52 = .ok (.iload_n 1, 1) := by decide +kernel
theorem dX0_findWays_53 : decode cX0_findWays 53 = .ok (.aload_n 0, 1) := by decide +kernel
theorem dX0_findWays_54 : decode cX0_findWays 54 = .ok (.getfield 25, 3) := by decide +kernel
theorem dX0_findWays_57 : decode cX0_findWays 57 = .ok (.iload_n 1, 1) := by decide +kernel
theorem dX0_findWays_58 : decode cX0_findWays 58 = .ok (.iaload, 1) := by decide +kernel
theorem dX0_findWays_59 : decode cX0_findWays 59 = .ok (.aload_n 0, 1) := by decide +kernel
theorem dX0_findWays_60 : decode cX0_findWays 60 = .ok (.getfield 28, 3) := by decide +kernel
theorem dX0_findWays_63 : decode cX0_findWays 63 = .ok (.iload_n 1, 1) := by decide +kernel
theorem dX0_findWays_64 : decode cX0_findWays 64 = .ok (.iaload, 1) := by decide +kernel
theorem dX0_findWays_65 : decode cX0_findWays 65 = .ok (.invokevirtual 155, 3) := by decide +kernel
theorem dX0_findWays_68 : decode cX0_findWays 68 = .ok (.aload_n 0, 1) := by decide +kernel
theorem dX0_findWays_69 : decode cX0_findWays 69 = .ok (.iload_n 1, 1) := by decide +kernel
theorem dX0_findWays_70 : decode cX0_findWays 70 = .ok (.aload_n 0, 1) := by decide +kernel
theorem dX0_findWays_71 : decode cX0_findWays 71 = .ok (.getfield 28, 3) := by decide +kernel
theorem dX0_findWays_74 : decode cX0_findWays 74 = .ok (.iload_n 1, 1) := by decide +kernel
theorem dX0_findWays_75 : decode cX0_findWays 75 = .ok (.iaload, 1) := by decide +kernel
theorem dX0_findWays_76 : decode cX0_findWays 76 = .ok (.aload_n 0, 1) := by decide +kernel
theorem dX0_findWays_77 : decode cX0_findWays 77 = .ok (.getfield 25, 3) := by decide +kernel
theorem dX0_findWays_80 : decode cX0_findWays 80 = .ok (.iload_n 1, 1) := by decide +kernel
theorem dX0_findWays_81 : decode cX0_findWays 81 = .ok (.iaload, 1) := by decide +kernel
theorem dX0_findWays_82 : decode cX0_findWays 82 = .ok (.invokevirtual 155, 3) := by decide +kernel
theorem dX0_findWays_85 : decode cX0_findWays 85 = .ok (.iinc 1 1, 3) := by decide +kernel
theorem dX0_findWays_88 : decode cX0_findWays 88 = .ok (.goto (-59), 3) := by decide +kernel
theorem dX0_findWays_91 : decode cX0_findWays 91 = .ok (.return_, 1) := by decide +kernel
theorem dX0_measureDistances_0 : decode cX0_measureDistances 0 = .ok (.aload_n 0, 1) := by decide +kernel
theorem dX0_measureDistances_1 : decode cX0_measureDistances 1 = .ok (.getfield 19, 3) := by decide +kernel
theorem dX0_measureDistances_4 : decode cX0_measureDistances 4 = .ok (.iconst 0, 1) := by decide +kernel
theorem dX0_measureDistances_5 : decode cX0_measureDistances 5 = .ok (.iconst 0, 1) := by decide +kernel
theorem dX0_measureDistances_6 : decode cX0_measureDistances 6 = .ok (.iastore, 1) := by decide +kernel
theorem dX0_measureDistances_7 : decode cX0_measureDistances 7 = .ok (.iconst 1, 1) := by decide +kernel
theorem dX0_measureDistances_8 : decode cX0_measureDistances 8 = .ok (.istore_n 1, 1) := by decide +kernel
theorem dX0_measureDistances_9 : decode cX0_measureDistances 9 = .ok (.iload_n 1, 1) := by decide +kernel
theorem dX0_measureDistances_10 : decode cX0_measureDistances 10 = .ok (.aload_n 0, 1) := by decide +kernel
theorem dX0_measureDistances_11 : decode cX0_measureDistances 11 = .ok (.getfield 53, 3) := by decide +kernel
theorem dX0_measureDistances_14 : decode cX0_measureDistances 14 = .ok (.if_icmp .ge 16, 3) := by decide +kernel
theorem dX0_measureDistances_17 : decode cX0_measureDistances 17 = .ok (.aload_n 0, 1) := by decide +kernel
theorem dX0_measureDistances_18 : decode cX0_measureDistances 18 = .ok (.getfield 19, 3) := by decide +kernel
theorem dX0_measureDistances_21 : decode cX0_measureDistances 21 = .ok (.iload_n 1, 1) := by decide +kernel
theorem dX0_measureDistances_22 : decode cX0_measureDistances 22 = .ok (.iconst (-1), 1) := by decide +kernel
theorem dX0_measureDistances_23 : decode cX0_measureDistances 23 = .ok (.iastore, 1) := by decide +kernel
theorem dX0_measureDistances_24 : decode cX0_measureDistances 24 = .ok (.iinc 1 1, 3) := by decide +kernel
theorem dX0_measureDistances_27 : decode cX0_measureDistances 27 = .ok (.goto (-18), 3) := by decide +kernel
theorem dX0_measureDistances_30 : decode cX0_measureDistances 30 = .ok (.iconst 1, 1) := by decide +kernel
theorem dX0_measureDistances_31 : decode cX0_measureDistances 31 = .ok (.istore_n 1, 1) := by decide +kernel
theorem dX0_measureDistances_32 : decode cX0_measureDistances 32 = .ok (.iload_n 1, 1) := by decide +kernel
theorem dX0_measureDistances_33 : decode cX0_measureDistances 33 = .ok (.aload_n 0, 1) := by decide +kernel
theorem dX0_measureDistances_34 : decode cX0_measureDistances 34 = .ok (.getfield 53, 3) := by decide +kernel
theorem dX0_measureDistances_37 : decode cX0_measureDistances 37 = .ok (.if_icmp .ge 68, 3) := by decide +kernel
theorem dX0_measureDistances_40 : decode cX0_measureDistances 40 = .ok (.iconst 0, 1) := by decide +kernel
theorem dX0_measureDistances_41 : decode cX0_measureDistances 41 = .ok (.istore_n 2, 1) := by decide +kernel
theorem dX0_measureDistances_42 : decode cX0_measureDistances 42 = .ok (.iload_n 2, 1) := by decide +kernel
theorem dX0_measureDistances_43 : decode cX0_measureDistances 43 = .ok (.aload_n 0, 1) := by decide +kernel
theorem dX0_measureDistances_44 : decode cX0_measureDistances 44 = .ok (.getfield 78, 3) := by decide +kernel
theorem dX0_measureDistances_47 : decode cX0_measureDistances 47 = .ok (.if_icmp .ge 52, 3) := by decide +kernel
theorem dX0_measureDistances_50 : decode cX0_measureDistances 50 = .ok (.aload_n 0, 1) := by decide +kernel
theorem dX0_measureDistances_51 : decode cX0_measureDistances 51 = .ok (.getfield 37, 3) := by decide +kernel
theorem dX0_measureDistances_54 : decode cX0_measureDistances 54 = .ok (.iload_n 2, 1) := by decide +kernel
theorem dX0_measureDistances_55 : decode cX0_measureDistances 55 = .ok (.baload, 1) := by decide +kernel
theorem dX0_measureDistances_56 : decode cX0_measureDistances 56 = .ok (.ifCond .eq 37, 3) := by decide +kernel
theorem dX0_measureDistances_59 : decode cX0_measureDistances 59 = .ok (.aload_n 0, 1) := by decide +kernel
theorem dX0_measureDistances_60 : decode cX0_measureDistances 60 = .ok (.aload_n 0, 1) := by decide +kernel
theorem dX0_measureDistances_61 : decode cX0_measureDistances 61 = .ok (.getfield 25, 3) := by decide +kernel
theorem dX0_measureDistances_64 : decode cX0_measureDistances 64 = .ok (.iload_n 2, 1) := by decide +kernel
theorem dX0_measureDistances_65 : decode cX0_measureDistances 65 = .ok (.iaload, 1) := by decide +kernel
theorem dX0_measureDistances_66 : decode cX0_measureDistances 66 = .ok (.aload_n 0, 1) := by decide +kernel
theorem dX0_measureDistances_67 : decode cX0_measureDistances 67 = .ok (.getfield 28, 3) := by decide +kernel
theorem dX0_measureDistances_70 : decode cX0_measureDistances 70 = .ok (.iload_n 2, 1) := by decide +kernel
theorem dX0_measureDistances_71 : decode cX0_measureDistances 71 = .ok (.iaload, 1) := by decide +kernel
theorem dX0_measureDistances_72 : decode cX0_measureDistances 72 = .ok (.iload_n 1, 1) := by decide +kernel
theorem dX0_measureDistances_73 : decode cX0_measureDistances 73 = .ok (.invokevirtual 159, 3) := by decide +kernel
theorem dX0_measureDistances_76 : decode cX0_measureDistances 76 = .ok (.aload_n 0, 1) := by decide +kernel
theorem dX0_measureDistances_77 : decode cX0_measureDistances 77 = .ok (.aload_n 0, 1) := by decide +kernel
theorem dX0_measureDistances_78 : decode cX0_measureDistances 78 = .ok (.getfield 28, 3) := by decide +kernel
theorem dX0_measureDistances_81 : decode cX0_measureDistances 81 = .ok (.iload_n 2, 1) := by decide +kernel
theorem dX0_measureDistances_82 : decode cX0_measureDistances 82 = .ok (.iaload, 1) := by decide +kernel
theorem dX0_measureDistances_83 : decode cX0_measureDistances 83 = .ok (.aload_n 0, 1) := by decide +kernel
theorem dX0_measureDistances_84 : decode cX0_measureDistances 84 = .ok (.getfield 25, 3) := by decide +kernel
theorem dX0_measureDistances_87 : decode cX0_measureDistances 87 = .ok (.iload_n 2, 1) := by decide +kernel
theorem dX0_measureDistances_88 : decode cX0_measureDistances 88 = .ok (.iaload, 1) := by decide +kernel
theorem dX0_measureDistances_89 : decode cX0_measureDistances 89 = .ok (.iload_n 1, 1) := by decide +kernel
theorem dX0_measureDistances_90 : decode cX0_measureDistances 90 = .ok (.invokevirtual 159, 3) := by decide +kernel
theorem dX0_measureDistances_93 : decode cX0_measureDistances 93 = .ok (.iinc 2 1, 3) := by decide +kernel
theorem dX0_measureDistances_96 : decode cX0_measureDistances 96 = .ok (.goto (-54), 3) := by decide +kernel
theorem dX0_measureDistances_99 : decode cX0_measureDistances 99 = .ok (.iinc 1 1, 3) := by decide +kernel
theorem dX0_measureDistances_102 : decode cX0_measureDistances 102 = .ok (.goto (-70), 3) := by decide +kernel
theorem dX0_measureDistances_105 : decode cX0_measureDistances 105 = .ok (.return_, 1) := by decide +kernel
theorem dX0_reach_0 : decode cX0_reach 0 = .ok (.aload_n 0, 1) := by decide +kernel
theorem dX0_reach_1 : decode cX0_reach 1 = .ok (.getfield 19, 3) := by decide +kernel
theorem dX0_reach_4 : decode cX0_reach 4 = .ok (.iload_n 1, 1) := by decide +kernel
theorem dX0_reach_5 : decode cX0_reach 5 = .ok (.iaload, 1) := by decide +kernel
theorem dX0_reach_6 : decode cX0_reach 6 = .ok (.iconst (-1), 1) := by decide +kernel
theorem dX0_reach_7 : decode cX0_reach 7 = .ok (.if_icmp .ne 22, 3) := by decide +kernel
theorem dX0_reach_10 : decode cX0_reach 10 = .ok (.aload_n 0, 1) := by decide +kernel
theorem dX0_reach_11 : decode cX0_reach 11 = .ok (.getfield 19, 3) := by decide +kernel
theorem dX0_reach_14 : decode cX0_reach 14 = .ok (.iload_n 2, 1) := by decide +kernel
theorem dX0_reach_15 : decode cX0_reach 15 = .ok (.iaload, 1) := by decide +kernel
theorem dX0_reach_16 : decode cX0_reach 16 = .ok (.iload_n 3, 1) := by decide +kernel
theorem dX0_reach_17 : decode cX0_reach 17 = .ok (.iconst 1, 1) := by decide +kernel
theorem dX0_reach_18 : decode cX0_reach 18 = .ok (.isub, 1) := by decide +kernel
theorem dX0_reach_19 : decode cX0_reach 19 = .ok (.if_icmp .ne 10, 3) := by decide +kernel
theorem dX0_reach_22 : decode cX0_reach 22 = .ok (.aload_n 0, 1) := by decide +kernel
theorem dX0_reach_23 : decode cX0_reach 23 = .ok (.getfield 19, 3) := by decide +kernel
theorem dX0_reach_26 : decode cX0_reach 26 = .ok (.iload_n 1, 1) := by decide +kernel
theorem dX0_reach_27 : decode cX0_reach 27 = .ok (.iload_n 3, 1) := by decide +kernel
theorem dX0_reach_28 : decode cX0_reach 28 = .ok (.iastore, 1) := by decide +kernel
theorem dX0_reach_29 : decode cX0_reach 29 = .ok (.return_, 1) := by decide +kernel
theorem dX0_offerDoor_0 : decode cX0_offerDoor 0 = .ok (.aload_n 0, 1) := by decide +kernel
theorem dX0_offerDoor_1 : decode cX0_offerDoor 1 = .ok (.getfield 37, 3) := by decide +kernel
theorem dX0_offerDoor_4 : decode cX0_offerDoor 4 = .ok (.iload_n 1, 1) := by decide +kernel
theorem dX0_offerDoor_5 : decode cX0_offerDoor 5 = .ok (.baload, 1) := by decide +kernel
theorem dX0_offerDoor_6 : decode cX0_offerDoor 6 = .ok (.ifCond .eq 34, 3) := by decide +kernel
theorem dX0_offerDoor_9 : decode cX0_offerDoor 9 = .ok (.aload_n 0, 1) := by decide +kernel
theorem dX0_offerDoor_10 : decode cX0_offerDoor 10 = .ok (.getfield 19, 3) := by decide +kernel
theorem dX0_offerDoor_13 : decode cX0_offerDoor 13 = .ok (.iload_n 2, 1) := by decide +kernel
theorem dX0_offerDoor_14 : decode cX0_offerDoor 14 = .ok (.iaload, 1) := by decide +kernel
theorem dX0_offerDoor_15 : decode cX0_offerDoor 15 = .ok (.iconst 1, 1) := by decide +kernel
theorem dX0_offerDoor_16 : decode cX0_offerDoor 16 = .ok (.if_icmp .lt 24, 3) := by decide +kernel
theorem dX0_offerDoor_19 : decode cX0_offerDoor 19 = .ok (.aload_n 0, 1) := by decide +kernel
theorem dX0_offerDoor_20 : decode cX0_offerDoor 20 = .ok (.getfield 19, 3) := by decide +kernel
theorem dX0_offerDoor_23 : decode cX0_offerDoor 23 = .ok (.iload_n 3, 1) := by decide +kernel
theorem dX0_offerDoor_24 : decode cX0_offerDoor 24 = .ok (.iaload, 1) := by decide +kernel
theorem dX0_offerDoor_25 : decode cX0_offerDoor 25 = .ok (.aload_n 0, 1) := by decide +kernel
theorem dX0_offerDoor_26 : decode cX0_offerDoor 26 = .ok (.getfield 19, 3) := by decide +kernel
theorem dX0_offerDoor_29 : decode cX0_offerDoor 29 = .ok (.iload_n 2, 1) := by decide +kernel
theorem dX0_offerDoor_30 : decode cX0_offerDoor 30 = .ok (.iaload, 1) := by decide +kernel
theorem dX0_offerDoor_31 : decode cX0_offerDoor 31 = .ok (.iconst 1, 1) := by decide +kernel
theorem dX0_offerDoor_32 : decode cX0_offerDoor 32 = .ok (.isub, 1) := by decide +kernel
theorem dX0_offerDoor_33 : decode cX0_offerDoor 33 = .ok (.if_icmp .ne 7, 3) := by decide +kernel
theorem dX0_offerDoor_36 : decode cX0_offerDoor 36 = .ok (.iconst 1, 1) := by decide +kernel
theorem dX0_offerDoor_37 : decode cX0_offerDoor 37 = .ok (.goto 4, 3) := by decide +kernel
theorem dX0_offerDoor_40 : decode cX0_offerDoor 40 = .ok (.iconst 0, 1) := by decide +kernel
theorem dX0_offerDoor_41 : decode cX0_offerDoor 41 = .ok (.istore 4, 2) := by decide +kernel
theorem dX0_offerDoor_43 : decode cX0_offerDoor 43 = .ok (.iload 4, 2) := by decide +kernel
theorem dX0_offerDoor_45 : decode cX0_offerDoor 45 = .ok (.ifCond .eq 34, 3) := by decide +kernel
theorem dX0_offerDoor_48 : decode cX0_offerDoor 48 = .ok (.aload_n 0, 1) := by decide +kernel
theorem dX0_offerDoor_49 : decode cX0_offerDoor 49 = .ok (.getfield 22, 3) := by decide +kernel
theorem dX0_offerDoor_52 : decode cX0_offerDoor 52 = .ok (.iload_n 2, 1) := by decide +kernel
theorem dX0_offerDoor_53 : decode cX0_offerDoor 53 = .ok (.iaload, 1) := by decide +kernel
theorem dX0_offerDoor_54 : decode cX0_offerDoor 54 = .ok (.iconst (-1), 1) := by decide +kernel
theorem dX0_offerDoor_55 : decode cX0_offerDoor 55 = .ok (.if_icmp .ne 24, 3) := by decide +kernel
theorem dX0_offerDoor_58 : decode cX0_offerDoor 58 = .ok (.aload_n 0, 1) := by decide +kernel
theorem dX0_offerDoor_59 : decode cX0_offerDoor 59 = .ok (.getfield 22, 3) := by decide +kernel
theorem dX0_offerDoor_62 : decode cX0_offerDoor 62 = .ok (.iload_n 2, 1) := by decide +kernel
theorem dX0_offerDoor_63 : decode cX0_offerDoor 63 = .ok (.iload_n 1, 1) := by decide +kernel
theorem dX0_offerDoor_64 : decode cX0_offerDoor 64 = .ok (.iastore, 1) := by decide +kernel
theorem dX0_offerDoor_65 : decode cX0_offerDoor 65 = .ok (.aload_n 0, 1) := by decide +kernel
theorem dX0_offerDoor_66 : decode cX0_offerDoor 66 = .ok (.getfield 44, 3) := by decide +kernel
theorem dX0_offerDoor_69 : decode cX0_offerDoor 69 = .ok (.iload_n 1, 1) := by decide +kernel
theorem dX0_offerDoor_70 : decode cX0_offerDoor 70 = .ok (.iload_n 2, 1) := by decide +kernel
theorem dX0_offerDoor_71 : decode cX0_offerDoor 71 = .ok (.iastore, 1) := by decide +kernel
theorem dX0_offerDoor_72 : decode cX0_offerDoor 72 = .ok (.aload_n 0, 1) := by decide +kernel
theorem dX0_offerDoor_73 : decode cX0_offerDoor 73 = .ok (.getfield 47, 3) := by decide +kernel
theorem dX0_offerDoor_76 : decode cX0_offerDoor 76 = .ok (.iload_n 1, 1) := by decide +kernel
theorem dX0_offerDoor_77 : decode cX0_offerDoor 77 = .ok (.iload_n 3, 1) := by decide +kernel
theorem dX0_offerDoor_78 : decode cX0_offerDoor 78 = .ok (.iastore, 1) := by decide +kernel
theorem dX0_offerDoor_79 : decode cX0_offerDoor 79 = .ok (.return_, 1) := by decide +kernel
theorem dX0_isPlace_0 : decode cX0_isPlace 0 = .ok (.iload_n 1, 1) := by decide +kernel
theorem dX0_isPlace_1 : decode cX0_isPlace 1 = .ok (.ifCond .lt 15, 3) := by decide +kernel
theorem dX0_isPlace_4 : decode cX0_isPlace 4 = .ok (.iload_n 1, 1) := by decide +kernel
theorem dX0_isPlace_5 : decode cX0_isPlace 5 = .ok (.aload_n 0, 1) := by decide +kernel
theorem dX0_isPlace_6 : decode cX0_isPlace 6 = .ok (.getfield 53, 3) := by decide +kernel
theorem dX0_isPlace_9 : decode cX0_isPlace 9 = .ok (.if_icmp .ge 7, 3) := by decide +kernel
theorem dX0_isPlace_12 : decode cX0_isPlace 12 = .ok (.iconst 1, 1) := by decide +kernel
theorem dX0_isPlace_13 : decode cX0_isPlace 13 = .ok (.goto 4, 3) := by decide +kernel
theorem dX0_isPlace_16 : decode cX0_isPlace 16 = .ok (.iconst 0, 1) := by decide +kernel
theorem dX0_isPlace_17 : decode cX0_isPlace 17 = .ok (.ireturn, 1) := by decide +kernel
theorem dX0_isDoor_0 : decode cX0_isDoor 0 = .ok (.iload_n 1, 1) := by decide +kernel
theorem dX0_isDoor_1 : decode cX0_isDoor 1 = .ok (.ifCond .lt 15, 3) := by decide +kernel
theorem dX0_isDoor_4 : decode cX0_isDoor 4 = .ok (.iload_n 1, 1) := by decide +kernel
theorem dX0_isDoor_5 : decode cX0_isDoor 5 = .ok (.aload_n 0, 1) := by decide +kernel
theorem dX0_isDoor_6 : decode cX0_isDoor 6 = .ok (.getfield 78, 3) := by decide +kernel
theorem dX0_isDoor_9 : decode cX0_isDoor 9 = .ok (.if_icmp .ge 7, 3) := by decide +kernel
theorem dX0_isDoor_12 : decode cX0_isDoor 12 = .ok (.iconst 1, 1) := by decide +kernel
theorem dX0_isDoor_13 : decode cX0_isDoor 13 = .ok (.goto 4, 3) := by decide +kernel
theorem dX0_isDoor_16 : decode cX0_isDoor 16 = .ok (.iconst 0, 1) := by decide +kernel
theorem dX0_isDoor_17 : decode cX0_isDoor 17 = .ok (.ireturn, 1) := by decide +kernel
theorem dX0_isBetween_0 : decode cX0_isBetween 0 = .ok (.iload_n 0, 1) := by decide +kernel
theorem dX0_isBetween_1 : decode cX0_isBetween 1 = .ok (.iload_n 1, 1) := by decide +kernel
theorem dX0_isBetween_2 : decode cX0_isBetween 2 = .ok (.if_icmp .lt 12, 3) := by decide +kernel
theorem dX0_isBetween_5 : decode cX0_isBetween 5 = .ok (.iload_n 0, 1) := by decide +kernel
theorem dX0_isBetween_6 : decode cX0_isBetween 6 = .ok (.iload_n 2, 1) := by decide +kernel
theorem dX0_isBetween_7 : decode cX0_isBetween 7 = .ok (.if_icmp .gt 7, 3) := by decide +kernel
theorem dX0_isBetween_10 : decode cX0_isBetween 10 = .ok (.iconst 1, 1) := by decide +kernel
theorem dX0_isBetween_11 : decode cX0_isBetween 11 = .ok (.goto 4, 3) := by decide +kernel
theorem dX0_isBetween_14 : decode cX0_isBetween 14 = .ok (.iconst 0, 1) := by decide +kernel
theorem dX0_isBetween_15 : decode cX0_isBetween 15 = .ok (.ireturn, 1) := by decide +kernel
theorem dX0_requirePlace_0 : decode cX0_requirePlace 0 = .ok (.aload_n 0, 1) := by decide +kernel
theorem dX0_requirePlace_1 : decode cX0_requirePlace 1 = .ok (.iload_n 1, 1) := by decide +kernel
theorem dX0_requirePlace_2 : decode cX0_requirePlace 2 = .ok (.invokevirtual 148, 3) := by decide +kernel
theorem dX0_requirePlace_5 : decode cX0_requirePlace 5 = .ok (.ifCond .ne 13, 3) := by decide +kernel
theorem dX0_requirePlace_8 : decode cX0_requirePlace 8 = .ok (.new 162, 3) := by decide +kernel
theorem dX0_requirePlace_11 : decode cX0_requirePlace 11 = .ok (.dup, 1) := by decide +kernel
theorem dX0_requirePlace_12 : decode cX0_requirePlace 12 = .ok (.ldc 164, 2) := by decide +kernel
theorem dX0_requirePlace_14 : decode cX0_requirePlace 14 = .ok (.invokespecial 166, 3) := by decide +kernel
theorem dX0_requirePlace_17 : decode cX0_requirePlace 17 = .ok (.athrow, 1) := by decide +kernel
theorem dX0_requirePlace_18 : decode cX0_requirePlace 18 = .ok (.return_, 1) := by decide +kernel
theorem dX0_requireDoor_0 : decode cX0_requireDoor 0 = .ok (.aload_n 0, 1) := by decide +kernel
theorem dX0_requireDoor_1 : decode cX0_requireDoor 1 = .ok (.iload_n 1, 1) := by decide +kernel
theorem dX0_requireDoor_2 : decode cX0_requireDoor 2 = .ok (.invokevirtual 108, 3) := by decide +kernel
theorem dX0_requireDoor_5 : decode cX0_requireDoor 5 = .ok (.ifCond .ne 13, 3) := by decide +kernel
theorem dX0_requireDoor_8 : decode cX0_requireDoor 8 = .ok (.new 162, 3) := by decide +kernel
theorem dX0_requireDoor_11 : decode cX0_requireDoor 11 = .ok (.dup, 1) := by decide +kernel
theorem dX0_requireDoor_12 : decode cX0_requireDoor 12 = .ok (.ldc 169, 2) := by decide +kernel
theorem dX0_requireDoor_14 : decode cX0_requireDoor 14 = .ok (.invokespecial 166, 3) := by decide +kernel
theorem dX0_requireDoor_17 : decode cX0_requireDoor 17 = .ok (.athrow, 1) := by decide +kernel
theorem dX0_requireDoor_18 : decode cX0_requireDoor 18 = .ok (.return_, 1) := by decide +kernel
theorem dX0_requireArgument_0 : decode cX0_requireArgument 0 = .ok (.iload_n 0, 1) := by decide +kernel
theorem dX0_requireArgument_1 : decode cX0_requireArgument 1 = .ok (.ifCond .ne 13, 3) := by decide +kernel
theorem dX0_requireArgument_4 : decode cX0_requireArgument 4 = .ok (.new 171, 3) := by decide +kernel
theorem dX0_requireArgument_7 : decode cX0_requireArgument 7 = .ok (.dup, 1) := by decide +kernel
theorem dX0_requireArgument_8 : decode cX0_requireArgument 8 = .ok (.ldc 173, 2) := by decide +kernel
theorem dX0_requireArgument_10 : decode cX0_requireArgument 10 = .ok (.invokespecial 175, 3) := by decide +kernel
theorem dX0_requireArgument_13 : decode cX0_requireArgument 13 = .ok (.athrow, 1) := by decide +kernel
theorem dX0_requireArgument_14 : decode cX0_requireArgument 14 = .ok (.return_, 1) := by decide +kernel
theorem dX0_requireState_0 : decode cX0_requireState 0 = .ok (.iload_n 0, 1) := by decide +kernel
theorem dX0_requireState_1 : decode cX0_requireState 1 = .ok (.ifCond .ne 13, 3) := by decide +kernel
theorem dX0_requireState_4 : decode cX0_requireState 4 = .ok (.new 176, 3) := by decide +kernel
theorem dX0_requireState_7 : decode cX0_requireState 7 = .ok (.dup, 1) := by decide +kernel
theorem dX0_requireState_8 : decode cX0_requireState 8 = .ok (.ldc 178, 2) := by decide +kernel
theorem dX0_requireState_10 : decode cX0_requireState 10 = .ok (.invokespecial 180, 3) := by decide +kernel
theorem dX0_requireState_13 : decode cX0_requireState 13 = .ok (.athrow, 1) := by decide +kernel
theorem dX0_requireState_14 : decode cX0_requireState 14 = .ok (.return_, 1) := by decide +kernel
theorem dX0_requireElement_0 : decode cX0_requireElement 0 = .ok (.iload_n 0, 1) := by decide +kernel
theorem dX0_requireElement_1 : decode cX0_requireElement 1 = .ok (.ifCond .ne 13, 3) := by decide +kernel
theorem dX0_requireElement_4 : decode cX0_requireElement 4 = .ok (.new 181, 3) := by decide +kernel
theorem dX0_requireElement_7 : decode cX0_requireElement 7 = .ok (.dup, 1) := by decide +kernel
theorem dX0_requireElement_8 : decode cX0_requireElement 8 = .ok (.ldc 183, 2) := by decide +kernel
theorem dX0_requireElement_10 : decode cX0_requireElement 10 = .ok (.invokespecial 185, 3) := by decide +kernel
theorem dX0_requireElement_13 : decode cX0_requireElement 13 = .ok (.athrow, 1) := by decide +kernel
theorem dX0_requireElement_14 : decode cX0_requireElement 14 = .ok (.return_, 1) := by decide +kernel
end
section
/-! ===== the class Stairflow: its world ===== -/
def gfX : List (Bool × Nat) := [(true, 0), (false, 0), (false, 1), (false, 2), (false, 3), (false, 4), (true, 1), (false, 5), (false, 6), (false, 7), (false, 8), (false, 9), (false, 10), (false, 11), (false, 12), (false, 13), (true, 2), (true, 3), (true, 4)]
def gaX : List (Bool × Nat) := [(false, 11), (false, 11), (false, 11), (false, 11), (false, 11), (false, 16), (false, 16), (false, 16), (false, 16), (true, 16), (false, 16), (false, 16), (false, 16), (false, 16)]
abbrev gX (cI cZ : ClassId) (q : Nat) (r : Nat → Nat) (F : List Int) (A : List (Nat → Int)) : va_W := gW 0 gfX gaX cI cZ q r F A
theorem g_cat1 {l : List Value} (h : l.all (fun v => v.category == 1) = true) : ∀ v ∈ l, v.category = 1 := fun v hv => by
  have := List.all_eq_true.mp h v hv
  simpa using this
theorem g_narZ {x : Int} (h : x = 0 ∨ x = 1) : narrow .boolean (.int (iI x)) = .int (iI x) := by
  rcases h with rfl | rfl <;> rfl
end
section
set_option maxRecDepth 100000 in
theorem flX0_areAllReleased_16 : Cond.fieldLink RX0 16 (TX0 3).1 (TX0 3).2.1 (TX0 3).2.2.1 ∈ wsX0_areAllReleased := by decide +kernel
set_option maxRecDepth 100000 in
theorem flX0_areAllReleased_53 : Cond.fieldLink RX0 53 (TX0 0).1 (TX0 0).2.1 (TX0 0).2.2.1 ∈ wsX0_areAllReleased := by decide +kernel
set_option maxRecDepth 100000 in
theorem flX0_areAllReleased_99 : Cond.fieldLink RX0 99 (TX0 16).1 (TX0 16).2.1 (TX0 16).2.2.1 ∈ wsX0_areAllReleased := by decide +kernel
set_option maxRecDepth 100000 in
theorem flX0_flowInward_19 : Cond.fieldLink RX0 19 (TX0 4).1 (TX0 4).2.1 (TX0 4).2.2.1 ∈ wsX0_flowInward := by decide +kernel
set_option maxRecDepth 100000 in
theorem flX0_flowInward_25 : Cond.fieldLink RX0 25 (TX0 7).1 (TX0 7).2.1 (TX0 7).2.2.1 ∈ wsX0_flowInward := by decide +kernel
set_option maxRecDepth 100000 in
theorem flX0_flowInward_28 : Cond.fieldLink RX0 28 (TX0 8).1 (TX0 8).2.1 (TX0 8).2.2.1 ∈ wsX0_flowInward := by decide +kernel
set_option maxRecDepth 100000 in
theorem flX0_flowInward_31 : Cond.fieldLink RX0 31 (TX0 9).1 (TX0 9).2.1 (TX0 9).2.2.1 ∈ wsX0_flowInward := by decide +kernel
set_option maxRecDepth 100000 in
theorem flX0_flowInward_37 : Cond.fieldLink RX0 37 (TX0 11).1 (TX0 11).2.1 (TX0 11).2.2.1 ∈ wsX0_flowInward := by decide +kernel
set_option maxRecDepth 100000 in
theorem flX0_flowInward_78 : Cond.fieldLink RX0 78 (TX0 6).1 (TX0 6).2.1 (TX0 6).2.2.1 ∈ wsX0_flowInward := by decide +kernel
set_option maxRecDepth 100000 in
theorem flX0_inside_13 : Cond.fieldLink RX0 13 (TX0 2).1 (TX0 2).2.1 (TX0 2).2.2.1 ∈ wsX0_inside := by decide +kernel
set_option maxRecDepth 100000 in
theorem flX0_inside_53 : Cond.fieldLink RX0 53 (TX0 0).1 (TX0 0).2.1 (TX0 0).2.2.1 ∈ wsX0_inside := by decide +kernel
set_option maxRecDepth 100000 in
theorem flX0_isDoor_78 : Cond.fieldLink RX0 78 (TX0 6).1 (TX0 6).2.1 (TX0 6).2.2.1 ∈ wsX0_isDoor := by decide +kernel
set_option maxRecDepth 100000 in
theorem flX0_isPlace_53 : Cond.fieldLink RX0 53 (TX0 0).1 (TX0 0).2.1 (TX0 0).2.2.1 ∈ wsX0_isPlace := by decide +kernel
set_option maxRecDepth 100000 in
theorem flX0_peopleFrom_13 : Cond.fieldLink RX0 13 (TX0 2).1 (TX0 2).2.1 (TX0 2).2.2.1 ∈ wsX0_peopleFrom := by decide +kernel
set_option maxRecDepth 100000 in
theorem flX0_peopleFrom_19 : Cond.fieldLink RX0 19 (TX0 4).1 (TX0 4).2.1 (TX0 4).2.2.1 ∈ wsX0_peopleFrom := by decide +kernel
set_option maxRecDepth 100000 in
theorem flX0_peopleFrom_53 : Cond.fieldLink RX0 53 (TX0 0).1 (TX0 0).2.1 (TX0 0).2.2.1 ∈ wsX0_peopleFrom := by decide +kernel
set_option maxRecDepth 100000 in
theorem flX0_roomLeft_13 : Cond.fieldLink RX0 13 (TX0 2).1 (TX0 2).2.1 (TX0 2).2.2.1 ∈ wsX0_roomLeft := by decide +kernel
set_option maxRecDepth 100000 in
theorem flX0_roomLeft_9 : Cond.fieldLink RX0 9 (TX0 1).1 (TX0 1).2.1 (TX0 1).2.2.1 ∈ wsX0_roomLeft := by decide +kernel
set_option maxRecDepth 100000 in
theorem flX0_trapped_13 : Cond.fieldLink RX0 13 (TX0 2).1 (TX0 2).2.1 (TX0 2).2.2.1 ∈ wsX0_trapped := by decide +kernel
set_option maxRecDepth 100000 in
theorem flX0_trapped_19 : Cond.fieldLink RX0 19 (TX0 4).1 (TX0 4).2.1 (TX0 4).2.2.1 ∈ wsX0_trapped := by decide +kernel
set_option maxRecDepth 100000 in
theorem flX0_trapped_53 : Cond.fieldLink RX0 53 (TX0 0).1 (TX0 0).2.1 (TX0 0).2.2.1 ∈ wsX0_trapped := by decide +kernel
set_option maxRecDepth 100000 in
theorem inX0_areAllReleased : ∀ w ∈ u_ws RX0 TX0 19, w ∈ wsX0_areAllReleased := by decide +kernel
set_option maxRecDepth 100000 in
theorem inX0_flowInward : ∀ w ∈ u_ws RX0 TX0 19, w ∈ wsX0_flowInward := by decide +kernel
set_option maxRecDepth 100000 in
theorem inX0_inside : ∀ w ∈ u_ws RX0 TX0 19, w ∈ wsX0_inside := by decide +kernel
set_option maxRecDepth 100000 in
theorem inX0_isDoor : ∀ w ∈ u_ws RX0 TX0 19, w ∈ wsX0_isDoor := by decide +kernel
set_option maxRecDepth 100000 in
theorem inX0_isPlace : ∀ w ∈ u_ws RX0 TX0 19, w ∈ wsX0_isPlace := by decide +kernel
set_option maxRecDepth 100000 in
theorem inX0_peopleFrom : ∀ w ∈ u_ws RX0 TX0 19, w ∈ wsX0_peopleFrom := by decide +kernel
set_option maxRecDepth 100000 in
theorem inX0_roomLeft : ∀ w ∈ u_ws RX0 TX0 19, w ∈ wsX0_roomLeft := by decide +kernel
set_option maxRecDepth 100000 in
theorem inX0_trapped : ∀ w ∈ u_ws RX0 TX0 19, w ∈ wsX0_trapped := by decide +kernel
set_option maxRecDepth 100000 in
theorem kcX0_roomLeft_151 : Cond.constant RX0 151 (iI 1000000) ∈ wsX0_roomLeft := by decide +kernel
set_option maxHeartbeats 4000000 in
set_option maxRecDepth 100000 in
theorem cX_isBetween {l : Launch} {D : va_G} {cI cZ : ClassId} {v a b rv : Int} (hr : (-2147483648 ≤ v ∧ v < 2147483648) ∧ (-2147483648 ≤ a ∧ a < 2147483648) ∧ (-2147483648 ≤ b ∧ b < 2147483648)) (hrv : (rv = 1 ∧ a ≤ v ∧ v ≤ b) ∨ (rv = 0 ∧ (v < a ∨ b < v))) : gMI l yX0_isBetween wsX0_isBetween 0 D (gTy cI cZ) [] [.int (iI v), .int (iI a), .int (iI b)] rv [] := by
  refine g_ofI (by decide +kernel) rfl rfl (Nat.le_of_ble_eq_true rfl) (g_cat1 rfl) (g_narZ (by omega)) ?_
  intro p e s m args below meth c Q A0 E hret
  have hts := E.1.2.2.2.2
  show gJ p l e (gR 0) s m args below meth c 0 0 Q A0 D [] [some (.int (iI v)), some (.int (iI a)), some (.int (iI b))] 0 []
  refine g_iload_n E dX0_isBetween_0 rfl rfl ?_
  refine g_iload_n E dX0_isBetween_1 rfl rfl ?_
  refine g_icmp_lt E dX0_isBetween_2 (tgt := 14) (by decide) (by omega) (fun h1 => ?_) (fun h1 => ?_)
  · refine g_iconst E dX0_isBetween_14 ?_
    exact g_ri (by omega) hret dX0_isBetween_15
  · refine g_iload_n E dX0_isBetween_5 rfl rfl ?_
    refine g_iload_n E dX0_isBetween_6 rfl rfl ?_
    refine g_icmp_gt E dX0_isBetween_7 (tgt := 14) (by decide) (by omega) (fun h2 => ?_) (fun h2 => ?_)
    · refine g_iconst E dX0_isBetween_14 ?_
      exact g_ri (by omega) hret dX0_isBetween_15
    · refine g_iconst E dX0_isBetween_10 ?_
      refine g_goto E dX0_isBetween_11 (tgt := 15) (by decide) ?_
      exact g_ri (by omega) hret dX0_isBetween_15
set_option maxHeartbeats 4000000 in
set_option maxRecDepth 100000 in
theorem cX_isPlace {l : Launch} {D : va_G} {cI cZ : ClassId} {q : Nat} {r : Nat → Nat} {P Dn : Nat} {t la wa : Int} {f0 f1 f2 f3 f4 f5 f6 f7 f8 f9 f10 f11 f12 f13 : Nat → Int} {x rv : Int} (hr : (-2147483648 ≤ x ∧ x < 2147483648) ∧ P ≤ 16) (hrv : (rv = 1 ∧ 0 ≤ x ∧ x < P) ∨ (rv = 0 ∧ (x < 0 ∨ P ≤ x))) : gMI l yX0_isPlace wsX0_isPlace 0 D (gTy cI cZ) (gX cI cZ q r [(P : Int), (Dn : Int), t, la, wa] [f0, f1, f2, f3, f4, f5, f6, f7, f8, f9, f10, f11, f12, f13]) [.ref q, .int (iI x)] rv (gX cI cZ q r [(P : Int), (Dn : Int), t, la, wa] [f0, f1, f2, f3, f4, f5, f6, f7, f8, f9, f10, f11, f12, f13]) := by
  refine g_ofI (by decide +kernel) rfl rfl (Nat.le_of_ble_eq_true rfl) (g_cat1 rfl) (g_narZ (by omega)) ?_
  intro p e s m args below meth c Q A0 E hret
  have hts := E.1.2.2.2.2
  show gJ p l e (gR 0) s m args below meth c 0 0 Q A0 D (gX cI cZ q r [(P : Int), (Dn : Int), t, la, wa] [f0, f1, f2, f3, f4, f5, f6, f7, f8, f9, f10, f11, f12, f13]) [some (.ref q), some (.int (iI x))] 0 []
  refine g_iload_n E dX0_isPlace_0 rfl rfl ?_
  refine g_if_lt E dX0_isPlace_1 (tgt := 16) (by decide) (by omega) (fun h1 => ?_) (fun h1 => ?_)
  · refine g_iconst E dX0_isPlace_16 ?_
    exact g_ri (by omega) hret dX0_isPlace_17
  · refine g_iload_n E dX0_isPlace_4 rfl rfl ?_
    refine g_aload_n E dX0_isPlace_5 rfl rfl ?_
    refine g_getI E inX0_isPlace rfl flX0_isPlace_53 dX0_isPlace_6 (by decide) rfl rfl ?_
    refine g_icmp_ge E dX0_isPlace_9 (tgt := 16) (by decide) (by omega) (fun h2 => ?_) (fun h2 => ?_)
    · refine g_iconst E dX0_isPlace_16 ?_
      exact g_ri (by omega) hret dX0_isPlace_17
    · refine g_iconst E dX0_isPlace_12 ?_
      refine g_goto E dX0_isPlace_13 (tgt := 17) (by decide) ?_
      exact g_ri (by omega) hret dX0_isPlace_17
set_option maxHeartbeats 4000000 in
set_option maxRecDepth 100000 in
theorem cX_isDoor {l : Launch} {D : va_G} {cI cZ : ClassId} {q : Nat} {r : Nat → Nat} {P Dn : Nat} {t la wa : Int} {f0 f1 f2 f3 f4 f5 f6 f7 f8 f9 f10 f11 f12 f13 : Nat → Int} {x rv : Int} (hr : (-2147483648 ≤ x ∧ x < 2147483648) ∧ Dn ≤ 16) (hrv : (rv = 1 ∧ 0 ≤ x ∧ x < Dn) ∨ (rv = 0 ∧ (x < 0 ∨ Dn ≤ x))) : gMI l yX0_isDoor wsX0_isDoor 0 D (gTy cI cZ) (gX cI cZ q r [(P : Int), (Dn : Int), t, la, wa] [f0, f1, f2, f3, f4, f5, f6, f7, f8, f9, f10, f11, f12, f13]) [.ref q, .int (iI x)] rv (gX cI cZ q r [(P : Int), (Dn : Int), t, la, wa] [f0, f1, f2, f3, f4, f5, f6, f7, f8, f9, f10, f11, f12, f13]) := by
  refine g_ofI (by decide +kernel) rfl rfl (Nat.le_of_ble_eq_true rfl) (g_cat1 rfl) (g_narZ (by omega)) ?_
  intro p e s m args below meth c Q A0 E hret
  have hts := E.1.2.2.2.2
  show gJ p l e (gR 0) s m args below meth c 0 0 Q A0 D (gX cI cZ q r [(P : Int), (Dn : Int), t, la, wa] [f0, f1, f2, f3, f4, f5, f6, f7, f8, f9, f10, f11, f12, f13]) [some (.ref q), some (.int (iI x))] 0 []
  refine g_iload_n E dX0_isDoor_0 rfl rfl ?_
  refine g_if_lt E dX0_isDoor_1 (tgt := 16) (by decide) (by omega) (fun h1 => ?_) (fun h1 => ?_)
  · refine g_iconst E dX0_isDoor_16 ?_
    exact g_ri (by omega) hret dX0_isDoor_17
  · refine g_iload_n E dX0_isDoor_4 rfl rfl ?_
    refine g_aload_n E dX0_isDoor_5 rfl rfl ?_
    refine g_getI E inX0_isDoor rfl flX0_isDoor_78 dX0_isDoor_6 (by decide) rfl rfl ?_
    refine g_icmp_ge E dX0_isDoor_9 (tgt := 16) (by decide) (by omega) (fun h2 => ?_) (fun h2 => ?_)
    · refine g_iconst E dX0_isDoor_16 ?_
      exact g_ri (by omega) hret dX0_isDoor_17
    · refine g_iconst E dX0_isDoor_12 ?_
      refine g_goto E dX0_isDoor_13 (tgt := 17) (by decide) ?_
      exact g_ri (by omega) hret dX0_isDoor_17
set_option maxHeartbeats 4000000 in
set_option maxRecDepth 100000 in
theorem cX_roomLeft {l : Launch} {D : va_G} {cI cZ : ClassId} {q : Nat} {r : Nat → Nat} {P Dn : Nat} {t la wa : Int} {f0 f1 f2 f3 f4 f5 f6 f7 f8 f9 f10 f11 f12 f13 : Nat → Int} {x : Int} {i : Nat} {rv : Int} (hx : x = (i : Int) ∧ i < 11) (hrv : rv = pRoom f0 f1 i) : gMI l yX0_roomLeft wsX0_roomLeft 0 D (gTy cI cZ) (gX cI cZ q r [(P : Int), (Dn : Int), t, la, wa] [f0, f1, f2, f3, f4, f5, f6, f7, f8, f9, f10, f11, f12, f13]) [.ref q, .int (iI x)] rv (gX cI cZ q r [(P : Int), (Dn : Int), t, la, wa] [f0, f1, f2, f3, f4, f5, f6, f7, f8, f9, f10, f11, f12, f13]) := by
  refine g_ofI (by decide +kernel) rfl rfl (Nat.le_of_ble_eq_true rfl) (g_cat1 rfl) rfl ?_
  intro p e s m args below meth c Q A0 E hret
  have hts := E.1.2.2.2.2
  show gJ p l e (gR 0) s m args below meth c 0 0 Q A0 D (gX cI cZ q r [(P : Int), (Dn : Int), t, la, wa] [f0, f1, f2, f3, f4, f5, f6, f7, f8, f9, f10, f11, f12, f13]) [some (.ref q), some (.int (iI x))] 0 []
  refine g_iload_n E dX0_roomLeft_0 rfl rfl ?_
  refine g_if_ne E dX0_roomLeft_1 (tgt := 9) (by decide) (by omega) (fun h1 => ?_) (fun h1 => ?_)
  · refine g_aload_n E dX0_roomLeft_9 rfl rfl ?_
    refine g_getR E inX0_roomLeft rfl flX0_roomLeft_9 dX0_roomLeft_10 (by decide) rfl ?_
    refine g_iload_n E dX0_roomLeft_13 rfl rfl ?_
    refine g_ald E dX0_roomLeft_14 rfl rfl hx.1 (by omega) ?_
    refine g_aload_n E dX0_roomLeft_15 rfl rfl ?_
    refine g_getR E inX0_roomLeft rfl flX0_roomLeft_13 dX0_roomLeft_16 (by decide) rfl ?_
    refine g_iload_n E dX0_roomLeft_19 rfl rfl ?_
    refine g_ald E dX0_roomLeft_20 rfl rfl hx.1 (by omega) ?_
    refine g_isub E dX0_roomLeft_21 ?_
    exact g_ri (by rw [hrv, pRoom, if_neg (by omega)]) hret dX0_roomLeft_22
  · refine g_ldcI E kcX0_roomLeft_151 dX0_roomLeft_4 ?_
    refine g_goto E dX0_roomLeft_6 (tgt := 22) (by decide) ?_
    exact g_ri (by rw [hrv, pRoom, if_pos (by omega)]) hret dX0_roomLeft_22
set_option maxHeartbeats 4000000 in
set_option maxRecDepth 100000 in
theorem cX_inside {l : Launch} {D : va_G} {cI cZ : ClassId} {q : Nat} {r : Nat → Nat} {P Dn : Nat} {t la wa : Int} {f0 f1 f2 f3 f4 f5 f6 f7 f8 f9 f10 f11 f12 f13 : Nat → Int} (hP : 1 ≤ P ∧ P ≤ 11) : gMI l yX0_inside wsX0_inside 0 D (gTy cI cZ) (gX cI cZ q r [(P : Int), (Dn : Int), t, la, wa] [f0, f1, f2, f3, f4, f5, f6, f7, f8, f9, f10, f11, f12, f13]) [.ref q] (pSum f1 P) (gX cI cZ q r [(P : Int), (Dn : Int), t, la, wa] [f0, f1, f2, f3, f4, f5, f6, f7, f8, f9, f10, f11, f12, f13]) := by
  refine g_ofI (by decide +kernel) rfl rfl (Nat.le_of_ble_eq_true rfl) (g_cat1 rfl) rfl ?_
  intro p e s m args below meth c Q A0 E hret
  have hts := E.1.2.2.2.2
  show gJ p l e (gR 0) s m args below meth c 0 0 Q A0 D (gX cI cZ q r [(P : Int), (Dn : Int), t, la, wa] [f0, f1, f2, f3, f4, f5, f6, f7, f8, f9, f10, f11, f12, f13]) [some (.ref q), none, none] 0 []
  have key : ∀ k : Nat, k ≤ P → (1 ≤ k → gJ p l e (gR 0) s m args below meth c 0 0 Q A0 D (gX cI cZ q r [(P : Int), (Dn : Int), t, la, wa] [f0, f1, f2, f3, f4, f5, f6, f7, f8, f9, f10, f11, f12, f13]) [some (.ref q), some (.int (iI (pSum f1 k))), some (.int (iI k))] 4 []) := by
    refine g_loop _ P ?_ ?_
    · intro _
      refine g_iload_n E dX0_inside_4 rfl rfl ?_
      refine g_aload_n E dX0_inside_5 rfl rfl ?_
      refine g_getI E inX0_inside rfl flX0_inside_53 dX0_inside_6 (by decide) rfl rfl ?_
      refine g_icmp_ge_t E dX0_inside_9 (tgt := 27) (by decide) (by omega) (by omega) ?_
      refine g_iload_n E dX0_inside_27 rfl rfl ?_
      exact g_ri rfl hret dX0_inside_28
    · intro k hk ih h1
      refine g_iload_n E dX0_inside_4 rfl rfl ?_
      refine g_aload_n E dX0_inside_5 rfl rfl ?_
      refine g_getI E inX0_inside rfl flX0_inside_53 dX0_inside_6 (by decide) rfl rfl ?_
      refine g_icmp_ge_f E dX0_inside_9 (tgt := 27) (by decide) (by omega) (by omega) ?_
      refine g_iload_n E dX0_inside_12 rfl rfl ?_
      refine g_aload_n E dX0_inside_13 rfl rfl ?_
      refine g_getR E inX0_inside rfl flX0_inside_13 dX0_inside_14 (by decide) rfl ?_
      refine g_iload_n E dX0_inside_17 rfl rfl ?_
      refine g_ald E dX0_inside_18 rfl rfl rfl (by omega) ?_
      refine g_iadd E dX0_inside_19 ?_
      refine g_istore_n E (lv' := [_, _, _]) dX0_inside_20 rfl (Nat.le_of_ble_eq_true rfl) rfl ?_
      refine g_iinc E (lv' := [_, _, _]) dX0_inside_21 rfl rfl ?_
      refine g_goto E dX0_inside_24 (tgt := 4) (by decide) ?_
      exact g_eq (ih (by omega)) rfl (by rw [pSum_s _ h1]; rfl) rfl
  refine g_iconst E dX0_inside_0 ?_
  refine g_istore_n E (lv' := [_, _, _]) dX0_inside_1 rfl (Nat.le_of_ble_eq_true rfl) rfl ?_
  refine g_iconst E dX0_inside_2 ?_
  refine g_istore_n E (lv' := [_, _, _]) dX0_inside_3 rfl (Nat.le_of_ble_eq_true rfl) rfl ?_
  exact key 1 (by omega) (by omega)
set_option maxHeartbeats 4000000 in
set_option maxRecDepth 100000 in
theorem cX_trapped {l : Launch} {D : va_G} {cI cZ : ClassId} {q : Nat} {r : Nat → Nat} {P Dn : Nat} {t la wa : Int} {f0 f1 f2 f3 f4 f5 f6 f7 f8 f9 f10 f11 f12 f13 : Nat → Int} (hP : 1 ≤ P ∧ P ≤ 11) (hs3 : ∀ j : Nat, -2147483648 ≤ f3 j ∧ f3 j < 2147483648) : gMI l yX0_trapped wsX0_trapped 0 D (gTy cI cZ) (gX cI cZ q r [(P : Int), (Dn : Int), t, la, wa] [f0, f1, f2, f3, f4, f5, f6, f7, f8, f9, f10, f11, f12, f13]) [.ref q] (pSum (fun j => if f3 j = -1 then f1 j else 0) P) (gX cI cZ q r [(P : Int), (Dn : Int), t, la, wa] [f0, f1, f2, f3, f4, f5, f6, f7, f8, f9, f10, f11, f12, f13]) := by
  refine g_ofI (by decide +kernel) rfl rfl (Nat.le_of_ble_eq_true rfl) (g_cat1 rfl) rfl ?_
  intro p e s m args below meth c Q A0 E hret
  have hts := E.1.2.2.2.2
  show gJ p l e (gR 0) s m args below meth c 0 0 Q A0 D (gX cI cZ q r [(P : Int), (Dn : Int), t, la, wa] [f0, f1, f2, f3, f4, f5, f6, f7, f8, f9, f10, f11, f12, f13]) [some (.ref q), none, none] 0 []
  have key : ∀ k : Nat, k ≤ P → (1 ≤ k → gJ p l e (gR 0) s m args below meth c 0 0 Q A0 D (gX cI cZ q r [(P : Int), (Dn : Int), t, la, wa] [f0, f1, f2, f3, f4, f5, f6, f7, f8, f9, f10, f11, f12, f13]) [some (.ref q), some (.int (iI (pSum (fun j => if f3 j = -1 then f1 j else 0) k))), some (.int (iI k))] 4 []) := by
    refine g_loop _ P ?_ ?_
    · intro _
      refine g_iload_n E dX0_trapped_4 rfl rfl ?_
      refine g_aload_n E dX0_trapped_5 rfl rfl ?_
      refine g_getI E inX0_trapped rfl flX0_trapped_53 dX0_trapped_6 (by decide) rfl rfl ?_
      refine g_icmp_ge_t E dX0_trapped_9 (tgt := 37) (by decide) (by omega) (by omega) ?_
      refine g_iload_n E dX0_trapped_37 rfl rfl ?_
      exact g_ri rfl hret dX0_trapped_38
    · intro k hk ih h1
      have h3 := hs3 k
      refine g_iload_n E dX0_trapped_4 rfl rfl ?_
      refine g_aload_n E dX0_trapped_5 rfl rfl ?_
      refine g_getI E inX0_trapped rfl flX0_trapped_53 dX0_trapped_6 (by decide) rfl rfl ?_
      refine g_icmp_ge_f E dX0_trapped_9 (tgt := 37) (by decide) (by omega) (by omega) ?_
      refine g_aload_n E dX0_trapped_12 rfl rfl ?_
      refine g_getR E inX0_trapped rfl flX0_trapped_19 dX0_trapped_13 (by decide) rfl ?_
      refine g_iload_n E dX0_trapped_16 rfl rfl ?_
      refine g_ald E dX0_trapped_17 rfl rfl rfl (by omega) ?_
      refine g_iconst E dX0_trapped_18 ?_
      refine g_icmp_ne E dX0_trapped_19 (tgt := 31) (by decide) (by omega) (fun h2 => ?_) (fun h2 => ?_)
      · refine g_iinc E (lv' := [_, _, _]) dX0_trapped_31 rfl rfl ?_
        refine g_goto E dX0_trapped_34 (tgt := 4) (by decide) ?_
        exact g_eq (ih (by omega)) rfl (by rw [pSum_s _ h1, if_neg h2, Int.add_zero]; rfl) rfl
      · refine g_iload_n E dX0_trapped_22 rfl rfl ?_
        refine g_aload_n E dX0_trapped_23 rfl rfl ?_
        refine g_getR E inX0_trapped rfl flX0_trapped_13 dX0_trapped_24 (by decide) rfl ?_
        refine g_iload_n E dX0_trapped_27 rfl rfl ?_
        refine g_ald E dX0_trapped_28 rfl rfl rfl (by omega) ?_
        refine g_iadd E dX0_trapped_29 ?_
        refine g_istore_n E (lv' := [_, _, _]) dX0_trapped_30 rfl (Nat.le_of_ble_eq_true rfl) rfl ?_
        refine g_iinc E (lv' := [_, _, _]) dX0_trapped_31 rfl rfl ?_
        refine g_goto E dX0_trapped_34 (tgt := 4) (by decide) ?_
        exact g_eq (ih (by omega)) rfl (by rw [pSum_s _ h1, if_pos h2]; rfl) rfl
  refine g_iconst E dX0_trapped_0 ?_
  refine g_istore_n E (lv' := [_, _, _]) dX0_trapped_1 rfl (Nat.le_of_ble_eq_true rfl) rfl ?_
  refine g_iconst E dX0_trapped_2 ?_
  refine g_istore_n E (lv' := [_, _, _]) dX0_trapped_3 rfl (Nat.le_of_ble_eq_true rfl) rfl ?_
  exact key 1 (by omega) (by omega)
set_option maxHeartbeats 4000000 in
set_option maxRecDepth 100000 in
theorem cX_peopleFrom {l : Launch} {D : va_G} {cI cZ : ClassId} {q : Nat} {r : Nat → Nat} {P Dn : Nat} {t la wa : Int} {f0 f1 f2 f3 f4 f5 f6 f7 f8 f9 f10 f11 f12 f13 : Nat → Int} {d : Int} (hP : 1 ≤ P ∧ P ≤ 11) (hd : 0 ≤ d ∧ d ≤ 11) (hs3 : ∀ j : Nat, -2147483648 ≤ f3 j ∧ f3 j < 2147483648) : gMI l yX0_peopleFrom wsX0_peopleFrom 0 D (gTy cI cZ) (gX cI cZ q r [(P : Int), (Dn : Int), t, la, wa] [f0, f1, f2, f3, f4, f5, f6, f7, f8, f9, f10, f11, f12, f13]) [.ref q, .int (iI d)] (pCrowd f3 f1 d P) (gX cI cZ q r [(P : Int), (Dn : Int), t, la, wa] [f0, f1, f2, f3, f4, f5, f6, f7, f8, f9, f10, f11, f12, f13]) := by
  refine g_ofI (by decide +kernel) rfl rfl (Nat.le_of_ble_eq_true rfl) (g_cat1 rfl) rfl ?_
  intro p e s m args below meth c Q A0 E hret
  have hts := E.1.2.2.2.2
  show gJ p l e (gR 0) s m args below meth c 0 0 Q A0 D (gX cI cZ q r [(P : Int), (Dn : Int), t, la, wa] [f0, f1, f2, f3, f4, f5, f6, f7, f8, f9, f10, f11, f12, f13]) [some (.ref q), some (.int (iI d)), none, none] 0 []
  have key : ∀ k : Nat, k ≤ P → (1 ≤ k → gJ p l e (gR 0) s m args below meth c 0 0 Q A0 D (gX cI cZ q r [(P : Int), (Dn : Int), t, la, wa] [f0, f1, f2, f3, f4, f5, f6, f7, f8, f9, f10, f11, f12, f13]) [some (.ref q), some (.int (iI d)), some (.int (iI (pCrowd f3 f1 d k))), some (.int (iI k))] 4 []) := by
    refine g_loop _ P ?_ ?_
    · intro _
      refine g_iload_n E dX0_peopleFrom_4 rfl rfl ?_
      refine g_aload_n E dX0_peopleFrom_5 rfl rfl ?_
      refine g_getI E inX0_peopleFrom rfl flX0_peopleFrom_53 dX0_peopleFrom_6 (by decide) rfl rfl ?_
      refine g_icmp_ge_t E dX0_peopleFrom_9 (tgt := 37) (by decide) (by omega) (by omega) ?_
      refine g_iload_n E dX0_peopleFrom_37 rfl rfl ?_
      exact g_ri rfl hret dX0_peopleFrom_38
    · intro k hk ih h1
      have h3 := hs3 k
      refine g_iload_n E dX0_peopleFrom_4 rfl rfl ?_
      refine g_aload_n E dX0_peopleFrom_5 rfl rfl ?_
      refine g_getI E inX0_peopleFrom rfl flX0_peopleFrom_53 dX0_peopleFrom_6 (by decide) rfl rfl ?_
      refine g_icmp_ge_f E dX0_peopleFrom_9 (tgt := 37) (by decide) (by omega) (by omega) ?_
      refine g_aload_n E dX0_peopleFrom_12 rfl rfl ?_
      refine g_getR E inX0_peopleFrom rfl flX0_peopleFrom_19 dX0_peopleFrom_13 (by decide) rfl ?_
      refine g_iload_n E dX0_peopleFrom_16 rfl rfl ?_
      refine g_ald E dX0_peopleFrom_17 rfl rfl rfl (by omega) ?_
      refine g_iload_n E dX0_peopleFrom_18 rfl rfl ?_
      refine g_icmp_lt E dX0_peopleFrom_19 (tgt := 31) (by decide) (by omega) (fun h2 => ?_) (fun h2 => ?_)
      · refine g_iinc E (lv' := [_, _, _, _]) dX0_peopleFrom_31 rfl rfl ?_
        refine g_goto E dX0_peopleFrom_34 (tgt := 4) (by decide) ?_
        exact g_eq (ih (by omega)) rfl (by rw [pCrowd, pCrowd, pSum_s _ h1, if_neg (by omega), Int.add_zero]; rfl) rfl
      · refine g_iload_n E dX0_peopleFrom_22 rfl rfl ?_
        refine g_aload_n E dX0_peopleFrom_23 rfl rfl ?_
        refine g_getR E inX0_peopleFrom rfl flX0_peopleFrom_13 dX0_peopleFrom_24 (by decide) rfl ?_
        refine g_iload_n E dX0_peopleFrom_27 rfl rfl ?_
        refine g_ald E dX0_peopleFrom_28 rfl rfl rfl (by omega) ?_
        refine g_iadd E dX0_peopleFrom_29 ?_
        refine g_istore_n E (lv' := [_, _, _, _]) dX0_peopleFrom_30 rfl (Nat.le_of_ble_eq_true rfl) rfl ?_
        refine g_iinc E (lv' := [_, _, _, _]) dX0_peopleFrom_31 rfl rfl ?_
        refine g_goto E dX0_peopleFrom_34 (tgt := 4) (by decide) ?_
        exact g_eq (ih (by omega)) rfl (by rw [pCrowd, pCrowd, pSum_s _ h1, if_pos (by omega)]; rfl) rfl
  refine g_iconst E dX0_peopleFrom_0 ?_
  refine g_istore_n E (lv' := [_, _, _, _]) dX0_peopleFrom_1 rfl (Nat.le_of_ble_eq_true rfl) rfl ?_
  refine g_iconst E dX0_peopleFrom_2 ?_
  refine g_istore_n E (lv' := [_, _, _, _]) dX0_peopleFrom_3 rfl (Nat.le_of_ble_eq_true rfl) rfl ?_
  exact key 1 (by omega) (by omega)
set_option maxHeartbeats 4000000 in
set_option maxRecDepth 100000 in
theorem cX_flowInward {l : Launch} {D : va_G} {cI cZ : ClassId} {q : Nat} {r : Nat → Nat} {P Dn : Nat} {t la wa : Int} {f0 f1 f2 f3 f4 f5 f6 f7 f8 f9 f10 f11 f12 f13 : Nat → Int} {d : Int} (hP : 1 ≤ P ∧ P ≤ 11) (hDn : Dn ≤ 16) (hd : 0 ≤ d ∧ d ≤ 11) (hs3 : ∀ j : Nat, -2147483648 ≤ f3 j ∧ f3 j < 2147483648) (hs9 : ∀ j : Nat, -2147483648 ≤ f9 j ∧ f9 j < 2147483648) (he5 : ∀ j : Nat, j < Dn → 0 ≤ f5 j ∧ f5 j < P) (he6 : ∀ j : Nat, j < Dn → 0 ≤ f6 j ∧ f6 j < P) : gMI l yX0_flowInward wsX0_flowInward 0 D (gTy cI cZ) (gX cI cZ q r [(P : Int), (Dn : Int), t, la, wa] [f0, f1, f2, f3, f4, f5, f6, f7, f8, f9, f10, f11, f12, f13]) [.ref q, .int (iI d)] (pFlow f3 f5 f6 f9 f7 d Dn) (gX cI cZ q r [(P : Int), (Dn : Int), t, la, wa] [f0, f1, f2, f3, f4, f5, f6, f7, f8, f9, f10, f11, f12, f13]) := by
  refine g_ofI (by decide +kernel) rfl rfl (Nat.le_of_ble_eq_true rfl) (g_cat1 rfl) rfl ?_
  intro p e s m args below meth c Q A0 E hret
  have hts := E.1.2.2.2.2
  show gJ p l e (gR 0) s m args below meth c 0 0 Q A0 D (gX cI cZ q r [(P : Int), (Dn : Int), t, la, wa] [f0, f1, f2, f3, f4, f5, f6, f7, f8, f9, f10, f11, f12, f13]) [some (.ref q), some (.int (iI d)), none, none, none, none, none] 0 []
  have key : ∀ k : Nat, k ≤ Dn → ∀ a b c9 : Option Value, gJ p l e (gR 0) s m args below meth c 0 0 Q A0 D (gX cI cZ q r [(P : Int), (Dn : Int), t, la, wa] [f0, f1, f2, f3, f4, f5, f6, f7, f8, f9, f10, f11, f12, f13]) [some (.ref q), some (.int (iI d)), some (.int (iI (pFlow f3 f5 f6 f9 f7 d k))), some (.int (iI k)), a, b, c9] 4 [] := by
    refine g_loop _ Dn ?_ ?_
    · intro a b c9
      refine g_iload_n E dX0_flowInward_4 rfl rfl ?_
      refine g_aload_n E dX0_flowInward_5 rfl rfl ?_
      refine g_getI E inX0_flowInward rfl flX0_flowInward_78 dX0_flowInward_6 (by decide) rfl rfl ?_
      refine g_icmp_ge_t E dX0_flowInward_9 (tgt := 102) (by decide) (by omega) (by omega) ?_
      refine g_iload_n E dX0_flowInward_102 rfl rfl ?_
      exact g_ri rfl hret dX0_flowInward_103
    · intro k hk ih a b c9
      have h5 := he5 k hk
      have h6 := he6 k hk
      have h35 := hs3 (f5 k).toNat
      have h36 := hs3 (f6 k).toNat
      have h9 := hs9 k
      have fin1 : ∀ a b c9, ((f3 (f5 k).toNat = d ∧ f3 (f6 k).toNat = d - 1) ∨ (f3 (f6 k).toNat = d ∧ f3 (f5 k).toNat = d - 1)) ∧ f9 k ≠ 0 → gJ p l e (gR 0) s m args below meth c 0 0 Q A0 D (gX cI cZ q r [(P : Int), (Dn : Int), t, la, wa] [f0, f1, f2, f3, f4, f5, f6, f7, f8, f9, f10, f11, f12, f13]) [some (.ref q), some (.int (iI d)), some (.int (iI (pFlow f3 f5 f6 f9 f7 d k + f7 k))), some (.int (iI k)), a, b, c9] 96 [] := by
        intro a b c9 hh
        refine g_iinc E (lv' := [_, _, _, _, _, _, _]) dX0_flowInward_96 rfl rfl ?_
        refine g_goto E dX0_flowInward_99 (tgt := 4) (by decide) ?_
        exact g_eq (ih a b c9) rfl (by show _ = [_, _, some (Value.int (iI (pFlow f3 f5 f6 f9 f7 d k + (if ((f3 (f5 k).toNat = d ∧ f3 (f6 k).toNat = d - 1) ∨ (f3 (f6 k).toNat = d ∧ f3 (f5 k).toNat = d - 1)) ∧ f9 k ≠ 0 then f7 k else 0)))), _, _, _, _]; rw [if_pos hh]; rfl) rfl
      have fin0 : ∀ a b c9, ¬ (((f3 (f5 k).toNat = d ∧ f3 (f6 k).toNat = d - 1) ∨ (f3 (f6 k).toNat = d ∧ f3 (f5 k).toNat = d - 1)) ∧ f9 k ≠ 0) → gJ p l e (gR 0) s m args below meth c 0 0 Q A0 D (gX cI cZ q r [(P : Int), (Dn : Int), t, la, wa] [f0, f1, f2, f3, f4, f5, f6, f7, f8, f9, f10, f11, f12, f13]) [some (.ref q), some (.int (iI d)), some (.int (iI (pFlow f3 f5 f6 f9 f7 d k))), some (.int (iI k)), a, b, c9] 96 [] := by
        intro a b c9 hh
        refine g_iinc E (lv' := [_, _, _, _, _, _, _]) dX0_flowInward_96 rfl rfl ?_
        refine g_goto E dX0_flowInward_99 (tgt := 4) (by decide) ?_
        exact g_eq (ih a b c9) rfl (by show _ = [_, _, some (Value.int (iI (pFlow f3 f5 f6 f9 f7 d k + (if ((f3 (f5 k).toNat = d ∧ f3 (f6 k).toNat = d - 1) ∨ (f3 (f6 k).toNat = d ∧ f3 (f5 k).toNat = d - 1)) ∧ f9 k ≠ 0 then f7 k else 0)))), _, _, _, _]; rw [if_neg hh, Int.add_zero]; rfl) rfl
      have tail1 : ∀ a b, (f3 (f5 k).toNat = d ∧ f3 (f6 k).toNat = d - 1) ∨ (f3 (f6 k).toNat = d ∧ f3 (f5 k).toNat = d - 1) → gJ p l e (gR 0) s m args below meth c 0 0 Q A0 D (gX cI cZ q r [(P : Int), (Dn : Int), t, la, wa] [f0, f1, f2, f3, f4, f5, f6, f7, f8, f9, f10, f11, f12, f13]) [some (.ref q), some (.int (iI d)), some (.int (iI (pFlow f3 f5 f6 f9 f7 d k))), some (.int (iI k)), a, b, c9] 66 [] := by
        intro a b hh
        refine g_iconst E dX0_flowInward_66 ?_
        refine g_goto E dX0_flowInward_67 (tgt := 71) (by decide) ?_
        refine g_istore E (lv' := [_, _, _, _, _, _, _]) dX0_flowInward_71 (Nat.le_of_ble_eq_true rfl) rfl ?_
        refine g_aload_n E dX0_flowInward_73 rfl rfl ?_
        refine g_getR E inX0_flowInward rfl flX0_flowInward_37 dX0_flowInward_74 (by decide) rfl ?_
        refine g_iload_n E dX0_flowInward_77 rfl rfl ?_
        refine g_zld E dX0_flowInward_78 rfl rfl rfl (by omega) ?_
        refine g_if_eq E dX0_flowInward_79 (tgt := 96) (by decide) (by omega) (fun h7 => ?_) (fun h7 => ?_)
        · exact fin0 _ _ _ (fun h => h.2 h7)
        · refine g_iload E dX0_flowInward_82 rfl ?_
          refine g_if_eq_f E dX0_flowInward_84 (tgt := 96) (by decide) (by omega) (by omega) ?_
          refine g_iload_n E dX0_flowInward_87 rfl rfl ?_
          refine g_aload_n E dX0_flowInward_88 rfl rfl ?_
          refine g_getR E inX0_flowInward rfl flX0_flowInward_31 dX0_flowInward_89 (by decide) rfl ?_
          refine g_iload_n E dX0_flowInward_92 rfl rfl ?_
          refine g_ald E dX0_flowInward_93 rfl rfl rfl (by omega) ?_
          refine g_iadd E dX0_flowInward_94 ?_
          refine g_istore_n E (lv' := [_, _, _, _, _, _, _]) dX0_flowInward_95 rfl (Nat.le_of_ble_eq_true rfl) rfl ?_
          exact fin1 _ _ _ ⟨hh, h7⟩
      have tail0 : ∀ a b, ¬ ((f3 (f5 k).toNat = d ∧ f3 (f6 k).toNat = d - 1) ∨ (f3 (f6 k).toNat = d ∧ f3 (f5 k).toNat = d - 1)) → gJ p l e (gR 0) s m args below meth c 0 0 Q A0 D (gX cI cZ q r [(P : Int), (Dn : Int), t, la, wa] [f0, f1, f2, f3, f4, f5, f6, f7, f8, f9, f10, f11, f12, f13]) [some (.ref q), some (.int (iI d)), some (.int (iI (pFlow f3 f5 f6 f9 f7 d k))), some (.int (iI k)), a, b, c9] 70 [] := by
        intro a b hh
        refine g_iconst E dX0_flowInward_70 ?_
        refine g_istore E (lv' := [_, _, _, _, _, _, _]) dX0_flowInward_71 (Nat.le_of_ble_eq_true rfl) rfl ?_
        refine g_aload_n E dX0_flowInward_73 rfl rfl ?_
        refine g_getR E inX0_flowInward rfl flX0_flowInward_37 dX0_flowInward_74 (by decide) rfl ?_
        refine g_iload_n E dX0_flowInward_77 rfl rfl ?_
        refine g_zld E dX0_flowInward_78 rfl rfl rfl (by omega) ?_
        refine g_if_eq E dX0_flowInward_79 (tgt := 96) (by decide) (by omega) (fun h7 => ?_) (fun h7 => ?_)
        · exact fin0 _ _ _ (fun h => hh h.1)
        · refine g_iload E dX0_flowInward_82 rfl ?_
          refine g_if_eq_t E dX0_flowInward_84 (tgt := 96) (by decide) (by omega) (by omega) ?_
          exact fin0 _ _ _ (fun h => hh h.1)
      refine g_iload_n E dX0_flowInward_4 rfl rfl ?_
      refine g_aload_n E dX0_flowInward_5 rfl rfl ?_
      refine g_getI E inX0_flowInward rfl flX0_flowInward_78 dX0_flowInward_6 (by decide) rfl rfl ?_
      refine g_icmp_ge_f E dX0_flowInward_9 (tgt := 102) (by decide) (by omega) (by omega) ?_
      refine g_aload_n E dX0_flowInward_12 rfl rfl ?_
      refine g_getR E inX0_flowInward rfl flX0_flowInward_19 dX0_flowInward_13 (by decide) rfl ?_
      refine g_aload_n E dX0_flowInward_16 rfl rfl ?_
      refine g_getR E inX0_flowInward rfl flX0_flowInward_25 dX0_flowInward_17 (by decide) rfl ?_
      refine g_iload_n E dX0_flowInward_20 rfl rfl ?_
      refine g_ald E dX0_flowInward_21 rfl rfl rfl (by omega) ?_
      refine g_ald E dX0_flowInward_22 rfl rfl (i := (f5 k).toNat) (by omega) (by omega) ?_
      refine g_istore E (lv' := [_, _, _, _, _, _, _]) dX0_flowInward_23 (Nat.le_of_ble_eq_true rfl) rfl ?_
      refine g_aload_n E dX0_flowInward_25 rfl rfl ?_
      refine g_getR E inX0_flowInward rfl flX0_flowInward_19 dX0_flowInward_26 (by decide) rfl ?_
      refine g_aload_n E dX0_flowInward_29 rfl rfl ?_
      refine g_getR E inX0_flowInward rfl flX0_flowInward_28 dX0_flowInward_30 (by decide) rfl ?_
      refine g_iload_n E dX0_flowInward_33 rfl rfl ?_
      refine g_ald E dX0_flowInward_34 rfl rfl rfl (by omega) ?_
      refine g_ald E dX0_flowInward_35 rfl rfl (i := (f6 k).toNat) (by omega) (by omega) ?_
      refine g_istore E (lv' := [_, _, _, _, _, _, _]) dX0_flowInward_36 (Nat.le_of_ble_eq_true rfl) rfl ?_
      refine g_iload E dX0_flowInward_38 rfl ?_
      refine g_iload_n E dX0_flowInward_40 rfl rfl ?_
      refine g_icmp_ne E dX0_flowInward_41 (tgt := 52) (by decide) (by omega) (fun h1 => ?_) (fun h1 => ?_)
      · refine g_iload E dX0_flowInward_52 rfl ?_
        refine g_iload_n E dX0_flowInward_54 rfl rfl ?_
        refine g_icmp_ne E dX0_flowInward_55 (tgt := 70) (by decide) (by omega) (fun h2 => ?_) (fun h2 => ?_)
        · exact tail0 _ _ (by omega)
        · refine g_iload E dX0_flowInward_58 rfl ?_
          refine g_iload_n E dX0_flowInward_60 rfl rfl ?_
          refine g_iconst E dX0_flowInward_61 ?_
          refine g_isub E dX0_flowInward_62 ?_
          refine g_icmp_ne E dX0_flowInward_63 (tgt := 70) (by decide) (by omega) (fun h3 => ?_) (fun h3 => ?_)
          · exact tail0 _ _ (by omega)
          · exact tail1 _ _ (by omega)
      · refine g_iload E dX0_flowInward_44 rfl ?_
        refine g_iload_n E dX0_flowInward_46 rfl rfl ?_
        refine g_iconst E dX0_flowInward_47 ?_
        refine g_isub E dX0_flowInward_48 ?_
        refine g_icmp_eq E dX0_flowInward_49 (tgt := 66) (by decide) (by omega) (fun h2 => ?_) (fun h2 => ?_)
        · exact tail1 _ _ (by omega)
        · refine g_iload E dX0_flowInward_52 rfl ?_
          refine g_iload_n E dX0_flowInward_54 rfl rfl ?_
          refine g_icmp_ne E dX0_flowInward_55 (tgt := 70) (by decide) (by omega) (fun h3 => ?_) (fun h3 => ?_)
          · exact tail0 _ _ (by omega)
          · refine g_iload E dX0_flowInward_58 rfl ?_
            refine g_iload_n E dX0_flowInward_60 rfl rfl ?_
            refine g_iconst E dX0_flowInward_61 ?_
            refine g_isub E dX0_flowInward_62 ?_
            refine g_icmp_ne E dX0_flowInward_63 (tgt := 70) (by decide) (by omega) (fun h4 => ?_) (fun h4 => ?_)
            · exact tail0 _ _ (by omega)
            · exact tail1 _ _ (by omega)
  refine g_iconst E dX0_flowInward_0 ?_
  refine g_istore_n E (lv' := [_, _, _, _, _, _, _]) dX0_flowInward_1 rfl (Nat.le_of_ble_eq_true rfl) rfl ?_
  refine g_iconst E dX0_flowInward_2 ?_
  refine g_istore_n E (lv' := [_, _, _, _, _, _, _]) dX0_flowInward_3 rfl (Nat.le_of_ble_eq_true rfl) rfl ?_
  exact key 0 (by omega) _ _ _
set_option maxHeartbeats 4000000 in
set_option maxRecDepth 100000 in
theorem cX_areAllReleased {l : Launch} {D : va_G} {cI cZ : ClassId} {q : Nat} {r : Nat → Nat} {P Dn : Nat} {t la wa : Int} {f0 f1 f2 f3 f4 f5 f6 f7 f8 f9 f10 f11 f12 f13 : Nat → Int} {rv : Int} (hP : 1 ≤ P ∧ P ≤ 11) (ht : -2147483648 ≤ t ∧ t < 2147483648) (hs2 : ∀ j : Nat, -2147483648 ≤ f2 j ∧ f2 j < 2147483648) (hrv : (rv = 1 ∧ ∀ k : Nat, k < P → f2 k ≤ t) ∨ (rv = 0 ∧ ∃ k : Nat, k < P ∧ t < f2 k)) : gMI l yX0_areAllReleased wsX0_areAllReleased 0 D (gTy cI cZ) (gX cI cZ q r [(P : Int), (Dn : Int), t, la, wa] [f0, f1, f2, f3, f4, f5, f6, f7, f8, f9, f10, f11, f12, f13]) [.ref q] rv (gX cI cZ q r [(P : Int), (Dn : Int), t, la, wa] [f0, f1, f2, f3, f4, f5, f6, f7, f8, f9, f10, f11, f12, f13]) := by
  refine g_ofI (by decide +kernel) rfl rfl (Nat.le_of_ble_eq_true rfl) (g_cat1 rfl) (g_narZ (by omega)) ?_
  intro p e s m args below meth c Q A0 E hret
  have hts := E.1.2.2.2.2
  show gJ p l e (gR 0) s m args below meth c 0 0 Q A0 D (gX cI cZ q r [(P : Int), (Dn : Int), t, la, wa] [f0, f1, f2, f3, f4, f5, f6, f7, f8, f9, f10, f11, f12, f13]) [some (.ref q), none] 0 []
  have key : ∀ k : Nat, k ≤ P → ((∀ j : Nat, j < k → f2 j ≤ t) → gJ p l e (gR 0) s m args below meth c 0 0 Q A0 D (gX cI cZ q r [(P : Int), (Dn : Int), t, la, wa] [f0, f1, f2, f3, f4, f5, f6, f7, f8, f9, f10, f11, f12, f13]) [some (.ref q), some (.int (iI k))] 2 []) := by
    refine g_loop _ P ?_ ?_
    · intro hall
      have h1 : rv = 1 := by
        rcases hrv with h | ⟨h, j, hj, h2⟩
        · exact h.1
        · have := hall j hj
          omega
      refine g_iload_n E dX0_areAllReleased_2 rfl rfl ?_
      refine g_aload_n E dX0_areAllReleased_3 rfl rfl ?_
      refine g_getI E inX0_areAllReleased rfl flX0_areAllReleased_53 dX0_areAllReleased_4 (by decide) rfl rfl ?_
      refine g_icmp_ge_t E dX0_areAllReleased_7 (tgt := 31) (by decide) (by omega) (by omega) ?_
      refine g_iconst E dX0_areAllReleased_31 ?_
      exact g_ri (by omega) hret dX0_areAllReleased_32
    · intro k hk ih hall
      have h3 := hs2 k
      refine g_iload_n E dX0_areAllReleased_2 rfl rfl ?_
      refine g_aload_n E dX0_areAllReleased_3 rfl rfl ?_
      refine g_getI E inX0_areAllReleased rfl flX0_areAllReleased_53 dX0_areAllReleased_4 (by decide) rfl rfl ?_
      refine g_icmp_ge_f E dX0_areAllReleased_7 (tgt := 31) (by decide) (by omega) (by omega) ?_
      refine g_aload_n E dX0_areAllReleased_10 rfl rfl ?_
      refine g_getR E inX0_areAllReleased rfl flX0_areAllReleased_16 dX0_areAllReleased_11 (by decide) rfl ?_
      refine g_iload_n E dX0_areAllReleased_14 rfl rfl ?_
      refine g_ald E dX0_areAllReleased_15 rfl rfl rfl (by omega) ?_
      refine g_aload_n E dX0_areAllReleased_16 rfl rfl ?_
      refine g_getI E inX0_areAllReleased rfl flX0_areAllReleased_99 dX0_areAllReleased_17 (by decide) rfl rfl ?_
      refine g_icmp_le E dX0_areAllReleased_20 (tgt := 25) (by decide) (by omega) (fun h2 => ?_) (fun h2 => ?_)
      · refine g_iinc E (lv' := [_, _]) dX0_areAllReleased_25 rfl rfl ?_
        refine g_goto E dX0_areAllReleased_28 (tgt := 2) (by decide) ?_
        exact ih (fun j hj => by rcases Nat.lt_or_ge j k with h | h; exact hall j h; rw [show j = k by omega]; exact h2)
      · have h1 : rv = 0 := by
          rcases hrv with ⟨h, h4⟩ | h
          · have := h4 k hk
            omega
          · exact h.1
        refine g_iconst E dX0_areAllReleased_23 ?_
        exact g_ri (by omega) hret dX0_areAllReleased_24
  refine g_iconst E dX0_areAllReleased_0 ?_
  refine g_istore_n E (lv' := [_, _]) dX0_areAllReleased_1 rfl (Nat.le_of_ble_eq_true rfl) rfl ?_
  exact key 0 (by omega) (fun j hj => absurd hj (Nat.not_lt_zero j))
end
section
set_option maxRecDepth 100000 in
theorem flX0_findWays_22 : Cond.fieldLink RX0 22 (TX0 5).1 (TX0 5).2.1 (TX0 5).2.2.1 ∈ wsX0_findWays := by decide +kernel
set_option maxRecDepth 100000 in
theorem flX0_findWays_25 : Cond.fieldLink RX0 25 (TX0 7).1 (TX0 7).2.1 (TX0 7).2.2.1 ∈ wsX0_findWays := by decide +kernel
set_option maxRecDepth 100000 in
theorem flX0_findWays_28 : Cond.fieldLink RX0 28 (TX0 8).1 (TX0 8).2.1 (TX0 8).2.2.1 ∈ wsX0_findWays := by decide +kernel
set_option maxRecDepth 100000 in
theorem flX0_findWays_44 : Cond.fieldLink RX0 44 (TX0 13).1 (TX0 13).2.1 (TX0 13).2.2.1 ∈ wsX0_findWays := by decide +kernel
set_option maxRecDepth 100000 in
theorem flX0_findWays_47 : Cond.fieldLink RX0 47 (TX0 14).1 (TX0 14).2.1 (TX0 14).2.2.1 ∈ wsX0_findWays := by decide +kernel
set_option maxRecDepth 100000 in
theorem flX0_findWays_53 : Cond.fieldLink RX0 53 (TX0 0).1 (TX0 0).2.1 (TX0 0).2.2.1 ∈ wsX0_findWays := by decide +kernel
set_option maxRecDepth 100000 in
theorem flX0_findWays_78 : Cond.fieldLink RX0 78 (TX0 6).1 (TX0 6).2.1 (TX0 6).2.2.1 ∈ wsX0_findWays := by decide +kernel
set_option maxRecDepth 100000 in
theorem flX0_measureDistances_19 : Cond.fieldLink RX0 19 (TX0 4).1 (TX0 4).2.1 (TX0 4).2.2.1 ∈ wsX0_measureDistances := by decide +kernel
set_option maxRecDepth 100000 in
theorem flX0_measureDistances_25 : Cond.fieldLink RX0 25 (TX0 7).1 (TX0 7).2.1 (TX0 7).2.2.1 ∈ wsX0_measureDistances := by decide +kernel
set_option maxRecDepth 100000 in
theorem flX0_measureDistances_28 : Cond.fieldLink RX0 28 (TX0 8).1 (TX0 8).2.1 (TX0 8).2.2.1 ∈ wsX0_measureDistances := by decide +kernel
set_option maxRecDepth 100000 in
theorem flX0_measureDistances_37 : Cond.fieldLink RX0 37 (TX0 11).1 (TX0 11).2.1 (TX0 11).2.2.1 ∈ wsX0_measureDistances := by decide +kernel
set_option maxRecDepth 100000 in
theorem flX0_measureDistances_53 : Cond.fieldLink RX0 53 (TX0 0).1 (TX0 0).2.1 (TX0 0).2.2.1 ∈ wsX0_measureDistances := by decide +kernel
set_option maxRecDepth 100000 in
theorem flX0_measureDistances_78 : Cond.fieldLink RX0 78 (TX0 6).1 (TX0 6).2.1 (TX0 6).2.2.1 ∈ wsX0_measureDistances := by decide +kernel
set_option maxRecDepth 100000 in
theorem flX0_offerDoor_19 : Cond.fieldLink RX0 19 (TX0 4).1 (TX0 4).2.1 (TX0 4).2.2.1 ∈ wsX0_offerDoor := by decide +kernel
set_option maxRecDepth 100000 in
theorem flX0_offerDoor_22 : Cond.fieldLink RX0 22 (TX0 5).1 (TX0 5).2.1 (TX0 5).2.2.1 ∈ wsX0_offerDoor := by decide +kernel
set_option maxRecDepth 100000 in
theorem flX0_offerDoor_37 : Cond.fieldLink RX0 37 (TX0 11).1 (TX0 11).2.1 (TX0 11).2.2.1 ∈ wsX0_offerDoor := by decide +kernel
set_option maxRecDepth 100000 in
theorem flX0_offerDoor_44 : Cond.fieldLink RX0 44 (TX0 13).1 (TX0 13).2.1 (TX0 13).2.2.1 ∈ wsX0_offerDoor := by decide +kernel
set_option maxRecDepth 100000 in
theorem flX0_offerDoor_47 : Cond.fieldLink RX0 47 (TX0 14).1 (TX0 14).2.1 (TX0 14).2.2.1 ∈ wsX0_offerDoor := by decide +kernel
set_option maxRecDepth 100000 in
theorem flX0_reach_19 : Cond.fieldLink RX0 19 (TX0 4).1 (TX0 4).2.1 (TX0 4).2.2.1 ∈ wsX0_reach := by decide +kernel
set_option maxRecDepth 100000 in
theorem hdX0_measureDistances : yX0_measureDistances.cls = RX0 ∧ yX0_measureDistances.cls ≠ "java/lang/invoke/MethodHandle" ∧ yX0_measureDistances.cls ≠ "java/lang/invoke/VarHandle" ∧ (parseMethodDescriptor yX0_measureDistances.desc).map (fun d => d.parameters.length) = some 0 := by decide +kernel
set_option maxRecDepth 100000 in
theorem hdX0_offerDoor : yX0_offerDoor.cls = RX0 ∧ yX0_offerDoor.cls ≠ "java/lang/invoke/MethodHandle" ∧ yX0_offerDoor.cls ≠ "java/lang/invoke/VarHandle" ∧ (parseMethodDescriptor yX0_offerDoor.desc).map (fun d => d.parameters.length) = some 3 := by decide +kernel
set_option maxRecDepth 100000 in
theorem hdX0_reach : yX0_reach.cls = RX0 ∧ yX0_reach.cls ≠ "java/lang/invoke/MethodHandle" ∧ yX0_reach.cls ≠ "java/lang/invoke/VarHandle" ∧ (parseMethodDescriptor yX0_reach.desc).map (fun d => d.parameters.length) = some 3 := by decide +kernel
set_option maxRecDepth 100000 in
theorem inX0_findWays : ∀ w ∈ u_ws RX0 TX0 19, w ∈ wsX0_findWays := by decide +kernel
set_option maxRecDepth 100000 in
theorem inX0_measureDistances : ∀ w ∈ u_ws RX0 TX0 19, w ∈ wsX0_measureDistances := by decide +kernel
set_option maxRecDepth 100000 in
theorem inX0_offerDoor : ∀ w ∈ u_ws RX0 TX0 19, w ∈ wsX0_offerDoor := by decide +kernel
set_option maxRecDepth 100000 in
theorem inX0_reach : ∀ w ∈ u_ws RX0 TX0 19, w ∈ wsX0_reach := by decide +kernel
set_option maxHeartbeats 4000000 in
set_option maxRecDepth 100000 in
theorem cX_reach {l : Launch} {D : va_G} {cI cZ : ClassId} {q : Nat} {r : Nat → Nat} {P Dn : Nat} {t la wa : Int} {f0 f1 f2 f3 f4 f5 f6 f7 f8 f9 f10 f11 f12 f13 : Nat → Int} {x y d : Int} {a b : Nat} (hx : x = (a : Int) ∧ a < 11) (hy : y = (b : Int) ∧ b < 11) (hd : 1 ≤ d ∧ d ≤ 11) (hs3 : ∀ j : Nat, -2147483648 ≤ f3 j ∧ f3 j < 2147483648) : gMV l yX0_reach wsX0_reach 0 D (gTy cI cZ) (gX cI cZ q r [(P : Int), (Dn : Int), t, la, wa] [f0, f1, f2, f3, f4, f5, f6, f7, f8, f9, f10, f11, f12, f13]) [.ref q, .int (iI x), .int (iI y), .int (iI d)] (gX cI cZ q r [(P : Int), (Dn : Int), t, la, wa] [f0, f1, f2, pReach f3 a b d, f4, f5, f6, f7, f8, f9, f10, f11, f12, f13]) := by
  refine g_ofV (by decide +kernel) rfl rfl (Nat.le_of_ble_eq_true rfl) (g_cat1 rfl) ?_
  intro p e s m args below meth c Q A0 E hret
  have hts := E.1.2.2.2.2
  show gJ p l e (gR 0) s m args below meth c 0 0 Q A0 D (gX cI cZ q r [(P : Int), (Dn : Int), t, la, wa] [f0, f1, f2, f3, f4, f5, f6, f7, f8, f9, f10, f11, f12, f13]) [some (.ref q), some (.int (iI x)), some (.int (iI y)), some (.int (iI d))] 0 []
  obtain ⟨rfl, ha⟩ := hx
  obtain ⟨rfl, hb⟩ := hy
  have h3a := hs3 a
  have h3b := hs3 b
  refine g_aload_n E dX0_reach_0 rfl rfl ?_
  refine g_getR E inX0_reach rfl flX0_reach_19 dX0_reach_1 (by decide) rfl ?_
  refine g_iload_n E dX0_reach_4 rfl rfl ?_
  refine g_ald E dX0_reach_5 rfl rfl rfl (by omega) ?_
  refine g_iconst E dX0_reach_6 ?_
  refine g_icmp_ne E dX0_reach_7 (tgt := 29) (by decide) (by omega) (fun h1 => ?_) (fun h1 => ?_)
  · have e9 : pReach f3 a b d = f3 := if_neg (fun h => h1 (by omega))
    rw [e9] at hret
    exact hret _ _ dX0_reach_29
  · refine g_aload_n E dX0_reach_10 rfl rfl ?_
    refine g_getR E inX0_reach rfl flX0_reach_19 dX0_reach_11 (by decide) rfl ?_
    refine g_iload_n E dX0_reach_14 rfl rfl ?_
    refine g_ald E dX0_reach_15 rfl rfl rfl (by omega) ?_
    refine g_iload_n E dX0_reach_16 rfl rfl ?_
    refine g_iconst E dX0_reach_17 ?_
    refine g_isub E dX0_reach_18 ?_
    refine g_icmp_ne E dX0_reach_19 (tgt := 29) (by decide) (by omega) (fun h2 => ?_) (fun h2 => ?_)
    · have e9 : pReach f3 a b d = f3 := if_neg (fun h => h2 (by omega))
      rw [e9] at hret
      exact hret _ _ dX0_reach_29
    · have e9 : pReach f3 a b d = gu f3 a d := if_pos ⟨by omega, by omega⟩
      rw [e9] at hret
      refine g_aload_n E dX0_reach_22 rfl rfl ?_
      refine g_getR E inX0_reach rfl flX0_reach_19 dX0_reach_23 (by decide) rfl ?_
      refine g_iload_n E dX0_reach_26 rfl rfl ?_
      refine g_iload_n E dX0_reach_27 rfl rfl ?_
      refine g_ast E (A' := [_, _, _, _, _, _, _, _, _, _, _, _, _, _]) dX0_reach_28 rfl rfl rfl (by omega) rfl ?_
      exact hret _ _ dX0_reach_29
set_option maxHeartbeats 4000000 in
set_option maxRecDepth 100000 in
theorem cX_measureDistances {l : Launch} {D : va_G} {cI cZ : ClassId} {q : Nat} {r : Nat → Nat} {P Dn : Nat} {t la wa : Int} {f0 f1 f2 f3 f4 f5 f6 f7 f8 f9 f10 f11 f12 f13 : Nat → Int} (hP : 1 ≤ P ∧ P ≤ 11) (hDn : Dn ≤ 16) (hs3 : ∀ j : Nat, -2147483648 ≤ f3 j ∧ f3 j < 2147483648) (hs9 : ∀ j : Nat, -2147483648 ≤ f9 j ∧ f9 j < 2147483648) (he5 : ∀ j : Nat, j < Dn → 0 ≤ f5 j ∧ f5 j < P) (he6 : ∀ j : Nat, j < Dn → 0 ≤ f6 j ∧ f6 j < P) : gMV l yX0_measureDistances wsX0_measureDistances 1 D (gTy cI cZ) (gX cI cZ q r [(P : Int), (Dn : Int), t, la, wa] [f0, f1, f2, f3, f4, f5, f6, f7, f8, f9, f10, f11, f12, f13]) [.ref q] (gX cI cZ q r [(P : Int), (Dn : Int), t, la, wa] [f0, f1, f2, pDist f5 f6 f9 P Dn f3, f4, f5, f6, f7, f8, f9, f10, f11, f12, f13]) := by
  refine g_ofV (by decide +kernel) rfl rfl (Nat.le_of_ble_eq_true rfl) (g_cat1 rfl) ?_
  intro p e s m args below meth c Q A0 E hret
  have hts := E.1.2.2.2.2
  show gJ p l e (gR 1) s m args below meth c 0 0 Q A0 D (gX cI cZ q r [(P : Int), (Dn : Int), t, la, wa] [f0, f1, f2, f3, f4, f5, f6, f7, f8, f9, f10, f11, f12, f13]) [some (.ref q), none, none] 0 []
  have hB0 : gB (pN (gu f3 0 0) P) := pN_B (gu_B hs3 (by omega)) P
  have key3 : ∀ k : Nat, k ≤ P → (1 ≤ k → ∀ a : Option Value, gJ p l e (gR 1) s m args below meth c 0 0 Q A0 D (gX cI cZ q r [(P : Int), (Dn : Int), t, la, wa] [f0, f1, f2, pMs f5 f6 f9 Dn (pN (gu f3 0 0) P) k, f4, f5, f6, f7, f8, f9, f10, f11, f12, f13]) [some (.ref q), some (.int (iI k)), a] 32 []) := by
    refine g_loop _ P ?_ ?_
    · intro _ a
      refine g_iload_n E dX0_measureDistances_32 rfl rfl ?_
      refine g_aload_n E dX0_measureDistances_33 rfl rfl ?_
      refine g_getI E inX0_measureDistances rfl flX0_measureDistances_53 dX0_measureDistances_34 (by decide) rfl rfl ?_
      refine g_icmp_ge_t E dX0_measureDistances_37 (tgt := 105) (by decide) (by omega) (by omega) ?_
      exact hret _ _ dX0_measureDistances_105
    · intro d hd ih h1 a
      have hB1 : gB (pMs f5 f6 f9 Dn (pN (gu f3 0 0) P) d) := pMs_B hB0 d (by omega)
      have key2 : ∀ k : Nat, k ≤ Dn → gJ p l e (gR 1) s m args below meth c 0 0 Q A0 D (gX cI cZ q r [(P : Int), (Dn : Int), t, la, wa] [f0, f1, f2, pRd f5 f6 f9 (d : Int) (pMs f5 f6 f9 Dn (pN (gu f3 0 0) P) d) k, f4, f5, f6, f7, f8, f9, f10, f11, f12, f13]) [some (.ref q), some (.int (iI d)), some (.int (iI k))] 42 [] := by
        refine g_loop _ Dn ?_ ?_
        · refine g_iload_n E dX0_measureDistances_42 rfl rfl ?_
          refine g_aload_n E dX0_measureDistances_43 rfl rfl ?_
          refine g_getI E inX0_measureDistances rfl flX0_measureDistances_78 dX0_measureDistances_44 (by decide) rfl rfl ?_
          refine g_icmp_ge_t E dX0_measureDistances_47 (tgt := 99) (by decide) (by omega) (by omega) ?_
          refine g_iinc E (lv' := [_, _, _]) dX0_measureDistances_99 rfl rfl ?_
          refine g_goto E dX0_measureDistances_102 (tgt := 32) (by decide) ?_
          exact g_eq (ih (by omega) _) (by rw [pMs_s h1]) rfl rfl
        · intro k hk ih2
          have h5 := he5 k hk
          have h6 := he6 k hk
          have hB2 : gB (pRd f5 f6 f9 (d : Int) (pMs f5 f6 f9 Dn (pN (gu f3 0 0) P) d) k) := pRd_B hB1 (by omega) k
          have h9 := hs9 k
          refine g_iload_n E dX0_measureDistances_42 rfl rfl ?_
          refine g_aload_n E dX0_measureDistances_43 rfl rfl ?_
          refine g_getI E inX0_measureDistances rfl flX0_measureDistances_78 dX0_measureDistances_44 (by decide) rfl rfl ?_
          refine g_icmp_ge_f E dX0_measureDistances_47 (tgt := 99) (by decide) (by omega) (by omega) ?_
          refine g_aload_n E dX0_measureDistances_50 rfl rfl ?_
          refine g_getR E inX0_measureDistances rfl flX0_measureDistances_37 dX0_measureDistances_51 (by decide) rfl ?_
          refine g_iload_n E dX0_measureDistances_54 rfl rfl ?_
          refine g_zld E dX0_measureDistances_55 rfl rfl rfl (by omega) ?_
          refine g_if_eq E dX0_measureDistances_56 (tgt := 93) (by decide) (by omega) (fun h7 => ?_) (fun h7 => ?_)
          · refine g_iinc E (lv' := [_, _, _]) dX0_measureDistances_93 rfl rfl ?_
            refine g_goto E dX0_measureDistances_96 (tgt := 42) (by decide) ?_
            exact g_eq ih2 (by rw [pRd_0 h7]) rfl rfl
          · refine g_aload_n E dX0_measureDistances_59 rfl rfl ?_
            refine g_aload_n E dX0_measureDistances_60 rfl rfl ?_
            refine g_getR E inX0_measureDistances rfl flX0_measureDistances_25 dX0_measureDistances_61 (by decide) rfl ?_
            refine g_iload_n E dX0_measureDistances_64 rfl rfl ?_
            refine g_ald E dX0_measureDistances_65 rfl rfl rfl (by omega) ?_
            refine g_aload_n E dX0_measureDistances_66 rfl rfl ?_
            refine g_getR E inX0_measureDistances rfl flX0_measureDistances_28 dX0_measureDistances_67 (by decide) rfl ?_
            refine g_iload_n E dX0_measureDistances_70 rfl rfl ?_
            refine g_ald E dX0_measureDistances_71 rfl rfl rfl (by omega) ?_
            refine g_iload_n E dX0_measureDistances_72 rfl rfl ?_
            refine g_callV0 E (cX_reach (a := (f5 k).toNat) (b := (f6 k).toNat) ⟨by omega, by omega⟩ ⟨by omega, by omega⟩ (by omega) hB2) (cwV 3 hts gX0_measureDistances_X0_reach rfl rfl rfl hdX0_reach ⟨(Nat.le_of_ble_eq_true rfl), (Nat.le_of_ble_eq_true rfl)⟩) rfl rfl rfl (Nat.le_of_ble_eq_true rfl) gW_0 rfl dX0_measureDistances_73 ⟨Nat.zero_le _, Nat.zero_le _⟩ ?_
            refine g_aload_n E dX0_measureDistances_76 rfl rfl ?_
            refine g_aload_n E dX0_measureDistances_77 rfl rfl ?_
            refine g_getR E inX0_measureDistances rfl flX0_measureDistances_28 dX0_measureDistances_78 (by decide) rfl ?_
            refine g_iload_n E dX0_measureDistances_81 rfl rfl ?_
            refine g_ald E dX0_measureDistances_82 rfl rfl rfl (by omega) ?_
            refine g_aload_n E dX0_measureDistances_83 rfl rfl ?_
            refine g_getR E inX0_measureDistances rfl flX0_measureDistances_25 dX0_measureDistances_84 (by decide) rfl ?_
            refine g_iload_n E dX0_measureDistances_87 rfl rfl ?_
            refine g_ald E dX0_measureDistances_88 rfl rfl rfl (by omega) ?_
            refine g_iload_n E dX0_measureDistances_89 rfl rfl ?_
            refine g_callV0 E (cX_reach (a := (f6 k).toNat) (b := (f5 k).toNat) ⟨by omega, by omega⟩ ⟨by omega, by omega⟩ (by omega) (pReach_B hB2 (by omega))) (cwV 3 hts gX0_measureDistances_X0_reach rfl rfl rfl hdX0_reach ⟨(Nat.le_of_ble_eq_true rfl), (Nat.le_of_ble_eq_true rfl)⟩) rfl rfl rfl (Nat.le_of_ble_eq_true rfl) gW_0 rfl dX0_measureDistances_90 ⟨Nat.zero_le _, Nat.zero_le _⟩ ?_
            refine g_iinc E (lv' := [_, _, _]) dX0_measureDistances_93 rfl rfl ?_
            refine g_goto E dX0_measureDistances_96 (tgt := 42) (by decide) ?_
            exact g_eq ih2 (by rw [pRd_1 h7]) rfl rfl
      refine g_iload_n E dX0_measureDistances_32 rfl rfl ?_
      refine g_aload_n E dX0_measureDistances_33 rfl rfl ?_
      refine g_getI E inX0_measureDistances rfl flX0_measureDistances_53 dX0_measureDistances_34 (by decide) rfl rfl ?_
      refine g_icmp_ge_f E dX0_measureDistances_37 (tgt := 105) (by decide) (by omega) (by omega) ?_
      refine g_iconst E dX0_measureDistances_40 ?_
      refine g_istore_n E (lv' := [_, _, _]) dX0_measureDistances_41 rfl (Nat.le_of_ble_eq_true rfl) rfl ?_
      exact key2 0 (by omega)
  have key1 : ∀ k : Nat, k ≤ P → (1 ≤ k → gJ p l e (gR 1) s m args below meth c 0 0 Q A0 D (gX cI cZ q r [(P : Int), (Dn : Int), t, la, wa] [f0, f1, f2, pN (gu f3 0 0) k, f4, f5, f6, f7, f8, f9, f10, f11, f12, f13]) [some (.ref q), some (.int (iI k)), none] 9 []) := by
    refine g_loop _ P ?_ ?_
    · intro _
      refine g_iload_n E dX0_measureDistances_9 rfl rfl ?_
      refine g_aload_n E dX0_measureDistances_10 rfl rfl ?_
      refine g_getI E inX0_measureDistances rfl flX0_measureDistances_53 dX0_measureDistances_11 (by decide) rfl rfl ?_
      refine g_icmp_ge_t E dX0_measureDistances_14 (tgt := 30) (by decide) (by omega) (by omega) ?_
      refine g_iconst E dX0_measureDistances_30 ?_
      refine g_istore_n E (lv' := [_, _, _]) dX0_measureDistances_31 rfl (Nat.le_of_ble_eq_true rfl) rfl ?_
      exact key3 1 (by omega) (by omega) _
    · intro k hk ih h1
      refine g_iload_n E dX0_measureDistances_9 rfl rfl ?_
      refine g_aload_n E dX0_measureDistances_10 rfl rfl ?_
      refine g_getI E inX0_measureDistances rfl flX0_measureDistances_53 dX0_measureDistances_11 (by decide) rfl rfl ?_
      refine g_icmp_ge_f E dX0_measureDistances_14 (tgt := 30) (by decide) (by omega) (by omega) ?_
      refine g_aload_n E dX0_measureDistances_17 rfl rfl ?_
      refine g_getR E inX0_measureDistances rfl flX0_measureDistances_19 dX0_measureDistances_18 (by decide) rfl ?_
      refine g_iload_n E dX0_measureDistances_21 rfl rfl ?_
      refine g_iconst E dX0_measureDistances_22 ?_
      refine g_ast E (A' := [_, _, _, _, _, _, _, _, _, _, _, _, _, _]) dX0_measureDistances_23 rfl rfl rfl (by omega) rfl ?_
      refine g_iinc E (lv' := [_, _, _]) dX0_measureDistances_24 rfl rfl ?_
      refine g_goto E dX0_measureDistances_27 (tgt := 9) (by decide) ?_
      exact g_eq (ih (by omega)) (by rw [pN_s h1]) rfl rfl
  refine g_aload_n E dX0_measureDistances_0 rfl rfl ?_
  refine g_getR E inX0_measureDistances rfl flX0_measureDistances_19 dX0_measureDistances_1 (by decide) rfl ?_
  refine g_iconst E dX0_measureDistances_4 ?_
  refine g_iconst E dX0_measureDistances_5 ?_
  refine g_ast E (A' := [_, _, _, _, _, _, _, _, _, _, _, _, _, _]) dX0_measureDistances_6 rfl rfl (i := 0) rfl (by omega) rfl ?_
  refine g_iconst E dX0_measureDistances_7 ?_
  refine g_istore_n E (lv' := [_, _, _]) dX0_measureDistances_8 rfl (Nat.le_of_ble_eq_true rfl) rfl ?_
  exact key1 1 (by omega) (by omega)
set_option maxHeartbeats 4000000 in
set_option maxRecDepth 100000 in
theorem cX_offerDoor {l : Launch} {D : va_G} {cI cZ : ClassId} {q : Nat} {r : Nat → Nat} {P Dn : Nat} {t la wa : Int} {f0 f1 f2 f3 f4 f5 f6 f7 f8 f9 f10 f11 f12 f13 : Nat → Int} {x y : Int} {k a b : Nat} (hk : k < 16) (hx : x = (a : Int) ∧ a < 11) (hy : y = (b : Int) ∧ b < 11) (hs3 : ∀ j : Nat, -2147483648 ≤ f3 j ∧ f3 j < 2147483648) (hs4 : ∀ j : Nat, -2147483648 ≤ f4 j ∧ f4 j < 2147483648) (hs9 : ∀ j : Nat, -2147483648 ≤ f9 j ∧ f9 j < 2147483648) : gMV l yX0_offerDoor wsX0_offerDoor 0 D (gTy cI cZ) (gX cI cZ q r [(P : Int), (Dn : Int), t, la, wa] [f0, f1, f2, f3, f4, f5, f6, f7, f8, f9, f10, f11, f12, f13]) [.ref q, .int (iI (k : Int)), .int (iI x), .int (iI y)] (gX cI cZ q r [(P : Int), (Dn : Int), t, la, wa] [f0, f1, f2, f3, (pOf f3 (f9 k) k a b (f4, f11, f12)).1, f5, f6, f7, f8, f9, f10, (pOf f3 (f9 k) k a b (f4, f11, f12)).2.1, (pOf f3 (f9 k) k a b (f4, f11, f12)).2.2, f13]) := by
  refine g_ofV (by decide +kernel) rfl rfl (Nat.le_of_ble_eq_true rfl) (g_cat1 rfl) ?_
  intro p e s m args below meth c Q A0 E hret
  have hts := E.1.2.2.2.2
  show gJ p l e (gR 0) s m args below meth c 0 0 Q A0 D (gX cI cZ q r [(P : Int), (Dn : Int), t, la, wa] [f0, f1, f2, f3, f4, f5, f6, f7, f8, f9, f10, f11, f12, f13]) [some (.ref q), some (.int (iI (k : Int))), some (.int (iI x)), some (.int (iI y)), none] 0 []
  obtain ⟨rfl, ha⟩ := hx
  obtain ⟨rfl, hb⟩ := hy
  have h3a := hs3 a
  have h3b := hs3 b
  have h4a := hs4 a
  have h9 := hs9 k
  have no : ∀ lv4 : Option Value, ¬ (f9 k ≠ 0 ∧ 1 ≤ f3 a ∧ f3 b = f3 a - 1) → gJ p l e (gR 0) s m args below meth c 0 0 Q A0 D (gX cI cZ q r [(P : Int), (Dn : Int), t, la, wa] [f0, f1, f2, f3, f4, f5, f6, f7, f8, f9, f10, f11, f12, f13]) [some (.ref q), some (.int (iI (k : Int))), some (.int (iI (a : Int))), some (.int (iI (b : Int))), lv4] 40 [] := by
    intro lv4 hn
    have e9 : pOf f3 (f9 k) k a b (f4, f11, f12) = (f4, f11, f12) := if_neg (fun h => hn h.1)
    rw [e9] at hret
    refine g_iconst E dX0_offerDoor_40 ?_
    refine g_istore E (lv' := [_, _, _, _, _]) dX0_offerDoor_41 (Nat.le_of_ble_eq_true rfl) rfl ?_
    refine g_iload E dX0_offerDoor_43 rfl ?_
    refine g_if_eq_t E dX0_offerDoor_45 (tgt := 79) (by decide) (by omega) (by omega) ?_
    exact hret _ _ dX0_offerDoor_79
  refine g_aload_n E dX0_offerDoor_0 rfl rfl ?_
  refine g_getR E inX0_offerDoor rfl flX0_offerDoor_37 dX0_offerDoor_1 (by decide) rfl ?_
  refine g_iload_n E dX0_offerDoor_4 rfl rfl ?_
  refine g_zld E dX0_offerDoor_5 rfl rfl rfl (by omega) ?_
  refine g_if_eq E dX0_offerDoor_6 (tgt := 40) (by decide) (by omega) (fun h1 => ?_) (fun h1 => ?_)
  · exact no _ (fun h => h.1 h1)
  · refine g_aload_n E dX0_offerDoor_9 rfl rfl ?_
    refine g_getR E inX0_offerDoor rfl flX0_offerDoor_19 dX0_offerDoor_10 (by decide) rfl ?_
    refine g_iload_n E dX0_offerDoor_13 rfl rfl ?_
    refine g_ald E dX0_offerDoor_14 rfl rfl rfl (by omega) ?_
    refine g_iconst E dX0_offerDoor_15 ?_
    refine g_icmp_lt E dX0_offerDoor_16 (tgt := 40) (by decide) (by omega) (fun h2 => ?_) (fun h2 => ?_)
    · exact no _ (by omega)
    · refine g_aload_n E dX0_offerDoor_19 rfl rfl ?_
      refine g_getR E inX0_offerDoor rfl flX0_offerDoor_19 dX0_offerDoor_20 (by decide) rfl ?_
      refine g_iload_n E dX0_offerDoor_23 rfl rfl ?_
      refine g_ald E dX0_offerDoor_24 rfl rfl rfl (by omega) ?_
      refine g_aload_n E dX0_offerDoor_25 rfl rfl ?_
      refine g_getR E inX0_offerDoor rfl flX0_offerDoor_19 dX0_offerDoor_26 (by decide) rfl ?_
      refine g_iload_n E dX0_offerDoor_29 rfl rfl ?_
      refine g_ald E dX0_offerDoor_30 rfl rfl rfl (by omega) ?_
      refine g_iconst E dX0_offerDoor_31 ?_
      refine g_isub E dX0_offerDoor_32 ?_
      refine g_icmp_ne E dX0_offerDoor_33 (tgt := 40) (by decide) (by omega) (fun h3 => ?_) (fun h3 => ?_)
      · exact no _ (by omega)
      · refine g_iconst E dX0_offerDoor_36 ?_
        refine g_goto E dX0_offerDoor_37 (tgt := 41) (by decide) ?_
        refine g_istore E (lv' := [_, _, _, _, _]) dX0_offerDoor_41 (Nat.le_of_ble_eq_true rfl) rfl ?_
        refine g_iload E dX0_offerDoor_43 rfl ?_
        refine g_if_eq_f E dX0_offerDoor_45 (tgt := 79) (by decide) (by omega) (by omega) ?_
        refine g_aload_n E dX0_offerDoor_48 rfl rfl ?_
        refine g_getR E inX0_offerDoor rfl flX0_offerDoor_22 dX0_offerDoor_49 (by decide) rfl ?_
        refine g_iload_n E dX0_offerDoor_52 rfl rfl ?_
        refine g_ald E dX0_offerDoor_53 rfl rfl rfl (by omega) ?_
        refine g_iconst E dX0_offerDoor_54 ?_
        refine g_icmp_ne E dX0_offerDoor_55 (tgt := 79) (by decide) (by omega) (fun h4 => ?_) (fun h4 => ?_)
        · have e9 : pOf f3 (f9 k) k a b (f4, f11, f12) = (f4, f11, f12) := if_neg (fun h => h4 (by have := h.2; simpa using this))
          rw [e9] at hret
          exact hret _ _ dX0_offerDoor_79
        · have e9 : pOf f3 (f9 k) k a b (f4, f11, f12) = (gu f4 a (k : Int), gu f11 k (a : Int), gu f12 k (b : Int)) := if_pos ⟨⟨h1, by omega, by omega⟩, h4⟩
          rw [e9] at hret
          refine g_aload_n E dX0_offerDoor_58 rfl rfl ?_
          refine g_getR E inX0_offerDoor rfl flX0_offerDoor_22 dX0_offerDoor_59 (by decide) rfl ?_
          refine g_iload_n E dX0_offerDoor_62 rfl rfl ?_
          refine g_iload_n E dX0_offerDoor_63 rfl rfl ?_
          refine g_ast E (A' := [_, _, _, _, _, _, _, _, _, _, _, _, _, _]) dX0_offerDoor_64 rfl rfl rfl (by omega) rfl ?_
          refine g_aload_n E dX0_offerDoor_65 rfl rfl ?_
          refine g_getR E inX0_offerDoor rfl flX0_offerDoor_44 dX0_offerDoor_66 (by decide) rfl ?_
          refine g_iload_n E dX0_offerDoor_69 rfl rfl ?_
          refine g_iload_n E dX0_offerDoor_70 rfl rfl ?_
          refine g_ast E (A' := [_, _, _, _, _, _, _, _, _, _, _, _, _, _]) dX0_offerDoor_71 rfl rfl rfl (by omega) rfl ?_
          refine g_aload_n E dX0_offerDoor_72 rfl rfl ?_
          refine g_getR E inX0_offerDoor rfl flX0_offerDoor_47 dX0_offerDoor_73 (by decide) rfl ?_
          refine g_iload_n E dX0_offerDoor_76 rfl rfl ?_
          refine g_iload_n E dX0_offerDoor_77 rfl rfl ?_
          refine g_ast E (A' := [_, _, _, _, _, _, _, _, _, _, _, _, _, _]) dX0_offerDoor_78 rfl rfl rfl (by omega) rfl ?_
          exact hret _ _ dX0_offerDoor_79
set_option maxHeartbeats 4000000 in
set_option maxRecDepth 100000 in
theorem cX_findWays {l : Launch} {D : va_G} {cI cZ : ClassId} {q : Nat} {r : Nat → Nat} {P Dn : Nat} {t la wa : Int} {f0 f1 f2 f3 f4 f5 f6 f7 f8 f9 f10 f11 f12 f13 : Nat → Int} (hP : 1 ≤ P ∧ P ≤ 11) (hDn : Dn ≤ 16) (hs3 : ∀ j : Nat, -2147483648 ≤ f3 j ∧ f3 j < 2147483648) (hs4 : ∀ j : Nat, -2147483648 ≤ f4 j ∧ f4 j < 2147483648) (hs9 : ∀ j : Nat, -2147483648 ≤ f9 j ∧ f9 j < 2147483648) (he5 : ∀ j : Nat, j < Dn → 0 ≤ f5 j ∧ f5 j < P) (he6 : ∀ j : Nat, j < Dn → 0 ≤ f6 j ∧ f6 j < P) : gMV l yX0_findWays wsX0_findWays 2 D (gTy cI cZ) (gX cI cZ q r [(P : Int), (Dn : Int), t, la, wa] [f0, f1, f2, f3, f4, f5, f6, f7, f8, f9, f10, f11, f12, f13]) [.ref q] (gX cI cZ q r [(P : Int), (Dn : Int), t, la, wa] [f0, f1, f2, pDist f5 f6 f9 P Dn f3, (pWays f5 f6 f9 (pDist f5 f6 f9 P Dn f3) P Dn (f4, f11, f12)).1, f5, f6, f7, f8, f9, f10, (pWays f5 f6 f9 (pDist f5 f6 f9 P Dn f3) P Dn (f4, f11, f12)).2.1, (pWays f5 f6 f9 (pDist f5 f6 f9 P Dn f3) P Dn (f4, f11, f12)).2.2, f13]) := by
  refine g_ofV (by decide +kernel) rfl rfl (Nat.le_of_ble_eq_true rfl) (g_cat1 rfl) ?_
  intro p e s m args below meth c Q A0 E hret
  have hts := E.1.2.2.2.2
  show gJ p l e (gR 2) s m args below meth c 0 0 Q A0 D (gX cI cZ q r [(P : Int), (Dn : Int), t, la, wa] [f0, f1, f2, f3, f4, f5, f6, f7, f8, f9, f10, f11, f12, f13]) [some (.ref q), none] 0 []
  have hB3 : gB (pDist f5 f6 f9 P Dn f3) := pDist_B hs3 hP.2
  have key2 : ∀ k : Nat, k ≤ Dn → gJ p l e (gR 2) s m args below meth c 0 0 Q A0 D (gX cI cZ q r [(P : Int), (Dn : Int), t, la, wa] [f0, f1, f2, pDist f5 f6 f9 P Dn f3, (pOff f5 f6 f9 (pDist f5 f6 f9 P Dn f3) (pM1 f4 P, f11, f12) k).1, f5, f6, f7, f8, f9, f10, (pOff f5 f6 f9 (pDist f5 f6 f9 P Dn f3) (pM1 f4 P, f11, f12) k).2.1, (pOff f5 f6 f9 (pDist f5 f6 f9 P Dn f3) (pM1 f4 P, f11, f12) k).2.2, f13]) [some (.ref q), some (.int (iI k))] 29 [] := by
    refine g_loop _ Dn ?_ ?_
    · refine g_iload_n E dX0_findWays_29 rfl rfl ?_
      refine g_aload_n E dX0_findWays_30 rfl rfl ?_
      refine g_getI E inX0_findWays rfl flX0_findWays_78 dX0_findWays_31 (by decide) rfl rfl ?_
      refine g_icmp_ge_t E dX0_findWays_34 (tgt := 91) (by decide) (by omega) (by omega) ?_
      exact hret _ _ dX0_findWays_91
    · intro k hk ih
      have h5 := he5 k hk
      have h6 := he6 k hk
      have hB4 : gB (pOff f5 f6 f9 (pDist f5 f6 f9 P Dn f3) (pM1 f4 P, f11, f12) k).1 := pOff_B (pM1_B hs4 P) k (by omega)
      refine g_iload_n E dX0_findWays_29 rfl rfl ?_
      refine g_aload_n E dX0_findWays_30 rfl rfl ?_
      refine g_getI E inX0_findWays rfl flX0_findWays_78 dX0_findWays_31 (by decide) rfl rfl ?_
      refine g_icmp_ge_f E dX0_findWays_34 (tgt := 91) (by decide) (by omega) (by omega) ?_
      refine g_aload_n E dX0_findWays_37 rfl rfl ?_
      refine g_getR E inX0_findWays rfl flX0_findWays_44 dX0_findWays_38 (by decide) rfl ?_
      refine g_iload_n E dX0_findWays_41 rfl rfl ?_
      refine g_iconst E dX0_findWays_42 ?_
      refine g_ast E (A' := [_, _, _, _, _, _, _, _, _, _, _, _, _, _]) dX0_findWays_43 rfl rfl rfl (by omega) rfl ?_
      refine g_aload_n E dX0_findWays_44 rfl rfl ?_
      refine g_getR E inX0_findWays rfl flX0_findWays_47 dX0_findWays_45 (by decide) rfl ?_
      refine g_iload_n E dX0_findWays_48 rfl rfl ?_
      refine g_iconst E dX0_findWays_49 ?_
      refine g_ast E (A' := [_, _, _, _, _, _, _, _, _, _, _, _, _, _]) dX0_findWays_50 rfl rfl rfl (by omega) rfl ?_
      refine g_aload_n E dX0_findWays_51 rfl rfl ?_
      refine g_iload_n E dX0_findWays_52 rfl rfl ?_
      refine g_aload_n E dX0_findWays_53 rfl rfl ?_
      refine g_getR E inX0_findWays rfl flX0_findWays_25 dX0_findWays_54 (by decide) rfl ?_
      refine g_iload_n E dX0_findWays_57 rfl rfl ?_
      refine g_ald E dX0_findWays_58 rfl rfl rfl (by omega) ?_
      refine g_aload_n E dX0_findWays_59 rfl rfl ?_
      refine g_getR E inX0_findWays rfl flX0_findWays_28 dX0_findWays_60 (by decide) rfl ?_
      refine g_iload_n E dX0_findWays_63 rfl rfl ?_
      refine g_ald E dX0_findWays_64 rfl rfl rfl (by omega) ?_
      refine g_callV0 E (cX_offerDoor (k := k) (a := (f5 k).toNat) (b := (f6 k).toNat) (by omega) ⟨by omega, by omega⟩ ⟨by omega, by omega⟩ hB3 hB4 hs9) (cwV 3 hts gX0_findWays_X0_offerDoor rfl rfl rfl hdX0_offerDoor ⟨(Nat.le_of_ble_eq_true rfl), (Nat.le_of_ble_eq_true rfl)⟩) rfl rfl rfl (Nat.le_of_ble_eq_true rfl) gW_0 rfl dX0_findWays_65 ⟨Nat.zero_le _, Nat.zero_le _⟩ ?_
      refine g_aload_n E dX0_findWays_68 rfl rfl ?_
      refine g_iload_n E dX0_findWays_69 rfl rfl ?_
      refine g_aload_n E dX0_findWays_70 rfl rfl ?_
      refine g_getR E inX0_findWays rfl flX0_findWays_28 dX0_findWays_71 (by decide) rfl ?_
      refine g_iload_n E dX0_findWays_74 rfl rfl ?_
      refine g_ald E dX0_findWays_75 rfl rfl rfl (by omega) ?_
      refine g_aload_n E dX0_findWays_76 rfl rfl ?_
      refine g_getR E inX0_findWays rfl flX0_findWays_25 dX0_findWays_77 (by decide) rfl ?_
      refine g_iload_n E dX0_findWays_80 rfl rfl ?_
      refine g_ald E dX0_findWays_81 rfl rfl rfl (by omega) ?_
      refine g_callV0 E (cX_offerDoor (k := k) (a := (f6 k).toNat) (b := (f5 k).toNat) (by omega) ⟨by omega, by omega⟩ ⟨by omega, by omega⟩ hB3 (pOf_B (by exact hB4) (by omega)) hs9) (cwV 3 hts gX0_findWays_X0_offerDoor rfl rfl rfl hdX0_offerDoor ⟨(Nat.le_of_ble_eq_true rfl), (Nat.le_of_ble_eq_true rfl)⟩) rfl rfl rfl (Nat.le_of_ble_eq_true rfl) gW_0 rfl dX0_findWays_82 ⟨Nat.zero_le _, Nat.zero_le _⟩ ?_
      refine g_iinc E (lv' := [_, _]) dX0_findWays_85 rfl rfl ?_
      refine g_goto E dX0_findWays_88 (tgt := 29) (by decide) ?_
      exact g_eq ih rfl rfl rfl
  have key1 : ∀ k : Nat, k ≤ P → gJ p l e (gR 2) s m args below meth c 0 0 Q A0 D (gX cI cZ q r [(P : Int), (Dn : Int), t, la, wa] [f0, f1, f2, pDist f5 f6 f9 P Dn f3, pM1 f4 k, f5, f6, f7, f8, f9, f10, f11, f12, f13]) [some (.ref q), some (.int (iI k))] 6 [] := by
    refine g_loop _ P ?_ ?_
    · refine g_iload_n E dX0_findWays_6 rfl rfl ?_
      refine g_aload_n E dX0_findWays_7 rfl rfl ?_
      refine g_getI E inX0_findWays rfl flX0_findWays_53 dX0_findWays_8 (by decide) rfl rfl ?_
      refine g_icmp_ge_t E dX0_findWays_11 (tgt := 27) (by decide) (by omega) (by omega) ?_
      refine g_iconst E dX0_findWays_27 ?_
      refine g_istore_n E (lv' := [_, _]) dX0_findWays_28 rfl (Nat.le_of_ble_eq_true rfl) rfl ?_
      exact key2 0 (by omega)
    · intro k hk ih
      refine g_iload_n E dX0_findWays_6 rfl rfl ?_
      refine g_aload_n E dX0_findWays_7 rfl rfl ?_
      refine g_getI E inX0_findWays rfl flX0_findWays_53 dX0_findWays_8 (by decide) rfl rfl ?_
      refine g_icmp_ge_f E dX0_findWays_11 (tgt := 27) (by decide) (by omega) (by omega) ?_
      refine g_aload_n E dX0_findWays_14 rfl rfl ?_
      refine g_getR E inX0_findWays rfl flX0_findWays_22 dX0_findWays_15 (by decide) rfl ?_
      refine g_iload_n E dX0_findWays_18 rfl rfl ?_
      refine g_iconst E dX0_findWays_19 ?_
      refine g_ast E (A' := [_, _, _, _, _, _, _, _, _, _, _, _, _, _]) dX0_findWays_20 rfl rfl rfl (by omega) rfl ?_
      refine g_iinc E (lv' := [_, _]) dX0_findWays_21 rfl rfl ?_
      refine g_goto E dX0_findWays_24 (tgt := 6) (by decide) ?_
      exact ih
  refine g_aload_n E dX0_findWays_0 rfl rfl ?_
  refine g_callV0 E (cX_measureDistances hP hDn hs3 hs9 he5 he6) (cwV 0 hts gX0_findWays_X0_measureDistances rfl rfl rfl hdX0_measureDistances ⟨(Nat.le_of_ble_eq_true rfl), (Nat.le_of_ble_eq_true rfl)⟩) rfl rfl rfl (Nat.le_of_ble_eq_true rfl) gW_0 rfl dX0_findWays_1 ⟨Nat.zero_le _, Nat.zero_le _⟩ ?_
  refine g_iconst E dX0_findWays_4 ?_
  refine g_istore_n E (lv' := [_, _]) dX0_findWays_5 rfl (Nat.le_of_ble_eq_true rfl) rfl ?_
  exact key1 0 (by omega)
end
section
set_option maxRecDepth 100000 in
theorem flX0_grantAll_50 : Cond.fieldLink RX0 50 (TX0 15).1 (TX0 15).2.1 (TX0 15).2.2.1 ∈ wsX0_grantAll := by decide +kernel
set_option maxRecDepth 100000 in
theorem flX0_grantAll_53 : Cond.fieldLink RX0 53 (TX0 0).1 (TX0 0).2.1 (TX0 0).2.2.1 ∈ wsX0_grantAll := by decide +kernel
set_option maxRecDepth 100000 in
theorem flX0_grantAll_78 : Cond.fieldLink RX0 78 (TX0 6).1 (TX0 6).2.1 (TX0 6).2.2.1 ∈ wsX0_grantAll := by decide +kernel
set_option maxRecDepth 100000 in
theorem flX0_grantRound_34 : Cond.fieldLink RX0 34 (TX0 10).1 (TX0 10).2.1 (TX0 10).2.2.1 ∈ wsX0_grantRound := by decide +kernel
set_option maxRecDepth 100000 in
theorem flX0_grantRound_47 : Cond.fieldLink RX0 47 (TX0 14).1 (TX0 14).2.1 (TX0 14).2.2.1 ∈ wsX0_grantRound := by decide +kernel
set_option maxRecDepth 100000 in
theorem flX0_grantRound_50 : Cond.fieldLink RX0 50 (TX0 15).1 (TX0 15).2.1 (TX0 15).2.2.1 ∈ wsX0_grantRound := by decide +kernel
set_option maxRecDepth 100000 in
theorem flX0_grantRound_78 : Cond.fieldLink RX0 78 (TX0 6).1 (TX0 6).2.1 (TX0 6).2.2.1 ∈ wsX0_grantRound := by decide +kernel
set_option maxRecDepth 100000 in
theorem flX0_moveGranted_13 : Cond.fieldLink RX0 13 (TX0 2).1 (TX0 2).2.1 (TX0 2).2.2.1 ∈ wsX0_moveGranted := by decide +kernel
set_option maxRecDepth 100000 in
theorem flX0_moveGranted_41 : Cond.fieldLink RX0 41 (TX0 12).1 (TX0 12).2.1 (TX0 12).2.2.1 ∈ wsX0_moveGranted := by decide +kernel
set_option maxRecDepth 100000 in
theorem flX0_moveGranted_44 : Cond.fieldLink RX0 44 (TX0 13).1 (TX0 13).2.1 (TX0 13).2.2.1 ∈ wsX0_moveGranted := by decide +kernel
set_option maxRecDepth 100000 in
theorem flX0_moveGranted_47 : Cond.fieldLink RX0 47 (TX0 14).1 (TX0 14).2.1 (TX0 14).2.2.1 ∈ wsX0_moveGranted := by decide +kernel
set_option maxRecDepth 100000 in
theorem flX0_moveGranted_50 : Cond.fieldLink RX0 50 (TX0 15).1 (TX0 15).2.1 (TX0 15).2.2.1 ∈ wsX0_moveGranted := by decide +kernel
set_option maxRecDepth 100000 in
theorem flX0_moveGranted_78 : Cond.fieldLink RX0 78 (TX0 6).1 (TX0 6).2.1 (TX0 6).2.2.1 ∈ wsX0_moveGranted := by decide +kernel
set_option maxRecDepth 100000 in
theorem flX0_wishBy_13 : Cond.fieldLink RX0 13 (TX0 2).1 (TX0 2).2.1 (TX0 2).2.2.1 ∈ wsX0_wishBy := by decide +kernel
set_option maxRecDepth 100000 in
theorem flX0_wishBy_16 : Cond.fieldLink RX0 16 (TX0 3).1 (TX0 3).2.1 (TX0 3).2.2.1 ∈ wsX0_wishBy := by decide +kernel
set_option maxRecDepth 100000 in
theorem flX0_wishBy_31 : Cond.fieldLink RX0 31 (TX0 9).1 (TX0 9).2.1 (TX0 9).2.2.1 ∈ wsX0_wishBy := by decide +kernel
set_option maxRecDepth 100000 in
theorem flX0_wishBy_44 : Cond.fieldLink RX0 44 (TX0 13).1 (TX0 13).2.1 (TX0 13).2.2.1 ∈ wsX0_wishBy := by decide +kernel
set_option maxRecDepth 100000 in
theorem flX0_wishBy_99 : Cond.fieldLink RX0 99 (TX0 16).1 (TX0 16).2.1 (TX0 16).2.2.1 ∈ wsX0_wishBy := by decide +kernel
set_option maxRecDepth 100000 in
theorem hdX0_grantAt : yX0_grantAt.cls = RX0 ∧ yX0_grantAt.cls ≠ "java/lang/invoke/MethodHandle" ∧ yX0_grantAt.cls ≠ "java/lang/invoke/VarHandle" ∧ (parseMethodDescriptor yX0_grantAt.desc).map (fun d => d.parameters.length) = some 1 := by decide +kernel
set_option maxRecDepth 100000 in
theorem hdX0_grantRound : yX0_grantRound.cls = RX0 ∧ yX0_grantRound.cls ≠ "java/lang/invoke/MethodHandle" ∧ yX0_grantRound.cls ≠ "java/lang/invoke/VarHandle" ∧ (parseMethodDescriptor yX0_grantRound.desc).map (fun d => d.parameters.length) = some 2 := by decide +kernel
set_option maxRecDepth 100000 in
theorem hdX0_isPlace : yX0_isPlace.cls = RX0 ∧ yX0_isPlace.cls ≠ "java/lang/invoke/MethodHandle" ∧ yX0_isPlace.cls ≠ "java/lang/invoke/VarHandle" ∧ (parseMethodDescriptor yX0_isPlace.desc).map (fun d => d.parameters.length) = some 1 := by decide +kernel
set_option maxRecDepth 100000 in
theorem hdX0_roomLeft : yX0_roomLeft.cls = RX0 ∧ yX0_roomLeft.cls ≠ "java/lang/invoke/MethodHandle" ∧ yX0_roomLeft.cls ≠ "java/lang/invoke/VarHandle" ∧ (parseMethodDescriptor yX0_roomLeft.desc).map (fun d => d.parameters.length) = some 1 := by decide +kernel
set_option maxRecDepth 100000 in
theorem hdX0_wishBy : yX0_wishBy.cls = RX0 ∧ yX0_wishBy.cls ≠ "java/lang/invoke/MethodHandle" ∧ yX0_wishBy.cls ≠ "java/lang/invoke/VarHandle" ∧ (parseMethodDescriptor yX0_wishBy.desc).map (fun d => d.parameters.length) = some 1 := by decide +kernel
set_option maxRecDepth 100000 in
theorem inX0_grantAll : ∀ w ∈ u_ws RX0 TX0 19, w ∈ wsX0_grantAll := by decide +kernel
set_option maxRecDepth 100000 in
theorem inX0_grantRound : ∀ w ∈ u_ws RX0 TX0 19, w ∈ wsX0_grantRound := by decide +kernel
set_option maxRecDepth 100000 in
theorem inX0_moveGranted : ∀ w ∈ u_ws RX0 TX0 19, w ∈ wsX0_moveGranted := by decide +kernel
set_option maxRecDepth 100000 in
theorem inX0_wishBy : ∀ w ∈ u_ws RX0 TX0 19, w ∈ wsX0_wishBy := by decide +kernel
set_option maxRecDepth 100000 in
theorem mwX0_grantRound_min1 : Cond.methodLink RX0 145 Lib.Math.min.name ∈ wsX0_grantRound := by decide +kernel
set_option maxRecDepth 100000 in
theorem mwX0_grantRound_min2 : Cond.static Lib.Math.min.name ∈ wsX0_grantRound := by decide +kernel
set_option maxRecDepth 100000 in
theorem mwX0_grantRound_min3 : Cond.initialized "java/lang/Math" ∈ wsX0_grantRound := by decide +kernel
set_option maxRecDepth 100000 in
theorem mwX0_grantRound_min4 : Cond.code Lib.Math.min.name Lib.Math.min.code 2 (some .int) ∈ wsX0_grantRound := by decide +kernel
set_option maxRecDepth 100000 in
theorem mwX0_wishBy_min1 : Cond.methodLink RX0 145 Lib.Math.min.name ∈ wsX0_wishBy := by decide +kernel
set_option maxRecDepth 100000 in
theorem mwX0_wishBy_min2 : Cond.static Lib.Math.min.name ∈ wsX0_wishBy := by decide +kernel
set_option maxRecDepth 100000 in
theorem mwX0_wishBy_min3 : Cond.initialized "java/lang/Math" ∈ wsX0_wishBy := by decide +kernel
set_option maxRecDepth 100000 in
theorem mwX0_wishBy_min4 : Cond.code Lib.Math.min.name Lib.Math.min.code 2 (some .int) ∈ wsX0_wishBy := by decide +kernel
set_option maxHeartbeats 4000000 in
set_option maxRecDepth 100000 in
theorem cX_wishBy {l : Launch} {D : va_G} {cI cZ : ClassId} {q : Nat} {r : Nat → Nat} {P Dn : Nat} {t la wa : Int} {f0 f1 f2 f3 f4 f5 f6 f7 f8 f9 f10 f11 f12 f13 : Nat → Int} {k : Nat} (hP : 1 ≤ P ∧ P ≤ 11) (hDn : Dn ≤ 16) (hk : k < Dn) (ht : -2147483648 ≤ t ∧ t < 2147483647) (hs2 : ∀ j : Nat, -2147483648 ≤ f2 j ∧ f2 j < 2147483648) (hs11 : ∀ j : Nat, -2147483648 ≤ f11 j ∧ f11 j < 2147483648) (hpe : ∀ j : Nat, 1 ≤ j → j < P → 0 ≤ f1 j ∧ f1 j ≤ f0 j ∧ f0 j ≤ 30) (hp0 : 0 ≤ f1 0 ∧ f1 0 < 1073741824) (hfs : ∀ j : Nat, j < Dn → (1 ≤ f7 j ∧ f7 j ≤ 9) ∧ 1 ≤ f8 j ∧ f8 j ≤ 5) : gMI l yX0_wishBy wsX0_wishBy 1 D (gTy cI cZ) (gX cI cZ q r [(P : Int), (Dn : Int), t, la, wa] [f0, f1, f2, f3, f4, f5, f6, f7, f8, f9, f10, f11, f12, f13]) [.ref q, .int (iI (k : Int))] (pWish (P : Int) t f1 f2 f7 f11 k) (gX cI cZ q r [(P : Int), (Dn : Int), t, la, wa] [f0, f1, f2, f3, f4, f5, f6, f7, f8, f9, f10, f11, f12, f13]) := by
  refine g_ofI (by decide +kernel) rfl rfl (Nat.le_of_ble_eq_true rfl) (g_cat1 rfl) rfl ?_
  intro p e s m args below meth c Q A0 E hret
  have hts := E.1.2.2.2.2
  show gJ p l e (gR 1) s m args below meth c 0 0 Q A0 D (gX cI cZ q r [(P : Int), (Dn : Int), t, la, wa] [f0, f1, f2, f3, f4, f5, f6, f7, f8, f9, f10, f11, f12, f13]) [some (.ref q), some (.int (iI (k : Int))), none] 0 []
  have h11 := hs11 k
  have hk16 : k < 16 := by omega
  by_cases hin : 0 ≤ f11 k ∧ f11 k < (P : Int)
  · have h2 := hs2 (f11 k).toNat
    have h7 := hfs k hk
    have h1 : 0 ≤ f1 (f11 k).toNat ∧ f1 (f11 k).toNat < 1073741824 := by
      rcases Nat.eq_zero_or_pos (f11 k).toNat with e | e
      · rw [e]; exact hp0
      · have := hpe (f11 k).toNat e (by omega); omega
    refine g_aload_n E dX0_wishBy_0 rfl rfl ?_
    refine g_getR E inX0_wishBy rfl flX0_wishBy_44 dX0_wishBy_1 (by decide) rfl ?_
    refine g_iload_n E dX0_wishBy_4 rfl rfl ?_
    refine g_ald E dX0_wishBy_5 rfl rfl rfl (by omega) ?_
    refine g_istore_n E (lv' := [_, _, _]) dX0_wishBy_6 rfl (Nat.le_of_ble_eq_true rfl) rfl ?_
    refine g_aload_n E dX0_wishBy_7 rfl rfl ?_
    refine g_iload_n E dX0_wishBy_8 rfl rfl ?_
    refine g_callI0 E (cX_isPlace (rv := 1) (by omega) (Or.inl ⟨rfl, by omega, by omega⟩)) (cwV 1 hts gX0_wishBy_X0_isPlace rfl rfl rfl hdX0_isPlace ⟨(Nat.le_of_ble_eq_true rfl), (Nat.le_of_ble_eq_true rfl)⟩) rfl rfl rfl (Nat.le_of_ble_eq_true rfl) gW_0 rfl dX0_wishBy_9 ⟨Nat.zero_le _, Nat.zero_le _⟩ ?_
    refine g_if_eq_f E dX0_wishBy_12 (tgt := 28) (by decide) (by omega) (by omega) ?_
    refine g_aload_n E dX0_wishBy_15 rfl rfl ?_
    refine g_getR E inX0_wishBy rfl flX0_wishBy_16 dX0_wishBy_16 (by decide) rfl ?_
    refine g_iload_n E dX0_wishBy_19 rfl rfl ?_
    refine g_ald E dX0_wishBy_20 rfl rfl (i := (f11 k).toNat) (by omega) (by omega) ?_
    refine g_aload_n E dX0_wishBy_21 rfl rfl ?_
    refine g_getI E inX0_wishBy rfl flX0_wishBy_99 dX0_wishBy_22 (by decide) rfl rfl ?_
    refine g_icmp_le E dX0_wishBy_25 (tgt := 30) (by decide) (by omega) (fun h3 => ?_) (fun h3 => ?_)
    · refine g_aload_n E dX0_wishBy_30 rfl rfl ?_
      refine g_getR E inX0_wishBy rfl flX0_wishBy_13 dX0_wishBy_31 (by decide) rfl ?_
      refine g_iload_n E dX0_wishBy_34 rfl rfl ?_
      refine g_ald E dX0_wishBy_35 rfl rfl (i := (f11 k).toNat) (by omega) (by omega) ?_
      refine g_aload_n E dX0_wishBy_36 rfl rfl ?_
      refine g_getR E inX0_wishBy rfl flX0_wishBy_31 dX0_wishBy_37 (by decide) rfl ?_
      refine g_iload_n E dX0_wishBy_40 rfl rfl ?_
      refine g_ald E dX0_wishBy_41 rfl rfl rfl (by omega) ?_
      refine g_mmin E mwX0_wishBy_min1 mwX0_wishBy_min2 mwX0_wishBy_min3 mwX0_wishBy_min4 dX0_wishBy_42 rfl ⟨(Nat.le_of_ble_eq_true rfl), (Nat.le_of_ble_eq_true rfl), Nat.zero_le _, Nat.zero_le _⟩ (by omega) rfl ?_
      exact g_ri (by unfold pWish; exact (if_pos ⟨hin.1, hin.2, h3⟩).symm) hret dX0_wishBy_45
    · refine g_iconst E dX0_wishBy_28 ?_
      exact g_ri (by rw [pWish, if_neg (by omega)]) hret dX0_wishBy_29
  · refine g_aload_n E dX0_wishBy_0 rfl rfl ?_
    refine g_getR E inX0_wishBy rfl flX0_wishBy_44 dX0_wishBy_1 (by decide) rfl ?_
    refine g_iload_n E dX0_wishBy_4 rfl rfl ?_
    refine g_ald E dX0_wishBy_5 rfl rfl rfl (by omega) ?_
    refine g_istore_n E (lv' := [_, _, _]) dX0_wishBy_6 rfl (Nat.le_of_ble_eq_true rfl) rfl ?_
    refine g_aload_n E dX0_wishBy_7 rfl rfl ?_
    refine g_iload_n E dX0_wishBy_8 rfl rfl ?_
    refine g_callI0 E (cX_isPlace (rv := 0) (by omega) (Or.inr ⟨rfl, by omega⟩)) (cwV 1 hts gX0_wishBy_X0_isPlace rfl rfl rfl hdX0_isPlace ⟨(Nat.le_of_ble_eq_true rfl), (Nat.le_of_ble_eq_true rfl)⟩) rfl rfl rfl (Nat.le_of_ble_eq_true rfl) gW_0 rfl dX0_wishBy_9 ⟨Nat.zero_le _, Nat.zero_le _⟩ ?_
    refine g_if_eq_t E dX0_wishBy_12 (tgt := 28) (by decide) (by omega) (by omega) ?_
    refine g_iconst E dX0_wishBy_28 ?_
    exact g_ri (by rw [pWish, if_neg (by omega)]) hret dX0_wishBy_29
set_option maxHeartbeats 4000000 in
set_option maxRecDepth 100000 in
theorem cX_grantRound {l : Launch} {D : va_G} {cI cZ : ClassId} {q : Nat} {r : Nat → Nat} {P Dn : Nat} {t la wa : Int} {f0 f1 f2 f3 f4 f5 f6 f7 f8 f9 f10 f11 f12 f13 : Nat → Int} {pl L : Int} (hP : 1 ≤ P ∧ P ≤ 11) (hDn : Dn ≤ 16) (hp : 0 ≤ pl ∧ pl < 11) (ht : -2147483648 ≤ t ∧ t < 2147483647) (hs2 : ∀ j : Nat, -2147483648 ≤ f2 j ∧ f2 j < 2147483648) (hs11 : ∀ j : Nat, -2147483648 ≤ f11 j ∧ f11 j < 2147483648) (hs12 : ∀ j : Nat, -2147483648 ≤ f12 j ∧ f12 j < 2147483648) (hpe : ∀ j : Nat, 1 ≤ j → j < P → 0 ≤ f1 j ∧ f1 j ≤ f0 j ∧ f0 j ≤ 30) (hp0 : 0 ≤ f1 0 ∧ f1 0 < 1073741824) (hfs : ∀ j : Nat, j < Dn → (1 ≤ f7 j ∧ f7 j ≤ 9) ∧ 1 ≤ f8 j ∧ f8 j ≤ 5) (hg : gGI (pWish (P : Int) t f1 f2 f7 f11) f8 f13 L Dn) : gMI l yX0_grantRound wsX0_grantRound 2 D (gTy cI cZ) (gX cI cZ q r [(P : Int), (Dn : Int), t, la, wa] [f0, f1, f2, f3, f4, f5, f6, f7, f8, f9, f10, f11, f12, f13]) [.ref q, .int (iI pl), .int (iI L)] (L - (pG (pWish (P : Int) t f1 f2 f7 f11) f8 f12 pl f13 L Dn).2) (gX cI cZ q r [(P : Int), (Dn : Int), t, la, wa] [f0, f1, f2, f3, f4, f5, f6, f7, f8, f9, f10, f11, f12, (pG (pWish (P : Int) t f1 f2 f7 f11) f8 f12 pl f13 L Dn).1]) := by
  refine g_ofI (by decide +kernel) rfl rfl (Nat.le_of_ble_eq_true rfl) (g_cat1 rfl) rfl ?_
  intro p e s m args below meth c Q A0 E hret
  have hts := E.1.2.2.2.2
  show gJ p l e (gR 2) s m args below meth c 0 0 Q A0 D (gX cI cZ q r [(P : Int), (Dn : Int), t, la, wa] [f0, f1, f2, f3, f4, f5, f6, f7, f8, f9, f10, f11, f12, f13]) [some (.ref q), some (.int (iI pl)), some (.int (iI L)), none, none, none, none] 0 []
  have key : ∀ k : Nat, k ≤ Dn → ∀ a b : Option Value, gJ p l e (gR 2) s m args below meth c 0 0 Q A0 D (gX cI cZ q r [(P : Int), (Dn : Int), t, la, wa] [f0, f1, f2, f3, f4, f5, f6, f7, f8, f9, f10, f11, f12, (pG (pWish (P : Int) t f1 f2 f7 f11) f8 f12 pl f13 L k).1]) [some (.ref q), some (.int (iI pl)), some (.int (iI L)), some (.int (iI (pG (pWish (P : Int) t f1 f2 f7 f11) f8 f12 pl f13 L k).2)), some (.int (iI k)), a, b] 5 [] := by
    refine g_loop _ Dn ?_ ?_
    · intro a b
      refine g_iload E dX0_grantRound_5 rfl ?_
      refine g_aload_n E dX0_grantRound_7 rfl rfl ?_
      refine g_getI E inX0_grantRound rfl flX0_grantRound_78 dX0_grantRound_8 (by decide) rfl rfl ?_
      refine g_icmp_ge_t E dX0_grantRound_11 (tgt := 82) (by decide) (by omega) (by omega) ?_
      refine g_iload_n E dX0_grantRound_82 rfl rfl ?_
      refine g_iload_n E dX0_grantRound_83 rfl rfl ?_
      refine g_isub E dX0_grantRound_84 ?_
      exact g_ri rfl hret dX0_grantRound_85
    · intro k hk ih a b
      have h12 := hs12 k
      obtain ⟨⟨i1, i2, i3⟩, i4⟩ := pG_inv (tg := f12) (p := pl) hg k (by omega)
      obtain ⟨⟨j1, j2⟩, j3, j4, j5⟩ := i1 k hk
      refine g_iload E dX0_grantRound_5 rfl ?_
      refine g_aload_n E dX0_grantRound_7 rfl rfl ?_
      refine g_getI E inX0_grantRound rfl flX0_grantRound_78 dX0_grantRound_8 (by decide) rfl rfl ?_
      refine g_icmp_ge_f E dX0_grantRound_11 (tgt := 82) (by decide) (by omega) (by omega) ?_
      refine g_aload_n E dX0_grantRound_14 rfl rfl ?_
      refine g_getR E inX0_grantRound rfl flX0_grantRound_47 dX0_grantRound_15 (by decide) rfl ?_
      refine g_iload E dX0_grantRound_18 rfl ?_
      refine g_ald E dX0_grantRound_20 rfl rfl rfl (by omega) ?_
      refine g_iload_n E dX0_grantRound_21 rfl rfl ?_
      refine g_icmp_ne E dX0_grantRound_22 (tgt := 76) (by decide) (by omega) (fun h1 => ?_) (fun h1 => ?_)
      · have e9 : pG (pWish (P : Int) t f1 f2 f7 f11) f8 f12 pl f13 L (k + 1) = (pG (pWish (P : Int) t f1 f2 f7 f11) f8 f12 pl f13 L k) := if_neg h1
        refine g_iinc E (lv' := [_, _, _, _, _, _, _]) dX0_grantRound_76 rfl rfl ?_
        refine g_goto E dX0_grantRound_79 (tgt := 5) (by decide) ?_
        exact g_eq (ih a b) (by rw [e9]) (by rw [e9]; rfl) rfl
      · have h1' : f12 k = pl := by omega
        have e9 : pG (pWish (P : Int) t f1 f2 f7 f11) f8 f12 pl f13 L (k + 1) = (gu (pG (pWish (P : Int) t f1 f2 f7 f11) f8 f12 pl f13 L k).1 k ((pG (pWish (P : Int) t f1 f2 f7 f11) f8 f12 pl f13 L k).1 k + pMin (pMin (f8 k) ((pWish (P : Int) t f1 f2 f7 f11) k - (pG (pWish (P : Int) t f1 f2 f7 f11) f8 f12 pl f13 L k).1 k)) (pG (pWish (P : Int) t f1 f2 f7 f11) f8 f12 pl f13 L k).2), (pG (pWish (P : Int) t f1 f2 f7 f11) f8 f12 pl f13 L k).2 - pMin (pMin (f8 k) ((pWish (P : Int) t f1 f2 f7 f11) k - (pG (pWish (P : Int) t f1 f2 f7 f11) f8 f12 pl f13 L k).1 k)) (pG (pWish (P : Int) t f1 f2 f7 f11) f8 f12 pl f13 L k).2) := if_pos h1'
        have c1 := pMin_c (f8 k) ((pWish (P : Int) t f1 f2 f7 f11) k - (pG (pWish (P : Int) t f1 f2 f7 f11) f8 f12 pl f13 L k).1 k)
        refine g_aload_n E dX0_grantRound_25 rfl rfl ?_
        refine g_iload E dX0_grantRound_26 rfl ?_
        refine g_callI0 E (cX_wishBy hP hDn hk ht hs2 hs11 hpe hp0 hfs) (cwV 1 hts gX0_grantRound_X0_wishBy rfl rfl rfl hdX0_wishBy ⟨(Nat.le_of_ble_eq_true rfl), (Nat.le_of_ble_eq_true rfl)⟩) rfl rfl rfl (Nat.le_of_ble_eq_true rfl) gW_0 rfl dX0_grantRound_28 ⟨Nat.zero_le _, Nat.zero_le _⟩ ?_
        refine g_aload_n E dX0_grantRound_31 rfl rfl ?_
        refine g_getR E inX0_grantRound rfl flX0_grantRound_50 dX0_grantRound_32 (by decide) rfl ?_
        refine g_iload E dX0_grantRound_35 rfl ?_
        refine g_ald E dX0_grantRound_37 rfl rfl rfl (by omega) ?_
        refine g_isub E dX0_grantRound_38 ?_
        refine g_istore E (lv' := [_, _, _, _, _, _, _]) dX0_grantRound_39 (Nat.le_of_ble_eq_true rfl) rfl ?_
        refine g_aload_n E dX0_grantRound_41 rfl rfl ?_
        refine g_getR E inX0_grantRound rfl flX0_grantRound_34 dX0_grantRound_42 (by decide) rfl ?_
        refine g_iload E dX0_grantRound_45 rfl ?_
        refine g_ald E dX0_grantRound_47 rfl rfl rfl (by omega) ?_
        refine g_iload E dX0_grantRound_48 rfl ?_
        refine g_mmin E mwX0_grantRound_min1 mwX0_grantRound_min2 mwX0_grantRound_min3 mwX0_grantRound_min4 dX0_grantRound_50 rfl ⟨(Nat.le_of_ble_eq_true rfl), (Nat.le_of_ble_eq_true rfl), Nat.zero_le _, Nat.zero_le _⟩ (v := pMin (f8 k) ((pWish (P : Int) t f1 f2 f7 f11) k - (pG (pWish (P : Int) t f1 f2 f7 f11) f8 f12 pl f13 L k).1 k)) (by omega) rfl ?_
        refine g_iload_n E dX0_grantRound_53 rfl rfl ?_
        refine g_mmin E mwX0_grantRound_min1 mwX0_grantRound_min2 mwX0_grantRound_min3 mwX0_grantRound_min4 dX0_grantRound_54 rfl ⟨(Nat.le_of_ble_eq_true rfl), (Nat.le_of_ble_eq_true rfl), Nat.zero_le _, Nat.zero_le _⟩ (v := pMin (pMin (f8 k) ((pWish (P : Int) t f1 f2 f7 f11) k - (pG (pWish (P : Int) t f1 f2 f7 f11) f8 f12 pl f13 L k).1 k)) (pG (pWish (P : Int) t f1 f2 f7 f11) f8 f12 pl f13 L k).2) (by omega) rfl ?_
        refine g_istore E (lv' := [_, _, _, _, _, _, _]) dX0_grantRound_57 (Nat.le_of_ble_eq_true rfl) rfl ?_
        refine g_aload_n E dX0_grantRound_59 rfl rfl ?_
        refine g_getR E inX0_grantRound rfl flX0_grantRound_50 dX0_grantRound_60 (by decide) rfl ?_
        refine g_iload E dX0_grantRound_63 rfl ?_
        refine g_dup2 E dX0_grantRound_65 rfl rfl ?_
        refine g_ald E dX0_grantRound_66 rfl rfl rfl (by omega) ?_
        refine g_iload E dX0_grantRound_67 rfl ?_
        refine g_iadd E dX0_grantRound_69 ?_
        refine g_ast E (A' := [_, _, _, _, _, _, _, _, _, _, _, _, _, _]) dX0_grantRound_70 rfl rfl rfl (by omega) rfl ?_
        refine g_iload_n E dX0_grantRound_71 rfl rfl ?_
        refine g_iload E dX0_grantRound_72 rfl ?_
        refine g_isub E dX0_grantRound_74 ?_
        refine g_istore_n E (lv' := [_, _, _, _, _, _, _]) dX0_grantRound_75 rfl (Nat.le_of_ble_eq_true rfl) rfl ?_
        refine g_iinc E (lv' := [_, _, _, _, _, _, _]) dX0_grantRound_76 rfl rfl ?_
        refine g_goto E dX0_grantRound_79 (tgt := 5) (by decide) ?_
        exact g_eq (ih _ _) (by rw [e9]) (by rw [e9]; rfl) rfl
  refine g_iload_n E dX0_grantRound_0 rfl rfl ?_
  refine g_istore_n E (lv' := [_, _, _, _, _, _, _]) dX0_grantRound_1 rfl (Nat.le_of_ble_eq_true rfl) rfl ?_
  refine g_iconst E dX0_grantRound_2 ?_
  refine g_istore E (lv' := [_, _, _, _, _, _, _]) dX0_grantRound_3 (Nat.le_of_ble_eq_true rfl) rfl ?_
  exact key 0 (by omega) _ _
set_option maxHeartbeats 4000000 in
set_option maxRecDepth 100000 in
theorem cX_grantAt {l : Launch} {D : va_G} {cI cZ : ClassId} {q : Nat} {r : Nat → Nat} {P Dn : Nat} {t la wa : Int} {f0 f1 f2 f3 f4 f5 f6 f7 f8 f9 f10 f11 f12 f13 : Nat → Int} {pl : Nat} (hP : 1 ≤ P ∧ P ≤ 11) (hDn : Dn ≤ 16) (hp : pl < P) (ht : -2147483648 ≤ t ∧ t < 2147483647) (hs2 : ∀ j : Nat, -2147483648 ≤ f2 j ∧ f2 j < 2147483648) (hs11 : ∀ j : Nat, -2147483648 ≤ f11 j ∧ f11 j < 2147483648) (hs12 : ∀ j : Nat, -2147483648 ≤ f12 j ∧ f12 j < 2147483648) (hpe : ∀ j : Nat, 1 ≤ j → j < P → 0 ≤ f1 j ∧ f1 j ≤ f0 j ∧ f0 j ≤ 30) (hp0 : 0 ≤ f1 0 ∧ f1 0 < 1073741824) (hfs : ∀ j : Nat, j < Dn → (1 ≤ f7 j ∧ f7 j ≤ 9) ∧ 1 ≤ f8 j ∧ f8 j ≤ 5) (hg : gGI (pWish (P : Int) t f1 f2 f7 f11) f8 f13 (pRoom f0 f1 pl) Dn) : gMV l yX0_grantAt wsX0_grantAt 3 D (gTy cI cZ) (gX cI cZ q r [(P : Int), (Dn : Int), t, la, wa] [f0, f1, f2, f3, f4, f5, f6, f7, f8, f9, f10, f11, f12, f13]) [.ref q, .int (iI (pl : Int))] (gX cI cZ q r [(P : Int), (Dn : Int), t, la, wa] [f0, f1, f2, f3, f4, f5, f6, f7, f8, f9, f10, f11, f12, (pR (pWish (P : Int) t f1 f2 f7 f11) f8 f12 (pl : Int) Dn f13 (pRoom f0 f1 pl) 9).1]) := by
  refine g_ofV (by decide +kernel) rfl rfl (Nat.le_of_ble_eq_true rfl) (g_cat1 rfl) ?_
  intro p e s m args below meth c Q A0 E hret
  have hts := E.1.2.2.2.2
  show gJ p l e (gR 3) s m args below meth c 0 0 Q A0 D (gX cI cZ q r [(P : Int), (Dn : Int), t, la, wa] [f0, f1, f2, f3, f4, f5, f6, f7, f8, f9, f10, f11, f12, f13]) [some (.ref q), some (.int (iI (pl : Int))), none, none, none] 0 []
  have key : ∀ k : Nat, k ≤ 9 → ∀ a : Option Value, gJ p l e (gR 3) s m args below meth c 0 0 Q A0 D (gX cI cZ q r [(P : Int), (Dn : Int), t, la, wa] [f0, f1, f2, f3, f4, f5, f6, f7, f8, f9, f10, f11, f12, (pR (pWish (P : Int) t f1 f2 f7 f11) f8 f12 (pl : Int) Dn f13 (pRoom f0 f1 pl) k).1]) [some (.ref q), some (.int (iI pl)), some (.int (iI (pR (pWish (P : Int) t f1 f2 f7 f11) f8 f12 (pl : Int) Dn f13 (pRoom f0 f1 pl) k).2)), some (.int (iI k)), a] 8 [] := by
    refine g_loop _ 9 ?_ ?_
    · intro a
      refine g_iload_n E dX0_grantAt_8 rfl rfl ?_
      refine g_bipush E dX0_grantAt_9 (by decide) ?_
      refine g_icmp_ge_t E dX0_grantAt_11 (tgt := 39) (by decide) (by omega) (by omega) ?_
      exact hret _ _ dX0_grantAt_39
    · intro k hk ih a
      have inv := pR_inv (tg := f12) (p := (pl : Int)) hg k
      have inv2 := pR_inv (tg := f12) (p := (pl : Int)) hg (k + 1)
      have b1 := inv.2
      have b2 := inv2.2
      refine g_iload_n E dX0_grantAt_8 rfl rfl ?_
      refine g_bipush E dX0_grantAt_9 (by decide) ?_
      refine g_icmp_ge_f E dX0_grantAt_11 (tgt := 39) (by decide) (by omega) (by omega) ?_
      refine g_aload_n E dX0_grantAt_14 rfl rfl ?_
      refine g_iload_n E dX0_grantAt_15 rfl rfl ?_
      refine g_iload_n E dX0_grantAt_16 rfl rfl ?_
      refine g_callI0 E (cX_grantRound hP hDn (by omega) ht hs2 hs11 hs12 hpe hp0 hfs inv) (cwV 2 hts gX0_grantAt_X0_grantRound rfl rfl rfl hdX0_grantRound ⟨(Nat.le_of_ble_eq_true rfl), (Nat.le_of_ble_eq_true rfl)⟩) rfl rfl rfl (Nat.le_of_ble_eq_true rfl) gW_0 rfl dX0_grantAt_17 ⟨Nat.zero_le _, Nat.zero_le _⟩ ?_
      refine g_istore E (lv' := [_, _, _, _, _]) dX0_grantAt_20 (Nat.le_of_ble_eq_true rfl) rfl ?_
      refine g_iload E dX0_grantAt_22 rfl ?_
      have e8 : pG (pWish (P : Int) t f1 f2 f7 f11) f8 f12 (pl : Int) (pR (pWish (P : Int) t f1 f2 f7 f11) f8 f12 (pl : Int) Dn f13 (pRoom f0 f1 pl) k).1 (pR (pWish (P : Int) t f1 f2 f7 f11) f8 f12 (pl : Int) Dn f13 (pRoom f0 f1 pl) k).2 Dn = (pR (pWish (P : Int) t f1 f2 f7 f11) f8 f12 (pl : Int) Dn f13 (pRoom f0 f1 pl) (k + 1)) := rfl
      rw [e8]
      refine g_if_ne E dX0_grantAt_24 (tgt := 28) (by decide) (by omega) (fun h1 => ?_) (fun h1 => ?_)
      · refine g_iload_n E dX0_grantAt_28 rfl rfl ?_
        refine g_iload E dX0_grantAt_29 rfl ?_
        refine g_isub E dX0_grantAt_31 ?_
        refine g_istore_n E (lv' := [_, _, _, _, _]) dX0_grantAt_32 rfl (Nat.le_of_ble_eq_true rfl) rfl ?_
        refine g_iinc E (lv' := [_, _, _, _, _]) dX0_grantAt_33 rfl rfl ?_
        refine g_goto E dX0_grantAt_36 (tgt := 8) (by decide) ?_
        exact g_eq (ih (some (.int (iI ((pR (pWish (P : Int) t f1 f2 f7 f11) f8 f12 (pl : Int) Dn f13 (pRoom f0 f1 pl) k).2 - (pR (pWish (P : Int) t f1 f2 f7 f11) f8 f12 (pl : Int) Dn f13 (pRoom f0 f1 pl) (k + 1)).2))))) rfl (by rw [show (pR (pWish (P : Int) t f1 f2 f7 f11) f8 f12 (pl : Int) Dn f13 (pRoom f0 f1 pl) k).2 - ((pR (pWish (P : Int) t f1 f2 f7 f11) f8 f12 (pl : Int) Dn f13 (pRoom f0 f1 pl) k).2 - (pR (pWish (P : Int) t f1 f2 f7 f11) f8 f12 (pl : Int) Dn f13 (pRoom f0 f1 pl) (k + 1)).2) = (pR (pWish (P : Int) t f1 f2 f7 f11) f8 f12 (pl : Int) Dn f13 (pRoom f0 f1 pl) (k + 1)).2 by omega]; rfl) rfl
      · have e9 := pR_out hg (tg := f12) (p := (pl : Int)) (n := k) (N := 9) (by omega) (by omega)
        rw [e9] at hret
        exact hret _ _ dX0_grantAt_27
  refine g_aload_n E dX0_grantAt_0 rfl rfl ?_
  refine g_iload_n E dX0_grantAt_1 rfl rfl ?_
  refine g_callI0 E (cX_roomLeft (i := pl) ⟨rfl, by omega⟩ rfl) (cwV 1 hts gX0_grantAt_X0_roomLeft rfl rfl rfl hdX0_roomLeft ⟨(Nat.le_of_ble_eq_true rfl), (Nat.le_of_ble_eq_true rfl)⟩) rfl rfl rfl (Nat.le_of_ble_eq_true rfl) gW_0 rfl dX0_grantAt_2 ⟨Nat.zero_le _, Nat.zero_le _⟩ ?_
  refine g_istore_n E (lv' := [_, _, _, _, _]) dX0_grantAt_5 rfl (Nat.le_of_ble_eq_true rfl) rfl ?_
  refine g_iconst E dX0_grantAt_6 ?_
  refine g_istore_n E (lv' := [_, _, _, _, _]) dX0_grantAt_7 rfl (Nat.le_of_ble_eq_true rfl) rfl ?_
  exact key 0 (by omega) _
set_option maxHeartbeats 4000000 in
set_option maxRecDepth 100000 in
theorem cX_grantAll {l : Launch} {D : va_G} {cI cZ : ClassId} {q : Nat} {r : Nat → Nat} {P Dn : Nat} {t la wa : Int} {f0 f1 f2 f3 f4 f5 f6 f7 f8 f9 f10 f11 f12 f13 : Nat → Int} (hP : 1 ≤ P ∧ P ≤ 11) (hDn : Dn ≤ 16) (ht : -2147483648 ≤ t ∧ t < 2147483647) (hs2 : ∀ j : Nat, -2147483648 ≤ f2 j ∧ f2 j < 2147483648) (hs11 : ∀ j : Nat, -2147483648 ≤ f11 j ∧ f11 j < 2147483648) (hs12 : ∀ j : Nat, -2147483648 ≤ f12 j ∧ f12 j < 2147483648) (hpe : ∀ j : Nat, 1 ≤ j → j < P → 0 ≤ f1 j ∧ f1 j ≤ f0 j ∧ f0 j ≤ 30) (hp0 : 0 ≤ f1 0 ∧ f1 0 < 1073741824) (hfs : ∀ j : Nat, j < Dn → (1 ≤ f7 j ∧ f7 j ≤ 9) ∧ 1 ≤ f8 j ∧ f8 j ≤ 5) : gMV l yX0_grantAll wsX0_grantAll 4 D (gTy cI cZ) (gX cI cZ q r [(P : Int), (Dn : Int), t, la, wa] [f0, f1, f2, f3, f4, f5, f6, f7, f8, f9, f10, f11, f12, f13]) [.ref q] (gX cI cZ q r [(P : Int), (Dn : Int), t, la, wa] [f0, f1, f2, f3, f4, f5, f6, f7, f8, f9, f10, f11, f12, (pA (pWish (P : Int) t f1 f2 f7 f11) f8 f12 f0 f1 Dn (pZ f13 Dn) P)]) := by
  refine g_ofV (by decide +kernel) rfl rfl (Nat.le_of_ble_eq_true rfl) (g_cat1 rfl) ?_
  intro p e s m args below meth c Q A0 E hret
  have hts := E.1.2.2.2.2
  show gJ p l e (gR 4) s m args below meth c 0 0 Q A0 D (gX cI cZ q r [(P : Int), (Dn : Int), t, la, wa] [f0, f1, f2, f3, f4, f5, f6, f7, f8, f9, f10, f11, f12, f13]) [some (.ref q), none] 0 []
  have hw := pWish_B (P := (P : Int)) (t := t) (pe := f1) (re := f2) (fl := f7) (sr := f11) (Dn := Dn) (fun j h1 h2 => (hpe j h2 (by omega)).1) hp0.1 (fun j hj => (hfs j hj).1)
  have hz : ∀ j, j < Dn → (0 ≤ pZ f13 Dn j ∧ pZ f13 Dn j ≤ (pWish (P : Int) t f1 f2 f7 f11) j) ∧ (pWish (P : Int) t f1 f2 f7 f11) j ≤ 9 ∧ 1 ≤ f8 j ∧ f8 j ≤ 5 := fun j hj => by
    have h1 := hw j hj
    have h2 := hfs j hj
    rw [pZ_0 Dn j hj]
    omega
  have hr : ∀ p : Nat, p < P → 0 ≤ pRoom f0 f1 p ∧ pRoom f0 f1 p < 2147483648 := fun p hp => by
    unfold pRoom
    split
    · omega
    · have := hpe p (by omega) hp
      omega
  have key2 : ∀ k : Nat, k ≤ P → gJ p l e (gR 4) s m args below meth c 0 0 Q A0 D (gX cI cZ q r [(P : Int), (Dn : Int), t, la, wa] [f0, f1, f2, f3, f4, f5, f6, f7, f8, f9, f10, f11, f12, (pA (pWish (P : Int) t f1 f2 f7 f11) f8 f12 f0 f1 Dn (pZ f13 Dn) k)]) [some (.ref q), some (.int (iI k))] 25 [] := by
    refine g_loop _ P ?_ ?_
    · refine g_iload_n E dX0_grantAll_25 rfl rfl ?_
      refine g_aload_n E dX0_grantAll_26 rfl rfl ?_
      refine g_getI E inX0_grantAll rfl flX0_grantAll_53 dX0_grantAll_27 (by decide) rfl rfl ?_
      refine g_icmp_ge_t E dX0_grantAll_30 (tgt := 44) (by decide) (by omega) (by omega) ?_
      exact hret _ _ dX0_grantAll_44
    · intro k hk ih
      refine g_iload_n E dX0_grantAll_25 rfl rfl ?_
      refine g_aload_n E dX0_grantAll_26 rfl rfl ?_
      refine g_getI E inX0_grantAll rfl flX0_grantAll_53 dX0_grantAll_27 (by decide) rfl rfl ?_
      refine g_icmp_ge_f E dX0_grantAll_30 (tgt := 44) (by decide) (by omega) (by omega) ?_
      refine g_aload_n E dX0_grantAll_33 rfl rfl ?_
      refine g_iload_n E dX0_grantAll_34 rfl rfl ?_
      refine g_callV0 E (cX_grantAt hP hDn hk ht hs2 hs11 hs12 hpe hp0 hfs (pA_gGI (tg := f12) hz hr hk)) (cwV 1 hts gX0_grantAll_X0_grantAt rfl rfl rfl hdX0_grantAt ⟨(Nat.le_of_ble_eq_true rfl), (Nat.le_of_ble_eq_true rfl)⟩) rfl rfl rfl (Nat.le_of_ble_eq_true rfl) gW_0 rfl dX0_grantAll_35 ⟨Nat.zero_le _, Nat.zero_le _⟩ ?_
      refine g_iinc E (lv' := [_, _]) dX0_grantAll_38 rfl rfl ?_
      refine g_goto E dX0_grantAll_41 (tgt := 25) (by decide) ?_
      exact ih
  have key1 : ∀ k : Nat, k ≤ Dn → gJ p l e (gR 4) s m args below meth c 0 0 Q A0 D (gX cI cZ q r [(P : Int), (Dn : Int), t, la, wa] [f0, f1, f2, f3, f4, f5, f6, f7, f8, f9, f10, f11, f12, (pZ f13 k)]) [some (.ref q), some (.int (iI k))] 2 [] := by
    refine g_loop _ Dn ?_ ?_
    · refine g_iload_n E dX0_grantAll_2 rfl rfl ?_
      refine g_aload_n E dX0_grantAll_3 rfl rfl ?_
      refine g_getI E inX0_grantAll rfl flX0_grantAll_78 dX0_grantAll_4 (by decide) rfl rfl ?_
      refine g_icmp_ge_t E dX0_grantAll_7 (tgt := 23) (by decide) (by omega) (by omega) ?_
      refine g_iconst E dX0_grantAll_23 ?_
      refine g_istore_n E (lv' := [_, _]) dX0_grantAll_24 rfl (Nat.le_of_ble_eq_true rfl) rfl ?_
      exact key2 0 (by omega)
    · intro k hk ih
      refine g_iload_n E dX0_grantAll_2 rfl rfl ?_
      refine g_aload_n E dX0_grantAll_3 rfl rfl ?_
      refine g_getI E inX0_grantAll rfl flX0_grantAll_78 dX0_grantAll_4 (by decide) rfl rfl ?_
      refine g_icmp_ge_f E dX0_grantAll_7 (tgt := 23) (by decide) (by omega) (by omega) ?_
      refine g_aload_n E dX0_grantAll_10 rfl rfl ?_
      refine g_getR E inX0_grantAll rfl flX0_grantAll_50 dX0_grantAll_11 (by decide) rfl ?_
      refine g_iload_n E dX0_grantAll_14 rfl rfl ?_
      refine g_iconst E dX0_grantAll_15 ?_
      refine g_ast E (A' := [_, _, _, _, _, _, _, _, _, _, _, _, _, _]) dX0_grantAll_16 rfl rfl rfl (by omega) rfl ?_
      refine g_iinc E (lv' := [_, _]) dX0_grantAll_17 rfl rfl ?_
      refine g_goto E dX0_grantAll_20 (tgt := 2) (by decide) ?_
      exact ih
  refine g_iconst E dX0_grantAll_0 ?_
  refine g_istore_n E (lv' := [_, _]) dX0_grantAll_1 rfl (Nat.le_of_ble_eq_true rfl) rfl ?_
  exact key1 0 (by omega)
set_option maxHeartbeats 4000000 in
set_option maxRecDepth 100000 in
theorem cX_moveGranted {l : Launch} {D : va_G} {cI cZ : ClassId} {q : Nat} {r : Nat → Nat} {P Dn : Nat} {t la wa : Int} {f0 f1 f2 f3 f4 f5 f6 f7 f8 f9 f10 f11 f12 f13 : Nat → Int} (hP : 1 ≤ P ∧ P ≤ 11) (hDn : Dn ≤ 16) (hs11 : ∀ j : Nat, -2147483648 ≤ f11 j ∧ f11 j < 2147483648) (hs12 : ∀ j : Nat, -2147483648 ≤ f12 j ∧ f12 j < 2147483648) : gMI l yX0_moveGranted wsX0_moveGranted 1 D (gTy cI cZ) (gX cI cZ q r [(P : Int), (Dn : Int), t, la, wa] [f0, f1, f2, f3, f4, f5, f6, f7, f8, f9, f10, f11, f12, f13]) [.ref q] (pMoved (P : Int) f11 f12 f13 Dn) (gX cI cZ q r [(P : Int), (Dn : Int), t, la, wa] [f0, (pMove (P : Int) f11 f12 f13 f1 Dn), f2, f3, f4, f5, f6, f7, f8, f9, (pPass (P : Int) f11 f12 f13 f10 Dn), f11, f12, f13]) := by
  refine g_ofI (by decide +kernel) rfl rfl (Nat.le_of_ble_eq_true rfl) (g_cat1 rfl) rfl ?_
  intro p e s m args below meth c Q A0 E hret
  have hts := E.1.2.2.2.2
  show gJ p l e (gR 1) s m args below meth c 0 0 Q A0 D (gX cI cZ q r [(P : Int), (Dn : Int), t, la, wa] [f0, f1, f2, f3, f4, f5, f6, f7, f8, f9, f10, f11, f12, f13]) [some (.ref q), none, none, none, none] 0 []
  have key : ∀ k : Nat, k ≤ Dn → ∀ a b : Option Value, gJ p l e (gR 1) s m args below meth c 0 0 Q A0 D (gX cI cZ q r [(P : Int), (Dn : Int), t, la, wa] [f0, (pMove (P : Int) f11 f12 f13 f1 k), f2, f3, f4, f5, f6, f7, f8, f9, (pPass (P : Int) f11 f12 f13 f10 k), f11, f12, f13]) [some (.ref q), some (.int (iI (pMoved (P : Int) f11 f12 f13 k))), some (.int (iI k)), a, b] 4 [] := by
    refine g_loop _ Dn ?_ ?_
    · intro a b
      refine g_iload_n E dX0_moveGranted_4 rfl rfl ?_
      refine g_aload_n E dX0_moveGranted_5 rfl rfl ?_
      refine g_getI E inX0_moveGranted rfl flX0_moveGranted_78 dX0_moveGranted_6 (by decide) rfl rfl ?_
      refine g_icmp_ge_t E dX0_moveGranted_9 (tgt := 105) (by decide) (by omega) (by omega) ?_
      refine g_iload_n E dX0_moveGranted_105 rfl rfl ?_
      exact g_ri rfl hret dX0_moveGranted_106
    · intro k hk ih a b
      have h11 := hs11 k
      have h12 := hs12 k
      have no : ¬ ((0 ≤ f11 k ∧ f11 k < (P : Int)) ∧ (0 ≤ f12 k ∧ f12 k < (P : Int))) → ∀ a b : Option Value, gJ p l e (gR 1) s m args below meth c 0 0 Q A0 D (gX cI cZ q r [(P : Int), (Dn : Int), t, la, wa] [f0, (pMove (P : Int) f11 f12 f13 f1 k), f2, f3, f4, f5, f6, f7, f8, f9, (pPass (P : Int) f11 f12 f13 f10 k), f11, f12, f13]) [some (.ref q), some (.int (iI (pMoved (P : Int) f11 f12 f13 k))), some (.int (iI k)), a, b] 99 [] := by
        intro hn a b
        refine g_iinc E (lv' := [_, _, _, _, _]) dX0_moveGranted_99 rfl rfl ?_
        refine g_goto E dX0_moveGranted_102 (tgt := 4) (by decide) ?_
        exact g_eq (ih a b) (by simp only [pMove, pPass, if_neg hn]) (by simp only [pMoved, if_neg hn]; rfl) rfl
      by_cases h1 : 0 ≤ f11 k ∧ f11 k < (P : Int)
      · by_cases h2 : 0 ≤ f12 k ∧ f12 k < (P : Int)
        · refine g_iload_n E dX0_moveGranted_4 rfl rfl ?_
          refine g_aload_n E dX0_moveGranted_5 rfl rfl ?_
          refine g_getI E inX0_moveGranted rfl flX0_moveGranted_78 dX0_moveGranted_6 (by decide) rfl rfl ?_
          refine g_icmp_ge_f E dX0_moveGranted_9 (tgt := 105) (by decide) (by omega) (by omega) ?_
          refine g_aload_n E dX0_moveGranted_12 rfl rfl ?_
          refine g_getR E inX0_moveGranted rfl flX0_moveGranted_44 dX0_moveGranted_13 (by decide) rfl ?_
          refine g_iload_n E dX0_moveGranted_16 rfl rfl ?_
          refine g_ald E dX0_moveGranted_17 rfl rfl rfl (by omega) ?_
          refine g_istore_n E (lv' := [_, _, _, _, _]) dX0_moveGranted_18 rfl (Nat.le_of_ble_eq_true rfl) rfl ?_
          refine g_aload_n E dX0_moveGranted_19 rfl rfl ?_
          refine g_getR E inX0_moveGranted rfl flX0_moveGranted_47 dX0_moveGranted_20 (by decide) rfl ?_
          refine g_iload_n E dX0_moveGranted_23 rfl rfl ?_
          refine g_ald E dX0_moveGranted_24 rfl rfl rfl (by omega) ?_
          refine g_istore E (lv' := [_, _, _, _, _]) dX0_moveGranted_25 (Nat.le_of_ble_eq_true rfl) rfl ?_
          refine g_aload_n E dX0_moveGranted_27 rfl rfl ?_
          refine g_iload_n E dX0_moveGranted_28 rfl rfl ?_
          refine g_callI0 E (cX_isPlace (rv := 1) (by omega) (Or.inl ⟨rfl, by omega, by omega⟩)) (cwV 1 hts gX0_moveGranted_X0_isPlace rfl rfl rfl hdX0_isPlace ⟨(Nat.le_of_ble_eq_true rfl), (Nat.le_of_ble_eq_true rfl)⟩) rfl rfl rfl (Nat.le_of_ble_eq_true rfl) gW_0 rfl dX0_moveGranted_29 ⟨Nat.zero_le _, Nat.zero_le _⟩ ?_
          refine g_if_eq_f E dX0_moveGranted_32 (tgt := 99) (by decide) (by omega) (by omega) ?_
          refine g_aload_n E dX0_moveGranted_35 rfl rfl ?_
          refine g_iload E dX0_moveGranted_36 rfl ?_
          refine g_callI0 E (cX_isPlace (rv := 1) (by omega) (Or.inl ⟨rfl, by omega, by omega⟩)) (cwV 1 hts gX0_moveGranted_X0_isPlace rfl rfl rfl hdX0_isPlace ⟨(Nat.le_of_ble_eq_true rfl), (Nat.le_of_ble_eq_true rfl)⟩) rfl rfl rfl (Nat.le_of_ble_eq_true rfl) gW_0 rfl dX0_moveGranted_38 ⟨Nat.zero_le _, Nat.zero_le _⟩ ?_
          refine g_if_eq_f E dX0_moveGranted_41 (tgt := 99) (by decide) (by omega) (by omega) ?_
          refine g_aload_n E dX0_moveGranted_44 rfl rfl ?_
          refine g_getR E inX0_moveGranted rfl flX0_moveGranted_13 dX0_moveGranted_45 (by decide) rfl ?_
          refine g_iload_n E dX0_moveGranted_48 rfl rfl ?_
          refine g_dup2 E dX0_moveGranted_49 rfl rfl ?_
          refine g_ald E dX0_moveGranted_50 rfl rfl (i := (f11 k).toNat) (by omega) (by omega) ?_
          refine g_aload_n E dX0_moveGranted_51 rfl rfl ?_
          refine g_getR E inX0_moveGranted rfl flX0_moveGranted_50 dX0_moveGranted_52 (by decide) rfl ?_
          refine g_iload_n E dX0_moveGranted_55 rfl rfl ?_
          refine g_ald E dX0_moveGranted_56 rfl rfl rfl (by omega) ?_
          refine g_isub E dX0_moveGranted_57 ?_
          refine g_ast E (A' := [_, _, _, _, _, _, _, _, _, _, _, _, _, _]) dX0_moveGranted_58 rfl rfl (i := (f11 k).toNat) (by omega) (by omega) rfl ?_
          refine g_aload_n E dX0_moveGranted_59 rfl rfl ?_
          refine g_getR E inX0_moveGranted rfl flX0_moveGranted_13 dX0_moveGranted_60 (by decide) rfl ?_
          refine g_iload E dX0_moveGranted_63 rfl ?_
          refine g_dup2 E dX0_moveGranted_65 rfl rfl ?_
          refine g_ald E dX0_moveGranted_66 rfl rfl (i := (f12 k).toNat) (by omega) (by omega) ?_
          refine g_aload_n E dX0_moveGranted_67 rfl rfl ?_
          refine g_getR E inX0_moveGranted rfl flX0_moveGranted_50 dX0_moveGranted_68 (by decide) rfl ?_
          refine g_iload_n E dX0_moveGranted_71 rfl rfl ?_
          refine g_ald E dX0_moveGranted_72 rfl rfl rfl (by omega) ?_
          refine g_iadd E dX0_moveGranted_73 ?_
          refine g_ast E (A' := [_, _, _, _, _, _, _, _, _, _, _, _, _, _]) dX0_moveGranted_74 rfl rfl (i := (f12 k).toNat) (by omega) (by omega) rfl ?_
          refine g_aload_n E dX0_moveGranted_75 rfl rfl ?_
          refine g_getR E inX0_moveGranted rfl flX0_moveGranted_41 dX0_moveGranted_76 (by decide) rfl ?_
          refine g_iload_n E dX0_moveGranted_79 rfl rfl ?_
          refine g_dup2 E dX0_moveGranted_80 rfl rfl ?_
          refine g_ald E dX0_moveGranted_81 rfl rfl rfl (by omega) ?_
          refine g_aload_n E dX0_moveGranted_82 rfl rfl ?_
          refine g_getR E inX0_moveGranted rfl flX0_moveGranted_50 dX0_moveGranted_83 (by decide) rfl ?_
          refine g_iload_n E dX0_moveGranted_86 rfl rfl ?_
          refine g_ald E dX0_moveGranted_87 rfl rfl rfl (by omega) ?_
          refine g_iadd E dX0_moveGranted_88 ?_
          refine g_ast E (A' := [_, _, _, _, _, _, _, _, _, _, _, _, _, _]) dX0_moveGranted_89 rfl rfl rfl (by omega) rfl ?_
          refine g_iload_n E dX0_moveGranted_90 rfl rfl ?_
          refine g_aload_n E dX0_moveGranted_91 rfl rfl ?_
          refine g_getR E inX0_moveGranted rfl flX0_moveGranted_50 dX0_moveGranted_92 (by decide) rfl ?_
          refine g_iload_n E dX0_moveGranted_95 rfl rfl ?_
          refine g_ald E dX0_moveGranted_96 rfl rfl rfl (by omega) ?_
          refine g_iadd E dX0_moveGranted_97 ?_
          refine g_istore_n E (lv' := [_, _, _, _, _]) dX0_moveGranted_98 rfl (Nat.le_of_ble_eq_true rfl) rfl ?_
          refine g_iinc E (lv' := [_, _, _, _, _]) dX0_moveGranted_99 rfl rfl ?_
          refine g_goto E dX0_moveGranted_102 (tgt := 4) (by decide) ?_
          exact g_eq (ih _ _) (by simp only [pMove, pPass, if_pos (And.intro h1 h2)]) (by simp only [pMoved, if_pos (And.intro h1 h2)]; rfl) rfl
        · refine g_iload_n E dX0_moveGranted_4 rfl rfl ?_
          refine g_aload_n E dX0_moveGranted_5 rfl rfl ?_
          refine g_getI E inX0_moveGranted rfl flX0_moveGranted_78 dX0_moveGranted_6 (by decide) rfl rfl ?_
          refine g_icmp_ge_f E dX0_moveGranted_9 (tgt := 105) (by decide) (by omega) (by omega) ?_
          refine g_aload_n E dX0_moveGranted_12 rfl rfl ?_
          refine g_getR E inX0_moveGranted rfl flX0_moveGranted_44 dX0_moveGranted_13 (by decide) rfl ?_
          refine g_iload_n E dX0_moveGranted_16 rfl rfl ?_
          refine g_ald E dX0_moveGranted_17 rfl rfl rfl (by omega) ?_
          refine g_istore_n E (lv' := [_, _, _, _, _]) dX0_moveGranted_18 rfl (Nat.le_of_ble_eq_true rfl) rfl ?_
          refine g_aload_n E dX0_moveGranted_19 rfl rfl ?_
          refine g_getR E inX0_moveGranted rfl flX0_moveGranted_47 dX0_moveGranted_20 (by decide) rfl ?_
          refine g_iload_n E dX0_moveGranted_23 rfl rfl ?_
          refine g_ald E dX0_moveGranted_24 rfl rfl rfl (by omega) ?_
          refine g_istore E (lv' := [_, _, _, _, _]) dX0_moveGranted_25 (Nat.le_of_ble_eq_true rfl) rfl ?_
          refine g_aload_n E dX0_moveGranted_27 rfl rfl ?_
          refine g_iload_n E dX0_moveGranted_28 rfl rfl ?_
          refine g_callI0 E (cX_isPlace (rv := 1) (by omega) (Or.inl ⟨rfl, by omega, by omega⟩)) (cwV 1 hts gX0_moveGranted_X0_isPlace rfl rfl rfl hdX0_isPlace ⟨(Nat.le_of_ble_eq_true rfl), (Nat.le_of_ble_eq_true rfl)⟩) rfl rfl rfl (Nat.le_of_ble_eq_true rfl) gW_0 rfl dX0_moveGranted_29 ⟨Nat.zero_le _, Nat.zero_le _⟩ ?_
          refine g_if_eq_f E dX0_moveGranted_32 (tgt := 99) (by decide) (by omega) (by omega) ?_
          refine g_aload_n E dX0_moveGranted_35 rfl rfl ?_
          refine g_iload E dX0_moveGranted_36 rfl ?_
          refine g_callI0 E (cX_isPlace (rv := 0) (by omega) (Or.inr ⟨rfl, by omega⟩)) (cwV 1 hts gX0_moveGranted_X0_isPlace rfl rfl rfl hdX0_isPlace ⟨(Nat.le_of_ble_eq_true rfl), (Nat.le_of_ble_eq_true rfl)⟩) rfl rfl rfl (Nat.le_of_ble_eq_true rfl) gW_0 rfl dX0_moveGranted_38 ⟨Nat.zero_le _, Nat.zero_le _⟩ ?_
          refine g_if_eq_t E dX0_moveGranted_41 (tgt := 99) (by decide) (by omega) (by omega) ?_
          exact no (fun h => h2 h.2) _ _
      · refine g_iload_n E dX0_moveGranted_4 rfl rfl ?_
        refine g_aload_n E dX0_moveGranted_5 rfl rfl ?_
        refine g_getI E inX0_moveGranted rfl flX0_moveGranted_78 dX0_moveGranted_6 (by decide) rfl rfl ?_
        refine g_icmp_ge_f E dX0_moveGranted_9 (tgt := 105) (by decide) (by omega) (by omega) ?_
        refine g_aload_n E dX0_moveGranted_12 rfl rfl ?_
        refine g_getR E inX0_moveGranted rfl flX0_moveGranted_44 dX0_moveGranted_13 (by decide) rfl ?_
        refine g_iload_n E dX0_moveGranted_16 rfl rfl ?_
        refine g_ald E dX0_moveGranted_17 rfl rfl rfl (by omega) ?_
        refine g_istore_n E (lv' := [_, _, _, _, _]) dX0_moveGranted_18 rfl (Nat.le_of_ble_eq_true rfl) rfl ?_
        refine g_aload_n E dX0_moveGranted_19 rfl rfl ?_
        refine g_getR E inX0_moveGranted rfl flX0_moveGranted_47 dX0_moveGranted_20 (by decide) rfl ?_
        refine g_iload_n E dX0_moveGranted_23 rfl rfl ?_
        refine g_ald E dX0_moveGranted_24 rfl rfl rfl (by omega) ?_
        refine g_istore E (lv' := [_, _, _, _, _]) dX0_moveGranted_25 (Nat.le_of_ble_eq_true rfl) rfl ?_
        refine g_aload_n E dX0_moveGranted_27 rfl rfl ?_
        refine g_iload_n E dX0_moveGranted_28 rfl rfl ?_
        refine g_callI0 E (cX_isPlace (rv := 0) (by omega) (Or.inr ⟨rfl, by omega⟩)) (cwV 1 hts gX0_moveGranted_X0_isPlace rfl rfl rfl hdX0_isPlace ⟨(Nat.le_of_ble_eq_true rfl), (Nat.le_of_ble_eq_true rfl)⟩) rfl rfl rfl (Nat.le_of_ble_eq_true rfl) gW_0 rfl dX0_moveGranted_29 ⟨Nat.zero_le _, Nat.zero_le _⟩ ?_
        refine g_if_eq_t E dX0_moveGranted_32 (tgt := 99) (by decide) (by omega) (by omega) ?_
        exact no (fun h => h1 h.1) _ _
  refine g_iconst E dX0_moveGranted_0 ?_
  refine g_istore_n E (lv' := [_, _, _, _, _]) dX0_moveGranted_1 rfl (Nat.le_of_ble_eq_true rfl) rfl ?_
  refine g_iconst E dX0_moveGranted_2 ?_
  refine g_istore_n E (lv' := [_, _, _, _, _]) dX0_moveGranted_3 rfl (Nat.le_of_ble_eq_true rfl) rfl ?_
  exact key 0 (by omega) _ _
end
section
set_option maxRecDepth 100000 in
theorem flX0_bound_53 : Cond.fieldLink RX0 53 (TX0 0).1 (TX0 0).2.1 (TX0 0).2.2.1 ∈ wsX0_bound := by decide +kernel
set_option maxRecDepth 100000 in
theorem flX0_passOneStep_105 : Cond.fieldLink RX0 105 (TX0 18).1 (TX0 18).2.1 (TX0 18).2.2.1 ∈ wsX0_passOneStep := by decide +kernel
set_option maxRecDepth 100000 in
theorem flX0_passOneStep_13 : Cond.fieldLink RX0 13 (TX0 2).1 (TX0 2).2.1 (TX0 2).2.2.1 ∈ wsX0_passOneStep := by decide +kernel
set_option maxRecDepth 100000 in
theorem flX0_passOneStep_57 : Cond.fieldLink RX0 57 (TX0 17).1 (TX0 17).2.1 (TX0 17).2.2.1 ∈ wsX0_passOneStep := by decide +kernel
set_option maxRecDepth 100000 in
theorem flX0_passOneStep_99 : Cond.fieldLink RX0 99 (TX0 16).1 (TX0 16).2.1 (TX0 16).2.2.1 ∈ wsX0_passOneStep := by decide +kernel
set_option maxRecDepth 100000 in
theorem flX0_step_13 : Cond.fieldLink RX0 13 (TX0 2).1 (TX0 2).2.1 (TX0 2).2.2.1 ∈ wsX0_step := by decide +kernel
set_option maxRecDepth 100000 in
theorem hdX0_areAllReleased : yX0_areAllReleased.cls = RX0 ∧ yX0_areAllReleased.cls ≠ "java/lang/invoke/MethodHandle" ∧ yX0_areAllReleased.cls ≠ "java/lang/invoke/VarHandle" ∧ (parseMethodDescriptor yX0_areAllReleased.desc).map (fun d => d.parameters.length) = some 0 := by decide +kernel
set_option maxRecDepth 100000 in
theorem hdX0_boundAt : yX0_boundAt.cls = RX0 ∧ yX0_boundAt.cls ≠ "java/lang/invoke/MethodHandle" ∧ yX0_boundAt.cls ≠ "java/lang/invoke/VarHandle" ∧ (parseMethodDescriptor yX0_boundAt.desc).map (fun d => d.parameters.length) = some 1 := by decide +kernel
set_option maxRecDepth 100000 in
theorem hdX0_flowInward : yX0_flowInward.cls = RX0 ∧ yX0_flowInward.cls ≠ "java/lang/invoke/MethodHandle" ∧ yX0_flowInward.cls ≠ "java/lang/invoke/VarHandle" ∧ (parseMethodDescriptor yX0_flowInward.desc).map (fun d => d.parameters.length) = some 1 := by decide +kernel
set_option maxRecDepth 100000 in
theorem hdX0_grantAll : yX0_grantAll.cls = RX0 ∧ yX0_grantAll.cls ≠ "java/lang/invoke/MethodHandle" ∧ yX0_grantAll.cls ≠ "java/lang/invoke/VarHandle" ∧ (parseMethodDescriptor yX0_grantAll.desc).map (fun d => d.parameters.length) = some 0 := by decide +kernel
set_option maxRecDepth 100000 in
theorem hdX0_inside : yX0_inside.cls = RX0 ∧ yX0_inside.cls ≠ "java/lang/invoke/MethodHandle" ∧ yX0_inside.cls ≠ "java/lang/invoke/VarHandle" ∧ (parseMethodDescriptor yX0_inside.desc).map (fun d => d.parameters.length) = some 0 := by decide +kernel
set_option maxRecDepth 100000 in
theorem hdX0_isBetween : yX0_isBetween.cls = RX0 ∧ yX0_isBetween.cls ≠ "java/lang/invoke/MethodHandle" ∧ yX0_isBetween.cls ≠ "java/lang/invoke/VarHandle" ∧ (parseMethodDescriptor yX0_isBetween.desc).map (fun d => d.parameters.length) = some 3 := by decide +kernel
set_option maxRecDepth 100000 in
theorem hdX0_isDoor : yX0_isDoor.cls = RX0 ∧ yX0_isDoor.cls ≠ "java/lang/invoke/MethodHandle" ∧ yX0_isDoor.cls ≠ "java/lang/invoke/VarHandle" ∧ (parseMethodDescriptor yX0_isDoor.desc).map (fun d => d.parameters.length) = some 1 := by decide +kernel
set_option maxRecDepth 100000 in
theorem hdX0_moveGranted : yX0_moveGranted.cls = RX0 ∧ yX0_moveGranted.cls ≠ "java/lang/invoke/MethodHandle" ∧ yX0_moveGranted.cls ≠ "java/lang/invoke/VarHandle" ∧ (parseMethodDescriptor yX0_moveGranted.desc).map (fun d => d.parameters.length) = some 0 := by decide +kernel
set_option maxRecDepth 100000 in
theorem hdX0_passOneStep : yX0_passOneStep.cls = RX0 ∧ yX0_passOneStep.cls ≠ "java/lang/invoke/MethodHandle" ∧ yX0_passOneStep.cls ≠ "java/lang/invoke/VarHandle" ∧ (parseMethodDescriptor yX0_passOneStep.desc).map (fun d => d.parameters.length) = some 0 := by decide +kernel
set_option maxRecDepth 100000 in
theorem hdX0_peopleFrom : yX0_peopleFrom.cls = RX0 ∧ yX0_peopleFrom.cls ≠ "java/lang/invoke/MethodHandle" ∧ yX0_peopleFrom.cls ≠ "java/lang/invoke/VarHandle" ∧ (parseMethodDescriptor yX0_peopleFrom.desc).map (fun d => d.parameters.length) = some 1 := by decide +kernel
set_option maxRecDepth 100000 in
theorem hdX0_requireArgument : yX0_requireArgument.cls = RX0 ∧ yX0_requireArgument.cls ≠ "java/lang/invoke/MethodHandle" ∧ yX0_requireArgument.cls ≠ "java/lang/invoke/VarHandle" ∧ (parseMethodDescriptor yX0_requireArgument.desc).map (fun d => d.parameters.length) = some 1 := by decide +kernel
set_option maxRecDepth 100000 in
theorem hdX0_requireState : yX0_requireState.cls = RX0 ∧ yX0_requireState.cls ≠ "java/lang/invoke/MethodHandle" ∧ yX0_requireState.cls ≠ "java/lang/invoke/VarHandle" ∧ (parseMethodDescriptor yX0_requireState.desc).map (fun d => d.parameters.length) = some 1 := by decide +kernel
set_option maxRecDepth 100000 in
theorem hdX0_trapped : yX0_trapped.cls = RX0 ∧ yX0_trapped.cls ≠ "java/lang/invoke/MethodHandle" ∧ yX0_trapped.cls ≠ "java/lang/invoke/VarHandle" ∧ (parseMethodDescriptor yX0_trapped.desc).map (fun d => d.parameters.length) = some 0 := by decide +kernel
set_option maxRecDepth 100000 in
theorem inX0_bound : ∀ w ∈ u_ws RX0 TX0 19, w ∈ wsX0_bound := by decide +kernel
set_option maxRecDepth 100000 in
theorem inX0_passOneStep : ∀ w ∈ u_ws RX0 TX0 19, w ∈ wsX0_passOneStep := by decide +kernel
set_option maxRecDepth 100000 in
theorem inX0_step : ∀ w ∈ u_ws RX0 TX0 19, w ∈ wsX0_step := by decide +kernel
set_option maxRecDepth 100000 in
theorem mwX0_bound_max1 : Cond.methodLink RX0 121 Lib.Math.max.name ∈ wsX0_bound := by decide +kernel
set_option maxRecDepth 100000 in
theorem mwX0_bound_max2 : Cond.static Lib.Math.max.name ∈ wsX0_bound := by decide +kernel
set_option maxRecDepth 100000 in
theorem mwX0_bound_max3 : Cond.initialized "java/lang/Math" ∈ wsX0_bound := by decide +kernel
set_option maxRecDepth 100000 in
theorem mwX0_bound_max4 : Cond.code Lib.Math.max.name Lib.Math.max.code 2 (some .int) ∈ wsX0_bound := by decide +kernel
set_option maxHeartbeats 4000000 in
set_option maxRecDepth 100000 in
theorem cX_requirePlace {l : Launch} {D : va_G} {cI cZ : ClassId} {q : Nat} {r : Nat → Nat} {P Dn : Nat} {t la wa : Int} {f0 f1 f2 f3 f4 f5 f6 f7 f8 f9 f10 f11 f12 f13 : Nat → Int} {x : Int} (hx : 0 ≤ x ∧ x < P) (hn : P ≤ 16) : gMV l yX0_requirePlace wsX0_requirePlace 1 D (gTy cI cZ) (gX cI cZ q r [(P : Int), (Dn : Int), t, la, wa] [f0, f1, f2, f3, f4, f5, f6, f7, f8, f9, f10, f11, f12, f13]) [.ref q, .int (iI x)] (gX cI cZ q r [(P : Int), (Dn : Int), t, la, wa] [f0, f1, f2, f3, f4, f5, f6, f7, f8, f9, f10, f11, f12, f13]) := by
  refine g_ofV (by decide +kernel) rfl rfl (Nat.le_of_ble_eq_true rfl) (g_cat1 rfl) ?_
  intro p e s m args below meth c Q A0 E hret
  have hts := E.1.2.2.2.2
  show gJ p l e (gR 1) s m args below meth c 0 0 Q A0 D (gX cI cZ q r [(P : Int), (Dn : Int), t, la, wa] [f0, f1, f2, f3, f4, f5, f6, f7, f8, f9, f10, f11, f12, f13]) [some (.ref q), some (.int (iI x))] 0 []
  refine g_aload_n E dX0_requirePlace_0 rfl rfl ?_
  refine g_iload_n E dX0_requirePlace_1 rfl rfl ?_
  refine g_callI0 E (cX_isPlace (rv := 1) (by omega) (Or.inl ⟨rfl, by omega, by omega⟩)) (cwV 1 hts gX0_requirePlace_X0_isPlace rfl rfl rfl hdX0_isPlace ⟨(Nat.le_of_ble_eq_true rfl), (Nat.le_of_ble_eq_true rfl)⟩) rfl rfl rfl (Nat.le_of_ble_eq_true rfl) gW_0 rfl dX0_requirePlace_2 ⟨Nat.zero_le _, Nat.zero_le _⟩ ?_
  refine g_if_ne_t E dX0_requirePlace_5 (tgt := 18) (by decide) (by omega) (by omega) ?_
  exact hret _ _ dX0_requirePlace_18
set_option maxHeartbeats 4000000 in
set_option maxRecDepth 100000 in
theorem cX_requireDoor {l : Launch} {D : va_G} {cI cZ : ClassId} {q : Nat} {r : Nat → Nat} {P Dn : Nat} {t la wa : Int} {f0 f1 f2 f3 f4 f5 f6 f7 f8 f9 f10 f11 f12 f13 : Nat → Int} {x : Int} (hx : 0 ≤ x ∧ x < Dn) (hn : Dn ≤ 16) : gMV l yX0_requireDoor wsX0_requireDoor 1 D (gTy cI cZ) (gX cI cZ q r [(P : Int), (Dn : Int), t, la, wa] [f0, f1, f2, f3, f4, f5, f6, f7, f8, f9, f10, f11, f12, f13]) [.ref q, .int (iI x)] (gX cI cZ q r [(P : Int), (Dn : Int), t, la, wa] [f0, f1, f2, f3, f4, f5, f6, f7, f8, f9, f10, f11, f12, f13]) := by
  refine g_ofV (by decide +kernel) rfl rfl (Nat.le_of_ble_eq_true rfl) (g_cat1 rfl) ?_
  intro p e s m args below meth c Q A0 E hret
  have hts := E.1.2.2.2.2
  show gJ p l e (gR 1) s m args below meth c 0 0 Q A0 D (gX cI cZ q r [(P : Int), (Dn : Int), t, la, wa] [f0, f1, f2, f3, f4, f5, f6, f7, f8, f9, f10, f11, f12, f13]) [some (.ref q), some (.int (iI x))] 0 []
  refine g_aload_n E dX0_requireDoor_0 rfl rfl ?_
  refine g_iload_n E dX0_requireDoor_1 rfl rfl ?_
  refine g_callI0 E (cX_isDoor (rv := 1) (by omega) (Or.inl ⟨rfl, by omega, by omega⟩)) (cwV 1 hts gX0_requireDoor_X0_isDoor rfl rfl rfl hdX0_isDoor ⟨(Nat.le_of_ble_eq_true rfl), (Nat.le_of_ble_eq_true rfl)⟩) rfl rfl rfl (Nat.le_of_ble_eq_true rfl) gW_0 rfl dX0_requireDoor_2 ⟨Nat.zero_le _, Nat.zero_le _⟩ ?_
  refine g_if_ne_t E dX0_requireDoor_5 (tgt := 18) (by decide) (by omega) (by omega) ?_
  exact hret _ _ dX0_requireDoor_18
set_option maxHeartbeats 4000000 in
set_option maxRecDepth 100000 in
theorem cX_requireArgument {l : Launch} {D : va_G} {cI cZ : ClassId} {x : Int} (hx : x = 1) : gMV l yX0_requireArgument wsX0_requireArgument 0 D (gTy cI cZ) [] [.int (iI x)] [] := by
  refine g_ofV (by decide +kernel) rfl rfl (Nat.le_of_ble_eq_true rfl) (g_cat1 rfl) ?_
  intro p e s m args below meth c Q A0 E hret
  have hts := E.1.2.2.2.2
  show gJ p l e (gR 0) s m args below meth c 0 0 Q A0 D [] [some (.int (iI x))] 0 []
  subst hx
  refine g_iload_n E dX0_requireArgument_0 rfl rfl ?_
  refine g_if_ne_t E dX0_requireArgument_1 (tgt := 14) (by decide) (by omega) (by omega) ?_
  exact hret _ _ dX0_requireArgument_14
set_option maxHeartbeats 4000000 in
set_option maxRecDepth 100000 in
theorem cX_requireState {l : Launch} {D : va_G} {cI cZ : ClassId} {x : Int} (hx : x = 1) : gMV l yX0_requireState wsX0_requireState 0 D (gTy cI cZ) [] [.int (iI x)] [] := by
  refine g_ofV (by decide +kernel) rfl rfl (Nat.le_of_ble_eq_true rfl) (g_cat1 rfl) ?_
  intro p e s m args below meth c Q A0 E hret
  have hts := E.1.2.2.2.2
  show gJ p l e (gR 0) s m args below meth c 0 0 Q A0 D [] [some (.int (iI x))] 0 []
  subst hx
  refine g_iload_n E dX0_requireState_0 rfl rfl ?_
  refine g_if_ne_t E dX0_requireState_1 (tgt := 14) (by decide) (by omega) (by omega) ?_
  exact hret _ _ dX0_requireState_14
set_option maxHeartbeats 4000000 in
set_option maxRecDepth 100000 in
theorem cX_requireElement {l : Launch} {D : va_G} {cI cZ : ClassId} {x : Int} (hx : x = 1) : gMV l yX0_requireElement wsX0_requireElement 0 D (gTy cI cZ) [] [.int (iI x)] [] := by
  refine g_ofV (by decide +kernel) rfl rfl (Nat.le_of_ble_eq_true rfl) (g_cat1 rfl) ?_
  intro p e s m args below meth c Q A0 E hret
  have hts := E.1.2.2.2.2
  show gJ p l e (gR 0) s m args below meth c 0 0 Q A0 D [] [some (.int (iI x))] 0 []
  subst hx
  refine g_iload_n E dX0_requireElement_0 rfl rfl ?_
  refine g_if_ne_t E dX0_requireElement_1 (tgt := 14) (by decide) (by omega) (by omega) ?_
  exact hret _ _ dX0_requireElement_14
set_option maxHeartbeats 4000000 in
set_option maxRecDepth 100000 in
theorem cX_boundAt {l : Launch} {D : va_G} {cI cZ : ClassId} {q : Nat} {r : Nat → Nat} {P Dn : Nat} {t la wa : Int} {f0 f1 f2 f3 f4 f5 f6 f7 f8 f9 f10 f11 f12 f13 : Nat → Int} {d : Int} (hP : 1 ≤ P ∧ P ≤ 11) (hDn : Dn ≤ 16) (hd : 1 ≤ d ∧ d ≤ 11) (hs3 : ∀ j : Nat, -2147483648 ≤ f3 j ∧ f3 j < 2147483648) (hs9 : ∀ j : Nat, -2147483648 ≤ f9 j ∧ f9 j < 2147483648) (he5 : ∀ j : Nat, j < Dn → 0 ≤ f5 j ∧ f5 j < P) (he6 : ∀ j : Nat, j < Dn → 0 ≤ f6 j ∧ f6 j < P) (hcr : (0 ≤ (pCrowd f3 f1 d P) ∧ (pCrowd f3 f1 d P) ≤ 10000) ∧ 0 ≤ (pFlow f3 f5 f6 f9 f7 d Dn) ∧ (pFlow f3 f5 f6 f9 f7 d Dn) ≤ 1000) : gMI l yX0_boundAt wsX0_boundAt 1 D (gTy cI cZ) (gX cI cZ q r [(P : Int), (Dn : Int), t, la, wa] [f0, f1, f2, f3, f4, f5, f6, f7, f8, f9, f10, f11, f12, f13]) [.ref q, .int (iI d)] (pBd (pCrowd f3 f1 d P) (pFlow f3 f5 f6 f9 f7 d Dn) d) (gX cI cZ q r [(P : Int), (Dn : Int), t, la, wa] [f0, f1, f2, f3, f4, f5, f6, f7, f8, f9, f10, f11, f12, f13]) := by
  refine g_ofI (by decide +kernel) rfl rfl (Nat.le_of_ble_eq_true rfl) (g_cat1 rfl) rfl ?_
  intro p e s m args below meth c Q A0 E hret
  have hts := E.1.2.2.2.2
  show gJ p l e (gR 1) s m args below meth c 0 0 Q A0 D (gX cI cZ q r [(P : Int), (Dn : Int), t, la, wa] [f0, f1, f2, f3, f4, f5, f6, f7, f8, f9, f10, f11, f12, f13]) [some (.ref q), some (.int (iI d)), none, none] 0 []
  refine g_aload_n E dX0_boundAt_0 rfl rfl ?_
  refine g_iload_n E dX0_boundAt_1 rfl rfl ?_
  refine g_callI0 E (cX_peopleFrom hP (by omega) hs3) (cwV 1 hts gX0_boundAt_X0_peopleFrom rfl rfl rfl hdX0_peopleFrom ⟨(Nat.le_of_ble_eq_true rfl), (Nat.le_of_ble_eq_true rfl)⟩) rfl rfl rfl (Nat.le_of_ble_eq_true rfl) gW_0 rfl dX0_boundAt_2 ⟨Nat.zero_le _, Nat.zero_le _⟩ ?_
  refine g_istore_n E (lv' := [_, _, _, _]) dX0_boundAt_5 rfl (Nat.le_of_ble_eq_true rfl) rfl ?_
  refine g_aload_n E dX0_boundAt_6 rfl rfl ?_
  refine g_iload_n E dX0_boundAt_7 rfl rfl ?_
  refine g_callI0 E (cX_flowInward hP hDn (by omega) hs3 hs9 he5 he6) (cwV 1 hts gX0_boundAt_X0_flowInward rfl rfl rfl hdX0_flowInward ⟨(Nat.le_of_ble_eq_true rfl), (Nat.le_of_ble_eq_true rfl)⟩) rfl rfl rfl (Nat.le_of_ble_eq_true rfl) gW_0 rfl dX0_boundAt_8 ⟨Nat.zero_le _, Nat.zero_le _⟩ ?_
  refine g_istore_n E (lv' := [_, _, _, _]) dX0_boundAt_11 rfl (Nat.le_of_ble_eq_true rfl) rfl ?_
  refine g_iload_n E dX0_boundAt_12 rfl rfl ?_
  refine g_if_eq E dX0_boundAt_13 (tgt := 20) (by decide) (by omega) (fun h1 => ?_) (fun h1 => ?_)
  · refine g_iconst E dX0_boundAt_20 ?_
    exact g_ri (if_pos (Or.inl h1)).symm hret dX0_boundAt_21
  · refine g_iload_n E dX0_boundAt_16 rfl rfl ?_
    refine g_if_ne E dX0_boundAt_17 (tgt := 22) (by decide) (by omega) (fun h2 => ?_) (fun h2 => ?_)
    · refine g_iload_n E dX0_boundAt_22 rfl rfl ?_
      refine g_iconst E dX0_boundAt_23 ?_
      refine g_isub E dX0_boundAt_24 ?_
      refine g_iload_n E dX0_boundAt_25 rfl rfl ?_
      refine g_iload_n E dX0_boundAt_26 rfl rfl ?_
      refine g_iadd E dX0_boundAt_27 ?_
      refine g_iconst E dX0_boundAt_28 ?_
      refine g_isub E dX0_boundAt_29 ?_
      refine g_iload_n E dX0_boundAt_30 rfl rfl ?_
      refine g_idiv E dX0_boundAt_31 (by omega) ?_
      refine g_iadd E dX0_boundAt_32 ?_
      exact g_ri (by unfold pBd; exact (if_neg (by omega)).symm) hret dX0_boundAt_33
    · refine g_iconst E dX0_boundAt_20 ?_
      exact g_ri (if_pos (Or.inr h2)).symm hret dX0_boundAt_21
set_option maxHeartbeats 4000000 in
set_option maxRecDepth 100000 in
theorem cX_bound {l : Launch} {D : va_G} {cI cZ : ClassId} {q : Nat} {r : Nat → Nat} {P Dn : Nat} {t la wa : Int} {f0 f1 f2 f3 f4 f5 f6 f7 f8 f9 f10 f11 f12 f13 : Nat → Int} (hP : 1 ≤ P ∧ P ≤ 11) (hDn : Dn ≤ 16) (hs3 : ∀ j : Nat, -2147483648 ≤ f3 j ∧ f3 j < 2147483648) (hs9 : ∀ j : Nat, -2147483648 ≤ f9 j ∧ f9 j < 2147483648) (he5 : ∀ j : Nat, j < Dn → 0 ≤ f5 j ∧ f5 j < P) (he6 : ∀ j : Nat, j < Dn → 0 ≤ f6 j ∧ f6 j < P) (hcf : ∀ d : Nat, 1 ≤ d → d < P → (0 ≤ pCrowd f3 f1 (d : Int) P ∧ pCrowd f3 f1 (d : Int) P ≤ 10000) ∧ 0 ≤ pFlow f3 f5 f6 f9 f7 (d : Int) Dn ∧ pFlow f3 f5 f6 f9 f7 (d : Int) Dn ≤ 1000) (htr : pSum (fun j => if f3 j = -1 then f1 j else 0) P = 0) : gMI l yX0_bound wsX0_bound 6 D (gTy cI cZ) (gX cI cZ q r [(P : Int), (Dn : Int), t, la, wa] [f0, f1, f2, f3, f4, f5, f6, f7, f8, f9, f10, f11, f12, f13]) [.ref q] (pBound f3 f5 f6 f9 f7 f1 P Dn P) (gX cI cZ q r [(P : Int), (Dn : Int), t, la, wa] [f0, f1, f2, f3, f4, f5, f6, f7, f8, f9, f10, f11, f12, f13]) := by
  refine g_ofI (by decide +kernel) rfl rfl (Nat.le_of_ble_eq_true rfl) (g_cat1 rfl) rfl ?_
  intro p e s m args below meth c Q A0 E hret
  have hts := E.1.2.2.2.2
  show gJ p l e (gR 6) s m args below meth c 0 0 Q A0 D (gX cI cZ q r [(P : Int), (Dn : Int), t, la, wa] [f0, f1, f2, f3, f4, f5, f6, f7, f8, f9, f10, f11, f12, f13]) [some (.ref q), none, none] 0 []
  have hB := pBound_b hcf hP.2
  have key : ∀ k : Nat, k ≤ P → (1 ≤ k → gJ p l e (gR 6) s m args below meth c 0 0 Q A0 D (gX cI cZ q r [(P : Int), (Dn : Int), t, la, wa] [f0, f1, f2, f3, f4, f5, f6, f7, f8, f9, f10, f11, f12, f13]) [some (.ref q), some (.int (iI (pBound f3 f5 f6 f9 f7 f1 P Dn k))), some (.int (iI k))] 19 []) := by
    refine g_loop _ P ?_ ?_
    · intro _
      refine g_iload_n E dX0_bound_19 rfl rfl ?_
      refine g_aload_n E dX0_bound_20 rfl rfl ?_
      refine g_getI E inX0_bound rfl flX0_bound_53 dX0_bound_21 (by decide) rfl rfl ?_
      refine g_icmp_ge_t E dX0_bound_24 (tgt := 43) (by decide) (by omega) (by omega) ?_
      refine g_iload_n E dX0_bound_43 rfl rfl ?_
      exact g_ri rfl hret dX0_bound_44
    · intro k hk ih h1
      have b1 := hB k (by omega)
      have b2 := pBd_b (hcf k h1 hk).1 (hcf k h1 hk).2 (d := (k : Int)) (by omega)
      refine g_iload_n E dX0_bound_19 rfl rfl ?_
      refine g_aload_n E dX0_bound_20 rfl rfl ?_
      refine g_getI E inX0_bound rfl flX0_bound_53 dX0_bound_21 (by decide) rfl rfl ?_
      refine g_icmp_ge_f E dX0_bound_24 (tgt := 43) (by decide) (by omega) (by omega) ?_
      refine g_iload_n E dX0_bound_27 rfl rfl ?_
      refine g_aload_n E dX0_bound_28 rfl rfl ?_
      refine g_iload_n E dX0_bound_29 rfl rfl ?_
      refine g_callI0 E (cX_boundAt hP hDn (by omega) hs3 hs9 he5 he6 (hcf k h1 hk)) (cwV 1 hts gX0_bound_X0_boundAt rfl rfl rfl hdX0_boundAt ⟨(Nat.le_of_ble_eq_true rfl), (Nat.le_of_ble_eq_true rfl)⟩) rfl rfl rfl (Nat.le_of_ble_eq_true rfl) gW_0 rfl dX0_bound_30 ⟨Nat.zero_le _, Nat.zero_le _⟩ ?_
      refine g_mmax E mwX0_bound_max1 mwX0_bound_max2 mwX0_bound_max3 mwX0_bound_max4 dX0_bound_33 rfl ⟨(Nat.le_of_ble_eq_true rfl), (Nat.le_of_ble_eq_true rfl), Nat.zero_le _, Nat.zero_le _⟩ (by omega) rfl ?_
      refine g_istore_n E (lv' := [_, _, _]) dX0_bound_36 rfl (Nat.le_of_ble_eq_true rfl) rfl ?_
      refine g_iinc E (lv' := [_, _, _]) dX0_bound_37 rfl rfl ?_
      refine g_goto E dX0_bound_40 (tgt := 19) (by decide) ?_
      exact g_eq (ih (by omega)) rfl (by rw [pBound_s h1]; rfl) rfl
  refine g_aload_n E dX0_bound_0 rfl rfl ?_
  refine g_callI0 E (cX_trapped hP hs3) (cwV 0 hts gX0_bound_X0_trapped rfl rfl rfl hdX0_trapped ⟨(Nat.le_of_ble_eq_true rfl), (Nat.le_of_ble_eq_true rfl)⟩) rfl rfl rfl (Nat.le_of_ble_eq_true rfl) gW_0 rfl dX0_bound_1 ⟨Nat.zero_le _, Nat.zero_le _⟩ ?_
  refine g_if_ne_f E dX0_bound_4 (tgt := 11) (by decide) (by omega) (by omega) ?_
  refine g_iconst E dX0_bound_7 ?_
  refine g_goto E dX0_bound_8 (tgt := 12) (by decide) ?_
  refine g_callSV E (cX_requireState rfl) (va_cwS 1 hts gX0_bound_X0_requireState rfl rfl rfl hdX0_requireState.2 ⟨(Nat.le_of_ble_eq_true rfl), (Nat.le_of_ble_eq_true rfl)⟩) rfl rfl rfl (Nat.le_of_ble_eq_true rfl) dX0_bound_12 ⟨Nat.zero_le _, Nat.zero_le _⟩ ?_
  refine g_iconst E dX0_bound_15 ?_
  refine g_istore_n E (lv' := [_, _, _]) dX0_bound_16 rfl (Nat.le_of_ble_eq_true rfl) rfl ?_
  refine g_iconst E dX0_bound_17 ?_
  refine g_istore_n E (lv' := [_, _, _]) dX0_bound_18 rfl (Nat.le_of_ble_eq_true rfl) rfl ?_
  exact key 1 (by omega) (by omega)
set_option maxHeartbeats 4000000 in
set_option maxRecDepth 100000 in
theorem cX_passOneStep {l : Launch} {D : va_G} {cI cZ : ClassId} {q : Nat} {r : Nat → Nat} {P Dn : Nat} {t la wa : Int} {f0 f1 f2 f3 f4 f5 f6 f7 f8 f9 f10 f11 f12 f13 : Nat → Int} (hP : 1 ≤ P ∧ P ≤ 11) (hDn : Dn ≤ 16) (ht : -2147483648 ≤ t ∧ t < 2147483647) (hs2 : ∀ j : Nat, -2147483648 ≤ f2 j ∧ f2 j < 2147483648) (hs11 : ∀ j : Nat, -2147483648 ≤ f11 j ∧ f11 j < 2147483648) (hs12 : ∀ j : Nat, -2147483648 ≤ f12 j ∧ f12 j < 2147483648) (hpe : ∀ j : Nat, 1 ≤ j → j < P → 0 ≤ f1 j ∧ f1 j ≤ f0 j ∧ f0 j ≤ 30) (hp0 : 0 ≤ f1 0 ∧ f1 0 < 1073741824) (hfs : ∀ j : Nat, j < Dn → (1 ≤ f7 j ∧ f7 j ≤ 9) ∧ 1 ≤ f8 j ∧ f8 j ≤ 5) (hmv : -2147483648 ≤ (pMove (P : Int) f11 f12 (xG P Dn t f0 f1 f2 f7 f8 f11 f12 f13) f1 Dn) 0 ∧ (pMove (P : Int) f11 f12 (xG P Dn t f0 f1 f2 f7 f8 f11 f12 f13) f1 Dn) 0 < 2147483648) : gMI l yX0_passOneStep wsX0_passOneStep 5 D (gTy cI cZ) (gX cI cZ q r [(P : Int), (Dn : Int), t, la, wa] [f0, f1, f2, f3, f4, f5, f6, f7, f8, f9, f10, f11, f12, f13]) [.ref q] (pMoved (P : Int) f11 f12 (xG P Dn t f0 f1 f2 f7 f8 f11 f12 f13) Dn) (gX cI cZ q r [(P : Int), (Dn : Int), (t + 1), (if f1 0 < (pMove (P : Int) f11 f12 (xG P Dn t f0 f1 f2 f7 f8 f11 f12 f13) f1 Dn) 0 then t + 1 else la), (wa + pSum (pMove (P : Int) f11 f12 (xG P Dn t f0 f1 f2 f7 f8 f11 f12 f13) f1 Dn) P)] [f0, (pMove (P : Int) f11 f12 (xG P Dn t f0 f1 f2 f7 f8 f11 f12 f13) f1 Dn), f2, f3, f4, f5, f6, f7, f8, f9, (pPass (P : Int) f11 f12 (xG P Dn t f0 f1 f2 f7 f8 f11 f12 f13) f10 Dn), f11, f12, (xG P Dn t f0 f1 f2 f7 f8 f11 f12 f13)]) := by
  refine g_ofI (by decide +kernel) rfl rfl (Nat.le_of_ble_eq_true rfl) (g_cat1 rfl) rfl ?_
  intro p e s m args below meth c Q A0 E hret
  have hts := E.1.2.2.2.2
  show gJ p l e (gR 5) s m args below meth c 0 0 Q A0 D (gX cI cZ q r [(P : Int), (Dn : Int), t, la, wa] [f0, f1, f2, f3, f4, f5, f6, f7, f8, f9, f10, f11, f12, f13]) [some (.ref q), none, none] 0 []
  refine g_aload_n E dX0_passOneStep_0 rfl rfl ?_
  refine g_callV0 E (cX_grantAll hP hDn ht hs2 hs11 hs12 hpe hp0 hfs) (cwV 0 hts gX0_passOneStep_X0_grantAll rfl rfl rfl hdX0_grantAll ⟨(Nat.le_of_ble_eq_true rfl), (Nat.le_of_ble_eq_true rfl)⟩) rfl rfl rfl (Nat.le_of_ble_eq_true rfl) gW_0 rfl dX0_passOneStep_1 ⟨Nat.zero_le _, Nat.zero_le _⟩ ?_
  refine g_aload_n E dX0_passOneStep_4 rfl rfl ?_
  refine g_getR E inX0_passOneStep rfl flX0_passOneStep_13 dX0_passOneStep_5 (by decide) rfl ?_
  refine g_iconst E dX0_passOneStep_8 ?_
  refine g_ald E dX0_passOneStep_9 rfl rfl (i := 0) rfl (by omega) ?_
  refine g_istore_n E (lv' := [_, _, _]) dX0_passOneStep_10 rfl (Nat.le_of_ble_eq_true rfl) rfl ?_
  refine g_aload_n E dX0_passOneStep_11 rfl rfl ?_
  refine g_callI0 E (cX_moveGranted hP hDn hs11 hs12) (cwV 0 hts gX0_passOneStep_X0_moveGranted rfl rfl rfl hdX0_moveGranted ⟨(Nat.le_of_ble_eq_true rfl), (Nat.le_of_ble_eq_true rfl)⟩) rfl rfl rfl (Nat.le_of_ble_eq_true rfl) gW_0 rfl dX0_passOneStep_12 ⟨Nat.zero_le _, Nat.zero_le _⟩ ?_
  refine g_istore_n E (lv' := [_, _, _]) dX0_passOneStep_15 rfl (Nat.le_of_ble_eq_true rfl) rfl ?_
  refine g_aload_n E dX0_passOneStep_16 rfl rfl ?_
  refine g_dup E dX0_passOneStep_17 rfl ?_
  refine g_getI E inX0_passOneStep rfl flX0_passOneStep_99 dX0_passOneStep_18 (by decide) rfl rfl ?_
  refine g_iconst E dX0_passOneStep_21 ?_
  refine g_iadd E dX0_passOneStep_22 ?_
  refine g_putI E (F' := [_, _, _, _, _]) inX0_passOneStep rfl flX0_passOneStep_99 dX0_passOneStep_23 tyX0_ok nmX0 (by decide) rfl (by decide) rfl (by decide +kernel) (Nat.le_of_ble_eq_true rfl) rfl ?_
  refine g_aload_n E dX0_passOneStep_26 rfl rfl ?_
  refine g_getR E inX0_passOneStep rfl flX0_passOneStep_13 dX0_passOneStep_27 (by decide) rfl ?_
  refine g_iconst E dX0_passOneStep_30 ?_
  refine g_ald E dX0_passOneStep_31 rfl rfl (i := 0) rfl (by omega) ?_
  refine g_iload_n E dX0_passOneStep_32 rfl rfl ?_
  refine g_icmp_le E dX0_passOneStep_33 (tgt := 44) (by decide) ⟨hmv, by omega⟩ (fun h => ?_) (fun h => ?_)
  · rw [if_neg (show ¬ f1 0 < (pMove (P : Int) f11 f12 (xG P Dn t f0 f1 f2 f7 f8 f11 f12 f13) f1 Dn) 0 from fun h2 => absurd h (Int.not_le.mpr h2))] at hret
    refine g_aload_n E dX0_passOneStep_44 rfl rfl ?_
    refine g_dup E dX0_passOneStep_45 rfl ?_
    refine g_getI E inX0_passOneStep rfl flX0_passOneStep_105 dX0_passOneStep_46 (by decide) rfl rfl ?_
    refine g_aload_n E dX0_passOneStep_49 rfl rfl ?_
    refine g_callI0 E (cX_inside hP) (cwV 0 hts gX0_passOneStep_X0_inside rfl rfl rfl hdX0_inside ⟨(Nat.le_of_ble_eq_true rfl), (Nat.le_of_ble_eq_true rfl)⟩) rfl rfl rfl (Nat.le_of_ble_eq_true rfl) gW_0 rfl dX0_passOneStep_50 ⟨Nat.zero_le _, Nat.zero_le _⟩ ?_
    refine g_iadd E dX0_passOneStep_53 ?_
    refine g_putI E (F' := [_, _, _, _, _]) inX0_passOneStep rfl flX0_passOneStep_105 dX0_passOneStep_54 tyX0_ok nmX0 (by decide) rfl (by decide) rfl (by decide +kernel) (Nat.le_of_ble_eq_true rfl) rfl ?_
    refine g_iload_n E dX0_passOneStep_57 rfl rfl ?_
    exact g_ri rfl hret dX0_passOneStep_58
  · rw [if_pos (show f1 0 < (pMove (P : Int) f11 f12 (xG P Dn t f0 f1 f2 f7 f8 f11 f12 f13) f1 Dn) 0 from Int.not_le.mp h)] at hret
    refine g_aload_n E dX0_passOneStep_36 rfl rfl ?_
    refine g_aload_n E dX0_passOneStep_37 rfl rfl ?_
    refine g_getI E inX0_passOneStep rfl flX0_passOneStep_99 dX0_passOneStep_38 (by decide) rfl rfl ?_
    refine g_putI E (F' := [_, _, _, _, _]) inX0_passOneStep rfl flX0_passOneStep_57 dX0_passOneStep_41 tyX0_ok nmX0 (by decide) rfl (by decide) rfl (by decide +kernel) (Nat.le_of_ble_eq_true rfl) rfl ?_
    refine g_aload_n E dX0_passOneStep_44 rfl rfl ?_
    refine g_dup E dX0_passOneStep_45 rfl ?_
    refine g_getI E inX0_passOneStep rfl flX0_passOneStep_105 dX0_passOneStep_46 (by decide) rfl rfl ?_
    refine g_aload_n E dX0_passOneStep_49 rfl rfl ?_
    refine g_callI0 E (cX_inside hP) (cwV 0 hts gX0_passOneStep_X0_inside rfl rfl rfl hdX0_inside ⟨(Nat.le_of_ble_eq_true rfl), (Nat.le_of_ble_eq_true rfl)⟩) rfl rfl rfl (Nat.le_of_ble_eq_true rfl) gW_0 rfl dX0_passOneStep_50 ⟨Nat.zero_le _, Nat.zero_le _⟩ ?_
    refine g_iadd E dX0_passOneStep_53 ?_
    refine g_putI E (F' := [_, _, _, _, _]) inX0_passOneStep rfl flX0_passOneStep_105 dX0_passOneStep_54 tyX0_ok nmX0 (by decide) rfl (by decide) rfl (by decide +kernel) (Nat.le_of_ble_eq_true rfl) rfl ?_
    refine g_iload_n E dX0_passOneStep_57 rfl rfl ?_
    exact g_ri rfl hret dX0_passOneStep_58
set_option maxHeartbeats 4000000 in
set_option maxRecDepth 100000 in
theorem cX_step {l : Launch} {D : va_G} {cI cZ : ClassId} {q : Nat} {r : Nat → Nat} {P Dn : Nat} {t la wa : Int} {f0 f1 f2 f3 f4 f5 f6 f7 f8 f9 f10 f11 f12 f13 : Nat → Int} {n : Nat} (hn : 1 ≤ n ∧ n ≤ 50) (hP : 1 ≤ P ∧ P ≤ 11) (hDn : Dn ≤ 16) (hs2 : ∀ j : Nat, -2147483648 ≤ f2 j ∧ f2 j < 2147483648) (hs11 : ∀ j : Nat, -2147483648 ≤ f11 j ∧ f11 j < 2147483648) (hs12 : ∀ j : Nat, -2147483648 ≤ f12 j ∧ f12 j < 2147483648) (hfs : ∀ j : Nat, j < Dn → (1 ≤ f7 j ∧ f7 j ≤ 9) ∧ 1 ≤ f8 j ∧ f8 j ≤ 5) (hok : ∀ k, k < n → xOk P Dn f0 f2 f7 f8 f11 f12 (xIt P Dn f0 f2 f7 f8 f11 f12 (f1, f10, f13, t, la, wa) k)) : gMI l yX0_step wsX0_step 6 D (gTy cI cZ) (gX cI cZ q r [(P : Int), (Dn : Int), t, la, wa] [f0, f1, f2, f3, f4, f5, f6, f7, f8, f9, f10, f11, f12, f13]) [.ref q, .int (iI (n : Int))] ((xIt P Dn f0 f2 f7 f8 f11 f12 (f1, f10, f13, t, la, wa) n).1 0 - f1 0) (gX cI cZ q r [(P : Int), (Dn : Int), (xIt P Dn f0 f2 f7 f8 f11 f12 (f1, f10, f13, t, la, wa) n).2.2.2.1, (xIt P Dn f0 f2 f7 f8 f11 f12 (f1, f10, f13, t, la, wa) n).2.2.2.2.1, (xIt P Dn f0 f2 f7 f8 f11 f12 (f1, f10, f13, t, la, wa) n).2.2.2.2.2] [f0, (xIt P Dn f0 f2 f7 f8 f11 f12 (f1, f10, f13, t, la, wa) n).1, f2, f3, f4, f5, f6, f7, f8, f9, (xIt P Dn f0 f2 f7 f8 f11 f12 (f1, f10, f13, t, la, wa) n).2.1, f11, f12, (xIt P Dn f0 f2 f7 f8 f11 f12 (f1, f10, f13, t, la, wa) n).2.2.1]) := by
  refine g_ofI (by decide +kernel) rfl rfl (Nat.le_of_ble_eq_true rfl) (g_cat1 rfl) rfl ?_
  intro p e s m args below meth c Q A0 E hret
  have hts := E.1.2.2.2.2
  show gJ p l e (gR 6) s m args below meth c 0 0 Q A0 D (gX cI cZ q r [(P : Int), (Dn : Int), t, la, wa] [f0, f1, f2, f3, f4, f5, f6, f7, f8, f9, f10, f11, f12, f13]) [some (.ref q), some (.int (iI (n : Int))), none, none] 0 []
  have key : ∀ k : Nat, k ≤ n → gJ p l e (gR 6) s m args below meth c 0 0 Q A0 D (gX cI cZ q r [(P : Int), (Dn : Int), (xIt P Dn f0 f2 f7 f8 f11 f12 (f1, f10, f13, t, la, wa) k).2.2.2.1, (xIt P Dn f0 f2 f7 f8 f11 f12 (f1, f10, f13, t, la, wa) k).2.2.2.2.1, (xIt P Dn f0 f2 f7 f8 f11 f12 (f1, f10, f13, t, la, wa) k).2.2.2.2.2] [f0, (xIt P Dn f0 f2 f7 f8 f11 f12 (f1, f10, f13, t, la, wa) k).1, f2, f3, f4, f5, f6, f7, f8, f9, (xIt P Dn f0 f2 f7 f8 f11 f12 (f1, f10, f13, t, la, wa) k).2.1, f11, f12, (xIt P Dn f0 f2 f7 f8 f11 f12 (f1, f10, f13, t, la, wa) k).2.2.1]) [some (.ref q), some (.int (iI (n : Int))), some (.int (iI (f1 0))), some (.int (iI k))] 19 [] := by
    refine g_loop _ n ?_ ?_
    · refine g_iload_n E dX0_step_19 rfl rfl ?_
      refine g_iload_n E dX0_step_20 rfl rfl ?_
      refine g_icmp_ge_t E dX0_step_21 (tgt := 35) (by decide) (by omega) (by omega) ?_
      refine g_aload_n E dX0_step_35 rfl rfl ?_
      refine g_getR E inX0_step rfl flX0_step_13 dX0_step_36 (by decide) rfl ?_
      refine g_iconst E dX0_step_39 ?_
      refine g_ald E dX0_step_40 rfl rfl (i := 0) rfl (by omega) ?_
      refine g_iload_n E dX0_step_41 rfl rfl ?_
      refine g_isub E dX0_step_42 ?_
      exact g_ri rfl hret dX0_step_43
    · intro k hk ih
      obtain ⟨k1, k2, k3, k4, k5, k6⟩ := hok k hk
      refine g_iload_n E dX0_step_19 rfl rfl ?_
      refine g_iload_n E dX0_step_20 rfl rfl ?_
      refine g_icmp_ge_f E dX0_step_21 (tgt := 35) (by decide) (by omega) (by omega) ?_
      refine g_aload_n E dX0_step_24 rfl rfl ?_
      refine g_callI0 E (cX_passOneStep hP hDn k1 hs2 hs11 hs12 k2 k3 hfs k4) (cwV 0 hts gX0_step_X0_passOneStep rfl rfl rfl hdX0_passOneStep ⟨(Nat.le_of_ble_eq_true rfl), (Nat.le_of_ble_eq_true rfl)⟩) rfl rfl rfl (Nat.le_of_ble_eq_true rfl) gW_0 rfl dX0_step_25 ⟨Nat.zero_le _, Nat.zero_le _⟩ ?_
      refine g_pop E dX0_step_28 rfl ?_
      refine g_iinc E (lv' := [_, _, _, _]) dX0_step_29 rfl rfl ?_
      refine g_goto E dX0_step_32 (tgt := 19) (by decide) ?_
      exact ih
  refine g_iload_n E dX0_step_0 rfl rfl ?_
  refine g_iconst E dX0_step_1 ?_
  refine g_bipush E dX0_step_2 (by decide) ?_
  refine g_callSI E (cX_isBetween (rv := 1) (by omega) (Or.inl ⟨rfl, by omega, by omega⟩)) (va_cwS 3 hts gX0_step_X0_isBetween rfl rfl rfl hdX0_isBetween.2 ⟨(Nat.le_of_ble_eq_true rfl), (Nat.le_of_ble_eq_true rfl)⟩) rfl rfl rfl (Nat.le_of_ble_eq_true rfl) dX0_step_4 ⟨Nat.zero_le _, Nat.zero_le _⟩ ?_
  refine g_callSV E (cX_requireArgument rfl) (va_cwS 1 hts gX0_step_X0_requireArgument rfl rfl rfl hdX0_requireArgument.2 ⟨(Nat.le_of_ble_eq_true rfl), (Nat.le_of_ble_eq_true rfl)⟩) rfl rfl rfl (Nat.le_of_ble_eq_true rfl) dX0_step_7 ⟨Nat.zero_le _, Nat.zero_le _⟩ ?_
  refine g_aload_n E dX0_step_10 rfl rfl ?_
  refine g_getR E inX0_step rfl flX0_step_13 dX0_step_11 (by decide) rfl ?_
  refine g_iconst E dX0_step_14 ?_
  refine g_ald E dX0_step_15 rfl rfl (i := 0) rfl (by omega) ?_
  refine g_istore_n E (lv' := [_, _, _, _]) dX0_step_16 rfl (Nat.le_of_ble_eq_true rfl) rfl ?_
  refine g_iconst E dX0_step_17 ?_
  refine g_istore_n E (lv' := [_, _, _, _]) dX0_step_18 rfl (Nat.le_of_ble_eq_true rfl) rfl ?_
  exact key 0 (by omega)
set_option maxHeartbeats 4000000 in
set_option maxRecDepth 100000 in
theorem cX_clear {l : Launch} {D : va_G} {cI cZ : ClassId} {q : Nat} {r : Nat → Nat} {P Dn : Nat} {t la wa : Int} {f0 f1 f2 f3 f4 f5 f6 f7 f8 f9 f10 f11 f12 f13 : Nat → Int} {n : Nat} (hP : 1 ≤ P ∧ P ≤ 11) (hDn : Dn ≤ 16) (hs2 : ∀ j : Nat, -2147483648 ≤ f2 j ∧ f2 j < 2147483648) (hs11 : ∀ j : Nat, -2147483648 ≤ f11 j ∧ f11 j < 2147483648) (hs12 : ∀ j : Nat, -2147483648 ≤ f12 j ∧ f12 j < 2147483648) (hfs : ∀ j : Nat, j < Dn → (1 ≤ f7 j ∧ f7 j ≤ 9) ∧ 1 ≤ f8 j ∧ f8 j ≤ 5) (hok : ∀ k, k ≤ n → xOk P Dn f0 f2 f7 f8 f11 f12 (xIt P Dn f0 f2 f7 f8 f11 f12 (f1, f10, f13, t, la, wa) k)) (hn : n ≤ 300) (hins : ∀ k, k < n → 0 < pSum (xIt P Dn f0 f2 f7 f8 f11 f12 (f1, f10, f13, t, la, wa) k).1 P) (hgo : ∀ k, k + 1 < n → ¬ ((xMv P Dn f0 f2 f7 f8 f11 f12 (xIt P Dn f0 f2 f7 f8 f11 f12 (f1, f10, f13, t, la, wa) k)) = 0 ∧ (∀ j : Nat, j < P → f2 j ≤ (xIt P Dn f0 f2 f7 f8 f11 f12 (f1, f10, f13, t, la, wa) k).2.2.2.1))) (hstop : n = 300 ∨ pSum (xIt P Dn f0 f2 f7 f8 f11 f12 (f1, f10, f13, t, la, wa) n).1 P ≤ 0 ∨ ∃ k, n = k + 1 ∧ (xMv P Dn f0 f2 f7 f8 f11 f12 (xIt P Dn f0 f2 f7 f8 f11 f12 (f1, f10, f13, t, la, wa) k)) = 0 ∧ (∀ j : Nat, j < P → f2 j ≤ (xIt P Dn f0 f2 f7 f8 f11 f12 (f1, f10, f13, t, la, wa) k).2.2.2.1)) : gMI l yX0_clear wsX0_clear 6 D (gTy cI cZ) (gX cI cZ q r [(P : Int), (Dn : Int), t, la, wa] [f0, f1, f2, f3, f4, f5, f6, f7, f8, f9, f10, f11, f12, f13]) [.ref q] (n : Int) (gX cI cZ q r [(P : Int), (Dn : Int), (xIt P Dn f0 f2 f7 f8 f11 f12 (f1, f10, f13, t, la, wa) n).2.2.2.1, (xIt P Dn f0 f2 f7 f8 f11 f12 (f1, f10, f13, t, la, wa) n).2.2.2.2.1, (xIt P Dn f0 f2 f7 f8 f11 f12 (f1, f10, f13, t, la, wa) n).2.2.2.2.2] [f0, (xIt P Dn f0 f2 f7 f8 f11 f12 (f1, f10, f13, t, la, wa) n).1, f2, f3, f4, f5, f6, f7, f8, f9, (xIt P Dn f0 f2 f7 f8 f11 f12 (f1, f10, f13, t, la, wa) n).2.1, f11, f12, (xIt P Dn f0 f2 f7 f8 f11 f12 (f1, f10, f13, t, la, wa) n).2.2.1]) := by
  refine g_ofI (by decide +kernel) rfl rfl (Nat.le_of_ble_eq_true rfl) (g_cat1 rfl) rfl ?_
  intro p e s m args below meth c Q A0 E hret
  have hts := E.1.2.2.2.2
  show gJ p l e (gR 6) s m args below meth c 0 0 Q A0 D (gX cI cZ q r [(P : Int), (Dn : Int), t, la, wa] [f0, f1, f2, f3, f4, f5, f6, f7, f8, f9, f10, f11, f12, f13]) [some (.ref q), none, none, none, none] 0 []
  have key : ∀ k : Nat, k ≤ n → ∀ (h : Int) (a b : Option Value), (h = 0 ∨ h = 1) → (k < n → h = 0) → (k = n → h = 1 ∨ n = 300 ∨ pSum (xIt P Dn f0 f2 f7 f8 f11 f12 (f1, f10, f13, t, la, wa) n).1 P ≤ 0) → gJ p l e (gR 6) s m args below meth c 0 0 Q A0 D (gX cI cZ q r [(P : Int), (Dn : Int), (xIt P Dn f0 f2 f7 f8 f11 f12 (f1, f10, f13, t, la, wa) k).2.2.2.1, (xIt P Dn f0 f2 f7 f8 f11 f12 (f1, f10, f13, t, la, wa) k).2.2.2.2.1, (xIt P Dn f0 f2 f7 f8 f11 f12 (f1, f10, f13, t, la, wa) k).2.2.2.2.2] [f0, (xIt P Dn f0 f2 f7 f8 f11 f12 (f1, f10, f13, t, la, wa) k).1, f2, f3, f4, f5, f6, f7, f8, f9, (xIt P Dn f0 f2 f7 f8 f11 f12 (f1, f10, f13, t, la, wa) k).2.1, f11, f12, (xIt P Dn f0 f2 f7 f8 f11 f12 (f1, f10, f13, t, la, wa) k).2.2.1]) [some (.ref q), some (.int (iI k)), some (.int (iI h)), a, b] 4 [] := by
    refine g_loop _ n ?_ ?_
    · intro h a b h0 h1 h2
      obtain ⟨k1, k2, k3, k4, k5, k6⟩ := hok n (Nat.le_refl _)
      refine g_iload_n E dX0_clear_4 rfl rfl ?_
      refine g_sipush E dX0_clear_5 (by decide) ?_
      refine g_icmp_ge E dX0_clear_8 (tgt := 54) (by decide) (by omega) (fun c1 => ?_) (fun c1 => ?_)
      · refine g_iload_n E dX0_clear_54 rfl rfl ?_
        exact g_ri rfl hret dX0_clear_55
      · refine g_iload_n E dX0_clear_11 rfl rfl ?_
        refine g_if_ne E dX0_clear_12 (tgt := 54) (by decide) (by omega) (fun c2 => ?_) (fun c2 => ?_)
        · refine g_iload_n E dX0_clear_54 rfl rfl ?_
          exact g_ri rfl hret dX0_clear_55
        · have c3 : pSum (xIt P Dn f0 f2 f7 f8 f11 f12 (f1, f10, f13, t, la, wa) n).1 P ≤ 0 := by
            rcases h2 rfl with e | e | e
            · omega
            · omega
            · exact e
          refine g_aload_n E dX0_clear_15 rfl rfl ?_
          refine g_callI0 E (cX_inside hP) (cwV 0 hts gX0_clear_X0_inside rfl rfl rfl hdX0_inside ⟨(Nat.le_of_ble_eq_true rfl), (Nat.le_of_ble_eq_true rfl)⟩) rfl rfl rfl (Nat.le_of_ble_eq_true rfl) gW_0 rfl dX0_clear_16 ⟨Nat.zero_le _, Nat.zero_le _⟩ ?_
          refine g_if_le_t E dX0_clear_19 (tgt := 54) (by decide) k6 c3 ?_
          refine g_iload_n E dX0_clear_54 rfl rfl ?_
          exact g_ri rfl hret dX0_clear_55
    · intro k hk ih h a b h0 h1 h2
      obtain ⟨k1, k2, k3, k4, k5, k6⟩ := hok k (by omega)
      have hh : h = 0 := h1 hk
      have hi := hins k hk
      by_cases hall : (∀ j : Nat, j < P → f2 j ≤ (xIt P Dn f0 f2 f7 f8 f11 f12 (f1, f10, f13, t, la, wa) k).2.2.2.1)
      · refine g_iload_n E dX0_clear_4 rfl rfl ?_
        refine g_sipush E dX0_clear_5 (by decide) ?_
        refine g_icmp_ge_f E dX0_clear_8 (tgt := 54) (by decide) (by omega) (by omega) ?_
        refine g_iload_n E dX0_clear_11 rfl rfl ?_
        refine g_if_ne_f E dX0_clear_12 (tgt := 54) (by decide) (by omega) (by omega) ?_
        refine g_aload_n E dX0_clear_15 rfl rfl ?_
        refine g_callI0 E (cX_inside hP) (cwV 0 hts gX0_clear_X0_inside rfl rfl rfl hdX0_inside ⟨(Nat.le_of_ble_eq_true rfl), (Nat.le_of_ble_eq_true rfl)⟩) rfl rfl rfl (Nat.le_of_ble_eq_true rfl) gW_0 rfl dX0_clear_16 ⟨Nat.zero_le _, Nat.zero_le _⟩ ?_
        refine g_if_le_f E dX0_clear_19 (tgt := 54) (by decide) k6 (by omega) ?_
        refine g_aload_n E dX0_clear_22 rfl rfl ?_
        refine g_callI0 E (cX_areAllReleased (rv := 1) hP (by omega) hs2 (Or.inl ⟨rfl, hall⟩)) (cwV 0 hts gX0_clear_X0_areAllReleased rfl rfl rfl hdX0_areAllReleased ⟨(Nat.le_of_ble_eq_true rfl), (Nat.le_of_ble_eq_true rfl)⟩) rfl rfl rfl (Nat.le_of_ble_eq_true rfl) gW_0 rfl dX0_clear_23 ⟨Nat.zero_le _, Nat.zero_le _⟩ ?_
        refine g_istore_n E (lv' := [_, _, _, _, _]) dX0_clear_26 rfl (Nat.le_of_ble_eq_true rfl) rfl ?_
        refine g_aload_n E dX0_clear_27 rfl rfl ?_
        refine g_callI0 E (cX_passOneStep hP hDn k1 hs2 hs11 hs12 k2 k3 hfs k4) (cwV 0 hts gX0_clear_X0_passOneStep rfl rfl rfl hdX0_passOneStep ⟨(Nat.le_of_ble_eq_true rfl), (Nat.le_of_ble_eq_true rfl)⟩) rfl rfl rfl (Nat.le_of_ble_eq_true rfl) gW_0 rfl dX0_clear_28 ⟨Nat.zero_le _, Nat.zero_le _⟩ ?_
        refine g_istore E (lv' := [_, _, _, _, _]) dX0_clear_31 (Nat.le_of_ble_eq_true rfl) rfl ?_
        refine g_iload E dX0_clear_33 rfl ?_
        refine g_if_ne E dX0_clear_35 (tgt := 46) (by decide) k5 (fun c1 => ?_) (fun c1 => ?_)
        · refine g_iconst E dX0_clear_46 ?_
          refine g_istore_n E (lv' := [_, _, _, _, _]) dX0_clear_47 rfl (Nat.le_of_ble_eq_true rfl) rfl ?_
          refine g_iinc E (lv' := [_, _, _, _, _]) dX0_clear_48 rfl rfl ?_
          refine g_goto E dX0_clear_51 (tgt := 4) (by decide) ?_
          refine ih 0 _ _ (Or.inl rfl) (fun _ => rfl) (fun e => ?_)
          rcases hstop with e2 | e2 | ⟨k', e2, e3, e4⟩
          · exact Or.inr (Or.inl e2)
          · exact Or.inr (Or.inr e2)
          · have : k' = k := by omega
            subst this
            exact absurd e3 c1
        · refine g_iload_n E dX0_clear_38 rfl rfl ?_
          refine g_if_eq_f E dX0_clear_39 (tgt := 46) (by decide) (by omega) (by omega) ?_
          refine g_iconst E dX0_clear_42 ?_
          refine g_goto E dX0_clear_43 (tgt := 47) (by decide) ?_
          refine g_istore_n E (lv' := [_, _, _, _, _]) dX0_clear_47 rfl (Nat.le_of_ble_eq_true rfl) rfl ?_
          refine g_iinc E (lv' := [_, _, _, _, _]) dX0_clear_48 rfl rfl ?_
          refine g_goto E dX0_clear_51 (tgt := 4) (by decide) ?_
          refine ih 1 _ _ (Or.inr rfl) (fun e => absurd ⟨c1, hall⟩ (hgo k e)) (fun e => Or.inl rfl)
      · have hex : ∃ j : Nat, j < P ∧ (xIt P Dn f0 f2 f7 f8 f11 f12 (f1, f10, f13, t, la, wa) k).2.2.2.1 < f2 j := by
          by_cases h5 : ∃ j : Nat, j < P ∧ (xIt P Dn f0 f2 f7 f8 f11 f12 (f1, f10, f13, t, la, wa) k).2.2.2.1 < f2 j
          · exact h5
          · exact absurd (fun j hj => Int.not_lt.mp (fun h6 => h5 ⟨j, hj, h6⟩)) hall
        have fin : ∀ a b : Option Value, gJ p l e (gR 6) s m args below meth c 0 0 Q A0 D (gX cI cZ q r [(P : Int), (Dn : Int), (xIt P Dn f0 f2 f7 f8 f11 f12 (f1, f10, f13, t, la, wa) (k + 1)).2.2.2.1, (xIt P Dn f0 f2 f7 f8 f11 f12 (f1, f10, f13, t, la, wa) (k + 1)).2.2.2.2.1, (xIt P Dn f0 f2 f7 f8 f11 f12 (f1, f10, f13, t, la, wa) (k + 1)).2.2.2.2.2] [f0, (xIt P Dn f0 f2 f7 f8 f11 f12 (f1, f10, f13, t, la, wa) (k + 1)).1, f2, f3, f4, f5, f6, f7, f8, f9, (xIt P Dn f0 f2 f7 f8 f11 f12 (f1, f10, f13, t, la, wa) (k + 1)).2.1, f11, f12, (xIt P Dn f0 f2 f7 f8 f11 f12 (f1, f10, f13, t, la, wa) (k + 1)).2.2.1]) [some (.ref q), some (.int (iI k)), some (.int (iI h)), a, b] 46 [] := by
          intro a b
          refine g_iconst E dX0_clear_46 ?_
          refine g_istore_n E (lv' := [_, _, _, _, _]) dX0_clear_47 rfl (Nat.le_of_ble_eq_true rfl) rfl ?_
          refine g_iinc E (lv' := [_, _, _, _, _]) dX0_clear_48 rfl rfl ?_
          refine g_goto E dX0_clear_51 (tgt := 4) (by decide) ?_
          refine ih 0 _ _ (Or.inl rfl) (fun _ => rfl) (fun e => ?_)
          rcases hstop with e2 | e2 | ⟨k', e2, e3, e4⟩
          · exact Or.inr (Or.inl e2)
          · exact Or.inr (Or.inr e2)
          · have : k' = k := by omega
            subst this
            exact absurd e4 hall
        refine g_iload_n E dX0_clear_4 rfl rfl ?_
        refine g_sipush E dX0_clear_5 (by decide) ?_
        refine g_icmp_ge_f E dX0_clear_8 (tgt := 54) (by decide) (by omega) (by omega) ?_
        refine g_iload_n E dX0_clear_11 rfl rfl ?_
        refine g_if_ne_f E dX0_clear_12 (tgt := 54) (by decide) (by omega) (by omega) ?_
        refine g_aload_n E dX0_clear_15 rfl rfl ?_
        refine g_callI0 E (cX_inside hP) (cwV 0 hts gX0_clear_X0_inside rfl rfl rfl hdX0_inside ⟨(Nat.le_of_ble_eq_true rfl), (Nat.le_of_ble_eq_true rfl)⟩) rfl rfl rfl (Nat.le_of_ble_eq_true rfl) gW_0 rfl dX0_clear_16 ⟨Nat.zero_le _, Nat.zero_le _⟩ ?_
        refine g_if_le_f E dX0_clear_19 (tgt := 54) (by decide) k6 (by omega) ?_
        refine g_aload_n E dX0_clear_22 rfl rfl ?_
        refine g_callI0 E (cX_areAllReleased (rv := 0) hP (by omega) hs2 (Or.inr ⟨rfl, hex⟩)) (cwV 0 hts gX0_clear_X0_areAllReleased rfl rfl rfl hdX0_areAllReleased ⟨(Nat.le_of_ble_eq_true rfl), (Nat.le_of_ble_eq_true rfl)⟩) rfl rfl rfl (Nat.le_of_ble_eq_true rfl) gW_0 rfl dX0_clear_23 ⟨Nat.zero_le _, Nat.zero_le _⟩ ?_
        refine g_istore_n E (lv' := [_, _, _, _, _]) dX0_clear_26 rfl (Nat.le_of_ble_eq_true rfl) rfl ?_
        refine g_aload_n E dX0_clear_27 rfl rfl ?_
        refine g_callI0 E (cX_passOneStep hP hDn k1 hs2 hs11 hs12 k2 k3 hfs k4) (cwV 0 hts gX0_clear_X0_passOneStep rfl rfl rfl hdX0_passOneStep ⟨(Nat.le_of_ble_eq_true rfl), (Nat.le_of_ble_eq_true rfl)⟩) rfl rfl rfl (Nat.le_of_ble_eq_true rfl) gW_0 rfl dX0_clear_28 ⟨Nat.zero_le _, Nat.zero_le _⟩ ?_
        refine g_istore E (lv' := [_, _, _, _, _]) dX0_clear_31 (Nat.le_of_ble_eq_true rfl) rfl ?_
        refine g_iload E dX0_clear_33 rfl ?_
        refine g_if_ne E dX0_clear_35 (tgt := 46) (by decide) k5 (fun c1 => ?_) (fun c1 => ?_)
        · exact fin _ _
        · refine g_iload_n E dX0_clear_38 rfl rfl ?_
          refine g_if_eq_t E dX0_clear_39 (tgt := 46) (by decide) (by omega) (by omega) ?_
          exact fin _ _
  refine g_iconst E dX0_clear_0 ?_
  refine g_istore_n E (lv' := [_, _, _, _, _]) dX0_clear_1 rfl (Nat.le_of_ble_eq_true rfl) rfl ?_
  refine g_iconst E dX0_clear_2 ?_
  refine g_istore_n E (lv' := [_, _, _, _, _]) dX0_clear_3 rfl (Nat.le_of_ble_eq_true rfl) rfl ?_
  refine key 0 (by omega) 0 _ _ (Or.inl rfl) (fun _ => rfl) (fun e => ?_)
  rcases hstop with e2 | e2 | ⟨k', e2, e3, e4⟩
  · exact Or.inr (Or.inl e2)
  · exact Or.inr (Or.inr e2)
  · omega
end
section
set_option maxRecDepth 100000 in
theorem flX0_addDoor_25 : Cond.fieldLink RX0 25 (TX0 7).1 (TX0 7).2.1 (TX0 7).2.2.1 ∈ wsX0_addDoor := by decide +kernel
set_option maxRecDepth 100000 in
theorem flX0_addDoor_28 : Cond.fieldLink RX0 28 (TX0 8).1 (TX0 8).2.1 (TX0 8).2.2.1 ∈ wsX0_addDoor := by decide +kernel
set_option maxRecDepth 100000 in
theorem flX0_addDoor_31 : Cond.fieldLink RX0 31 (TX0 9).1 (TX0 9).2.1 (TX0 9).2.2.1 ∈ wsX0_addDoor := by decide +kernel
set_option maxRecDepth 100000 in
theorem flX0_addDoor_34 : Cond.fieldLink RX0 34 (TX0 10).1 (TX0 10).2.1 (TX0 10).2.2.1 ∈ wsX0_addDoor := by decide +kernel
set_option maxRecDepth 100000 in
theorem flX0_addDoor_37 : Cond.fieldLink RX0 37 (TX0 11).1 (TX0 11).2.1 (TX0 11).2.2.1 ∈ wsX0_addDoor := by decide +kernel
set_option maxRecDepth 100000 in
theorem flX0_addDoor_78 : Cond.fieldLink RX0 78 (TX0 6).1 (TX0 6).2.1 (TX0 6).2.2.1 ∈ wsX0_addDoor := by decide +kernel
set_option maxRecDepth 100000 in
theorem flX0_addPlace_53 : Cond.fieldLink RX0 53 (TX0 0).1 (TX0 0).2.1 (TX0 0).2.2.1 ∈ wsX0_addPlace := by decide +kernel
set_option maxRecDepth 100000 in
theorem flX0_addPlace_9 : Cond.fieldLink RX0 9 (TX0 1).1 (TX0 1).2.1 (TX0 1).2.2.1 ∈ wsX0_addPlace := by decide +kernel
set_option maxRecDepth 100000 in
theorem flX0_come_13 : Cond.fieldLink RX0 13 (TX0 2).1 (TX0 2).2.1 (TX0 2).2.2.1 ∈ wsX0_come := by decide +kernel
set_option maxRecDepth 100000 in
theorem flX0_distance_19 : Cond.fieldLink RX0 19 (TX0 4).1 (TX0 4).2.1 (TX0 4).2.2.1 ∈ wsX0_distance := by decide +kernel
set_option maxRecDepth 100000 in
theorem flX0_door_22 : Cond.fieldLink RX0 22 (TX0 5).1 (TX0 5).2.1 (TX0 5).2.2.1 ∈ wsX0_door := by decide +kernel
set_option maxRecDepth 100000 in
theorem flX0_doors_78 : Cond.fieldLink RX0 78 (TX0 6).1 (TX0 6).2.1 (TX0 6).2.2.1 ∈ wsX0_doors := by decide +kernel
set_option maxRecDepth 100000 in
theorem flX0_latest_57 : Cond.fieldLink RX0 57 (TX0 17).1 (TX0 17).2.1 (TX0 17).2.2.1 ∈ wsX0_latest := by decide +kernel
set_option maxRecDepth 100000 in
theorem flX0_now_99 : Cond.fieldLink RX0 99 (TX0 16).1 (TX0 16).2.1 (TX0 16).2.2.1 ∈ wsX0_now := by decide +kernel
set_option maxRecDepth 100000 in
theorem flX0_passed_41 : Cond.fieldLink RX0 41 (TX0 12).1 (TX0 12).2.1 (TX0 12).2.2.1 ∈ wsX0_passed := by decide +kernel
set_option maxRecDepth 100000 in
theorem flX0_people_13 : Cond.fieldLink RX0 13 (TX0 2).1 (TX0 2).2.1 (TX0 2).2.2.1 ∈ wsX0_people := by decide +kernel
set_option maxRecDepth 100000 in
theorem flX0_places_53 : Cond.fieldLink RX0 53 (TX0 0).1 (TX0 0).2.1 (TX0 0).2.2.1 ∈ wsX0_places := by decide +kernel
set_option maxRecDepth 100000 in
theorem flX0_setDoor_37 : Cond.fieldLink RX0 37 (TX0 11).1 (TX0 11).2.1 (TX0 11).2.2.1 ∈ wsX0_setDoor := by decide +kernel
set_option maxRecDepth 100000 in
theorem flX0_setRelease_16 : Cond.fieldLink RX0 16 (TX0 3).1 (TX0 3).2.1 (TX0 3).2.2.1 ∈ wsX0_setRelease := by decide +kernel
set_option maxRecDepth 100000 in
theorem flX0_waited_105 : Cond.fieldLink RX0 105 (TX0 18).1 (TX0 18).2.1 (TX0 18).2.2.1 ∈ wsX0_waited := by decide +kernel
set_option maxRecDepth 100000 in
theorem flX0_wouldMove_22 : Cond.fieldLink RX0 22 (TX0 5).1 (TX0 5).2.1 (TX0 5).2.2.1 ∈ wsX0_wouldMove := by decide +kernel
set_option maxRecDepth 100000 in
theorem flX0_wouldMove_50 : Cond.fieldLink RX0 50 (TX0 15).1 (TX0 15).2.1 (TX0 15).2.2.1 ∈ wsX0_wouldMove := by decide +kernel
set_option maxRecDepth 100000 in
theorem hdX0_findWays : yX0_findWays.cls = RX0 ∧ yX0_findWays.cls ≠ "java/lang/invoke/MethodHandle" ∧ yX0_findWays.cls ≠ "java/lang/invoke/VarHandle" ∧ (parseMethodDescriptor yX0_findWays.desc).map (fun d => d.parameters.length) = some 0 := by decide +kernel
set_option maxRecDepth 100000 in
theorem hdX0_requireDoor : yX0_requireDoor.cls = RX0 ∧ yX0_requireDoor.cls ≠ "java/lang/invoke/MethodHandle" ∧ yX0_requireDoor.cls ≠ "java/lang/invoke/VarHandle" ∧ (parseMethodDescriptor yX0_requireDoor.desc).map (fun d => d.parameters.length) = some 1 := by decide +kernel
set_option maxRecDepth 100000 in
theorem hdX0_requireElement : yX0_requireElement.cls = RX0 ∧ yX0_requireElement.cls ≠ "java/lang/invoke/MethodHandle" ∧ yX0_requireElement.cls ≠ "java/lang/invoke/VarHandle" ∧ (parseMethodDescriptor yX0_requireElement.desc).map (fun d => d.parameters.length) = some 1 := by decide +kernel
set_option maxRecDepth 100000 in
theorem hdX0_requirePlace : yX0_requirePlace.cls = RX0 ∧ yX0_requirePlace.cls ≠ "java/lang/invoke/MethodHandle" ∧ yX0_requirePlace.cls ≠ "java/lang/invoke/VarHandle" ∧ (parseMethodDescriptor yX0_requirePlace.desc).map (fun d => d.parameters.length) = some 1 := by decide +kernel
set_option maxRecDepth 100000 in
theorem inX0_addDoor : ∀ w ∈ u_ws RX0 TX0 19, w ∈ wsX0_addDoor := by decide +kernel
set_option maxRecDepth 100000 in
theorem inX0_addPlace : ∀ w ∈ u_ws RX0 TX0 19, w ∈ wsX0_addPlace := by decide +kernel
set_option maxRecDepth 100000 in
theorem inX0_come : ∀ w ∈ u_ws RX0 TX0 19, w ∈ wsX0_come := by decide +kernel
set_option maxRecDepth 100000 in
theorem inX0_distance : ∀ w ∈ u_ws RX0 TX0 19, w ∈ wsX0_distance := by decide +kernel
set_option maxRecDepth 100000 in
theorem inX0_door : ∀ w ∈ u_ws RX0 TX0 19, w ∈ wsX0_door := by decide +kernel
set_option maxRecDepth 100000 in
theorem inX0_doors : ∀ w ∈ u_ws RX0 TX0 19, w ∈ wsX0_doors := by decide +kernel
set_option maxRecDepth 100000 in
theorem inX0_latest : ∀ w ∈ u_ws RX0 TX0 19, w ∈ wsX0_latest := by decide +kernel
set_option maxRecDepth 100000 in
theorem inX0_now : ∀ w ∈ u_ws RX0 TX0 19, w ∈ wsX0_now := by decide +kernel
set_option maxRecDepth 100000 in
theorem inX0_passed : ∀ w ∈ u_ws RX0 TX0 19, w ∈ wsX0_passed := by decide +kernel
set_option maxRecDepth 100000 in
theorem inX0_people : ∀ w ∈ u_ws RX0 TX0 19, w ∈ wsX0_people := by decide +kernel
set_option maxRecDepth 100000 in
theorem inX0_places : ∀ w ∈ u_ws RX0 TX0 19, w ∈ wsX0_places := by decide +kernel
set_option maxRecDepth 100000 in
theorem inX0_setDoor : ∀ w ∈ u_ws RX0 TX0 19, w ∈ wsX0_setDoor := by decide +kernel
set_option maxRecDepth 100000 in
theorem inX0_setRelease : ∀ w ∈ u_ws RX0 TX0 19, w ∈ wsX0_setRelease := by decide +kernel
set_option maxRecDepth 100000 in
theorem inX0_waited : ∀ w ∈ u_ws RX0 TX0 19, w ∈ wsX0_waited := by decide +kernel
set_option maxRecDepth 100000 in
theorem inX0_wouldMove : ∀ w ∈ u_ws RX0 TX0 19, w ∈ wsX0_wouldMove := by decide +kernel
set_option maxHeartbeats 4000000 in
set_option maxRecDepth 100000 in
theorem cX_addPlace {l : Launch} {D : va_G} {cI cZ : ClassId} {q : Nat} {r : Nat → Nat} {P Dn : Nat} {t la wa : Int} {f0 f1 f2 f3 f4 f5 f6 f7 f8 f9 f10 f11 f12 f13 : Nat → Int} {x : Int} (hP : 1 ≤ P ∧ P ≤ 11) (hDn : Dn ≤ 16) (hP10 : P ≤ 10) (hx : 1 ≤ x ∧ x ≤ 30) (hs3 : ∀ j : Nat, -2147483648 ≤ f3 j ∧ f3 j < 2147483648) (hs4 : ∀ j : Nat, -2147483648 ≤ f4 j ∧ f4 j < 2147483648) (hs9 : ∀ j : Nat, -2147483648 ≤ f9 j ∧ f9 j < 2147483648) (he5 : ∀ j : Nat, j < Dn → 0 ≤ f5 j ∧ f5 j < P) (he6 : ∀ j : Nat, j < Dn → 0 ≤ f6 j ∧ f6 j < P) : gMI l yX0_addPlace wsX0_addPlace 6 D (gTy cI cZ) (gX cI cZ q r [(P : Int), (Dn : Int), t, la, wa] [f0, f1, f2, f3, f4, f5, f6, f7, f8, f9, f10, f11, f12, f13]) [.ref q, .int (iI x)] (P : Int) (gX cI cZ q r [((P + 1 : Nat) : Int), (Dn : Int), t, la, wa] [(gu f0 P x), f1, f2, (pDist f5 f6 f9 (P + 1) Dn f3), (pWays f5 f6 f9 (pDist f5 f6 f9 (P + 1) Dn f3) (P + 1) Dn (f4, f11, f12)).1, f5, f6, f7, f8, f9, f10, (pWays f5 f6 f9 (pDist f5 f6 f9 (P + 1) Dn f3) (P + 1) Dn (f4, f11, f12)).2.1, (pWays f5 f6 f9 (pDist f5 f6 f9 (P + 1) Dn f3) (P + 1) Dn (f4, f11, f12)).2.2, f13]) := by
  refine g_ofI (by decide +kernel) rfl rfl (Nat.le_of_ble_eq_true rfl) (g_cat1 rfl) rfl ?_
  intro p e s m args below meth c Q A0 E hret
  have hts := E.1.2.2.2.2
  show gJ p l e (gR 6) s m args below meth c 0 0 Q A0 D (gX cI cZ q r [(P : Int), (Dn : Int), t, la, wa] [f0, f1, f2, f3, f4, f5, f6, f7, f8, f9, f10, f11, f12, f13]) [some (.ref q), some (.int (iI x)), none] 0 []
  refine g_iload_n E dX0_addPlace_0 rfl rfl ?_
  refine g_iconst E dX0_addPlace_1 ?_
  refine g_bipush E dX0_addPlace_2 (by decide) ?_
  refine g_callSI E (cX_isBetween (rv := 1) (by omega) (Or.inl ⟨rfl, by omega, by omega⟩)) (va_cwS 3 hts gX0_addPlace_X0_isBetween rfl rfl rfl hdX0_isBetween.2 ⟨(Nat.le_of_ble_eq_true rfl), (Nat.le_of_ble_eq_true rfl)⟩) rfl rfl rfl (Nat.le_of_ble_eq_true rfl) dX0_addPlace_4 ⟨Nat.zero_le _, Nat.zero_le _⟩ ?_
  refine g_callSV E (cX_requireArgument rfl) (va_cwS 1 hts gX0_addPlace_X0_requireArgument rfl rfl rfl hdX0_requireArgument.2 ⟨(Nat.le_of_ble_eq_true rfl), (Nat.le_of_ble_eq_true rfl)⟩) rfl rfl rfl (Nat.le_of_ble_eq_true rfl) dX0_addPlace_7 ⟨Nat.zero_le _, Nat.zero_le _⟩ ?_
  refine g_aload_n E dX0_addPlace_10 rfl rfl ?_
  refine g_getI E inX0_addPlace rfl flX0_addPlace_53 dX0_addPlace_11 (by decide) rfl rfl ?_
  refine g_bipush E dX0_addPlace_14 (by decide) ?_
  refine g_icmp_ge_f E dX0_addPlace_16 (tgt := 23) (by decide) (by omega) (by omega) ?_
  refine g_iconst E dX0_addPlace_19 ?_
  refine g_goto E dX0_addPlace_20 (tgt := 24) (by decide) ?_
  refine g_callSV E (cX_requireState rfl) (va_cwS 1 hts gX0_addPlace_X0_requireState rfl rfl rfl hdX0_requireState.2 ⟨(Nat.le_of_ble_eq_true rfl), (Nat.le_of_ble_eq_true rfl)⟩) rfl rfl rfl (Nat.le_of_ble_eq_true rfl) dX0_addPlace_24 ⟨Nat.zero_le _, Nat.zero_le _⟩ ?_
  refine g_aload_n E dX0_addPlace_27 rfl rfl ?_
  refine g_getI E inX0_addPlace rfl flX0_addPlace_53 dX0_addPlace_28 (by decide) rfl rfl ?_
  refine g_istore_n E (lv' := [_, _, _]) dX0_addPlace_31 rfl (Nat.le_of_ble_eq_true rfl) rfl ?_
  refine g_aload_n E dX0_addPlace_32 rfl rfl ?_
  refine g_getR E inX0_addPlace rfl flX0_addPlace_9 dX0_addPlace_33 (by decide) rfl ?_
  refine g_iload_n E dX0_addPlace_36 rfl rfl ?_
  refine g_iload_n E dX0_addPlace_37 rfl rfl ?_
  refine g_ast E (A' := [_, _, _, _, _, _, _, _, _, _, _, _, _, _]) dX0_addPlace_38 rfl rfl rfl (by omega) rfl ?_
  refine g_aload_n E dX0_addPlace_39 rfl rfl ?_
  refine g_dup E dX0_addPlace_40 rfl ?_
  refine g_getI E inX0_addPlace rfl flX0_addPlace_53 dX0_addPlace_41 (by decide) rfl rfl ?_
  refine g_iconst E dX0_addPlace_44 ?_
  refine g_iadd E dX0_addPlace_45 ?_
  refine g_putI E (F' := [_, _, _, _, _]) inX0_addPlace rfl flX0_addPlace_53 dX0_addPlace_46 tyX0_ok nmX0 (by decide) rfl (by decide) rfl (by decide +kernel) (Nat.le_of_ble_eq_true rfl) rfl ?_
  refine g_aload_n E dX0_addPlace_49 rfl rfl ?_
  refine g_callV0 E (cX_findWays (P := P + 1) (by omega) hDn hs3 hs4 hs9 (fun j hj => by have := he5 j hj; omega) (fun j hj => by have := he6 j hj; omega)) (cwV 0 hts gX0_addPlace_X0_findWays rfl rfl rfl hdX0_findWays ⟨(Nat.le_of_ble_eq_true rfl), (Nat.le_of_ble_eq_true rfl)⟩) rfl rfl rfl (Nat.le_of_ble_eq_true rfl) gW_0 rfl dX0_addPlace_50 ⟨Nat.zero_le _, Nat.zero_le _⟩ ?_
  refine g_iload_n E dX0_addPlace_53 rfl rfl ?_
  exact g_ri rfl hret dX0_addPlace_54
set_option maxHeartbeats 4000000 in
set_option maxRecDepth 100000 in
theorem cX_addDoor {l : Launch} {D : va_G} {cI cZ : ClassId} {q : Nat} {r : Nat → Nat} {P Dn : Nat} {t la wa : Int} {f0 f1 f2 f3 f4 f5 f6 f7 f8 f9 f10 f11 f12 f13 : Nat → Int} {x y z v : Int} (hP : 1 ≤ P ∧ P ≤ 11) (hDn : Dn ≤ 15) (hx : 0 ≤ x ∧ x < P) (hy : 0 ≤ y ∧ y < P) (hxy : x ≠ y) (hz : 1 ≤ z ∧ z ≤ 9) (hv : 1 ≤ v ∧ v ≤ 5) (hs3 : ∀ j : Nat, -2147483648 ≤ f3 j ∧ f3 j < 2147483648) (hs4 : ∀ j : Nat, -2147483648 ≤ f4 j ∧ f4 j < 2147483648) (hs9 : ∀ j : Nat, -2147483648 ≤ f9 j ∧ f9 j < 2147483648) (he5 : ∀ j : Nat, j < Dn → 0 ≤ f5 j ∧ f5 j < P) (he6 : ∀ j : Nat, j < Dn → 0 ≤ f6 j ∧ f6 j < P) : gMI l yX0_addDoor wsX0_addDoor 6 D (gTy cI cZ) (gX cI cZ q r [(P : Int), (Dn : Int), t, la, wa] [f0, f1, f2, f3, f4, f5, f6, f7, f8, f9, f10, f11, f12, f13]) [.ref q, .int (iI x), .int (iI y), .int (iI z), .int (iI v)] (Dn : Int) (gX cI cZ q r [(P : Int), ((Dn + 1 : Nat) : Int), t, la, wa] [f0, f1, f2, (pDist (gu f5 Dn x) (gu f6 Dn y) (gu f9 Dn 1) P (Dn + 1) f3), (pWays (gu f5 Dn x) (gu f6 Dn y) (gu f9 Dn 1) (pDist (gu f5 Dn x) (gu f6 Dn y) (gu f9 Dn 1) P (Dn + 1) f3) P (Dn + 1) (f4, f11, f12)).1, (gu f5 Dn x), (gu f6 Dn y), (gu f7 Dn z), (gu f8 Dn v), (gu f9 Dn 1), f10, (pWays (gu f5 Dn x) (gu f6 Dn y) (gu f9 Dn 1) (pDist (gu f5 Dn x) (gu f6 Dn y) (gu f9 Dn 1) P (Dn + 1) f3) P (Dn + 1) (f4, f11, f12)).2.1, (pWays (gu f5 Dn x) (gu f6 Dn y) (gu f9 Dn 1) (pDist (gu f5 Dn x) (gu f6 Dn y) (gu f9 Dn 1) P (Dn + 1) f3) P (Dn + 1) (f4, f11, f12)).2.2, f13]) := by
  refine g_ofI (by decide +kernel) rfl rfl (Nat.le_of_ble_eq_true rfl) (g_cat1 rfl) rfl ?_
  intro p e s m args below meth c Q A0 E hret
  have hts := E.1.2.2.2.2
  show gJ p l e (gR 6) s m args below meth c 0 0 Q A0 D (gX cI cZ q r [(P : Int), (Dn : Int), t, la, wa] [f0, f1, f2, f3, f4, f5, f6, f7, f8, f9, f10, f11, f12, f13]) [some (.ref q), some (.int (iI x)), some (.int (iI y)), some (.int (iI z)), some (.int (iI v)), none] 0 []
  have q5 : ∀ j : Nat, j < Dn + 1 → 0 ≤ gu f5 Dn x j ∧ gu f5 Dn x j < P := fun j hj => by
    unfold gu
    split
    · exact hx
    · exact he5 j (by omega)
  have q6 : ∀ j : Nat, j < Dn + 1 → 0 ≤ gu f6 Dn y j ∧ gu f6 Dn y j < P := fun j hj => by
    unfold gu
    split
    · exact hy
    · exact he6 j (by omega)
  refine g_aload_n E dX0_addDoor_0 rfl rfl ?_
  refine g_iload_n E dX0_addDoor_1 rfl rfl ?_
  refine g_callV0 E (cX_requirePlace hx (by omega)) (cwV 1 hts gX0_addDoor_X0_requirePlace rfl rfl rfl hdX0_requirePlace ⟨(Nat.le_of_ble_eq_true rfl), (Nat.le_of_ble_eq_true rfl)⟩) rfl rfl rfl (Nat.le_of_ble_eq_true rfl) gW_0 rfl dX0_addDoor_2 ⟨Nat.zero_le _, Nat.zero_le _⟩ ?_
  refine g_aload_n E dX0_addDoor_5 rfl rfl ?_
  refine g_iload_n E dX0_addDoor_6 rfl rfl ?_
  refine g_callV0 E (cX_requirePlace hy (by omega)) (cwV 1 hts gX0_addDoor_X0_requirePlace rfl rfl rfl hdX0_requirePlace ⟨(Nat.le_of_ble_eq_true rfl), (Nat.le_of_ble_eq_true rfl)⟩) rfl rfl rfl (Nat.le_of_ble_eq_true rfl) gW_0 rfl dX0_addDoor_7 ⟨Nat.zero_le _, Nat.zero_le _⟩ ?_
  refine g_iload_n E dX0_addDoor_10 rfl rfl ?_
  refine g_iload_n E dX0_addDoor_11 rfl rfl ?_
  refine g_icmp_eq_f E dX0_addDoor_12 (tgt := 39) (by decide) (by omega) (by omega) ?_
  refine g_iload_n E dX0_addDoor_15 rfl rfl ?_
  refine g_iconst E dX0_addDoor_16 ?_
  refine g_bipush E dX0_addDoor_17 (by decide) ?_
  refine g_callSI E (cX_isBetween (rv := 1) (by omega) (Or.inl ⟨rfl, by omega, by omega⟩)) (va_cwS 3 hts gX0_addDoor_X0_isBetween rfl rfl rfl hdX0_isBetween.2 ⟨(Nat.le_of_ble_eq_true rfl), (Nat.le_of_ble_eq_true rfl)⟩) rfl rfl rfl (Nat.le_of_ble_eq_true rfl) dX0_addDoor_19 ⟨Nat.zero_le _, Nat.zero_le _⟩ ?_
  refine g_if_eq_f E dX0_addDoor_22 (tgt := 39) (by decide) (by omega) (by omega) ?_
  refine g_iload E dX0_addDoor_25 rfl ?_
  refine g_iconst E dX0_addDoor_27 ?_
  refine g_iconst E dX0_addDoor_28 ?_
  refine g_callSI E (cX_isBetween (rv := 1) (by omega) (Or.inl ⟨rfl, by omega, by omega⟩)) (va_cwS 3 hts gX0_addDoor_X0_isBetween rfl rfl rfl hdX0_isBetween.2 ⟨(Nat.le_of_ble_eq_true rfl), (Nat.le_of_ble_eq_true rfl)⟩) rfl rfl rfl (Nat.le_of_ble_eq_true rfl) dX0_addDoor_29 ⟨Nat.zero_le _, Nat.zero_le _⟩ ?_
  refine g_if_eq_f E dX0_addDoor_32 (tgt := 39) (by decide) (by omega) (by omega) ?_
  refine g_iconst E dX0_addDoor_35 ?_
  refine g_goto E dX0_addDoor_36 (tgt := 40) (by decide) ?_
  refine g_callSV E (cX_requireArgument rfl) (va_cwS 1 hts gX0_addDoor_X0_requireArgument rfl rfl rfl hdX0_requireArgument.2 ⟨(Nat.le_of_ble_eq_true rfl), (Nat.le_of_ble_eq_true rfl)⟩) rfl rfl rfl (Nat.le_of_ble_eq_true rfl) dX0_addDoor_40 ⟨Nat.zero_le _, Nat.zero_le _⟩ ?_
  refine g_aload_n E dX0_addDoor_43 rfl rfl ?_
  refine g_getI E inX0_addDoor rfl flX0_addDoor_78 dX0_addDoor_44 (by decide) rfl rfl ?_
  refine g_bipush E dX0_addDoor_47 (by decide) ?_
  refine g_icmp_ge_f E dX0_addDoor_49 (tgt := 56) (by decide) (by omega) (by omega) ?_
  refine g_iconst E dX0_addDoor_52 ?_
  refine g_goto E dX0_addDoor_53 (tgt := 57) (by decide) ?_
  refine g_callSV E (cX_requireState rfl) (va_cwS 1 hts gX0_addDoor_X0_requireState rfl rfl rfl hdX0_requireState.2 ⟨(Nat.le_of_ble_eq_true rfl), (Nat.le_of_ble_eq_true rfl)⟩) rfl rfl rfl (Nat.le_of_ble_eq_true rfl) dX0_addDoor_57 ⟨Nat.zero_le _, Nat.zero_le _⟩ ?_
  refine g_aload_n E dX0_addDoor_60 rfl rfl ?_
  refine g_getI E inX0_addDoor rfl flX0_addDoor_78 dX0_addDoor_61 (by decide) rfl rfl ?_
  refine g_istore E (lv' := [_, _, _, _, _, _]) dX0_addDoor_64 (Nat.le_of_ble_eq_true rfl) rfl ?_
  refine g_aload_n E dX0_addDoor_66 rfl rfl ?_
  refine g_getR E inX0_addDoor rfl flX0_addDoor_25 dX0_addDoor_67 (by decide) rfl ?_
  refine g_iload E dX0_addDoor_70 rfl ?_
  refine g_iload_n E dX0_addDoor_72 rfl rfl ?_
  refine g_ast E (A' := [_, _, _, _, _, _, _, _, _, _, _, _, _, _]) dX0_addDoor_73 rfl rfl rfl (by omega) rfl ?_
  refine g_aload_n E dX0_addDoor_74 rfl rfl ?_
  refine g_getR E inX0_addDoor rfl flX0_addDoor_28 dX0_addDoor_75 (by decide) rfl ?_
  refine g_iload E dX0_addDoor_78 rfl ?_
  refine g_iload_n E dX0_addDoor_80 rfl rfl ?_
  refine g_ast E (A' := [_, _, _, _, _, _, _, _, _, _, _, _, _, _]) dX0_addDoor_81 rfl rfl rfl (by omega) rfl ?_
  refine g_aload_n E dX0_addDoor_82 rfl rfl ?_
  refine g_getR E inX0_addDoor rfl flX0_addDoor_31 dX0_addDoor_83 (by decide) rfl ?_
  refine g_iload E dX0_addDoor_86 rfl ?_
  refine g_iload_n E dX0_addDoor_88 rfl rfl ?_
  refine g_ast E (A' := [_, _, _, _, _, _, _, _, _, _, _, _, _, _]) dX0_addDoor_89 rfl rfl rfl (by omega) rfl ?_
  refine g_aload_n E dX0_addDoor_90 rfl rfl ?_
  refine g_getR E inX0_addDoor rfl flX0_addDoor_34 dX0_addDoor_91 (by decide) rfl ?_
  refine g_iload E dX0_addDoor_94 rfl ?_
  refine g_iload E dX0_addDoor_96 rfl ?_
  refine g_ast E (A' := [_, _, _, _, _, _, _, _, _, _, _, _, _, _]) dX0_addDoor_98 rfl rfl rfl (by omega) rfl ?_
  refine g_aload_n E dX0_addDoor_99 rfl rfl ?_
  refine g_getR E inX0_addDoor rfl flX0_addDoor_37 dX0_addDoor_100 (by decide) rfl ?_
  refine g_iload E dX0_addDoor_103 rfl ?_
  refine g_iconst E dX0_addDoor_105 ?_
  refine g_zst E (A' := [_, _, _, _, _, _, _, _, _, _, _, _, _, _]) dX0_addDoor_106 rfl rfl rfl (by omega) (Or.inr rfl) rfl ?_
  refine g_aload_n E dX0_addDoor_107 rfl rfl ?_
  refine g_dup E dX0_addDoor_108 rfl ?_
  refine g_getI E inX0_addDoor rfl flX0_addDoor_78 dX0_addDoor_109 (by decide) rfl rfl ?_
  refine g_iconst E dX0_addDoor_112 ?_
  refine g_iadd E dX0_addDoor_113 ?_
  refine g_putI E (F' := [_, _, _, _, _]) inX0_addDoor rfl flX0_addDoor_78 dX0_addDoor_114 tyX0_ok nmX0 (by decide) rfl (by decide) rfl (by decide +kernel) (Nat.le_of_ble_eq_true rfl) rfl ?_
  refine g_aload_n E dX0_addDoor_117 rfl rfl ?_
  refine g_callV0 E (cX_findWays (Dn := Dn + 1) hP (by omega) hs3 hs4 (gu_B hs9 (by omega)) q5 q6) (cwV 0 hts gX0_addDoor_X0_findWays rfl rfl rfl hdX0_findWays ⟨(Nat.le_of_ble_eq_true rfl), (Nat.le_of_ble_eq_true rfl)⟩) rfl rfl rfl (Nat.le_of_ble_eq_true rfl) gW_0 rfl dX0_addDoor_118 ⟨Nat.zero_le _, Nat.zero_le _⟩ ?_
  refine g_iload E dX0_addDoor_121 rfl ?_
  exact g_ri rfl hret dX0_addDoor_123
set_option maxHeartbeats 4000000 in
set_option maxRecDepth 100000 in
theorem cX_setDoor {l : Launch} {D : va_G} {cI cZ : ClassId} {q : Nat} {r : Nat → Nat} {P Dn : Nat} {t la wa : Int} {f0 f1 f2 f3 f4 f5 f6 f7 f8 f9 f10 f11 f12 f13 : Nat → Int} {i : Nat} {o : Int} (hP : 1 ≤ P ∧ P ≤ 11) (hDn : Dn ≤ 16) (hi : i < Dn) (ho : o = 0 ∨ o = 1) (ho9 : f9 i = 0 ∨ f9 i = 1) (hs3 : ∀ j : Nat, -2147483648 ≤ f3 j ∧ f3 j < 2147483648) (hs4 : ∀ j : Nat, -2147483648 ≤ f4 j ∧ f4 j < 2147483648) (hs9 : ∀ j : Nat, -2147483648 ≤ f9 j ∧ f9 j < 2147483648) (he5 : ∀ j : Nat, j < Dn → 0 ≤ f5 j ∧ f5 j < P) (he6 : ∀ j : Nat, j < Dn → 0 ≤ f6 j ∧ f6 j < P) : gMI l yX0_setDoor wsX0_setDoor 6 D (gTy cI cZ) (gX cI cZ q r [(P : Int), (Dn : Int), t, la, wa] [f0, f1, f2, f3, f4, f5, f6, f7, f8, f9, f10, f11, f12, f13]) [.ref q, .int (iI (i : Int)), .int (iI o)] (f9 i) (gX cI cZ q r [(P : Int), (Dn : Int), t, la, wa] [f0, f1, f2, (pDist f5 f6 (gu f9 i o) P Dn f3), (pWays f5 f6 (gu f9 i o) (pDist f5 f6 (gu f9 i o) P Dn f3) P Dn (f4, f11, f12)).1, f5, f6, f7, f8, (gu f9 i o), f10, (pWays f5 f6 (gu f9 i o) (pDist f5 f6 (gu f9 i o) P Dn f3) P Dn (f4, f11, f12)).2.1, (pWays f5 f6 (gu f9 i o) (pDist f5 f6 (gu f9 i o) P Dn f3) P Dn (f4, f11, f12)).2.2, f13]) := by
  refine g_ofI (by decide +kernel) rfl rfl (Nat.le_of_ble_eq_true rfl) (g_cat1 rfl) (g_narZ (by omega)) ?_
  intro p e s m args below meth c Q A0 E hret
  have hts := E.1.2.2.2.2
  show gJ p l e (gR 6) s m args below meth c 0 0 Q A0 D (gX cI cZ q r [(P : Int), (Dn : Int), t, la, wa] [f0, f1, f2, f3, f4, f5, f6, f7, f8, f9, f10, f11, f12, f13]) [some (.ref q), some (.int (iI (i : Int))), some (.int (iI o)), none] 0 []
  refine g_aload_n E dX0_setDoor_0 rfl rfl ?_
  refine g_iload_n E dX0_setDoor_1 rfl rfl ?_
  refine g_callV0 E (cX_requireDoor (by omega) hDn) (cwV 1 hts gX0_setDoor_X0_requireDoor rfl rfl rfl hdX0_requireDoor ⟨(Nat.le_of_ble_eq_true rfl), (Nat.le_of_ble_eq_true rfl)⟩) rfl rfl rfl (Nat.le_of_ble_eq_true rfl) gW_0 rfl dX0_setDoor_2 ⟨Nat.zero_le _, Nat.zero_le _⟩ ?_
  refine g_aload_n E dX0_setDoor_5 rfl rfl ?_
  refine g_getR E inX0_setDoor rfl flX0_setDoor_37 dX0_setDoor_6 (by decide) rfl ?_
  refine g_iload_n E dX0_setDoor_9 rfl rfl ?_
  refine g_zld E dX0_setDoor_10 rfl rfl rfl (by omega) ?_
  refine g_istore_n E (lv' := [_, _, _, _]) dX0_setDoor_11 rfl (Nat.le_of_ble_eq_true rfl) rfl ?_
  refine g_aload_n E dX0_setDoor_12 rfl rfl ?_
  refine g_getR E inX0_setDoor rfl flX0_setDoor_37 dX0_setDoor_13 (by decide) rfl ?_
  refine g_iload_n E dX0_setDoor_16 rfl rfl ?_
  refine g_iload_n E dX0_setDoor_17 rfl rfl ?_
  refine g_zst E (A' := [_, _, _, _, _, _, _, _, _, _, _, _, _, _]) dX0_setDoor_18 rfl rfl rfl (by omega) ho rfl ?_
  refine g_aload_n E dX0_setDoor_19 rfl rfl ?_
  refine g_callV0 E (cX_findWays hP hDn hs3 hs4 (gu_B hs9 (by omega)) he5 he6) (cwV 0 hts gX0_setDoor_X0_findWays rfl rfl rfl hdX0_findWays ⟨(Nat.le_of_ble_eq_true rfl), (Nat.le_of_ble_eq_true rfl)⟩) rfl rfl rfl (Nat.le_of_ble_eq_true rfl) gW_0 rfl dX0_setDoor_20 ⟨Nat.zero_le _, Nat.zero_le _⟩ ?_
  refine g_iload_n E dX0_setDoor_23 rfl rfl ?_
  exact g_ri rfl hret dX0_setDoor_24
set_option maxHeartbeats 4000000 in
set_option maxRecDepth 100000 in
theorem cX_come {l : Launch} {D : va_G} {cI cZ : ClassId} {q : Nat} {r : Nat → Nat} {P Dn : Nat} {t la wa : Int} {f0 f1 f2 f3 f4 f5 f6 f7 f8 f9 f10 f11 f12 f13 : Nat → Int} {i : Nat} {n : Int} (hP : 1 ≤ P ∧ P ≤ 11) (hi : 1 ≤ i ∧ i < P) (hn : 1 ≤ n ∧ n ≤ 30) (hf : 0 ≤ f1 i ∧ f1 i ≤ f0 i ∧ f0 i ≤ 30) (hle : f1 i + n ≤ f0 i) : gMI l yX0_come wsX0_come 6 D (gTy cI cZ) (gX cI cZ q r [(P : Int), (Dn : Int), t, la, wa] [f0, f1, f2, f3, f4, f5, f6, f7, f8, f9, f10, f11, f12, f13]) [.ref q, .int (iI (i : Int)), .int (iI n)] (f1 i + n) (gX cI cZ q r [(P : Int), (Dn : Int), t, la, wa] [f0, (gu f1 i (f1 i + n)), f2, f3, f4, f5, f6, f7, f8, f9, f10, f11, f12, f13]) := by
  refine g_ofI (by decide +kernel) rfl rfl (Nat.le_of_ble_eq_true rfl) (g_cat1 rfl) rfl ?_
  intro p e s m args below meth c Q A0 E hret
  have hts := E.1.2.2.2.2
  show gJ p l e (gR 6) s m args below meth c 0 0 Q A0 D (gX cI cZ q r [(P : Int), (Dn : Int), t, la, wa] [f0, f1, f2, f3, f4, f5, f6, f7, f8, f9, f10, f11, f12, f13]) [some (.ref q), some (.int (iI (i : Int))), some (.int (iI n))] 0 []
  have e9 : pRoom f0 f1 i = f0 i - f1 i := if_neg (by omega)
  refine g_aload_n E dX0_come_0 rfl rfl ?_
  refine g_iload_n E dX0_come_1 rfl rfl ?_
  refine g_callV0 E (cX_requirePlace (by omega) (by omega)) (cwV 1 hts gX0_come_X0_requirePlace rfl rfl rfl hdX0_requirePlace ⟨(Nat.le_of_ble_eq_true rfl), (Nat.le_of_ble_eq_true rfl)⟩) rfl rfl rfl (Nat.le_of_ble_eq_true rfl) gW_0 rfl dX0_come_2 ⟨Nat.zero_le _, Nat.zero_le _⟩ ?_
  refine g_iload_n E dX0_come_5 rfl rfl ?_
  refine g_if_eq_f E dX0_come_6 (tgt := 23) (by decide) (by omega) (by omega) ?_
  refine g_iload_n E dX0_come_9 rfl rfl ?_
  refine g_iconst E dX0_come_10 ?_
  refine g_bipush E dX0_come_11 (by decide) ?_
  refine g_callSI E (cX_isBetween (rv := 1) (by omega) (Or.inl ⟨rfl, by omega, by omega⟩)) (va_cwS 3 hts gX0_come_X0_isBetween rfl rfl rfl hdX0_isBetween.2 ⟨(Nat.le_of_ble_eq_true rfl), (Nat.le_of_ble_eq_true rfl)⟩) rfl rfl rfl (Nat.le_of_ble_eq_true rfl) dX0_come_13 ⟨Nat.zero_le _, Nat.zero_le _⟩ ?_
  refine g_if_eq_f E dX0_come_16 (tgt := 23) (by decide) (by omega) (by omega) ?_
  refine g_iconst E dX0_come_19 ?_
  refine g_goto E dX0_come_20 (tgt := 24) (by decide) ?_
  refine g_callSV E (cX_requireArgument rfl) (va_cwS 1 hts gX0_come_X0_requireArgument rfl rfl rfl hdX0_requireArgument.2 ⟨(Nat.le_of_ble_eq_true rfl), (Nat.le_of_ble_eq_true rfl)⟩) rfl rfl rfl (Nat.le_of_ble_eq_true rfl) dX0_come_24 ⟨Nat.zero_le _, Nat.zero_le _⟩ ?_
  refine g_iload_n E dX0_come_27 rfl rfl ?_
  refine g_aload_n E dX0_come_28 rfl rfl ?_
  refine g_iload_n E dX0_come_29 rfl rfl ?_
  refine g_callI0 E (cX_roomLeft (i := i) ⟨rfl, by omega⟩ rfl) (cwV 1 hts gX0_come_X0_roomLeft rfl rfl rfl hdX0_roomLeft ⟨(Nat.le_of_ble_eq_true rfl), (Nat.le_of_ble_eq_true rfl)⟩) rfl rfl rfl (Nat.le_of_ble_eq_true rfl) gW_0 rfl dX0_come_30 ⟨Nat.zero_le _, Nat.zero_le _⟩ ?_
  refine g_icmp_gt_f E dX0_come_33 (tgt := 40) (by decide) (by omega) (by omega) ?_
  refine g_iconst E dX0_come_36 ?_
  refine g_goto E dX0_come_37 (tgt := 41) (by decide) ?_
  refine g_callSV E (cX_requireState rfl) (va_cwS 1 hts gX0_come_X0_requireState rfl rfl rfl hdX0_requireState.2 ⟨(Nat.le_of_ble_eq_true rfl), (Nat.le_of_ble_eq_true rfl)⟩) rfl rfl rfl (Nat.le_of_ble_eq_true rfl) dX0_come_41 ⟨Nat.zero_le _, Nat.zero_le _⟩ ?_
  refine g_aload_n E dX0_come_44 rfl rfl ?_
  refine g_getR E inX0_come rfl flX0_come_13 dX0_come_45 (by decide) rfl ?_
  refine g_iload_n E dX0_come_48 rfl rfl ?_
  refine g_dup2 E dX0_come_49 rfl rfl ?_
  refine g_ald E dX0_come_50 rfl rfl rfl (by omega) ?_
  refine g_iload_n E dX0_come_51 rfl rfl ?_
  refine g_iadd E dX0_come_52 ?_
  refine g_ast E (A' := [_, _, _, _, _, _, _, _, _, _, _, _, _, _]) dX0_come_53 rfl rfl rfl (by omega) rfl ?_
  refine g_aload_n E dX0_come_54 rfl rfl ?_
  refine g_getR E inX0_come rfl flX0_come_13 dX0_come_55 (by decide) rfl ?_
  refine g_iload_n E dX0_come_58 rfl rfl ?_
  refine g_ald E dX0_come_59 rfl rfl rfl (by omega) ?_
  exact g_ri (gu_s _ _ _) hret dX0_come_60
set_option maxHeartbeats 4000000 in
set_option maxRecDepth 100000 in
theorem cX_setRelease {l : Launch} {D : va_G} {cI cZ : ClassId} {q : Nat} {r : Nat → Nat} {P Dn : Nat} {t la wa : Int} {f0 f1 f2 f3 f4 f5 f6 f7 f8 f9 f10 f11 f12 f13 : Nat → Int} {i : Nat} {n : Int} (hP : 1 ≤ P ∧ P ≤ 11) (hi : i < P) (hn : 0 ≤ n ∧ n ≤ 1000) : gMI l yX0_setRelease wsX0_setRelease 6 D (gTy cI cZ) (gX cI cZ q r [(P : Int), (Dn : Int), t, la, wa] [f0, f1, f2, f3, f4, f5, f6, f7, f8, f9, f10, f11, f12, f13]) [.ref q, .int (iI (i : Int)), .int (iI n)] (f2 i) (gX cI cZ q r [(P : Int), (Dn : Int), t, la, wa] [f0, f1, (gu f2 i n), f3, f4, f5, f6, f7, f8, f9, f10, f11, f12, f13]) := by
  refine g_ofI (by decide +kernel) rfl rfl (Nat.le_of_ble_eq_true rfl) (g_cat1 rfl) rfl ?_
  intro p e s m args below meth c Q A0 E hret
  have hts := E.1.2.2.2.2
  show gJ p l e (gR 6) s m args below meth c 0 0 Q A0 D (gX cI cZ q r [(P : Int), (Dn : Int), t, la, wa] [f0, f1, f2, f3, f4, f5, f6, f7, f8, f9, f10, f11, f12, f13]) [some (.ref q), some (.int (iI (i : Int))), some (.int (iI n)), none] 0 []
  refine g_aload_n E dX0_setRelease_0 rfl rfl ?_
  refine g_iload_n E dX0_setRelease_1 rfl rfl ?_
  refine g_callV0 E (cX_requirePlace (by omega) (by omega)) (cwV 1 hts gX0_setRelease_X0_requirePlace rfl rfl rfl hdX0_requirePlace ⟨(Nat.le_of_ble_eq_true rfl), (Nat.le_of_ble_eq_true rfl)⟩) rfl rfl rfl (Nat.le_of_ble_eq_true rfl) gW_0 rfl dX0_setRelease_2 ⟨Nat.zero_le _, Nat.zero_le _⟩ ?_
  refine g_iload_n E dX0_setRelease_5 rfl rfl ?_
  refine g_iconst E dX0_setRelease_6 ?_
  refine g_sipush E dX0_setRelease_7 (by decide) ?_
  refine g_callSI E (cX_isBetween (rv := 1) (by omega) (Or.inl ⟨rfl, by omega, by omega⟩)) (va_cwS 3 hts gX0_setRelease_X0_isBetween rfl rfl rfl hdX0_isBetween.2 ⟨(Nat.le_of_ble_eq_true rfl), (Nat.le_of_ble_eq_true rfl)⟩) rfl rfl rfl (Nat.le_of_ble_eq_true rfl) dX0_setRelease_10 ⟨Nat.zero_le _, Nat.zero_le _⟩ ?_
  refine g_callSV E (cX_requireArgument rfl) (va_cwS 1 hts gX0_setRelease_X0_requireArgument rfl rfl rfl hdX0_requireArgument.2 ⟨(Nat.le_of_ble_eq_true rfl), (Nat.le_of_ble_eq_true rfl)⟩) rfl rfl rfl (Nat.le_of_ble_eq_true rfl) dX0_setRelease_13 ⟨Nat.zero_le _, Nat.zero_le _⟩ ?_
  refine g_aload_n E dX0_setRelease_16 rfl rfl ?_
  refine g_getR E inX0_setRelease rfl flX0_setRelease_16 dX0_setRelease_17 (by decide) rfl ?_
  refine g_iload_n E dX0_setRelease_20 rfl rfl ?_
  refine g_ald E dX0_setRelease_21 rfl rfl rfl (by omega) ?_
  refine g_istore_n E (lv' := [_, _, _, _]) dX0_setRelease_22 rfl (Nat.le_of_ble_eq_true rfl) rfl ?_
  refine g_aload_n E dX0_setRelease_23 rfl rfl ?_
  refine g_getR E inX0_setRelease rfl flX0_setRelease_16 dX0_setRelease_24 (by decide) rfl ?_
  refine g_iload_n E dX0_setRelease_27 rfl rfl ?_
  refine g_iload_n E dX0_setRelease_28 rfl rfl ?_
  refine g_ast E (A' := [_, _, _, _, _, _, _, _, _, _, _, _, _, _]) dX0_setRelease_29 rfl rfl rfl (by omega) rfl ?_
  refine g_iload_n E dX0_setRelease_30 rfl rfl ?_
  exact g_ri rfl hret dX0_setRelease_31
set_option maxHeartbeats 4000000 in
set_option maxRecDepth 100000 in
theorem cX_places {l : Launch} {D : va_G} {cI cZ : ClassId} {q : Nat} {r : Nat → Nat} {P Dn : Nat} {t la wa : Int} {f0 f1 f2 f3 f4 f5 f6 f7 f8 f9 f10 f11 f12 f13 : Nat → Int}  : gMI l yX0_places wsX0_places 6 D (gTy cI cZ) (gX cI cZ q r [(P : Int), (Dn : Int), t, la, wa] [f0, f1, f2, f3, f4, f5, f6, f7, f8, f9, f10, f11, f12, f13]) [.ref q] (P : Int) (gX cI cZ q r [(P : Int), (Dn : Int), t, la, wa] [f0, f1, f2, f3, f4, f5, f6, f7, f8, f9, f10, f11, f12, f13]) := by
  refine g_ofI (by decide +kernel) rfl rfl (Nat.le_of_ble_eq_true rfl) (g_cat1 rfl) rfl ?_
  intro p e s m args below meth c Q A0 E hret
  have hts := E.1.2.2.2.2
  show gJ p l e (gR 6) s m args below meth c 0 0 Q A0 D (gX cI cZ q r [(P : Int), (Dn : Int), t, la, wa] [f0, f1, f2, f3, f4, f5, f6, f7, f8, f9, f10, f11, f12, f13]) [some (.ref q)] 0 []
  refine g_aload_n E dX0_places_0 rfl rfl ?_
  refine g_getI E inX0_places rfl flX0_places_53 dX0_places_1 (by decide) rfl rfl ?_
  exact g_ri rfl hret dX0_places_4
set_option maxHeartbeats 4000000 in
set_option maxRecDepth 100000 in
theorem cX_doors {l : Launch} {D : va_G} {cI cZ : ClassId} {q : Nat} {r : Nat → Nat} {P Dn : Nat} {t la wa : Int} {f0 f1 f2 f3 f4 f5 f6 f7 f8 f9 f10 f11 f12 f13 : Nat → Int}  : gMI l yX0_doors wsX0_doors 6 D (gTy cI cZ) (gX cI cZ q r [(P : Int), (Dn : Int), t, la, wa] [f0, f1, f2, f3, f4, f5, f6, f7, f8, f9, f10, f11, f12, f13]) [.ref q] (Dn : Int) (gX cI cZ q r [(P : Int), (Dn : Int), t, la, wa] [f0, f1, f2, f3, f4, f5, f6, f7, f8, f9, f10, f11, f12, f13]) := by
  refine g_ofI (by decide +kernel) rfl rfl (Nat.le_of_ble_eq_true rfl) (g_cat1 rfl) rfl ?_
  intro p e s m args below meth c Q A0 E hret
  have hts := E.1.2.2.2.2
  show gJ p l e (gR 6) s m args below meth c 0 0 Q A0 D (gX cI cZ q r [(P : Int), (Dn : Int), t, la, wa] [f0, f1, f2, f3, f4, f5, f6, f7, f8, f9, f10, f11, f12, f13]) [some (.ref q)] 0 []
  refine g_aload_n E dX0_doors_0 rfl rfl ?_
  refine g_getI E inX0_doors rfl flX0_doors_78 dX0_doors_1 (by decide) rfl rfl ?_
  exact g_ri rfl hret dX0_doors_4
set_option maxHeartbeats 4000000 in
set_option maxRecDepth 100000 in
theorem cX_now {l : Launch} {D : va_G} {cI cZ : ClassId} {q : Nat} {r : Nat → Nat} {P Dn : Nat} {t la wa : Int} {f0 f1 f2 f3 f4 f5 f6 f7 f8 f9 f10 f11 f12 f13 : Nat → Int}  : gMI l yX0_now wsX0_now 6 D (gTy cI cZ) (gX cI cZ q r [(P : Int), (Dn : Int), t, la, wa] [f0, f1, f2, f3, f4, f5, f6, f7, f8, f9, f10, f11, f12, f13]) [.ref q] t (gX cI cZ q r [(P : Int), (Dn : Int), t, la, wa] [f0, f1, f2, f3, f4, f5, f6, f7, f8, f9, f10, f11, f12, f13]) := by
  refine g_ofI (by decide +kernel) rfl rfl (Nat.le_of_ble_eq_true rfl) (g_cat1 rfl) rfl ?_
  intro p e s m args below meth c Q A0 E hret
  have hts := E.1.2.2.2.2
  show gJ p l e (gR 6) s m args below meth c 0 0 Q A0 D (gX cI cZ q r [(P : Int), (Dn : Int), t, la, wa] [f0, f1, f2, f3, f4, f5, f6, f7, f8, f9, f10, f11, f12, f13]) [some (.ref q)] 0 []
  refine g_aload_n E dX0_now_0 rfl rfl ?_
  refine g_getI E inX0_now rfl flX0_now_99 dX0_now_1 (by decide) rfl rfl ?_
  exact g_ri rfl hret dX0_now_4
set_option maxHeartbeats 4000000 in
set_option maxRecDepth 100000 in
theorem cX_waited {l : Launch} {D : va_G} {cI cZ : ClassId} {q : Nat} {r : Nat → Nat} {P Dn : Nat} {t la wa : Int} {f0 f1 f2 f3 f4 f5 f6 f7 f8 f9 f10 f11 f12 f13 : Nat → Int}  : gMI l yX0_waited wsX0_waited 6 D (gTy cI cZ) (gX cI cZ q r [(P : Int), (Dn : Int), t, la, wa] [f0, f1, f2, f3, f4, f5, f6, f7, f8, f9, f10, f11, f12, f13]) [.ref q] wa (gX cI cZ q r [(P : Int), (Dn : Int), t, la, wa] [f0, f1, f2, f3, f4, f5, f6, f7, f8, f9, f10, f11, f12, f13]) := by
  refine g_ofI (by decide +kernel) rfl rfl (Nat.le_of_ble_eq_true rfl) (g_cat1 rfl) rfl ?_
  intro p e s m args below meth c Q A0 E hret
  have hts := E.1.2.2.2.2
  show gJ p l e (gR 6) s m args below meth c 0 0 Q A0 D (gX cI cZ q r [(P : Int), (Dn : Int), t, la, wa] [f0, f1, f2, f3, f4, f5, f6, f7, f8, f9, f10, f11, f12, f13]) [some (.ref q)] 0 []
  refine g_aload_n E dX0_waited_0 rfl rfl ?_
  refine g_getI E inX0_waited rfl flX0_waited_105 dX0_waited_1 (by decide) rfl rfl ?_
  exact g_ri rfl hret dX0_waited_4
set_option maxHeartbeats 4000000 in
set_option maxRecDepth 100000 in
theorem cX_people {l : Launch} {D : va_G} {cI cZ : ClassId} {q : Nat} {r : Nat → Nat} {P Dn : Nat} {t la wa : Int} {f0 f1 f2 f3 f4 f5 f6 f7 f8 f9 f10 f11 f12 f13 : Nat → Int} {i : Nat} (hP : 1 ≤ P ∧ P ≤ 11) (hi : i < P) : gMI l yX0_people wsX0_people 6 D (gTy cI cZ) (gX cI cZ q r [(P : Int), (Dn : Int), t, la, wa] [f0, f1, f2, f3, f4, f5, f6, f7, f8, f9, f10, f11, f12, f13]) [.ref q, .int (iI (i : Int))] (f1 i) (gX cI cZ q r [(P : Int), (Dn : Int), t, la, wa] [f0, f1, f2, f3, f4, f5, f6, f7, f8, f9, f10, f11, f12, f13]) := by
  refine g_ofI (by decide +kernel) rfl rfl (Nat.le_of_ble_eq_true rfl) (g_cat1 rfl) rfl ?_
  intro p e s m args below meth c Q A0 E hret
  have hts := E.1.2.2.2.2
  show gJ p l e (gR 6) s m args below meth c 0 0 Q A0 D (gX cI cZ q r [(P : Int), (Dn : Int), t, la, wa] [f0, f1, f2, f3, f4, f5, f6, f7, f8, f9, f10, f11, f12, f13]) [some (.ref q), some (.int (iI (i : Int)))] 0 []
  refine g_aload_n E dX0_people_0 rfl rfl ?_
  refine g_iload_n E dX0_people_1 rfl rfl ?_
  refine g_callV0 E (cX_requirePlace (by omega) (by omega)) (cwV 1 hts gX0_people_X0_requirePlace rfl rfl rfl hdX0_requirePlace ⟨(Nat.le_of_ble_eq_true rfl), (Nat.le_of_ble_eq_true rfl)⟩) rfl rfl rfl (Nat.le_of_ble_eq_true rfl) gW_0 rfl dX0_people_2 ⟨Nat.zero_le _, Nat.zero_le _⟩ ?_
  refine g_aload_n E dX0_people_5 rfl rfl ?_
  refine g_getR E inX0_people rfl flX0_people_13 dX0_people_6 (by decide) rfl ?_
  refine g_iload_n E dX0_people_9 rfl rfl ?_
  refine g_ald E dX0_people_10 rfl rfl rfl (by omega) ?_
  exact g_ri rfl hret dX0_people_11
set_option maxHeartbeats 4000000 in
set_option maxRecDepth 100000 in
theorem cX_passed {l : Launch} {D : va_G} {cI cZ : ClassId} {q : Nat} {r : Nat → Nat} {P Dn : Nat} {t la wa : Int} {f0 f1 f2 f3 f4 f5 f6 f7 f8 f9 f10 f11 f12 f13 : Nat → Int} {i : Nat} (hDn : Dn ≤ 16) (hi : i < Dn) : gMI l yX0_passed wsX0_passed 6 D (gTy cI cZ) (gX cI cZ q r [(P : Int), (Dn : Int), t, la, wa] [f0, f1, f2, f3, f4, f5, f6, f7, f8, f9, f10, f11, f12, f13]) [.ref q, .int (iI (i : Int))] (f10 i) (gX cI cZ q r [(P : Int), (Dn : Int), t, la, wa] [f0, f1, f2, f3, f4, f5, f6, f7, f8, f9, f10, f11, f12, f13]) := by
  refine g_ofI (by decide +kernel) rfl rfl (Nat.le_of_ble_eq_true rfl) (g_cat1 rfl) rfl ?_
  intro p e s m args below meth c Q A0 E hret
  have hts := E.1.2.2.2.2
  show gJ p l e (gR 6) s m args below meth c 0 0 Q A0 D (gX cI cZ q r [(P : Int), (Dn : Int), t, la, wa] [f0, f1, f2, f3, f4, f5, f6, f7, f8, f9, f10, f11, f12, f13]) [some (.ref q), some (.int (iI (i : Int)))] 0 []
  refine g_aload_n E dX0_passed_0 rfl rfl ?_
  refine g_iload_n E dX0_passed_1 rfl rfl ?_
  refine g_callV0 E (cX_requireDoor (by omega) hDn) (cwV 1 hts gX0_passed_X0_requireDoor rfl rfl rfl hdX0_requireDoor ⟨(Nat.le_of_ble_eq_true rfl), (Nat.le_of_ble_eq_true rfl)⟩) rfl rfl rfl (Nat.le_of_ble_eq_true rfl) gW_0 rfl dX0_passed_2 ⟨Nat.zero_le _, Nat.zero_le _⟩ ?_
  refine g_aload_n E dX0_passed_5 rfl rfl ?_
  refine g_getR E inX0_passed rfl flX0_passed_41 dX0_passed_6 (by decide) rfl ?_
  refine g_iload_n E dX0_passed_9 rfl rfl ?_
  refine g_ald E dX0_passed_10 rfl rfl rfl (by omega) ?_
  exact g_ri rfl hret dX0_passed_11
set_option maxHeartbeats 4000000 in
set_option maxRecDepth 100000 in
theorem cX_latest {l : Launch} {D : va_G} {cI cZ : ClassId} {q : Nat} {r : Nat → Nat} {P Dn : Nat} {t la wa : Int} {f0 f1 f2 f3 f4 f5 f6 f7 f8 f9 f10 f11 f12 f13 : Nat → Int} (hla : -2147483648 ≤ la ∧ la < 2147483648) (hne : la ≠ -1) : gMI l yX0_latest wsX0_latest 6 D (gTy cI cZ) (gX cI cZ q r [(P : Int), (Dn : Int), t, la, wa] [f0, f1, f2, f3, f4, f5, f6, f7, f8, f9, f10, f11, f12, f13]) [.ref q] la (gX cI cZ q r [(P : Int), (Dn : Int), t, la, wa] [f0, f1, f2, f3, f4, f5, f6, f7, f8, f9, f10, f11, f12, f13]) := by
  refine g_ofI (by decide +kernel) rfl rfl (Nat.le_of_ble_eq_true rfl) (g_cat1 rfl) rfl ?_
  intro p e s m args below meth c Q A0 E hret
  have hts := E.1.2.2.2.2
  show gJ p l e (gR 6) s m args below meth c 0 0 Q A0 D (gX cI cZ q r [(P : Int), (Dn : Int), t, la, wa] [f0, f1, f2, f3, f4, f5, f6, f7, f8, f9, f10, f11, f12, f13]) [some (.ref q)] 0 []
  refine g_aload_n E dX0_latest_0 rfl rfl ?_
  refine g_getI E inX0_latest rfl flX0_latest_57 dX0_latest_1 (by decide) rfl rfl ?_
  refine g_iconst E dX0_latest_4 ?_
  refine g_icmp_eq_f E dX0_latest_5 (tgt := 12) (by decide) (by omega) (by omega) ?_
  refine g_iconst E dX0_latest_8 ?_
  refine g_goto E dX0_latest_9 (tgt := 13) (by decide) ?_
  refine g_callSV E (cX_requireElement rfl) (va_cwS 1 hts gX0_latest_X0_requireElement rfl rfl rfl hdX0_requireElement.2 ⟨(Nat.le_of_ble_eq_true rfl), (Nat.le_of_ble_eq_true rfl)⟩) rfl rfl rfl (Nat.le_of_ble_eq_true rfl) dX0_latest_13 ⟨Nat.zero_le _, Nat.zero_le _⟩ ?_
  refine g_aload_n E dX0_latest_16 rfl rfl ?_
  refine g_getI E inX0_latest rfl flX0_latest_57 dX0_latest_17 (by decide) rfl rfl ?_
  exact g_ri rfl hret dX0_latest_20
set_option maxHeartbeats 4000000 in
set_option maxRecDepth 100000 in
theorem cX_distance {l : Launch} {D : va_G} {cI cZ : ClassId} {q : Nat} {r : Nat → Nat} {P Dn : Nat} {t la wa : Int} {f0 f1 f2 f3 f4 f5 f6 f7 f8 f9 f10 f11 f12 f13 : Nat → Int} {i : Nat} (hP : 1 ≤ P ∧ P ≤ 11) (hi : i < P) (hs3 : ∀ j : Nat, -2147483648 ≤ f3 j ∧ f3 j < 2147483648) (hne : f3 i ≠ -1) : gMI l yX0_distance wsX0_distance 6 D (gTy cI cZ) (gX cI cZ q r [(P : Int), (Dn : Int), t, la, wa] [f0, f1, f2, f3, f4, f5, f6, f7, f8, f9, f10, f11, f12, f13]) [.ref q, .int (iI (i : Int))] (f3 i) (gX cI cZ q r [(P : Int), (Dn : Int), t, la, wa] [f0, f1, f2, f3, f4, f5, f6, f7, f8, f9, f10, f11, f12, f13]) := by
  refine g_ofI (by decide +kernel) rfl rfl (Nat.le_of_ble_eq_true rfl) (g_cat1 rfl) rfl ?_
  intro p e s m args below meth c Q A0 E hret
  have hts := E.1.2.2.2.2
  show gJ p l e (gR 6) s m args below meth c 0 0 Q A0 D (gX cI cZ q r [(P : Int), (Dn : Int), t, la, wa] [f0, f1, f2, f3, f4, f5, f6, f7, f8, f9, f10, f11, f12, f13]) [some (.ref q), some (.int (iI (i : Int)))] 0 []
  have h3 := hs3 i
  refine g_aload_n E dX0_distance_0 rfl rfl ?_
  refine g_iload_n E dX0_distance_1 rfl rfl ?_
  refine g_callV0 E (cX_requirePlace (by omega) (by omega)) (cwV 1 hts gX0_distance_X0_requirePlace rfl rfl rfl hdX0_requirePlace ⟨(Nat.le_of_ble_eq_true rfl), (Nat.le_of_ble_eq_true rfl)⟩) rfl rfl rfl (Nat.le_of_ble_eq_true rfl) gW_0 rfl dX0_distance_2 ⟨Nat.zero_le _, Nat.zero_le _⟩ ?_
  refine g_aload_n E dX0_distance_5 rfl rfl ?_
  refine g_getR E inX0_distance rfl flX0_distance_19 dX0_distance_6 (by decide) rfl ?_
  refine g_iload_n E dX0_distance_9 rfl rfl ?_
  refine g_ald E dX0_distance_10 rfl rfl rfl (by omega) ?_
  refine g_iconst E dX0_distance_11 ?_
  refine g_icmp_eq_f E dX0_distance_12 (tgt := 19) (by decide) (by omega) (by omega) ?_
  refine g_iconst E dX0_distance_15 ?_
  refine g_goto E dX0_distance_16 (tgt := 20) (by decide) ?_
  refine g_callSV E (cX_requireElement rfl) (va_cwS 1 hts gX0_distance_X0_requireElement rfl rfl rfl hdX0_requireElement.2 ⟨(Nat.le_of_ble_eq_true rfl), (Nat.le_of_ble_eq_true rfl)⟩) rfl rfl rfl (Nat.le_of_ble_eq_true rfl) dX0_distance_20 ⟨Nat.zero_le _, Nat.zero_le _⟩ ?_
  refine g_aload_n E dX0_distance_23 rfl rfl ?_
  refine g_getR E inX0_distance rfl flX0_distance_19 dX0_distance_24 (by decide) rfl ?_
  refine g_iload_n E dX0_distance_27 rfl rfl ?_
  refine g_ald E dX0_distance_28 rfl rfl rfl (by omega) ?_
  exact g_ri rfl hret dX0_distance_29
set_option maxHeartbeats 4000000 in
set_option maxRecDepth 100000 in
theorem cX_door {l : Launch} {D : va_G} {cI cZ : ClassId} {q : Nat} {r : Nat → Nat} {P Dn : Nat} {t la wa : Int} {f0 f1 f2 f3 f4 f5 f6 f7 f8 f9 f10 f11 f12 f13 : Nat → Int} {i : Nat} (hP : 1 ≤ P ∧ P ≤ 11) (hi : i < P) (hs4 : ∀ j : Nat, -2147483648 ≤ f4 j ∧ f4 j < 2147483648) (hne : f4 i ≠ -1) : gMI l yX0_door wsX0_door 6 D (gTy cI cZ) (gX cI cZ q r [(P : Int), (Dn : Int), t, la, wa] [f0, f1, f2, f3, f4, f5, f6, f7, f8, f9, f10, f11, f12, f13]) [.ref q, .int (iI (i : Int))] (f4 i) (gX cI cZ q r [(P : Int), (Dn : Int), t, la, wa] [f0, f1, f2, f3, f4, f5, f6, f7, f8, f9, f10, f11, f12, f13]) := by
  refine g_ofI (by decide +kernel) rfl rfl (Nat.le_of_ble_eq_true rfl) (g_cat1 rfl) rfl ?_
  intro p e s m args below meth c Q A0 E hret
  have hts := E.1.2.2.2.2
  show gJ p l e (gR 6) s m args below meth c 0 0 Q A0 D (gX cI cZ q r [(P : Int), (Dn : Int), t, la, wa] [f0, f1, f2, f3, f4, f5, f6, f7, f8, f9, f10, f11, f12, f13]) [some (.ref q), some (.int (iI (i : Int)))] 0 []
  have h3 := hs4 i
  refine g_aload_n E dX0_door_0 rfl rfl ?_
  refine g_iload_n E dX0_door_1 rfl rfl ?_
  refine g_callV0 E (cX_requirePlace (by omega) (by omega)) (cwV 1 hts gX0_door_X0_requirePlace rfl rfl rfl hdX0_requirePlace ⟨(Nat.le_of_ble_eq_true rfl), (Nat.le_of_ble_eq_true rfl)⟩) rfl rfl rfl (Nat.le_of_ble_eq_true rfl) gW_0 rfl dX0_door_2 ⟨Nat.zero_le _, Nat.zero_le _⟩ ?_
  refine g_aload_n E dX0_door_5 rfl rfl ?_
  refine g_getR E inX0_door rfl flX0_door_22 dX0_door_6 (by decide) rfl ?_
  refine g_iload_n E dX0_door_9 rfl rfl ?_
  refine g_ald E dX0_door_10 rfl rfl rfl (by omega) ?_
  refine g_iconst E dX0_door_11 ?_
  refine g_icmp_eq_f E dX0_door_12 (tgt := 19) (by decide) (by omega) (by omega) ?_
  refine g_iconst E dX0_door_15 ?_
  refine g_goto E dX0_door_16 (tgt := 20) (by decide) ?_
  refine g_callSV E (cX_requireElement rfl) (va_cwS 1 hts gX0_door_X0_requireElement rfl rfl rfl hdX0_requireElement.2 ⟨(Nat.le_of_ble_eq_true rfl), (Nat.le_of_ble_eq_true rfl)⟩) rfl rfl rfl (Nat.le_of_ble_eq_true rfl) dX0_door_20 ⟨Nat.zero_le _, Nat.zero_le _⟩ ?_
  refine g_aload_n E dX0_door_23 rfl rfl ?_
  refine g_getR E inX0_door rfl flX0_door_22 dX0_door_24 (by decide) rfl ?_
  refine g_iload_n E dX0_door_27 rfl rfl ?_
  refine g_ald E dX0_door_28 rfl rfl rfl (by omega) ?_
  exact g_ri rfl hret dX0_door_29
set_option maxHeartbeats 4000000 in
set_option maxRecDepth 100000 in
theorem cX_wouldMove0 {l : Launch} {D : va_G} {cI cZ : ClassId} {q : Nat} {r : Nat → Nat} {P Dn : Nat} {t la wa : Int} {f0 f1 f2 f3 f4 f5 f6 f7 f8 f9 f10 f11 f12 f13 : Nat → Int} {i : Nat} (hP : 1 ≤ P ∧ P ≤ 11) (hDn : Dn ≤ 16) (hi : i < P) (hs4 : ∀ j : Nat, -2147483648 ≤ f4 j ∧ f4 j < 2147483648) (hne : ¬ (0 ≤ f4 i ∧ f4 i < Dn)) : gMI l yX0_wouldMove wsX0_wouldMove 6 D (gTy cI cZ) (gX cI cZ q r [(P : Int), (Dn : Int), t, la, wa] [f0, f1, f2, f3, f4, f5, f6, f7, f8, f9, f10, f11, f12, f13]) [.ref q, .int (iI (i : Int))] 0 (gX cI cZ q r [(P : Int), (Dn : Int), t, la, wa] [f0, f1, f2, f3, f4, f5, f6, f7, f8, f9, f10, f11, f12, f13]) := by
  refine g_ofI (by decide +kernel) rfl rfl (Nat.le_of_ble_eq_true rfl) (g_cat1 rfl) rfl ?_
  intro p e s m args below meth c Q A0 E hret
  have hts := E.1.2.2.2.2
  show gJ p l e (gR 6) s m args below meth c 0 0 Q A0 D (gX cI cZ q r [(P : Int), (Dn : Int), t, la, wa] [f0, f1, f2, f3, f4, f5, f6, f7, f8, f9, f10, f11, f12, f13]) [some (.ref q), some (.int (iI (i : Int))), none] 0 []
  have h3 := hs4 i
  refine g_aload_n E dX0_wouldMove_0 rfl rfl ?_
  refine g_iload_n E dX0_wouldMove_1 rfl rfl ?_
  refine g_callV0 E (cX_requirePlace (by omega) (by omega)) (cwV 1 hts gX0_wouldMove_X0_requirePlace rfl rfl rfl hdX0_requirePlace ⟨(Nat.le_of_ble_eq_true rfl), (Nat.le_of_ble_eq_true rfl)⟩) rfl rfl rfl (Nat.le_of_ble_eq_true rfl) gW_0 rfl dX0_wouldMove_2 ⟨Nat.zero_le _, Nat.zero_le _⟩ ?_
  refine g_aload_n E dX0_wouldMove_5 rfl rfl ?_
  refine g_getR E inX0_wouldMove rfl flX0_wouldMove_22 dX0_wouldMove_6 (by decide) rfl ?_
  refine g_iload_n E dX0_wouldMove_9 rfl rfl ?_
  refine g_ald E dX0_wouldMove_10 rfl rfl rfl (by omega) ?_
  refine g_istore_n E (lv' := [_, _, _]) dX0_wouldMove_11 rfl (Nat.le_of_ble_eq_true rfl) rfl ?_
  refine g_aload_n E dX0_wouldMove_12 rfl rfl ?_
  refine g_iload_n E dX0_wouldMove_13 rfl rfl ?_
  refine g_callI0 E (cX_isDoor (rv := 0) (by omega) (Or.inr ⟨rfl, by omega⟩)) (cwV 1 hts gX0_wouldMove_X0_isDoor rfl rfl rfl hdX0_isDoor ⟨(Nat.le_of_ble_eq_true rfl), (Nat.le_of_ble_eq_true rfl)⟩) rfl rfl rfl (Nat.le_of_ble_eq_true rfl) gW_0 rfl dX0_wouldMove_14 ⟨Nat.zero_le _, Nat.zero_le _⟩ ?_
  refine g_if_ne_f E dX0_wouldMove_17 (tgt := 22) (by decide) (by omega) (by omega) ?_
  refine g_iconst E dX0_wouldMove_20 ?_
  exact g_ri rfl hret dX0_wouldMove_21
set_option maxHeartbeats 4000000 in
set_option maxRecDepth 100000 in
theorem cX_wouldMove1 {l : Launch} {D : va_G} {cI cZ : ClassId} {q : Nat} {r : Nat → Nat} {P Dn : Nat} {t la wa : Int} {f0 f1 f2 f3 f4 f5 f6 f7 f8 f9 f10 f11 f12 f13 : Nat → Int} {i : Nat} (hP : 1 ≤ P ∧ P ≤ 11) (hDn : Dn ≤ 16) (hi : i < P) (ht : -2147483648 ≤ t ∧ t < 2147483647) (hs2 : ∀ j : Nat, -2147483648 ≤ f2 j ∧ f2 j < 2147483648) (hs4 : ∀ j : Nat, -2147483648 ≤ f4 j ∧ f4 j < 2147483648) (hs11 : ∀ j : Nat, -2147483648 ≤ f11 j ∧ f11 j < 2147483648) (hs12 : ∀ j : Nat, -2147483648 ≤ f12 j ∧ f12 j < 2147483648) (hpe : ∀ j : Nat, 1 ≤ j → j < P → 0 ≤ f1 j ∧ f1 j ≤ f0 j ∧ f0 j ≤ 30) (hp0 : 0 ≤ f1 0 ∧ f1 0 < 1073741824) (hfs : ∀ j : Nat, j < Dn → (1 ≤ f7 j ∧ f7 j ≤ 9) ∧ 1 ≤ f8 j ∧ f8 j ≤ 5) (hne : 0 ≤ f4 i ∧ f4 i < Dn) : gMI l yX0_wouldMove wsX0_wouldMove 6 D (gTy cI cZ) (gX cI cZ q r [(P : Int), (Dn : Int), t, la, wa] [f0, f1, f2, f3, f4, f5, f6, f7, f8, f9, f10, f11, f12, f13]) [.ref q, .int (iI (i : Int))] ((xG P Dn t f0 f1 f2 f7 f8 f11 f12 f13) (f4 i).toNat) (gX cI cZ q r [(P : Int), (Dn : Int), t, la, wa] [f0, f1, f2, f3, f4, f5, f6, f7, f8, f9, f10, f11, f12, (xG P Dn t f0 f1 f2 f7 f8 f11 f12 f13)]) := by
  refine g_ofI (by decide +kernel) rfl rfl (Nat.le_of_ble_eq_true rfl) (g_cat1 rfl) rfl ?_
  intro p e s m args below meth c Q A0 E hret
  have hts := E.1.2.2.2.2
  show gJ p l e (gR 6) s m args below meth c 0 0 Q A0 D (gX cI cZ q r [(P : Int), (Dn : Int), t, la, wa] [f0, f1, f2, f3, f4, f5, f6, f7, f8, f9, f10, f11, f12, f13]) [some (.ref q), some (.int (iI (i : Int))), none] 0 []
  have h3 := hs4 i
  refine g_aload_n E dX0_wouldMove_0 rfl rfl ?_
  refine g_iload_n E dX0_wouldMove_1 rfl rfl ?_
  refine g_callV0 E (cX_requirePlace (by omega) (by omega)) (cwV 1 hts gX0_wouldMove_X0_requirePlace rfl rfl rfl hdX0_requirePlace ⟨(Nat.le_of_ble_eq_true rfl), (Nat.le_of_ble_eq_true rfl)⟩) rfl rfl rfl (Nat.le_of_ble_eq_true rfl) gW_0 rfl dX0_wouldMove_2 ⟨Nat.zero_le _, Nat.zero_le _⟩ ?_
  refine g_aload_n E dX0_wouldMove_5 rfl rfl ?_
  refine g_getR E inX0_wouldMove rfl flX0_wouldMove_22 dX0_wouldMove_6 (by decide) rfl ?_
  refine g_iload_n E dX0_wouldMove_9 rfl rfl ?_
  refine g_ald E dX0_wouldMove_10 rfl rfl rfl (by omega) ?_
  refine g_istore_n E (lv' := [_, _, _]) dX0_wouldMove_11 rfl (Nat.le_of_ble_eq_true rfl) rfl ?_
  refine g_aload_n E dX0_wouldMove_12 rfl rfl ?_
  refine g_iload_n E dX0_wouldMove_13 rfl rfl ?_
  refine g_callI0 E (cX_isDoor (rv := 1) (by omega) (Or.inl ⟨rfl, by omega, by omega⟩)) (cwV 1 hts gX0_wouldMove_X0_isDoor rfl rfl rfl hdX0_isDoor ⟨(Nat.le_of_ble_eq_true rfl), (Nat.le_of_ble_eq_true rfl)⟩) rfl rfl rfl (Nat.le_of_ble_eq_true rfl) gW_0 rfl dX0_wouldMove_14 ⟨Nat.zero_le _, Nat.zero_le _⟩ ?_
  refine g_if_ne_t E dX0_wouldMove_17 (tgt := 22) (by decide) (by omega) (by omega) ?_
  refine g_aload_n E dX0_wouldMove_22 rfl rfl ?_
  refine g_callV0 E (cX_grantAll hP hDn ht hs2 hs11 hs12 hpe hp0 hfs) (cwV 0 hts gX0_wouldMove_X0_grantAll rfl rfl rfl hdX0_grantAll ⟨(Nat.le_of_ble_eq_true rfl), (Nat.le_of_ble_eq_true rfl)⟩) rfl rfl rfl (Nat.le_of_ble_eq_true rfl) gW_0 rfl dX0_wouldMove_23 ⟨Nat.zero_le _, Nat.zero_le _⟩ ?_
  refine g_aload_n E dX0_wouldMove_26 rfl rfl ?_
  refine g_getR E inX0_wouldMove rfl flX0_wouldMove_50 dX0_wouldMove_27 (by decide) rfl ?_
  refine g_iload_n E dX0_wouldMove_30 rfl rfl ?_
  refine g_ald E dX0_wouldMove_31 rfl rfl (i := (f4 i).toNat) (by omega) (by omega) ?_
  exact g_ri rfl hret dX0_wouldMove_32
end
section
set_option maxRecDepth 100000 in
theorem tk_requireArgument1 : Cond.classLink RX0 171 gIA ∈ wsX0_requireArgument := by decide +kernel
set_option maxRecDepth 100000 in
theorem tk_requireArgument2 : Cond.initialized gIA ∈ wsX0_requireArgument := by decide +kernel
set_option maxRecDepth 100000 in
theorem tk_requireArgument3 : ∀ w ∈ (vx_atS RX0 175 gIA gNSnames).filter goodWord, w ∈ wsX0_requireArgument := by decide +kernel
set_option maxRecDepth 100000 in
theorem tk_requireArgument4 : ∀ w ∈ (vx_atS RX0 175 gIA gNSnames).filter (fun w => !goodWord w), w ∈ gBad gIA := by decide +kernel
set_option maxRecDepth 100000 in
theorem tk_requireArgument5 : ∀ w ∈ Cond.classLink RX0 171 gIA :: Cond.initialized gIA :: vx_atS RX0 175 gIA gNSnames, vx_ot w = true := by decide +kernel
set_option maxRecDepth 100000 in
theorem tk_requireDoor1 : Cond.classLink RX0 162 gIX ∈ wsX0_requireDoor := by decide +kernel
set_option maxRecDepth 100000 in
theorem tk_requireDoor2 : Cond.initialized gIX ∈ wsX0_requireDoor := by decide +kernel
set_option maxRecDepth 100000 in
theorem tk_requireDoor3 : ∀ w ∈ (vx_atS RX0 166 gIX gNSnames).filter goodWord, w ∈ wsX0_requireDoor := by decide +kernel
set_option maxRecDepth 100000 in
theorem tk_requireDoor4 : ∀ w ∈ (vx_atS RX0 166 gIX gNSnames).filter (fun w => !goodWord w), w ∈ gBad gIX := by decide +kernel
set_option maxRecDepth 100000 in
theorem tk_requireDoor5 : ∀ w ∈ Cond.classLink RX0 162 gIX :: Cond.initialized gIX :: vx_atS RX0 166 gIX gNSnames, vx_ot w = true := by decide +kernel
set_option maxRecDepth 100000 in
theorem tk_requireElement1 : Cond.classLink RX0 181 gNS ∈ wsX0_requireElement := by decide +kernel
set_option maxRecDepth 100000 in
theorem tk_requireElement2 : Cond.initialized gNS ∈ wsX0_requireElement := by decide +kernel
set_option maxRecDepth 100000 in
theorem tk_requireElement3 : ∀ w ∈ gNSat.filter goodWord, w ∈ wsX0_requireElement := by decide +kernel
set_option maxRecDepth 100000 in
theorem tk_requirePlace1 : Cond.classLink RX0 162 gIX ∈ wsX0_requirePlace := by decide +kernel
set_option maxRecDepth 100000 in
theorem tk_requirePlace2 : Cond.initialized gIX ∈ wsX0_requirePlace := by decide +kernel
set_option maxRecDepth 100000 in
theorem tk_requirePlace3 : ∀ w ∈ (vx_atS RX0 166 gIX gNSnames).filter goodWord, w ∈ wsX0_requirePlace := by decide +kernel
set_option maxRecDepth 100000 in
theorem tk_requirePlace4 : ∀ w ∈ (vx_atS RX0 166 gIX gNSnames).filter (fun w => !goodWord w), w ∈ gBad gIX := by decide +kernel
set_option maxRecDepth 100000 in
theorem tk_requirePlace5 : ∀ w ∈ Cond.classLink RX0 162 gIX :: Cond.initialized gIX :: vx_atS RX0 166 gIX gNSnames, vx_ot w = true := by decide +kernel
set_option maxRecDepth 100000 in
theorem tk_requireState1 : Cond.classLink RX0 176 gIS ∈ wsX0_requireState := by decide +kernel
set_option maxRecDepth 100000 in
theorem tk_requireState2 : Cond.initialized gIS ∈ wsX0_requireState := by decide +kernel
set_option maxRecDepth 100000 in
theorem tk_requireState3 : ∀ w ∈ (vx_atS RX0 180 gIS gNSnames).filter goodWord, w ∈ wsX0_requireState := by decide +kernel
set_option maxRecDepth 100000 in
theorem tk_requireState4 : ∀ w ∈ (vx_atS RX0 180 gIS gNSnames).filter (fun w => !goodWord w), w ∈ gBad gIS := by decide +kernel
set_option maxRecDepth 100000 in
theorem tk_requireState5 : ∀ w ∈ Cond.classLink RX0 176 gIS :: Cond.initialized gIS :: vx_atS RX0 180 gIS gNSnames, vx_ot w = true := by decide +kernel
set_option maxHeartbeats 4000000 in
set_option maxRecDepth 100000 in
theorem tX_requirePlace {l : Launch} {D : va_G} {cI cZ : ClassId} {q : Nat} {r : Nat → Nat} {P Dn : Nat} {t la wa : Int} {f0 f1 f2 f3 f4 f5 f6 f7 f8 f9 f10 f11 f12 f13 : Nat → Int} (hfl : l.stackTraces = false) {x : Int} (hg : -2147483648 ≤ x ∧ x < 2147483648) (hn : P ≤ 16) (hx : x < 0 ∨ P ≤ x) : gMT l yX0_requirePlace wsX0_requirePlace 6 D (gTy cI cZ) (gX cI cZ q r [(P : Int), (Dn : Int), t, la, wa] [f0, f1, f2, f3, f4, f5, f6, f7, f8, f9, f10, f11, f12, f13]) [.ref q, .int (iI x)] gIX := by
  refine g_ofT (by decide +kernel) rfl rfl (Nat.le_of_ble_eq_true rfl) (g_cat1 rfl) ?_
  intro p e s m args below meth c A0 E hT hlk htb
  have hts := E.1.2.2.2.2
  show gJ p l e (gRx 6) s m args below meth c 0 0 (gQT below args s D (gTy cI cZ) (gX cI cZ q r [(P : Int), (Dn : Int), t, la, wa] [f0, f1, f2, f3, f4, f5, f6, f7, f8, f9, f10, f11, f12, f13]) gIX A0) A0 D (gX cI cZ q r [(P : Int), (Dn : Int), t, la, wa] [f0, f1, f2, f3, f4, f5, f6, f7, f8, f9, f10, f11, f12, f13]) [some (.ref q), some (.int (iI x))] 0 []
  refine g_aload_n E dX0_requirePlace_0 rfl rfl ?_
  refine g_iload_n E dX0_requirePlace_1 rfl rfl ?_
  refine g_callI0 E (cX_isPlace (rv := 0) (by omega) (Or.inr ⟨rfl, by omega⟩)) (cwV 1 hts gX0_requirePlace_X0_isPlace rfl rfl rfl hdX0_isPlace ⟨(Nat.le_of_ble_eq_true rfl), (Nat.le_of_ble_eq_true rfl)⟩) rfl rfl rfl (Nat.le_of_ble_eq_true rfl) gW_0 rfl dX0_requirePlace_2 ⟨Nat.zero_le _, Nat.zero_le _⟩ ?_
  refine g_if_ne_f E dX0_requirePlace_5 (tgt := 18) (by decide) (by omega) (by omega) ?_
  exact g_throw E (names := gNSnames) (text := "no such place") hfl hT hlk htb rfl (by decide +kernel) (by decide +kernel) tk_requirePlace1 tk_requirePlace2 rfl (by decide +kernel) (by decide +kernel) tk_requirePlace3 tk_requirePlace4 tk_requirePlace5 dX0_requirePlace_8 dX0_requirePlace_11 dX0_requirePlace_12 dX0_requirePlace_14 dX0_requirePlace_17 (Nat.le_of_ble_eq_true rfl) (Nat.le_of_ble_eq_true rfl) ⟨(Nat.le_of_ble_eq_true rfl), (Nat.le_of_ble_eq_true rfl)⟩
set_option maxHeartbeats 4000000 in
set_option maxRecDepth 100000 in
theorem tX_requireDoor {l : Launch} {D : va_G} {cI cZ : ClassId} {q : Nat} {r : Nat → Nat} {P Dn : Nat} {t la wa : Int} {f0 f1 f2 f3 f4 f5 f6 f7 f8 f9 f10 f11 f12 f13 : Nat → Int} (hfl : l.stackTraces = false) {x : Int} (hg : -2147483648 ≤ x ∧ x < 2147483648) (hn : Dn ≤ 16) (hx : x < 0 ∨ Dn ≤ x) : gMT l yX0_requireDoor wsX0_requireDoor 6 D (gTy cI cZ) (gX cI cZ q r [(P : Int), (Dn : Int), t, la, wa] [f0, f1, f2, f3, f4, f5, f6, f7, f8, f9, f10, f11, f12, f13]) [.ref q, .int (iI x)] gIX := by
  refine g_ofT (by decide +kernel) rfl rfl (Nat.le_of_ble_eq_true rfl) (g_cat1 rfl) ?_
  intro p e s m args below meth c A0 E hT hlk htb
  have hts := E.1.2.2.2.2
  show gJ p l e (gRx 6) s m args below meth c 0 0 (gQT below args s D (gTy cI cZ) (gX cI cZ q r [(P : Int), (Dn : Int), t, la, wa] [f0, f1, f2, f3, f4, f5, f6, f7, f8, f9, f10, f11, f12, f13]) gIX A0) A0 D (gX cI cZ q r [(P : Int), (Dn : Int), t, la, wa] [f0, f1, f2, f3, f4, f5, f6, f7, f8, f9, f10, f11, f12, f13]) [some (.ref q), some (.int (iI x))] 0 []
  refine g_aload_n E dX0_requireDoor_0 rfl rfl ?_
  refine g_iload_n E dX0_requireDoor_1 rfl rfl ?_
  refine g_callI0 E (cX_isDoor (rv := 0) (by omega) (Or.inr ⟨rfl, by omega⟩)) (cwV 1 hts gX0_requireDoor_X0_isDoor rfl rfl rfl hdX0_isDoor ⟨(Nat.le_of_ble_eq_true rfl), (Nat.le_of_ble_eq_true rfl)⟩) rfl rfl rfl (Nat.le_of_ble_eq_true rfl) gW_0 rfl dX0_requireDoor_2 ⟨Nat.zero_le _, Nat.zero_le _⟩ ?_
  refine g_if_ne_f E dX0_requireDoor_5 (tgt := 18) (by decide) (by omega) (by omega) ?_
  exact g_throw E (names := gNSnames) (text := "no such door") hfl hT hlk htb rfl (by decide +kernel) (by decide +kernel) tk_requireDoor1 tk_requireDoor2 rfl (by decide +kernel) (by decide +kernel) tk_requireDoor3 tk_requireDoor4 tk_requireDoor5 dX0_requireDoor_8 dX0_requireDoor_11 dX0_requireDoor_12 dX0_requireDoor_14 dX0_requireDoor_17 (Nat.le_of_ble_eq_true rfl) (Nat.le_of_ble_eq_true rfl) ⟨(Nat.le_of_ble_eq_true rfl), (Nat.le_of_ble_eq_true rfl)⟩
set_option maxHeartbeats 4000000 in
set_option maxRecDepth 100000 in
theorem tX_requireArgument {l : Launch} {D : va_G} {cI cZ : ClassId} (hfl : l.stackTraces = false) {x : Int} (hx : x = 0) : gMT l yX0_requireArgument wsX0_requireArgument 6 D (gTy cI cZ) [] [.int (iI x)] gIA := by
  refine g_ofT (by decide +kernel) rfl rfl (Nat.le_of_ble_eq_true rfl) (g_cat1 rfl) ?_
  intro p e s m args below meth c A0 E hT hlk htb
  have hts := E.1.2.2.2.2
  show gJ p l e (gRx 6) s m args below meth c 0 0 (gQT below args s D (gTy cI cZ) [] gIA A0) A0 D [] [some (.int (iI x))] 0 []
  subst hx
  refine g_iload_n E dX0_requireArgument_0 rfl rfl ?_
  refine g_if_ne_f E dX0_requireArgument_1 (tgt := 14) (by decide) (by omega) (by omega) ?_
  exact g_throw E (names := gNSnames) (text := "an argument is out of range") hfl hT hlk htb rfl (by decide +kernel) (by decide +kernel) tk_requireArgument1 tk_requireArgument2 rfl (by decide +kernel) (by decide +kernel) tk_requireArgument3 tk_requireArgument4 tk_requireArgument5 dX0_requireArgument_4 dX0_requireArgument_7 dX0_requireArgument_8 dX0_requireArgument_10 dX0_requireArgument_13 (Nat.le_of_ble_eq_true rfl) (Nat.le_of_ble_eq_true rfl) ⟨(Nat.le_of_ble_eq_true rfl), (Nat.le_of_ble_eq_true rfl)⟩
set_option maxHeartbeats 4000000 in
set_option maxRecDepth 100000 in
theorem tX_requireState {l : Launch} {D : va_G} {cI cZ : ClassId} (hfl : l.stackTraces = false) {x : Int} (hx : x = 0) : gMT l yX0_requireState wsX0_requireState 6 D (gTy cI cZ) [] [.int (iI x)] gIS := by
  refine g_ofT (by decide +kernel) rfl rfl (Nat.le_of_ble_eq_true rfl) (g_cat1 rfl) ?_
  intro p e s m args below meth c A0 E hT hlk htb
  have hts := E.1.2.2.2.2
  show gJ p l e (gRx 6) s m args below meth c 0 0 (gQT below args s D (gTy cI cZ) [] gIS A0) A0 D [] [some (.int (iI x))] 0 []
  subst hx
  refine g_iload_n E dX0_requireState_0 rfl rfl ?_
  refine g_if_ne_f E dX0_requireState_1 (tgt := 14) (by decide) (by omega) (by omega) ?_
  exact g_throw E (names := gNSnames) (text := "the bench does not allow this now") hfl hT hlk htb rfl (by decide +kernel) (by decide +kernel) tk_requireState1 tk_requireState2 rfl (by decide +kernel) (by decide +kernel) tk_requireState3 tk_requireState4 tk_requireState5 dX0_requireState_4 dX0_requireState_7 dX0_requireState_8 dX0_requireState_10 dX0_requireState_13 (Nat.le_of_ble_eq_true rfl) (Nat.le_of_ble_eq_true rfl) ⟨(Nat.le_of_ble_eq_true rfl), (Nat.le_of_ble_eq_true rfl)⟩
set_option maxHeartbeats 4000000 in
set_option maxRecDepth 100000 in
theorem tX_requireElement {l : Launch} {D : va_G} {cI cZ : ClassId} (hfl : l.stackTraces = false) {x : Int} (hx : x = 0) : gMT l yX0_requireElement wsX0_requireElement 6 D (gTy cI cZ) [] [.int (iI x)] gNS := by
  refine g_ofT (by decide +kernel) rfl rfl (Nat.le_of_ble_eq_true rfl) (g_cat1 rfl) ?_
  intro p e s m args below meth c A0 E hT hlk htb
  have hts := E.1.2.2.2.2
  show gJ p l e (gRx 6) s m args below meth c 0 0 (gQT below args s D (gTy cI cZ) [] gNS A0) A0 D [] [some (.int (iI x))] 0 []
  subst hx
  refine g_iload_n E dX0_requireElement_0 rfl rfl ?_
  refine g_if_ne_f E dX0_requireElement_1 (tgt := 14) (by decide) (by omega) (by omega) ?_
  exact g_throwNS E hfl hT hlk htb rfl tk_requireElement1 tk_requireElement2 tk_requireElement3 dX0_requireElement_4 dX0_requireElement_7 dX0_requireElement_8 dX0_requireElement_10 dX0_requireElement_13 (Nat.le_of_ble_eq_true rfl) (Nat.le_of_ble_eq_true rfl) ⟨(Nat.le_of_ble_eq_true rfl), (Nat.le_of_ble_eq_true rfl)⟩
set_option maxHeartbeats 4000000 in
set_option maxRecDepth 100000 in
theorem tX_addPlace1 {l : Launch} {D : va_G} {cI cZ : ClassId} {q : Nat} {r : Nat → Nat} {P Dn : Nat} {t la wa : Int} {f0 f1 f2 f3 f4 f5 f6 f7 f8 f9 f10 f11 f12 f13 : Nat → Int} (hfl : l.stackTraces = false) {x : Int} (hgx : -2147483648 ≤ x ∧ x < 2147483648) (hx : x < 1 ∨ 30 < x) : gMT l yX0_addPlace wsX0_addPlace 7 D (gTy cI cZ) (gX cI cZ q r [(P : Int), (Dn : Int), t, la, wa] [f0, f1, f2, f3, f4, f5, f6, f7, f8, f9, f10, f11, f12, f13]) [.ref q, .int (iI x)] gIA := by
  refine g_ofT (by decide +kernel) rfl rfl (Nat.le_of_ble_eq_true rfl) (g_cat1 rfl) ?_
  intro p e s m args below meth c A0 E hT hlk htb
  have hts := E.1.2.2.2.2
  show gJ p l e (gRx 7) s m args below meth c 0 0 (gQT below args s D (gTy cI cZ) (gX cI cZ q r [(P : Int), (Dn : Int), t, la, wa] [f0, f1, f2, f3, f4, f5, f6, f7, f8, f9, f10, f11, f12, f13]) gIA A0) A0 D (gX cI cZ q r [(P : Int), (Dn : Int), t, la, wa] [f0, f1, f2, f3, f4, f5, f6, f7, f8, f9, f10, f11, f12, f13]) [some (.ref q), some (.int (iI x)), none] 0 []
  refine g_iload_n E dX0_addPlace_0 rfl rfl ?_
  refine g_iconst E dX0_addPlace_1 ?_
  refine g_bipush E dX0_addPlace_2 (by decide) ?_
  refine g_callSI E (cX_isBetween (rv := 0) (by omega) (Or.inr ⟨rfl, by omega⟩)) (va_cwS 3 hts gX0_addPlace_X0_isBetween rfl rfl rfl hdX0_isBetween.2 ⟨(Nat.le_of_ble_eq_true rfl), (Nat.le_of_ble_eq_true rfl)⟩) rfl rfl rfl (Nat.le_of_ble_eq_true rfl) dX0_addPlace_4 ⟨Nat.zero_le _, Nat.zero_le _⟩ ?_
  exact g_callTS E (tX_requireArgument hfl rfl) hT hlk htb (va_cwS 1 hts gX0_addPlace_X0_requireArgument rfl rfl rfl hdX0_requireArgument.2 ⟨(Nat.le_of_ble_eq_true rfl), (Nat.le_of_ble_eq_true rfl)⟩) rfl rfl rfl (Nat.le_of_ble_eq_true rfl) dX0_addPlace_7 ⟨(Nat.le_of_ble_eq_true rfl), (Nat.le_of_ble_eq_true rfl)⟩
set_option maxHeartbeats 4000000 in
set_option maxRecDepth 100000 in
theorem tX_addPlace2 {l : Launch} {D : va_G} {cI cZ : ClassId} {q : Nat} {r : Nat → Nat} {P Dn : Nat} {t la wa : Int} {f0 f1 f2 f3 f4 f5 f6 f7 f8 f9 f10 f11 f12 f13 : Nat → Int} (hfl : l.stackTraces = false) {x : Int} (hx : 1 ≤ x ∧ x ≤ 30) (hP : 1 ≤ P ∧ P ≤ 11) (hP11 : P = 11) : gMT l yX0_addPlace wsX0_addPlace 7 D (gTy cI cZ) (gX cI cZ q r [(P : Int), (Dn : Int), t, la, wa] [f0, f1, f2, f3, f4, f5, f6, f7, f8, f9, f10, f11, f12, f13]) [.ref q, .int (iI x)] gIS := by
  refine g_ofT (by decide +kernel) rfl rfl (Nat.le_of_ble_eq_true rfl) (g_cat1 rfl) ?_
  intro p e s m args below meth c A0 E hT hlk htb
  have hts := E.1.2.2.2.2
  show gJ p l e (gRx 7) s m args below meth c 0 0 (gQT below args s D (gTy cI cZ) (gX cI cZ q r [(P : Int), (Dn : Int), t, la, wa] [f0, f1, f2, f3, f4, f5, f6, f7, f8, f9, f10, f11, f12, f13]) gIS A0) A0 D (gX cI cZ q r [(P : Int), (Dn : Int), t, la, wa] [f0, f1, f2, f3, f4, f5, f6, f7, f8, f9, f10, f11, f12, f13]) [some (.ref q), some (.int (iI x)), none] 0 []
  refine g_iload_n E dX0_addPlace_0 rfl rfl ?_
  refine g_iconst E dX0_addPlace_1 ?_
  refine g_bipush E dX0_addPlace_2 (by decide) ?_
  refine g_callSI E (cX_isBetween (rv := 1) (by omega) (Or.inl ⟨rfl, by omega, by omega⟩)) (va_cwS 3 hts gX0_addPlace_X0_isBetween rfl rfl rfl hdX0_isBetween.2 ⟨(Nat.le_of_ble_eq_true rfl), (Nat.le_of_ble_eq_true rfl)⟩) rfl rfl rfl (Nat.le_of_ble_eq_true rfl) dX0_addPlace_4 ⟨Nat.zero_le _, Nat.zero_le _⟩ ?_
  refine g_callSV E (cX_requireArgument rfl) (va_cwS 1 hts gX0_addPlace_X0_requireArgument rfl rfl rfl hdX0_requireArgument.2 ⟨(Nat.le_of_ble_eq_true rfl), (Nat.le_of_ble_eq_true rfl)⟩) rfl rfl rfl (Nat.le_of_ble_eq_true rfl) dX0_addPlace_7 ⟨Nat.zero_le _, Nat.zero_le _⟩ ?_
  refine g_aload_n E dX0_addPlace_10 rfl rfl ?_
  refine g_getI E inX0_addPlace rfl flX0_addPlace_53 dX0_addPlace_11 (by decide) rfl rfl ?_
  refine g_bipush E dX0_addPlace_14 (by decide) ?_
  refine g_icmp_ge_t E dX0_addPlace_16 (tgt := 23) (by decide) (by omega) (by omega) ?_
  refine g_iconst E dX0_addPlace_23 ?_
  exact g_callTS E (tX_requireState hfl rfl) hT hlk htb (va_cwS 1 hts gX0_addPlace_X0_requireState rfl rfl rfl hdX0_requireState.2 ⟨(Nat.le_of_ble_eq_true rfl), (Nat.le_of_ble_eq_true rfl)⟩) rfl rfl rfl (Nat.le_of_ble_eq_true rfl) dX0_addPlace_24 ⟨(Nat.le_of_ble_eq_true rfl), (Nat.le_of_ble_eq_true rfl)⟩
set_option maxHeartbeats 4000000 in
set_option maxRecDepth 100000 in
theorem tX_addDoor1 {l : Launch} {D : va_G} {cI cZ : ClassId} {q : Nat} {r : Nat → Nat} {P Dn : Nat} {t la wa : Int} {f0 f1 f2 f3 f4 f5 f6 f7 f8 f9 f10 f11 f12 f13 : Nat → Int} (hfl : l.stackTraces = false) {x y z v : Int} (hgx : -2147483648 ≤ x ∧ x < 2147483648) (hgy : -2147483648 ≤ y ∧ y < 2147483648) (hgz : -2147483648 ≤ z ∧ z < 2147483648) (hgv : -2147483648 ≤ v ∧ v < 2147483648) (hP : 1 ≤ P ∧ P ≤ 11) (hDn : Dn ≤ 16) (hx : x < 0 ∨ P ≤ x ∨ y < 0 ∨ P ≤ y) : gMT l yX0_addDoor wsX0_addDoor 7 D (gTy cI cZ) (gX cI cZ q r [(P : Int), (Dn : Int), t, la, wa] [f0, f1, f2, f3, f4, f5, f6, f7, f8, f9, f10, f11, f12, f13]) [.ref q, .int (iI x), .int (iI y), .int (iI z), .int (iI v)] gIX := by
  refine g_ofT (by decide +kernel) rfl rfl (Nat.le_of_ble_eq_true rfl) (g_cat1 rfl) ?_
  intro p e s m args below meth c A0 E hT hlk htb
  have hts := E.1.2.2.2.2
  show gJ p l e (gRx 7) s m args below meth c 0 0 (gQT below args s D (gTy cI cZ) (gX cI cZ q r [(P : Int), (Dn : Int), t, la, wa] [f0, f1, f2, f3, f4, f5, f6, f7, f8, f9, f10, f11, f12, f13]) gIX A0) A0 D (gX cI cZ q r [(P : Int), (Dn : Int), t, la, wa] [f0, f1, f2, f3, f4, f5, f6, f7, f8, f9, f10, f11, f12, f13]) [some (.ref q), some (.int (iI x)), some (.int (iI y)), some (.int (iI z)), some (.int (iI v)), none] 0 []
  by_cases h1 : x < 0 ∨ P ≤ x
  · refine g_aload_n E dX0_addDoor_0 rfl rfl ?_
    refine g_iload_n E dX0_addDoor_1 rfl rfl ?_
    exact g_callT E (tX_requirePlace hfl hgx (by omega) h1) hT hlk htb (cwV 1 hts gX0_addDoor_X0_requirePlace rfl rfl rfl hdX0_requirePlace ⟨(Nat.le_of_ble_eq_true rfl), (Nat.le_of_ble_eq_true rfl)⟩) rfl rfl rfl (Nat.le_of_ble_eq_true rfl) gW_0 rfl dX0_addDoor_2 ⟨(Nat.le_of_ble_eq_true rfl), (Nat.le_of_ble_eq_true rfl)⟩
  · refine g_aload_n E dX0_addDoor_0 rfl rfl ?_
    refine g_iload_n E dX0_addDoor_1 rfl rfl ?_
    refine g_callV0 E (cX_requirePlace (by omega) (by omega)) (cwV 1 hts gX0_addDoor_X0_requirePlace rfl rfl rfl hdX0_requirePlace ⟨(Nat.le_of_ble_eq_true rfl), (Nat.le_of_ble_eq_true rfl)⟩) rfl rfl rfl (Nat.le_of_ble_eq_true rfl) gW_0 rfl dX0_addDoor_2 ⟨Nat.zero_le _, Nat.zero_le _⟩ ?_
    refine g_aload_n E dX0_addDoor_5 rfl rfl ?_
    refine g_iload_n E dX0_addDoor_6 rfl rfl ?_
    exact g_callT E (tX_requirePlace hfl hgy (by omega) (by omega)) hT hlk htb (cwV 1 hts gX0_addDoor_X0_requirePlace rfl rfl rfl hdX0_requirePlace ⟨(Nat.le_of_ble_eq_true rfl), (Nat.le_of_ble_eq_true rfl)⟩) rfl rfl rfl (Nat.le_of_ble_eq_true rfl) gW_0 rfl dX0_addDoor_7 ⟨(Nat.le_of_ble_eq_true rfl), (Nat.le_of_ble_eq_true rfl)⟩
set_option maxHeartbeats 4000000 in
set_option maxRecDepth 100000 in
theorem tX_addDoor2 {l : Launch} {D : va_G} {cI cZ : ClassId} {q : Nat} {r : Nat → Nat} {P Dn : Nat} {t la wa : Int} {f0 f1 f2 f3 f4 f5 f6 f7 f8 f9 f10 f11 f12 f13 : Nat → Int} (hfl : l.stackTraces = false) {x y z v : Int} (hgx : -2147483648 ≤ x ∧ x < 2147483648) (hgy : -2147483648 ≤ y ∧ y < 2147483648) (hgz : -2147483648 ≤ z ∧ z < 2147483648) (hgv : -2147483648 ≤ v ∧ v < 2147483648) (hP : 1 ≤ P ∧ P ≤ 11) (hDn : Dn ≤ 16) (hx : 0 ≤ x ∧ x < P) (hy : 0 ≤ y ∧ y < P) (hz : x = y ∨ z < 1 ∨ 9 < z ∨ v < 1 ∨ 5 < v) : gMT l yX0_addDoor wsX0_addDoor 7 D (gTy cI cZ) (gX cI cZ q r [(P : Int), (Dn : Int), t, la, wa] [f0, f1, f2, f3, f4, f5, f6, f7, f8, f9, f10, f11, f12, f13]) [.ref q, .int (iI x), .int (iI y), .int (iI z), .int (iI v)] gIA := by
  refine g_ofT (by decide +kernel) rfl rfl (Nat.le_of_ble_eq_true rfl) (g_cat1 rfl) ?_
  intro p e s m args below meth c A0 E hT hlk htb
  have hts := E.1.2.2.2.2
  show gJ p l e (gRx 7) s m args below meth c 0 0 (gQT below args s D (gTy cI cZ) (gX cI cZ q r [(P : Int), (Dn : Int), t, la, wa] [f0, f1, f2, f3, f4, f5, f6, f7, f8, f9, f10, f11, f12, f13]) gIA A0) A0 D (gX cI cZ q r [(P : Int), (Dn : Int), t, la, wa] [f0, f1, f2, f3, f4, f5, f6, f7, f8, f9, f10, f11, f12, f13]) [some (.ref q), some (.int (iI x)), some (.int (iI y)), some (.int (iI z)), some (.int (iI v)), none] 0 []
  have fin : ∀ a5 : Option Value, gJ p l e (gRx 7) s m args below meth c 0 0 (gQT below args s D (gTy cI cZ) (gX cI cZ q r [(P : Int), (Dn : Int), t, la, wa] [f0, f1, f2, f3, f4, f5, f6, f7, f8, f9, f10, f11, f12, f13]) gIA A0) A0 D (gX cI cZ q r [(P : Int), (Dn : Int), t, la, wa] [f0, f1, f2, f3, f4, f5, f6, f7, f8, f9, f10, f11, f12, f13]) [some (.ref q), some (.int (iI x)), some (.int (iI y)), some (.int (iI z)), some (.int (iI v)), a5] 39 [] := by
    intro a5
    refine g_iconst E dX0_addDoor_39 ?_
    exact g_callTS E (tX_requireArgument hfl rfl) hT hlk htb (va_cwS 1 hts gX0_addDoor_X0_requireArgument rfl rfl rfl hdX0_requireArgument.2 ⟨(Nat.le_of_ble_eq_true rfl), (Nat.le_of_ble_eq_true rfl)⟩) rfl rfl rfl (Nat.le_of_ble_eq_true rfl) dX0_addDoor_40 ⟨(Nat.le_of_ble_eq_true rfl), (Nat.le_of_ble_eq_true rfl)⟩
  by_cases h1 : x = y
  · refine g_aload_n E dX0_addDoor_0 rfl rfl ?_
    refine g_iload_n E dX0_addDoor_1 rfl rfl ?_
    refine g_callV0 E (cX_requirePlace (by omega) (by omega)) (cwV 1 hts gX0_addDoor_X0_requirePlace rfl rfl rfl hdX0_requirePlace ⟨(Nat.le_of_ble_eq_true rfl), (Nat.le_of_ble_eq_true rfl)⟩) rfl rfl rfl (Nat.le_of_ble_eq_true rfl) gW_0 rfl dX0_addDoor_2 ⟨Nat.zero_le _, Nat.zero_le _⟩ ?_
    refine g_aload_n E dX0_addDoor_5 rfl rfl ?_
    refine g_iload_n E dX0_addDoor_6 rfl rfl ?_
    refine g_callV0 E (cX_requirePlace (by omega) (by omega)) (cwV 1 hts gX0_addDoor_X0_requirePlace rfl rfl rfl hdX0_requirePlace ⟨(Nat.le_of_ble_eq_true rfl), (Nat.le_of_ble_eq_true rfl)⟩) rfl rfl rfl (Nat.le_of_ble_eq_true rfl) gW_0 rfl dX0_addDoor_7 ⟨Nat.zero_le _, Nat.zero_le _⟩ ?_
    refine g_iload_n E dX0_addDoor_10 rfl rfl ?_
    refine g_iload_n E dX0_addDoor_11 rfl rfl ?_
    refine g_icmp_eq_t E dX0_addDoor_12 (tgt := 39) (by decide) (by omega) (by omega) ?_
    exact fin _
  · by_cases h2 : 1 ≤ z ∧ z ≤ 9
    · refine g_aload_n E dX0_addDoor_0 rfl rfl ?_
      refine g_iload_n E dX0_addDoor_1 rfl rfl ?_
      refine g_callV0 E (cX_requirePlace (by omega) (by omega)) (cwV 1 hts gX0_addDoor_X0_requirePlace rfl rfl rfl hdX0_requirePlace ⟨(Nat.le_of_ble_eq_true rfl), (Nat.le_of_ble_eq_true rfl)⟩) rfl rfl rfl (Nat.le_of_ble_eq_true rfl) gW_0 rfl dX0_addDoor_2 ⟨Nat.zero_le _, Nat.zero_le _⟩ ?_
      refine g_aload_n E dX0_addDoor_5 rfl rfl ?_
      refine g_iload_n E dX0_addDoor_6 rfl rfl ?_
      refine g_callV0 E (cX_requirePlace (by omega) (by omega)) (cwV 1 hts gX0_addDoor_X0_requirePlace rfl rfl rfl hdX0_requirePlace ⟨(Nat.le_of_ble_eq_true rfl), (Nat.le_of_ble_eq_true rfl)⟩) rfl rfl rfl (Nat.le_of_ble_eq_true rfl) gW_0 rfl dX0_addDoor_7 ⟨Nat.zero_le _, Nat.zero_le _⟩ ?_
      refine g_iload_n E dX0_addDoor_10 rfl rfl ?_
      refine g_iload_n E dX0_addDoor_11 rfl rfl ?_
      refine g_icmp_eq_f E dX0_addDoor_12 (tgt := 39) (by decide) (by omega) (by omega) ?_
      refine g_iload_n E dX0_addDoor_15 rfl rfl ?_
      refine g_iconst E dX0_addDoor_16 ?_
      refine g_bipush E dX0_addDoor_17 (by decide) ?_
      refine g_callSI E (cX_isBetween (rv := 1) (by omega) (Or.inl ⟨rfl, by omega, by omega⟩)) (va_cwS 3 hts gX0_addDoor_X0_isBetween rfl rfl rfl hdX0_isBetween.2 ⟨(Nat.le_of_ble_eq_true rfl), (Nat.le_of_ble_eq_true rfl)⟩) rfl rfl rfl (Nat.le_of_ble_eq_true rfl) dX0_addDoor_19 ⟨Nat.zero_le _, Nat.zero_le _⟩ ?_
      refine g_if_eq_f E dX0_addDoor_22 (tgt := 39) (by decide) (by omega) (by omega) ?_
      refine g_iload E dX0_addDoor_25 rfl ?_
      refine g_iconst E dX0_addDoor_27 ?_
      refine g_iconst E dX0_addDoor_28 ?_
      refine g_callSI E (cX_isBetween (rv := 0) (by omega) (Or.inr ⟨rfl, by omega⟩)) (va_cwS 3 hts gX0_addDoor_X0_isBetween rfl rfl rfl hdX0_isBetween.2 ⟨(Nat.le_of_ble_eq_true rfl), (Nat.le_of_ble_eq_true rfl)⟩) rfl rfl rfl (Nat.le_of_ble_eq_true rfl) dX0_addDoor_29 ⟨Nat.zero_le _, Nat.zero_le _⟩ ?_
      refine g_if_eq_t E dX0_addDoor_32 (tgt := 39) (by decide) (by omega) (by omega) ?_
      exact fin _
    · refine g_aload_n E dX0_addDoor_0 rfl rfl ?_
      refine g_iload_n E dX0_addDoor_1 rfl rfl ?_
      refine g_callV0 E (cX_requirePlace (by omega) (by omega)) (cwV 1 hts gX0_addDoor_X0_requirePlace rfl rfl rfl hdX0_requirePlace ⟨(Nat.le_of_ble_eq_true rfl), (Nat.le_of_ble_eq_true rfl)⟩) rfl rfl rfl (Nat.le_of_ble_eq_true rfl) gW_0 rfl dX0_addDoor_2 ⟨Nat.zero_le _, Nat.zero_le _⟩ ?_
      refine g_aload_n E dX0_addDoor_5 rfl rfl ?_
      refine g_iload_n E dX0_addDoor_6 rfl rfl ?_
      refine g_callV0 E (cX_requirePlace (by omega) (by omega)) (cwV 1 hts gX0_addDoor_X0_requirePlace rfl rfl rfl hdX0_requirePlace ⟨(Nat.le_of_ble_eq_true rfl), (Nat.le_of_ble_eq_true rfl)⟩) rfl rfl rfl (Nat.le_of_ble_eq_true rfl) gW_0 rfl dX0_addDoor_7 ⟨Nat.zero_le _, Nat.zero_le _⟩ ?_
      refine g_iload_n E dX0_addDoor_10 rfl rfl ?_
      refine g_iload_n E dX0_addDoor_11 rfl rfl ?_
      refine g_icmp_eq_f E dX0_addDoor_12 (tgt := 39) (by decide) (by omega) (by omega) ?_
      refine g_iload_n E dX0_addDoor_15 rfl rfl ?_
      refine g_iconst E dX0_addDoor_16 ?_
      refine g_bipush E dX0_addDoor_17 (by decide) ?_
      refine g_callSI E (cX_isBetween (rv := 0) (by omega) (Or.inr ⟨rfl, by omega⟩)) (va_cwS 3 hts gX0_addDoor_X0_isBetween rfl rfl rfl hdX0_isBetween.2 ⟨(Nat.le_of_ble_eq_true rfl), (Nat.le_of_ble_eq_true rfl)⟩) rfl rfl rfl (Nat.le_of_ble_eq_true rfl) dX0_addDoor_19 ⟨Nat.zero_le _, Nat.zero_le _⟩ ?_
      refine g_if_eq_t E dX0_addDoor_22 (tgt := 39) (by decide) (by omega) (by omega) ?_
      exact fin _
set_option maxHeartbeats 4000000 in
set_option maxRecDepth 100000 in
theorem tX_addDoor3 {l : Launch} {D : va_G} {cI cZ : ClassId} {q : Nat} {r : Nat → Nat} {P Dn : Nat} {t la wa : Int} {f0 f1 f2 f3 f4 f5 f6 f7 f8 f9 f10 f11 f12 f13 : Nat → Int} (hfl : l.stackTraces = false) {x y z v : Int} (hgx : -2147483648 ≤ x ∧ x < 2147483648) (hgy : -2147483648 ≤ y ∧ y < 2147483648) (hgz : -2147483648 ≤ z ∧ z < 2147483648) (hgv : -2147483648 ≤ v ∧ v < 2147483648) (hP : 1 ≤ P ∧ P ≤ 11) (hDn : Dn ≤ 16) (hx : 0 ≤ x ∧ x < P) (hy : 0 ≤ y ∧ y < P) (hz : x ≠ y ∧ 1 ≤ z ∧ z ≤ 9 ∧ 1 ≤ v ∧ v ≤ 5) (hD16 : Dn = 16) : gMT l yX0_addDoor wsX0_addDoor 7 D (gTy cI cZ) (gX cI cZ q r [(P : Int), (Dn : Int), t, la, wa] [f0, f1, f2, f3, f4, f5, f6, f7, f8, f9, f10, f11, f12, f13]) [.ref q, .int (iI x), .int (iI y), .int (iI z), .int (iI v)] gIS := by
  refine g_ofT (by decide +kernel) rfl rfl (Nat.le_of_ble_eq_true rfl) (g_cat1 rfl) ?_
  intro p e s m args below meth c A0 E hT hlk htb
  have hts := E.1.2.2.2.2
  show gJ p l e (gRx 7) s m args below meth c 0 0 (gQT below args s D (gTy cI cZ) (gX cI cZ q r [(P : Int), (Dn : Int), t, la, wa] [f0, f1, f2, f3, f4, f5, f6, f7, f8, f9, f10, f11, f12, f13]) gIS A0) A0 D (gX cI cZ q r [(P : Int), (Dn : Int), t, la, wa] [f0, f1, f2, f3, f4, f5, f6, f7, f8, f9, f10, f11, f12, f13]) [some (.ref q), some (.int (iI x)), some (.int (iI y)), some (.int (iI z)), some (.int (iI v)), none] 0 []
  refine g_aload_n E dX0_addDoor_0 rfl rfl ?_
  refine g_iload_n E dX0_addDoor_1 rfl rfl ?_
  refine g_callV0 E (cX_requirePlace (by omega) (by omega)) (cwV 1 hts gX0_addDoor_X0_requirePlace rfl rfl rfl hdX0_requirePlace ⟨(Nat.le_of_ble_eq_true rfl), (Nat.le_of_ble_eq_true rfl)⟩) rfl rfl rfl (Nat.le_of_ble_eq_true rfl) gW_0 rfl dX0_addDoor_2 ⟨Nat.zero_le _, Nat.zero_le _⟩ ?_
  refine g_aload_n E dX0_addDoor_5 rfl rfl ?_
  refine g_iload_n E dX0_addDoor_6 rfl rfl ?_
  refine g_callV0 E (cX_requirePlace (by omega) (by omega)) (cwV 1 hts gX0_addDoor_X0_requirePlace rfl rfl rfl hdX0_requirePlace ⟨(Nat.le_of_ble_eq_true rfl), (Nat.le_of_ble_eq_true rfl)⟩) rfl rfl rfl (Nat.le_of_ble_eq_true rfl) gW_0 rfl dX0_addDoor_7 ⟨Nat.zero_le _, Nat.zero_le _⟩ ?_
  refine g_iload_n E dX0_addDoor_10 rfl rfl ?_
  refine g_iload_n E dX0_addDoor_11 rfl rfl ?_
  refine g_icmp_eq_f E dX0_addDoor_12 (tgt := 39) (by decide) (by omega) (by omega) ?_
  refine g_iload_n E dX0_addDoor_15 rfl rfl ?_
  refine g_iconst E dX0_addDoor_16 ?_
  refine g_bipush E dX0_addDoor_17 (by decide) ?_
  refine g_callSI E (cX_isBetween (rv := 1) (by omega) (Or.inl ⟨rfl, by omega, by omega⟩)) (va_cwS 3 hts gX0_addDoor_X0_isBetween rfl rfl rfl hdX0_isBetween.2 ⟨(Nat.le_of_ble_eq_true rfl), (Nat.le_of_ble_eq_true rfl)⟩) rfl rfl rfl (Nat.le_of_ble_eq_true rfl) dX0_addDoor_19 ⟨Nat.zero_le _, Nat.zero_le _⟩ ?_
  refine g_if_eq_f E dX0_addDoor_22 (tgt := 39) (by decide) (by omega) (by omega) ?_
  refine g_iload E dX0_addDoor_25 rfl ?_
  refine g_iconst E dX0_addDoor_27 ?_
  refine g_iconst E dX0_addDoor_28 ?_
  refine g_callSI E (cX_isBetween (rv := 1) (by omega) (Or.inl ⟨rfl, by omega, by omega⟩)) (va_cwS 3 hts gX0_addDoor_X0_isBetween rfl rfl rfl hdX0_isBetween.2 ⟨(Nat.le_of_ble_eq_true rfl), (Nat.le_of_ble_eq_true rfl)⟩) rfl rfl rfl (Nat.le_of_ble_eq_true rfl) dX0_addDoor_29 ⟨Nat.zero_le _, Nat.zero_le _⟩ ?_
  refine g_if_eq_f E dX0_addDoor_32 (tgt := 39) (by decide) (by omega) (by omega) ?_
  refine g_iconst E dX0_addDoor_35 ?_
  refine g_goto E dX0_addDoor_36 (tgt := 40) (by decide) ?_
  refine g_callSV E (cX_requireArgument rfl) (va_cwS 1 hts gX0_addDoor_X0_requireArgument rfl rfl rfl hdX0_requireArgument.2 ⟨(Nat.le_of_ble_eq_true rfl), (Nat.le_of_ble_eq_true rfl)⟩) rfl rfl rfl (Nat.le_of_ble_eq_true rfl) dX0_addDoor_40 ⟨Nat.zero_le _, Nat.zero_le _⟩ ?_
  refine g_aload_n E dX0_addDoor_43 rfl rfl ?_
  refine g_getI E inX0_addDoor rfl flX0_addDoor_78 dX0_addDoor_44 (by decide) rfl rfl ?_
  refine g_bipush E dX0_addDoor_47 (by decide) ?_
  refine g_icmp_ge_t E dX0_addDoor_49 (tgt := 56) (by decide) (by omega) (by omega) ?_
  refine g_iconst E dX0_addDoor_56 ?_
  exact g_callTS E (tX_requireState hfl rfl) hT hlk htb (va_cwS 1 hts gX0_addDoor_X0_requireState rfl rfl rfl hdX0_requireState.2 ⟨(Nat.le_of_ble_eq_true rfl), (Nat.le_of_ble_eq_true rfl)⟩) rfl rfl rfl (Nat.le_of_ble_eq_true rfl) dX0_addDoor_57 ⟨(Nat.le_of_ble_eq_true rfl), (Nat.le_of_ble_eq_true rfl)⟩
set_option maxHeartbeats 4000000 in
set_option maxRecDepth 100000 in
theorem tX_setDoor1 {l : Launch} {D : va_G} {cI cZ : ClassId} {q : Nat} {r : Nat → Nat} {P Dn : Nat} {t la wa : Int} {f0 f1 f2 f3 f4 f5 f6 f7 f8 f9 f10 f11 f12 f13 : Nat → Int} (hfl : l.stackTraces = false) {x o : Int} (hgx : -2147483648 ≤ x ∧ x < 2147483648) (hDn : Dn ≤ 16) (hx : x < 0 ∨ Dn ≤ x) : gMT l yX0_setDoor wsX0_setDoor 7 D (gTy cI cZ) (gX cI cZ q r [(P : Int), (Dn : Int), t, la, wa] [f0, f1, f2, f3, f4, f5, f6, f7, f8, f9, f10, f11, f12, f13]) [.ref q, .int (iI x), .int (iI o)] gIX := by
  refine g_ofT (by decide +kernel) rfl rfl (Nat.le_of_ble_eq_true rfl) (g_cat1 rfl) ?_
  intro p e s m args below meth c A0 E hT hlk htb
  have hts := E.1.2.2.2.2
  show gJ p l e (gRx 7) s m args below meth c 0 0 (gQT below args s D (gTy cI cZ) (gX cI cZ q r [(P : Int), (Dn : Int), t, la, wa] [f0, f1, f2, f3, f4, f5, f6, f7, f8, f9, f10, f11, f12, f13]) gIX A0) A0 D (gX cI cZ q r [(P : Int), (Dn : Int), t, la, wa] [f0, f1, f2, f3, f4, f5, f6, f7, f8, f9, f10, f11, f12, f13]) [some (.ref q), some (.int (iI x)), some (.int (iI o)), none] 0 []
  refine g_aload_n E dX0_setDoor_0 rfl rfl ?_
  refine g_iload_n E dX0_setDoor_1 rfl rfl ?_
  exact g_callT E (tX_requireDoor hfl hgx (by omega) hx) hT hlk htb (cwV 1 hts gX0_setDoor_X0_requireDoor rfl rfl rfl hdX0_requireDoor ⟨(Nat.le_of_ble_eq_true rfl), (Nat.le_of_ble_eq_true rfl)⟩) rfl rfl rfl (Nat.le_of_ble_eq_true rfl) gW_0 rfl dX0_setDoor_2 ⟨(Nat.le_of_ble_eq_true rfl), (Nat.le_of_ble_eq_true rfl)⟩
set_option maxHeartbeats 4000000 in
set_option maxRecDepth 100000 in
theorem tX_come1 {l : Launch} {D : va_G} {cI cZ : ClassId} {q : Nat} {r : Nat → Nat} {P Dn : Nat} {t la wa : Int} {f0 f1 f2 f3 f4 f5 f6 f7 f8 f9 f10 f11 f12 f13 : Nat → Int} (hfl : l.stackTraces = false) {x n : Int} (hgx : -2147483648 ≤ x ∧ x < 2147483648) (hP : 1 ≤ P ∧ P ≤ 11) (hx : x < 0 ∨ P ≤ x) : gMT l yX0_come wsX0_come 7 D (gTy cI cZ) (gX cI cZ q r [(P : Int), (Dn : Int), t, la, wa] [f0, f1, f2, f3, f4, f5, f6, f7, f8, f9, f10, f11, f12, f13]) [.ref q, .int (iI x), .int (iI n)] gIX := by
  refine g_ofT (by decide +kernel) rfl rfl (Nat.le_of_ble_eq_true rfl) (g_cat1 rfl) ?_
  intro p e s m args below meth c A0 E hT hlk htb
  have hts := E.1.2.2.2.2
  show gJ p l e (gRx 7) s m args below meth c 0 0 (gQT below args s D (gTy cI cZ) (gX cI cZ q r [(P : Int), (Dn : Int), t, la, wa] [f0, f1, f2, f3, f4, f5, f6, f7, f8, f9, f10, f11, f12, f13]) gIX A0) A0 D (gX cI cZ q r [(P : Int), (Dn : Int), t, la, wa] [f0, f1, f2, f3, f4, f5, f6, f7, f8, f9, f10, f11, f12, f13]) [some (.ref q), some (.int (iI x)), some (.int (iI n))] 0 []
  refine g_aload_n E dX0_come_0 rfl rfl ?_
  refine g_iload_n E dX0_come_1 rfl rfl ?_
  exact g_callT E (tX_requirePlace hfl hgx (by omega) hx) hT hlk htb (cwV 1 hts gX0_come_X0_requirePlace rfl rfl rfl hdX0_requirePlace ⟨(Nat.le_of_ble_eq_true rfl), (Nat.le_of_ble_eq_true rfl)⟩) rfl rfl rfl (Nat.le_of_ble_eq_true rfl) gW_0 rfl dX0_come_2 ⟨(Nat.le_of_ble_eq_true rfl), (Nat.le_of_ble_eq_true rfl)⟩
set_option maxHeartbeats 4000000 in
set_option maxRecDepth 100000 in
theorem tX_come2 {l : Launch} {D : va_G} {cI cZ : ClassId} {q : Nat} {r : Nat → Nat} {P Dn : Nat} {t la wa : Int} {f0 f1 f2 f3 f4 f5 f6 f7 f8 f9 f10 f11 f12 f13 : Nat → Int} (hfl : l.stackTraces = false) {x n : Int} (hgn : -2147483648 ≤ n ∧ n < 2147483648) (hP : 1 ≤ P ∧ P ≤ 11) (hx : 0 ≤ x ∧ x < P) (hn : x = 0 ∨ n < 1 ∨ 30 < n) : gMT l yX0_come wsX0_come 7 D (gTy cI cZ) (gX cI cZ q r [(P : Int), (Dn : Int), t, la, wa] [f0, f1, f2, f3, f4, f5, f6, f7, f8, f9, f10, f11, f12, f13]) [.ref q, .int (iI x), .int (iI n)] gIA := by
  refine g_ofT (by decide +kernel) rfl rfl (Nat.le_of_ble_eq_true rfl) (g_cat1 rfl) ?_
  intro p e s m args below meth c A0 E hT hlk htb
  have hts := E.1.2.2.2.2
  show gJ p l e (gRx 7) s m args below meth c 0 0 (gQT below args s D (gTy cI cZ) (gX cI cZ q r [(P : Int), (Dn : Int), t, la, wa] [f0, f1, f2, f3, f4, f5, f6, f7, f8, f9, f10, f11, f12, f13]) gIA A0) A0 D (gX cI cZ q r [(P : Int), (Dn : Int), t, la, wa] [f0, f1, f2, f3, f4, f5, f6, f7, f8, f9, f10, f11, f12, f13]) [some (.ref q), some (.int (iI x)), some (.int (iI n))] 0 []
  by_cases h1 : x = 0
  · refine g_aload_n E dX0_come_0 rfl rfl ?_
    refine g_iload_n E dX0_come_1 rfl rfl ?_
    refine g_callV0 E (cX_requirePlace (by omega) (by omega)) (cwV 1 hts gX0_come_X0_requirePlace rfl rfl rfl hdX0_requirePlace ⟨(Nat.le_of_ble_eq_true rfl), (Nat.le_of_ble_eq_true rfl)⟩) rfl rfl rfl (Nat.le_of_ble_eq_true rfl) gW_0 rfl dX0_come_2 ⟨Nat.zero_le _, Nat.zero_le _⟩ ?_
    refine g_iload_n E dX0_come_5 rfl rfl ?_
    refine g_if_eq_t E dX0_come_6 (tgt := 23) (by decide) (by omega) (by omega) ?_
    refine g_iconst E dX0_come_23 ?_
    exact g_callTS E (tX_requireArgument hfl rfl) hT hlk htb (va_cwS 1 hts gX0_come_X0_requireArgument rfl rfl rfl hdX0_requireArgument.2 ⟨(Nat.le_of_ble_eq_true rfl), (Nat.le_of_ble_eq_true rfl)⟩) rfl rfl rfl (Nat.le_of_ble_eq_true rfl) dX0_come_24 ⟨(Nat.le_of_ble_eq_true rfl), (Nat.le_of_ble_eq_true rfl)⟩
  · refine g_aload_n E dX0_come_0 rfl rfl ?_
    refine g_iload_n E dX0_come_1 rfl rfl ?_
    refine g_callV0 E (cX_requirePlace (by omega) (by omega)) (cwV 1 hts gX0_come_X0_requirePlace rfl rfl rfl hdX0_requirePlace ⟨(Nat.le_of_ble_eq_true rfl), (Nat.le_of_ble_eq_true rfl)⟩) rfl rfl rfl (Nat.le_of_ble_eq_true rfl) gW_0 rfl dX0_come_2 ⟨Nat.zero_le _, Nat.zero_le _⟩ ?_
    refine g_iload_n E dX0_come_5 rfl rfl ?_
    refine g_if_eq_f E dX0_come_6 (tgt := 23) (by decide) (by omega) (by omega) ?_
    refine g_iload_n E dX0_come_9 rfl rfl ?_
    refine g_iconst E dX0_come_10 ?_
    refine g_bipush E dX0_come_11 (by decide) ?_
    refine g_callSI E (cX_isBetween (rv := 0) (by omega) (Or.inr ⟨rfl, by omega⟩)) (va_cwS 3 hts gX0_come_X0_isBetween rfl rfl rfl hdX0_isBetween.2 ⟨(Nat.le_of_ble_eq_true rfl), (Nat.le_of_ble_eq_true rfl)⟩) rfl rfl rfl (Nat.le_of_ble_eq_true rfl) dX0_come_13 ⟨Nat.zero_le _, Nat.zero_le _⟩ ?_
    refine g_if_eq_t E dX0_come_16 (tgt := 23) (by decide) (by omega) (by omega) ?_
    refine g_iconst E dX0_come_23 ?_
    exact g_callTS E (tX_requireArgument hfl rfl) hT hlk htb (va_cwS 1 hts gX0_come_X0_requireArgument rfl rfl rfl hdX0_requireArgument.2 ⟨(Nat.le_of_ble_eq_true rfl), (Nat.le_of_ble_eq_true rfl)⟩) rfl rfl rfl (Nat.le_of_ble_eq_true rfl) dX0_come_24 ⟨(Nat.le_of_ble_eq_true rfl), (Nat.le_of_ble_eq_true rfl)⟩
set_option maxHeartbeats 4000000 in
set_option maxRecDepth 100000 in
theorem tX_come3 {l : Launch} {D : va_G} {cI cZ : ClassId} {q : Nat} {r : Nat → Nat} {P Dn : Nat} {t la wa : Int} {f0 f1 f2 f3 f4 f5 f6 f7 f8 f9 f10 f11 f12 f13 : Nat → Int} (hfl : l.stackTraces = false) {i : Nat} {n : Int} (hP : 1 ≤ P ∧ P ≤ 11) (hi : 1 ≤ i ∧ i < P) (hn : 1 ≤ n ∧ n ≤ 30) (hf : 0 ≤ f1 i ∧ f1 i ≤ f0 i ∧ f0 i ≤ 30) (hle : f0 i < f1 i + n) : gMT l yX0_come wsX0_come 7 D (gTy cI cZ) (gX cI cZ q r [(P : Int), (Dn : Int), t, la, wa] [f0, f1, f2, f3, f4, f5, f6, f7, f8, f9, f10, f11, f12, f13]) [.ref q, .int (iI (i : Int)), .int (iI n)] gIS := by
  refine g_ofT (by decide +kernel) rfl rfl (Nat.le_of_ble_eq_true rfl) (g_cat1 rfl) ?_
  intro p e s m args below meth c A0 E hT hlk htb
  have hts := E.1.2.2.2.2
  show gJ p l e (gRx 7) s m args below meth c 0 0 (gQT below args s D (gTy cI cZ) (gX cI cZ q r [(P : Int), (Dn : Int), t, la, wa] [f0, f1, f2, f3, f4, f5, f6, f7, f8, f9, f10, f11, f12, f13]) gIS A0) A0 D (gX cI cZ q r [(P : Int), (Dn : Int), t, la, wa] [f0, f1, f2, f3, f4, f5, f6, f7, f8, f9, f10, f11, f12, f13]) [some (.ref q), some (.int (iI (i : Int))), some (.int (iI n))] 0 []
  have e9 : pRoom f0 f1 i = f0 i - f1 i := if_neg (by omega)
  refine g_aload_n E dX0_come_0 rfl rfl ?_
  refine g_iload_n E dX0_come_1 rfl rfl ?_
  refine g_callV0 E (cX_requirePlace (by omega) (by omega)) (cwV 1 hts gX0_come_X0_requirePlace rfl rfl rfl hdX0_requirePlace ⟨(Nat.le_of_ble_eq_true rfl), (Nat.le_of_ble_eq_true rfl)⟩) rfl rfl rfl (Nat.le_of_ble_eq_true rfl) gW_0 rfl dX0_come_2 ⟨Nat.zero_le _, Nat.zero_le _⟩ ?_
  refine g_iload_n E dX0_come_5 rfl rfl ?_
  refine g_if_eq_f E dX0_come_6 (tgt := 23) (by decide) (by omega) (by omega) ?_
  refine g_iload_n E dX0_come_9 rfl rfl ?_
  refine g_iconst E dX0_come_10 ?_
  refine g_bipush E dX0_come_11 (by decide) ?_
  refine g_callSI E (cX_isBetween (rv := 1) (by omega) (Or.inl ⟨rfl, by omega, by omega⟩)) (va_cwS 3 hts gX0_come_X0_isBetween rfl rfl rfl hdX0_isBetween.2 ⟨(Nat.le_of_ble_eq_true rfl), (Nat.le_of_ble_eq_true rfl)⟩) rfl rfl rfl (Nat.le_of_ble_eq_true rfl) dX0_come_13 ⟨Nat.zero_le _, Nat.zero_le _⟩ ?_
  refine g_if_eq_f E dX0_come_16 (tgt := 23) (by decide) (by omega) (by omega) ?_
  refine g_iconst E dX0_come_19 ?_
  refine g_goto E dX0_come_20 (tgt := 24) (by decide) ?_
  refine g_callSV E (cX_requireArgument rfl) (va_cwS 1 hts gX0_come_X0_requireArgument rfl rfl rfl hdX0_requireArgument.2 ⟨(Nat.le_of_ble_eq_true rfl), (Nat.le_of_ble_eq_true rfl)⟩) rfl rfl rfl (Nat.le_of_ble_eq_true rfl) dX0_come_24 ⟨Nat.zero_le _, Nat.zero_le _⟩ ?_
  refine g_iload_n E dX0_come_27 rfl rfl ?_
  refine g_aload_n E dX0_come_28 rfl rfl ?_
  refine g_iload_n E dX0_come_29 rfl rfl ?_
  refine g_callI0 E (cX_roomLeft (i := i) ⟨rfl, by omega⟩ rfl) (cwV 1 hts gX0_come_X0_roomLeft rfl rfl rfl hdX0_roomLeft ⟨(Nat.le_of_ble_eq_true rfl), (Nat.le_of_ble_eq_true rfl)⟩) rfl rfl rfl (Nat.le_of_ble_eq_true rfl) gW_0 rfl dX0_come_30 ⟨Nat.zero_le _, Nat.zero_le _⟩ ?_
  refine g_icmp_gt_t E dX0_come_33 (tgt := 40) (by decide) (by omega) (by omega) ?_
  refine g_iconst E dX0_come_40 ?_
  exact g_callTS E (tX_requireState hfl rfl) hT hlk htb (va_cwS 1 hts gX0_come_X0_requireState rfl rfl rfl hdX0_requireState.2 ⟨(Nat.le_of_ble_eq_true rfl), (Nat.le_of_ble_eq_true rfl)⟩) rfl rfl rfl (Nat.le_of_ble_eq_true rfl) dX0_come_41 ⟨(Nat.le_of_ble_eq_true rfl), (Nat.le_of_ble_eq_true rfl)⟩
set_option maxHeartbeats 4000000 in
set_option maxRecDepth 100000 in
theorem tX_setRelease1 {l : Launch} {D : va_G} {cI cZ : ClassId} {q : Nat} {r : Nat → Nat} {P Dn : Nat} {t la wa : Int} {f0 f1 f2 f3 f4 f5 f6 f7 f8 f9 f10 f11 f12 f13 : Nat → Int} (hfl : l.stackTraces = false) {x n : Int} (hgx : -2147483648 ≤ x ∧ x < 2147483648) (hP : 1 ≤ P ∧ P ≤ 11) (hx : x < 0 ∨ P ≤ x) : gMT l yX0_setRelease wsX0_setRelease 7 D (gTy cI cZ) (gX cI cZ q r [(P : Int), (Dn : Int), t, la, wa] [f0, f1, f2, f3, f4, f5, f6, f7, f8, f9, f10, f11, f12, f13]) [.ref q, .int (iI x), .int (iI n)] gIX := by
  refine g_ofT (by decide +kernel) rfl rfl (Nat.le_of_ble_eq_true rfl) (g_cat1 rfl) ?_
  intro p e s m args below meth c A0 E hT hlk htb
  have hts := E.1.2.2.2.2
  show gJ p l e (gRx 7) s m args below meth c 0 0 (gQT below args s D (gTy cI cZ) (gX cI cZ q r [(P : Int), (Dn : Int), t, la, wa] [f0, f1, f2, f3, f4, f5, f6, f7, f8, f9, f10, f11, f12, f13]) gIX A0) A0 D (gX cI cZ q r [(P : Int), (Dn : Int), t, la, wa] [f0, f1, f2, f3, f4, f5, f6, f7, f8, f9, f10, f11, f12, f13]) [some (.ref q), some (.int (iI x)), some (.int (iI n)), none] 0 []
  refine g_aload_n E dX0_setRelease_0 rfl rfl ?_
  refine g_iload_n E dX0_setRelease_1 rfl rfl ?_
  exact g_callT E (tX_requirePlace hfl hgx (by omega) hx) hT hlk htb (cwV 1 hts gX0_setRelease_X0_requirePlace rfl rfl rfl hdX0_requirePlace ⟨(Nat.le_of_ble_eq_true rfl), (Nat.le_of_ble_eq_true rfl)⟩) rfl rfl rfl (Nat.le_of_ble_eq_true rfl) gW_0 rfl dX0_setRelease_2 ⟨(Nat.le_of_ble_eq_true rfl), (Nat.le_of_ble_eq_true rfl)⟩
set_option maxHeartbeats 4000000 in
set_option maxRecDepth 100000 in
theorem tX_setRelease2 {l : Launch} {D : va_G} {cI cZ : ClassId} {q : Nat} {r : Nat → Nat} {P Dn : Nat} {t la wa : Int} {f0 f1 f2 f3 f4 f5 f6 f7 f8 f9 f10 f11 f12 f13 : Nat → Int} (hfl : l.stackTraces = false) {x n : Int} (hgn : -2147483648 ≤ n ∧ n < 2147483648) (hP : 1 ≤ P ∧ P ≤ 11) (hx : 0 ≤ x ∧ x < P) (hn : n < 0 ∨ 1000 < n) : gMT l yX0_setRelease wsX0_setRelease 7 D (gTy cI cZ) (gX cI cZ q r [(P : Int), (Dn : Int), t, la, wa] [f0, f1, f2, f3, f4, f5, f6, f7, f8, f9, f10, f11, f12, f13]) [.ref q, .int (iI x), .int (iI n)] gIA := by
  refine g_ofT (by decide +kernel) rfl rfl (Nat.le_of_ble_eq_true rfl) (g_cat1 rfl) ?_
  intro p e s m args below meth c A0 E hT hlk htb
  have hts := E.1.2.2.2.2
  show gJ p l e (gRx 7) s m args below meth c 0 0 (gQT below args s D (gTy cI cZ) (gX cI cZ q r [(P : Int), (Dn : Int), t, la, wa] [f0, f1, f2, f3, f4, f5, f6, f7, f8, f9, f10, f11, f12, f13]) gIA A0) A0 D (gX cI cZ q r [(P : Int), (Dn : Int), t, la, wa] [f0, f1, f2, f3, f4, f5, f6, f7, f8, f9, f10, f11, f12, f13]) [some (.ref q), some (.int (iI x)), some (.int (iI n)), none] 0 []
  refine g_aload_n E dX0_setRelease_0 rfl rfl ?_
  refine g_iload_n E dX0_setRelease_1 rfl rfl ?_
  refine g_callV0 E (cX_requirePlace (by omega) (by omega)) (cwV 1 hts gX0_setRelease_X0_requirePlace rfl rfl rfl hdX0_requirePlace ⟨(Nat.le_of_ble_eq_true rfl), (Nat.le_of_ble_eq_true rfl)⟩) rfl rfl rfl (Nat.le_of_ble_eq_true rfl) gW_0 rfl dX0_setRelease_2 ⟨Nat.zero_le _, Nat.zero_le _⟩ ?_
  refine g_iload_n E dX0_setRelease_5 rfl rfl ?_
  refine g_iconst E dX0_setRelease_6 ?_
  refine g_sipush E dX0_setRelease_7 (by decide) ?_
  refine g_callSI E (cX_isBetween (rv := 0) (by omega) (Or.inr ⟨rfl, by omega⟩)) (va_cwS 3 hts gX0_setRelease_X0_isBetween rfl rfl rfl hdX0_isBetween.2 ⟨(Nat.le_of_ble_eq_true rfl), (Nat.le_of_ble_eq_true rfl)⟩) rfl rfl rfl (Nat.le_of_ble_eq_true rfl) dX0_setRelease_10 ⟨Nat.zero_le _, Nat.zero_le _⟩ ?_
  exact g_callTS E (tX_requireArgument hfl rfl) hT hlk htb (va_cwS 1 hts gX0_setRelease_X0_requireArgument rfl rfl rfl hdX0_requireArgument.2 ⟨(Nat.le_of_ble_eq_true rfl), (Nat.le_of_ble_eq_true rfl)⟩) rfl rfl rfl (Nat.le_of_ble_eq_true rfl) dX0_setRelease_13 ⟨(Nat.le_of_ble_eq_true rfl), (Nat.le_of_ble_eq_true rfl)⟩
set_option maxHeartbeats 4000000 in
set_option maxRecDepth 100000 in
theorem tX_step1 {l : Launch} {D : va_G} {cI cZ : ClassId} {q : Nat} {r : Nat → Nat} {P Dn : Nat} {t la wa : Int} {f0 f1 f2 f3 f4 f5 f6 f7 f8 f9 f10 f11 f12 f13 : Nat → Int} (hfl : l.stackTraces = false) {n : Int} (hgn : -2147483648 ≤ n ∧ n < 2147483648) (hn : n < 1 ∨ 50 < n) : gMT l yX0_step wsX0_step 7 D (gTy cI cZ) (gX cI cZ q r [(P : Int), (Dn : Int), t, la, wa] [f0, f1, f2, f3, f4, f5, f6, f7, f8, f9, f10, f11, f12, f13]) [.ref q, .int (iI n)] gIA := by
  refine g_ofT (by decide +kernel) rfl rfl (Nat.le_of_ble_eq_true rfl) (g_cat1 rfl) ?_
  intro p e s m args below meth c A0 E hT hlk htb
  have hts := E.1.2.2.2.2
  show gJ p l e (gRx 7) s m args below meth c 0 0 (gQT below args s D (gTy cI cZ) (gX cI cZ q r [(P : Int), (Dn : Int), t, la, wa] [f0, f1, f2, f3, f4, f5, f6, f7, f8, f9, f10, f11, f12, f13]) gIA A0) A0 D (gX cI cZ q r [(P : Int), (Dn : Int), t, la, wa] [f0, f1, f2, f3, f4, f5, f6, f7, f8, f9, f10, f11, f12, f13]) [some (.ref q), some (.int (iI n)), none, none] 0 []
  refine g_iload_n E dX0_step_0 rfl rfl ?_
  refine g_iconst E dX0_step_1 ?_
  refine g_bipush E dX0_step_2 (by decide) ?_
  refine g_callSI E (cX_isBetween (rv := 0) (by omega) (Or.inr ⟨rfl, by omega⟩)) (va_cwS 3 hts gX0_step_X0_isBetween rfl rfl rfl hdX0_isBetween.2 ⟨(Nat.le_of_ble_eq_true rfl), (Nat.le_of_ble_eq_true rfl)⟩) rfl rfl rfl (Nat.le_of_ble_eq_true rfl) dX0_step_4 ⟨Nat.zero_le _, Nat.zero_le _⟩ ?_
  exact g_callTS E (tX_requireArgument hfl rfl) hT hlk htb (va_cwS 1 hts gX0_step_X0_requireArgument rfl rfl rfl hdX0_requireArgument.2 ⟨(Nat.le_of_ble_eq_true rfl), (Nat.le_of_ble_eq_true rfl)⟩) rfl rfl rfl (Nat.le_of_ble_eq_true rfl) dX0_step_7 ⟨(Nat.le_of_ble_eq_true rfl), (Nat.le_of_ble_eq_true rfl)⟩
set_option maxHeartbeats 4000000 in
set_option maxRecDepth 100000 in
theorem tX_people1 {l : Launch} {D : va_G} {cI cZ : ClassId} {q : Nat} {r : Nat → Nat} {P Dn : Nat} {t la wa : Int} {f0 f1 f2 f3 f4 f5 f6 f7 f8 f9 f10 f11 f12 f13 : Nat → Int} (hfl : l.stackTraces = false) {x : Int} (hgx : -2147483648 ≤ x ∧ x < 2147483648) (hP : 1 ≤ P ∧ P ≤ 11) (hx : x < 0 ∨ P ≤ x) : gMT l yX0_people wsX0_people 7 D (gTy cI cZ) (gX cI cZ q r [(P : Int), (Dn : Int), t, la, wa] [f0, f1, f2, f3, f4, f5, f6, f7, f8, f9, f10, f11, f12, f13]) [.ref q, .int (iI x)] gIX := by
  refine g_ofT (by decide +kernel) rfl rfl (Nat.le_of_ble_eq_true rfl) (g_cat1 rfl) ?_
  intro p e s m args below meth c A0 E hT hlk htb
  have hts := E.1.2.2.2.2
  show gJ p l e (gRx 7) s m args below meth c 0 0 (gQT below args s D (gTy cI cZ) (gX cI cZ q r [(P : Int), (Dn : Int), t, la, wa] [f0, f1, f2, f3, f4, f5, f6, f7, f8, f9, f10, f11, f12, f13]) gIX A0) A0 D (gX cI cZ q r [(P : Int), (Dn : Int), t, la, wa] [f0, f1, f2, f3, f4, f5, f6, f7, f8, f9, f10, f11, f12, f13]) [some (.ref q), some (.int (iI x))] 0 []
  refine g_aload_n E dX0_people_0 rfl rfl ?_
  refine g_iload_n E dX0_people_1 rfl rfl ?_
  exact g_callT E (tX_requirePlace hfl hgx (by omega) hx) hT hlk htb (cwV 1 hts gX0_people_X0_requirePlace rfl rfl rfl hdX0_requirePlace ⟨(Nat.le_of_ble_eq_true rfl), (Nat.le_of_ble_eq_true rfl)⟩) rfl rfl rfl (Nat.le_of_ble_eq_true rfl) gW_0 rfl dX0_people_2 ⟨(Nat.le_of_ble_eq_true rfl), (Nat.le_of_ble_eq_true rfl)⟩
set_option maxHeartbeats 4000000 in
set_option maxRecDepth 100000 in
theorem tX_distance1 {l : Launch} {D : va_G} {cI cZ : ClassId} {q : Nat} {r : Nat → Nat} {P Dn : Nat} {t la wa : Int} {f0 f1 f2 f3 f4 f5 f6 f7 f8 f9 f10 f11 f12 f13 : Nat → Int} (hfl : l.stackTraces = false) {x : Int} (hgx : -2147483648 ≤ x ∧ x < 2147483648) (hP : 1 ≤ P ∧ P ≤ 11) (hx : x < 0 ∨ P ≤ x) : gMT l yX0_distance wsX0_distance 7 D (gTy cI cZ) (gX cI cZ q r [(P : Int), (Dn : Int), t, la, wa] [f0, f1, f2, f3, f4, f5, f6, f7, f8, f9, f10, f11, f12, f13]) [.ref q, .int (iI x)] gIX := by
  refine g_ofT (by decide +kernel) rfl rfl (Nat.le_of_ble_eq_true rfl) (g_cat1 rfl) ?_
  intro p e s m args below meth c A0 E hT hlk htb
  have hts := E.1.2.2.2.2
  show gJ p l e (gRx 7) s m args below meth c 0 0 (gQT below args s D (gTy cI cZ) (gX cI cZ q r [(P : Int), (Dn : Int), t, la, wa] [f0, f1, f2, f3, f4, f5, f6, f7, f8, f9, f10, f11, f12, f13]) gIX A0) A0 D (gX cI cZ q r [(P : Int), (Dn : Int), t, la, wa] [f0, f1, f2, f3, f4, f5, f6, f7, f8, f9, f10, f11, f12, f13]) [some (.ref q), some (.int (iI x))] 0 []
  refine g_aload_n E dX0_distance_0 rfl rfl ?_
  refine g_iload_n E dX0_distance_1 rfl rfl ?_
  exact g_callT E (tX_requirePlace hfl hgx (by omega) hx) hT hlk htb (cwV 1 hts gX0_distance_X0_requirePlace rfl rfl rfl hdX0_requirePlace ⟨(Nat.le_of_ble_eq_true rfl), (Nat.le_of_ble_eq_true rfl)⟩) rfl rfl rfl (Nat.le_of_ble_eq_true rfl) gW_0 rfl dX0_distance_2 ⟨(Nat.le_of_ble_eq_true rfl), (Nat.le_of_ble_eq_true rfl)⟩
set_option maxHeartbeats 4000000 in
set_option maxRecDepth 100000 in
theorem tX_door1 {l : Launch} {D : va_G} {cI cZ : ClassId} {q : Nat} {r : Nat → Nat} {P Dn : Nat} {t la wa : Int} {f0 f1 f2 f3 f4 f5 f6 f7 f8 f9 f10 f11 f12 f13 : Nat → Int} (hfl : l.stackTraces = false) {x : Int} (hgx : -2147483648 ≤ x ∧ x < 2147483648) (hP : 1 ≤ P ∧ P ≤ 11) (hx : x < 0 ∨ P ≤ x) : gMT l yX0_door wsX0_door 7 D (gTy cI cZ) (gX cI cZ q r [(P : Int), (Dn : Int), t, la, wa] [f0, f1, f2, f3, f4, f5, f6, f7, f8, f9, f10, f11, f12, f13]) [.ref q, .int (iI x)] gIX := by
  refine g_ofT (by decide +kernel) rfl rfl (Nat.le_of_ble_eq_true rfl) (g_cat1 rfl) ?_
  intro p e s m args below meth c A0 E hT hlk htb
  have hts := E.1.2.2.2.2
  show gJ p l e (gRx 7) s m args below meth c 0 0 (gQT below args s D (gTy cI cZ) (gX cI cZ q r [(P : Int), (Dn : Int), t, la, wa] [f0, f1, f2, f3, f4, f5, f6, f7, f8, f9, f10, f11, f12, f13]) gIX A0) A0 D (gX cI cZ q r [(P : Int), (Dn : Int), t, la, wa] [f0, f1, f2, f3, f4, f5, f6, f7, f8, f9, f10, f11, f12, f13]) [some (.ref q), some (.int (iI x))] 0 []
  refine g_aload_n E dX0_door_0 rfl rfl ?_
  refine g_iload_n E dX0_door_1 rfl rfl ?_
  exact g_callT E (tX_requirePlace hfl hgx (by omega) hx) hT hlk htb (cwV 1 hts gX0_door_X0_requirePlace rfl rfl rfl hdX0_requirePlace ⟨(Nat.le_of_ble_eq_true rfl), (Nat.le_of_ble_eq_true rfl)⟩) rfl rfl rfl (Nat.le_of_ble_eq_true rfl) gW_0 rfl dX0_door_2 ⟨(Nat.le_of_ble_eq_true rfl), (Nat.le_of_ble_eq_true rfl)⟩
set_option maxHeartbeats 4000000 in
set_option maxRecDepth 100000 in
theorem tX_wouldMove1 {l : Launch} {D : va_G} {cI cZ : ClassId} {q : Nat} {r : Nat → Nat} {P Dn : Nat} {t la wa : Int} {f0 f1 f2 f3 f4 f5 f6 f7 f8 f9 f10 f11 f12 f13 : Nat → Int} (hfl : l.stackTraces = false) {x : Int} (hgx : -2147483648 ≤ x ∧ x < 2147483648) (hP : 1 ≤ P ∧ P ≤ 11) (hx : x < 0 ∨ P ≤ x) : gMT l yX0_wouldMove wsX0_wouldMove 7 D (gTy cI cZ) (gX cI cZ q r [(P : Int), (Dn : Int), t, la, wa] [f0, f1, f2, f3, f4, f5, f6, f7, f8, f9, f10, f11, f12, f13]) [.ref q, .int (iI x)] gIX := by
  refine g_ofT (by decide +kernel) rfl rfl (Nat.le_of_ble_eq_true rfl) (g_cat1 rfl) ?_
  intro p e s m args below meth c A0 E hT hlk htb
  have hts := E.1.2.2.2.2
  show gJ p l e (gRx 7) s m args below meth c 0 0 (gQT below args s D (gTy cI cZ) (gX cI cZ q r [(P : Int), (Dn : Int), t, la, wa] [f0, f1, f2, f3, f4, f5, f6, f7, f8, f9, f10, f11, f12, f13]) gIX A0) A0 D (gX cI cZ q r [(P : Int), (Dn : Int), t, la, wa] [f0, f1, f2, f3, f4, f5, f6, f7, f8, f9, f10, f11, f12, f13]) [some (.ref q), some (.int (iI x)), none] 0 []
  refine g_aload_n E dX0_wouldMove_0 rfl rfl ?_
  refine g_iload_n E dX0_wouldMove_1 rfl rfl ?_
  exact g_callT E (tX_requirePlace hfl hgx (by omega) hx) hT hlk htb (cwV 1 hts gX0_wouldMove_X0_requirePlace rfl rfl rfl hdX0_requirePlace ⟨(Nat.le_of_ble_eq_true rfl), (Nat.le_of_ble_eq_true rfl)⟩) rfl rfl rfl (Nat.le_of_ble_eq_true rfl) gW_0 rfl dX0_wouldMove_2 ⟨(Nat.le_of_ble_eq_true rfl), (Nat.le_of_ble_eq_true rfl)⟩
set_option maxHeartbeats 4000000 in
set_option maxRecDepth 100000 in
theorem tX_passed1 {l : Launch} {D : va_G} {cI cZ : ClassId} {q : Nat} {r : Nat → Nat} {P Dn : Nat} {t la wa : Int} {f0 f1 f2 f3 f4 f5 f6 f7 f8 f9 f10 f11 f12 f13 : Nat → Int} (hfl : l.stackTraces = false) {x : Int} (hgx : -2147483648 ≤ x ∧ x < 2147483648) (hDn : Dn ≤ 16) (hx : x < 0 ∨ Dn ≤ x) : gMT l yX0_passed wsX0_passed 7 D (gTy cI cZ) (gX cI cZ q r [(P : Int), (Dn : Int), t, la, wa] [f0, f1, f2, f3, f4, f5, f6, f7, f8, f9, f10, f11, f12, f13]) [.ref q, .int (iI x)] gIX := by
  refine g_ofT (by decide +kernel) rfl rfl (Nat.le_of_ble_eq_true rfl) (g_cat1 rfl) ?_
  intro p e s m args below meth c A0 E hT hlk htb
  have hts := E.1.2.2.2.2
  show gJ p l e (gRx 7) s m args below meth c 0 0 (gQT below args s D (gTy cI cZ) (gX cI cZ q r [(P : Int), (Dn : Int), t, la, wa] [f0, f1, f2, f3, f4, f5, f6, f7, f8, f9, f10, f11, f12, f13]) gIX A0) A0 D (gX cI cZ q r [(P : Int), (Dn : Int), t, la, wa] [f0, f1, f2, f3, f4, f5, f6, f7, f8, f9, f10, f11, f12, f13]) [some (.ref q), some (.int (iI x))] 0 []
  refine g_aload_n E dX0_passed_0 rfl rfl ?_
  refine g_iload_n E dX0_passed_1 rfl rfl ?_
  exact g_callT E (tX_requireDoor hfl hgx (by omega) hx) hT hlk htb (cwV 1 hts gX0_passed_X0_requireDoor rfl rfl rfl hdX0_requireDoor ⟨(Nat.le_of_ble_eq_true rfl), (Nat.le_of_ble_eq_true rfl)⟩) rfl rfl rfl (Nat.le_of_ble_eq_true rfl) gW_0 rfl dX0_passed_2 ⟨(Nat.le_of_ble_eq_true rfl), (Nat.le_of_ble_eq_true rfl)⟩
set_option maxHeartbeats 4000000 in
set_option maxRecDepth 100000 in
theorem tX_latest1 {l : Launch} {D : va_G} {cI cZ : ClassId} {q : Nat} {r : Nat → Nat} {P Dn : Nat} {t la wa : Int} {f0 f1 f2 f3 f4 f5 f6 f7 f8 f9 f10 f11 f12 f13 : Nat → Int} (hfl : l.stackTraces = false) (hla : la = -1) : gMT l yX0_latest wsX0_latest 7 D (gTy cI cZ) (gX cI cZ q r [(P : Int), (Dn : Int), t, la, wa] [f0, f1, f2, f3, f4, f5, f6, f7, f8, f9, f10, f11, f12, f13]) [.ref q] gNS := by
  refine g_ofT (by decide +kernel) rfl rfl (Nat.le_of_ble_eq_true rfl) (g_cat1 rfl) ?_
  intro p e s m args below meth c A0 E hT hlk htb
  have hts := E.1.2.2.2.2
  show gJ p l e (gRx 7) s m args below meth c 0 0 (gQT below args s D (gTy cI cZ) (gX cI cZ q r [(P : Int), (Dn : Int), t, la, wa] [f0, f1, f2, f3, f4, f5, f6, f7, f8, f9, f10, f11, f12, f13]) gNS A0) A0 D (gX cI cZ q r [(P : Int), (Dn : Int), t, la, wa] [f0, f1, f2, f3, f4, f5, f6, f7, f8, f9, f10, f11, f12, f13]) [some (.ref q)] 0 []
  refine g_aload_n E dX0_latest_0 rfl rfl ?_
  refine g_getI E inX0_latest rfl flX0_latest_57 dX0_latest_1 (by decide) rfl rfl ?_
  refine g_iconst E dX0_latest_4 ?_
  refine g_icmp_eq_t E dX0_latest_5 (tgt := 12) (by decide) (by omega) (by omega) ?_
  refine g_iconst E dX0_latest_12 ?_
  exact g_callTS E (tX_requireElement hfl rfl) hT hlk htb (va_cwS 1 hts gX0_latest_X0_requireElement rfl rfl rfl hdX0_requireElement.2 ⟨(Nat.le_of_ble_eq_true rfl), (Nat.le_of_ble_eq_true rfl)⟩) rfl rfl rfl (Nat.le_of_ble_eq_true rfl) dX0_latest_13 ⟨(Nat.le_of_ble_eq_true rfl), (Nat.le_of_ble_eq_true rfl)⟩
set_option maxHeartbeats 4000000 in
set_option maxRecDepth 100000 in
theorem tX_distance2 {l : Launch} {D : va_G} {cI cZ : ClassId} {q : Nat} {r : Nat → Nat} {P Dn : Nat} {t la wa : Int} {f0 f1 f2 f3 f4 f5 f6 f7 f8 f9 f10 f11 f12 f13 : Nat → Int} (hfl : l.stackTraces = false) {i : Nat} (hP : 1 ≤ P ∧ P ≤ 11) (hi : i < P) (hne : f3 i = -1) : gMT l yX0_distance wsX0_distance 7 D (gTy cI cZ) (gX cI cZ q r [(P : Int), (Dn : Int), t, la, wa] [f0, f1, f2, f3, f4, f5, f6, f7, f8, f9, f10, f11, f12, f13]) [.ref q, .int (iI (i : Int))] gNS := by
  refine g_ofT (by decide +kernel) rfl rfl (Nat.le_of_ble_eq_true rfl) (g_cat1 rfl) ?_
  intro p e s m args below meth c A0 E hT hlk htb
  have hts := E.1.2.2.2.2
  show gJ p l e (gRx 7) s m args below meth c 0 0 (gQT below args s D (gTy cI cZ) (gX cI cZ q r [(P : Int), (Dn : Int), t, la, wa] [f0, f1, f2, f3, f4, f5, f6, f7, f8, f9, f10, f11, f12, f13]) gNS A0) A0 D (gX cI cZ q r [(P : Int), (Dn : Int), t, la, wa] [f0, f1, f2, f3, f4, f5, f6, f7, f8, f9, f10, f11, f12, f13]) [some (.ref q), some (.int (iI (i : Int)))] 0 []
  refine g_aload_n E dX0_distance_0 rfl rfl ?_
  refine g_iload_n E dX0_distance_1 rfl rfl ?_
  refine g_callV0 E (cX_requirePlace (by omega) (by omega)) (cwV 1 hts gX0_distance_X0_requirePlace rfl rfl rfl hdX0_requirePlace ⟨(Nat.le_of_ble_eq_true rfl), (Nat.le_of_ble_eq_true rfl)⟩) rfl rfl rfl (Nat.le_of_ble_eq_true rfl) gW_0 rfl dX0_distance_2 ⟨Nat.zero_le _, Nat.zero_le _⟩ ?_
  refine g_aload_n E dX0_distance_5 rfl rfl ?_
  refine g_getR E inX0_distance rfl flX0_distance_19 dX0_distance_6 (by decide) rfl ?_
  refine g_iload_n E dX0_distance_9 rfl rfl ?_
  refine g_ald E dX0_distance_10 rfl rfl rfl (by omega) ?_
  refine g_iconst E dX0_distance_11 ?_
  refine g_icmp_eq_t E dX0_distance_12 (tgt := 19) (by decide) (by omega) (by omega) ?_
  refine g_iconst E dX0_distance_19 ?_
  exact g_callTS E (tX_requireElement hfl rfl) hT hlk htb (va_cwS 1 hts gX0_distance_X0_requireElement rfl rfl rfl hdX0_requireElement.2 ⟨(Nat.le_of_ble_eq_true rfl), (Nat.le_of_ble_eq_true rfl)⟩) rfl rfl rfl (Nat.le_of_ble_eq_true rfl) dX0_distance_20 ⟨(Nat.le_of_ble_eq_true rfl), (Nat.le_of_ble_eq_true rfl)⟩
set_option maxHeartbeats 4000000 in
set_option maxRecDepth 100000 in
theorem tX_door2 {l : Launch} {D : va_G} {cI cZ : ClassId} {q : Nat} {r : Nat → Nat} {P Dn : Nat} {t la wa : Int} {f0 f1 f2 f3 f4 f5 f6 f7 f8 f9 f10 f11 f12 f13 : Nat → Int} (hfl : l.stackTraces = false) {i : Nat} (hP : 1 ≤ P ∧ P ≤ 11) (hi : i < P) (hne : f4 i = -1) : gMT l yX0_door wsX0_door 7 D (gTy cI cZ) (gX cI cZ q r [(P : Int), (Dn : Int), t, la, wa] [f0, f1, f2, f3, f4, f5, f6, f7, f8, f9, f10, f11, f12, f13]) [.ref q, .int (iI (i : Int))] gNS := by
  refine g_ofT (by decide +kernel) rfl rfl (Nat.le_of_ble_eq_true rfl) (g_cat1 rfl) ?_
  intro p e s m args below meth c A0 E hT hlk htb
  have hts := E.1.2.2.2.2
  show gJ p l e (gRx 7) s m args below meth c 0 0 (gQT below args s D (gTy cI cZ) (gX cI cZ q r [(P : Int), (Dn : Int), t, la, wa] [f0, f1, f2, f3, f4, f5, f6, f7, f8, f9, f10, f11, f12, f13]) gNS A0) A0 D (gX cI cZ q r [(P : Int), (Dn : Int), t, la, wa] [f0, f1, f2, f3, f4, f5, f6, f7, f8, f9, f10, f11, f12, f13]) [some (.ref q), some (.int (iI (i : Int)))] 0 []
  refine g_aload_n E dX0_door_0 rfl rfl ?_
  refine g_iload_n E dX0_door_1 rfl rfl ?_
  refine g_callV0 E (cX_requirePlace (by omega) (by omega)) (cwV 1 hts gX0_door_X0_requirePlace rfl rfl rfl hdX0_requirePlace ⟨(Nat.le_of_ble_eq_true rfl), (Nat.le_of_ble_eq_true rfl)⟩) rfl rfl rfl (Nat.le_of_ble_eq_true rfl) gW_0 rfl dX0_door_2 ⟨Nat.zero_le _, Nat.zero_le _⟩ ?_
  refine g_aload_n E dX0_door_5 rfl rfl ?_
  refine g_getR E inX0_door rfl flX0_door_22 dX0_door_6 (by decide) rfl ?_
  refine g_iload_n E dX0_door_9 rfl rfl ?_
  refine g_ald E dX0_door_10 rfl rfl rfl (by omega) ?_
  refine g_iconst E dX0_door_11 ?_
  refine g_icmp_eq_t E dX0_door_12 (tgt := 19) (by decide) (by omega) (by omega) ?_
  refine g_iconst E dX0_door_19 ?_
  exact g_callTS E (tX_requireElement hfl rfl) hT hlk htb (va_cwS 1 hts gX0_door_X0_requireElement rfl rfl rfl hdX0_requireElement.2 ⟨(Nat.le_of_ble_eq_true rfl), (Nat.le_of_ble_eq_true rfl)⟩) rfl rfl rfl (Nat.le_of_ble_eq_true rfl) dX0_door_20 ⟨(Nat.le_of_ble_eq_true rfl), (Nat.le_of_ble_eq_true rfl)⟩
set_option maxHeartbeats 4000000 in
set_option maxRecDepth 100000 in
theorem tX_bound1 {l : Launch} {D : va_G} {cI cZ : ClassId} {q : Nat} {r : Nat → Nat} {P Dn : Nat} {t la wa : Int} {f0 f1 f2 f3 f4 f5 f6 f7 f8 f9 f10 f11 f12 f13 : Nat → Int} (hfl : l.stackTraces = false) (hP : 1 ≤ P ∧ P ≤ 11) (hs3 : ∀ j : Nat, -2147483648 ≤ f3 j ∧ f3 j < 2147483648) (hr : -2147483648 ≤ pSum (fun j => if f3 j = -1 then f1 j else 0) P ∧ pSum (fun j => if f3 j = -1 then f1 j else 0) P < 2147483648) (htr : pSum (fun j => if f3 j = -1 then f1 j else 0) P ≠ 0) : gMT l yX0_bound wsX0_bound 7 D (gTy cI cZ) (gX cI cZ q r [(P : Int), (Dn : Int), t, la, wa] [f0, f1, f2, f3, f4, f5, f6, f7, f8, f9, f10, f11, f12, f13]) [.ref q] gIS := by
  refine g_ofT (by decide +kernel) rfl rfl (Nat.le_of_ble_eq_true rfl) (g_cat1 rfl) ?_
  intro p e s m args below meth c A0 E hT hlk htb
  have hts := E.1.2.2.2.2
  show gJ p l e (gRx 7) s m args below meth c 0 0 (gQT below args s D (gTy cI cZ) (gX cI cZ q r [(P : Int), (Dn : Int), t, la, wa] [f0, f1, f2, f3, f4, f5, f6, f7, f8, f9, f10, f11, f12, f13]) gIS A0) A0 D (gX cI cZ q r [(P : Int), (Dn : Int), t, la, wa] [f0, f1, f2, f3, f4, f5, f6, f7, f8, f9, f10, f11, f12, f13]) [some (.ref q), none, none] 0 []
  refine g_aload_n E dX0_bound_0 rfl rfl ?_
  refine g_callI0 E (cX_trapped hP hs3) (cwV 0 hts gX0_bound_X0_trapped rfl rfl rfl hdX0_trapped ⟨(Nat.le_of_ble_eq_true rfl), (Nat.le_of_ble_eq_true rfl)⟩) rfl rfl rfl (Nat.le_of_ble_eq_true rfl) gW_0 rfl dX0_bound_1 ⟨Nat.zero_le _, Nat.zero_le _⟩ ?_
  refine g_if_ne_t E dX0_bound_4 (tgt := 11) (by decide) (by omega) (by omega) ?_
  refine g_iconst E dX0_bound_11 ?_
  exact g_callTS E (tX_requireState hfl rfl) hT hlk htb (va_cwS 1 hts gX0_bound_X0_requireState rfl rfl rfl hdX0_requireState.2 ⟨(Nat.le_of_ble_eq_true rfl), (Nat.le_of_ble_eq_true rfl)⟩) rfl rfl rfl (Nat.le_of_ble_eq_true rfl) dX0_bound_12 ⟨(Nat.le_of_ble_eq_true rfl), (Nat.le_of_ble_eq_true rfl)⟩
end
section
/-! ===== rows for constructors ===== -/
section GK
variable {Hb : Heap} {p : Program} {l : Launch} {e : Env} {R : Room} {s : State} {m : MethodId} {args : Array Value} {below : List Frame} {meth : Method} {c : Code} {cells slots : Nat} {Q : State → Prop} {A0 : Nat → Prop} {D : va_G}
variable {own : String} {cc : ByteArray} {nL : Nat} {Ts : List Cond} {ws : va_W} {lv : List (Option Value)} {pc : Nat} {st : List Value} {cI cZ : ClassId}
theorem g_obj {tys : List (ClassId × FieldType)} (E : hE Hb p s m args c own cc nL Ts D tys A0) {index a : Nat} (h1 : Cond.methodLink own index objectInit ∈ Ts) (h2 : Cond.instanceMethod objectInit ∈ Ts) (h3 : Cond.code objectInit ⟨#[0xb1]⟩ 1 none ∈ Ts) (hlv : lv.length = nL) (hdg : decode cc pc = .ok (.invokespecial index, 3)) (hR : 1 ≤ R.frames ∧ (st.map fun v => v.category).sum + 12 ≤ R.locals)
    (K : hJ Hb p l e R s m args below meth c cells slots Q A0 D ws lv (pc + 3) st) : hJ Hb p l e R s m args below meth c cells slots Q A0 D ws lv pc (.ref a :: st) := by
  obtain ⟨⟨hx, hb, hml, hown, hts⟩, hK, hA⟩ := E
  intro H locs ls hP hD hS hL
  refine W.objInit hx hb hown (hts _ h1) (hts _ h2) (hts _ h3) rfl (by rw [hml]; exact hL.1.trans hlv) rfl hdg hR.1 (by show 2 * 0 + _ + 12 ≤ _; omega) ?_
  exact K H locs ls hP hD hS hL
theorem g_newI (E : hE Hb p s m args c own cc nL Ts D (gTy cI cZ) A0) {n : Nat} {x : Int} (harr : Cond.arrayClass .int ∈ Ts) (hdg : decode cc pc = .ok (.newarray .int, 2)) (hx0 : x = (n : Int)) (hn : n ≤ 100) (hcs : cells + 1 ≤ R.cells ∧ slots + n ≤ R.slots)
    (K : ∀ a : Nat, hJ Hb p l e R s m args below meth c (cells + 1) (slots + n) Q A0 D (ws ++ [(a, gAc cI cZ (false, n) (fun _ => 0))]) lv (pc + 2) (.ref a :: st)) : hJ Hb p l e R s m args below meth c cells slots Q A0 D ws lv pc (.int (iI x) :: st) := by
  subst hx0
  obtain ⟨⟨hx, hb, hml, hown, hts⟩, hK, hA⟩ := E
  intro H locs ls hP hD hS hL
  have h0 : ¬ iI (n : Int) < 0 := by rw [iI_0, iI_lt ⟨by omega, by omega⟩ ⟨by omega, by omega⟩]; omega
  refine va_newa (D := D) (cl := vwCl) (atype := .int) (a0 := (n, .inl (fun _ => iI 0))) hx hb (hts _ harr) rfl hK hP hD hS hA (fun _ => rfl) h0 (N' := n) (by rw [iI_cl (by omega) (by omega)]; omega) (by show n * 4 ≤ _; omega) hcs.1 hcs.2 hdg (fun a cA H1 hK1 hP1 hD1 hS1 => ?_)
  have e1 : s.vm.findClass ("[" ++ FieldType.int.toString) = some cA := (hK1.2 2 _ rfl).2
  have e2 : s.vm.findClass ("[" ++ FieldType.int.toString) = some cI := (hK.2 0 _ rfl).2
  cases Option.some.inj (e1.symm.trans e2)
  exact K a H1 locs ls hP1 hD1 hS1 hL
theorem g_newZ (E : hE Hb p s m args c own cc nL Ts D (gTy cI cZ) A0) {n : Nat} {x : Int} (harr : Cond.arrayClass .boolean ∈ Ts) (hdg : decode cc pc = .ok (.newarray .boolean, 2)) (hx0 : x = (n : Int)) (hn : n ≤ 100) (hcs : cells + 1 ≤ R.cells ∧ slots + n ≤ R.slots)
    (K : ∀ a : Nat, hJ Hb p l e R s m args below meth c (cells + 1) (slots + n) Q A0 D (ws ++ [(a, gAc cI cZ (true, n) (fun _ => 0))]) lv (pc + 2) (.ref a :: st)) : hJ Hb p l e R s m args below meth c cells slots Q A0 D ws lv pc (.int (iI x) :: st) := by
  subst hx0
  obtain ⟨⟨hx, hb, hml, hown, hts⟩, hK, hA⟩ := E
  intro H locs ls hP hD hS hL
  have h0 : ¬ iI (n : Int) < 0 := by rw [iI_0, iI_lt ⟨by omega, by omega⟩ ⟨by omega, by omega⟩]; omega
  refine va_newa (D := D) (cl := vwCl) (atype := .boolean) (a0 := (n, .inl (fun _ => iI 0))) hx hb (hts _ harr) rfl hK hP hD hS hA (fun _ => rfl) h0 (N' := n) (by rw [iI_cl (by omega) (by omega)]; omega) (by show n * 1 ≤ _; omega) hcs.1 hcs.2 hdg (fun a cA H1 hK1 hP1 hD1 hS1 => ?_)
  have e1 : s.vm.findClass ("[" ++ FieldType.boolean.toString) = some cA := (hK1.2 2 _ rfl).2
  have e2 : s.vm.findClass ("[" ++ FieldType.boolean.toString) = some cZ := (hK.2 1 _ rfl).2
  cases Option.some.inj (e1.symm.trans e2)
  exact K a H1 locs ls hP1 hD1 hS1 hL
theorem g_putO {tys : List (ClassId × FieldType)} (E : hE Hb p s m args c own cc nL Ts D tys A0) {ci j q : Nat} {v : Int} {fs fs' : List Value} {W' : va_W} {ty0 : Nat → FieldType} {C : String} {T : u_T} {N index : Nat} (hin : ∀ w ∈ u_ws C T N, w ∈ Ts) (hc : vwCl[ci]? = some (C, T, N)) (hlink : Cond.fieldLink own index (T j).1 (T j).2.1 (T j).2.2.1 ∈ Ts) (hdg : decode cc pc = .ok (.putfield index, 3)) (hty : ∀ k, k < N → parseFieldDescriptor (T k).2.2.1 = some (ty0 k)) (hnm : ∀ a, a < N → ∀ b, b < N → a ≠ b → (T a).2.1 ≠ (T b).2.1) (hj : j < N) (hfin : (T j).2.2.2 = false) (hd : parseFieldDescriptor (T j).2.2.1 = some .int) (hl : j < fs.length) (hF : fs.set j (.int (iI v)) = fs')
    (K : hJ Hb p l e R s m args below meth c cells slots Q A0 D ((q, .inr (ci, fs')) :: W') lv (pc + 3) st) : hJ Hb p l e R s m args below meth c cells slots Q A0 D ((q, .inr (ci, fs)) :: W') lv pc (.int (iI v) :: .ref q :: st) := by
  obtain ⟨⟨hx, hb, hml, hown, hts⟩, hK, hA⟩ := E
  intro H locs ls hP hD hS hL
  refine va_put (D := D) (v := .int (iI v)) (ty := .int) hx hb hts hin ty0 hty hnm hown hK hP hD hS 0 rfl hc j hj (hts _ hlink) (fun _ h9 => h9) hfin hd rfl rfl hl hdg (fun H1 locs1 hP1 hD1 hS1 => ?_)
  rw [List.set_cons_zero, hF] at hP1 hD1
  exact K H1 locs1 ls hP1 hD1 hS1 hL
theorem g_putOF {tys : List (ClassId × FieldType)} (E : hE Hb p s m args c own cc nL Ts D tys A0) (hin2 : meth.name = "<init>") {ci j q a : Nat} {fs fs' : List Value} {W' : va_W} {ty0 : Nat → FieldType} {ty : FieldType} {C : String} {T : u_T} {N index : Nat} (hin : ∀ w ∈ u_ws C T N, w ∈ Ts) (hc : vwCl[ci]? = some (C, T, N)) (hlink : Cond.fieldLink own index (T j).1 (T j).2.1 (T j).2.2.1 ∈ Ts) (hdg : decode cc pc = .ok (.putfield index, 3)) (hty : ∀ k, k < N → parseFieldDescriptor (T k).2.2.1 = some (ty0 k)) (hnm : ∀ a, a < N → ∀ b, b < N → a ≠ b → (T a).2.1 ≠ (T b).2.1) (hj : j < N) (hfin : (T j).2.2.2 = true) (hdecl : (T j).1 = own) (hd : parseFieldDescriptor (T j).2.2.1 = some ty) (hn : narrow ty (.ref a) = .ref a) (hfit : fits ty (.ref a) = true) (hl : j < fs.length) (hF : fs.set j (.ref a) = fs')
    (K : hJ Hb p l e R s m args below meth c cells slots Q A0 D ((q, .inr (ci, fs')) :: W') lv (pc + 3) st) : hJ Hb p l e R s m args below meth c cells slots Q A0 D ((q, .inr (ci, fs)) :: W') lv pc (.ref a :: .ref q :: st) := by
  obtain ⟨⟨hx, hb, hml, hown, hts⟩, hK, hA⟩ := E
  intro H locs ls hP hD hS hL
  refine va_putF (D := D) (v := .ref a) (ty := ty) hx hb hts hin ty0 hty hnm hown hK hP hD hS 0 rfl hc j hj (hts _ hlink) (fun _ h9 => h9) hfin hin2 hdecl hd hn hfit hl hdg (fun H1 locs1 hP1 hD1 hS1 => ?_)
  rw [List.set_cons_zero, hF] at hP1 hD1
  exact K H1 locs1 ls hP1 hD1 hS1 hL
theorem g_wid {k n : Nat} (h1 : cells ≤ k) (h2 : slots ≤ n) (K : hJ Hb p l e R s m args below meth c k n Q A0 D ws lv pc st) : hJ Hb p l e R s m args below meth c cells slots Q A0 D ws lv pc st := fun H locs ls hP hD hS hL => W.widen h1 h2 (K H locs ls hP hD hS hL)
end GK
/-- a constructor's contract: the object's cell becomes the world w1 of some addresses -/
def gMK (l : Launch) (y : MethodName) (ws : List Cond) (rm : Room) (D : va_G) (tys : List (ClassId × FieldType)) (q ci : Nat) (fs : List Value) (W1 : (Nat → Nat) → va_W) : Prop :=
  ∀ sz : Nat, Met l y ws rm (va_Pc [.ref q] (gB0 D tys [(q, .inr (ci, fs))] sz)) (va_Qv (fun (_ : Nat → Nat) => True) (fun r t => gB1 D tys (va_A [(q, .inr (ci, fs))] sz) (W1 r) t) (va_A [(q, .inr (ci, fs))] sz)) rm.cells rm.slots (va_A [(q, .inr (ci, fs))] sz)
theorem g_ofK {l : Launch} {y : MethodName} {ws ws' : List Cond} {rm : Room} {D : va_G} {tys : List (ClassId × FieldType)} {q ci : Nat} {fs : List Value} {W1 : (Nat → Nat) → va_W} {own : String} {cc : ByteArray} {maxL : Nat}
    (hy : plainName y.cls = true) (hcls : y.cls = own) (hnm : y.name = "<init>") (hw : ws = Cond.code y cc maxL none :: ws') (hlen : 1 ≤ maxL)
    (body : ∀ (p : Program) (e : Env) (s : State) (m : MethodId) (args : Array Value) (below : List Frame) (meth : Method) (c : Code) (Q : State → Prop) (A0 : Nat → Prop), gE p s m args c own cc maxL ws D tys A0 → meth.name = "<init>" → (∀ (r : Nat → Nat) (lv : List (Option Value)) (pc : Nat), decode cc pc = .ok (.return_, 1) → gJ p l e rm s m args below meth c rm.cells rm.slots Q A0 D (W1 r) lv pc []) →
      gJ p l e rm s m args below meth c 0 0 Q A0 D [(q, .inr (ci, fs))] ([some (.ref q)] ++ List.replicate (maxL - 1) none) 0 []) : gMK l y ws rm D tys q ci fs W1 := by
  intro sz
  refine Met.ofW (cc := cc) (maxL := maxL) (ret := none) hy hw ?_
  intro p e s m args below meth c s₁ B hml hv
  obtain ⟨rfl, hsz, hP, hK, hD0⟩ := hv
  have hts := atoms_spec (ws := ws) B.pre
  have hown : s.vm.findClass own = some m.cls := by rw [← hcls]; exact findClass_of_methodNamed B.named
  have hin : meth.name = "<init>" := (name_of_methodNamed B.named B.method).1.trans hnm
  subst hsz
  have hD := hD0.self (sz := s.heap.size)
  have hl := lv_entry [.ref q] (n := maxL) (by show 1 ≤ maxL; exact hlen)
  rw [lg_entry_eq]
  refine body p e s m _ below meth c _ (va_A [(q, .inr (ci, fs))] s.heap.size) ⟨⟨B.exec, B.bytes, hml, hown, hts⟩, hK, fun q h => Or.inr h⟩ hin ?_ s.heap [] _ hP hD va_S.rf (gL_entry (l := [.ref q]) hlen (g_cat1 rfl) hl)
  intro r lv pc hdg H locs ls hP9 hD9 hS9 hL9
  exact W.vret B.exec B.bytes B.returns (fun t ht hW => ⟨⟨r, rfl, trivial, by rw [ht]; exact hP9, va_K.moved hW.alike hK, hD9⟩, hS9.F ht⟩) hS9.2.2 hdg
end
section
set_option maxRecDepth 100000 in
theorem inX0_init : ∀ w ∈ u_ws RX0 TX0 19, w ∈ wsX0_init := by decide +kernel
set_option maxRecDepth 100000 in
theorem k1X0 : Cond.methodLink RX0 1 objectInit ∈ wsX0_init := by decide +kernel
set_option maxRecDepth 100000 in
theorem k2X0 : Cond.instanceMethod objectInit ∈ wsX0_init := by decide +kernel
set_option maxRecDepth 100000 in
theorem k3X0 : Cond.code objectInit ⟨#[0xb1]⟩ 1 none ∈ wsX0_init := by decide +kernel
set_option maxRecDepth 100000 in
theorem k4X0 : Cond.arrayClass .int ∈ wsX0_init := by decide +kernel
set_option maxRecDepth 100000 in
theorem k5X0 : Cond.arrayClass .boolean ∈ wsX0_init := by decide +kernel
set_option maxRecDepth 100000 in
theorem flX0_init_9 : Cond.fieldLink RX0 9 (TX0 1).1 (TX0 1).2.1 (TX0 1).2.2.1 ∈ wsX0_init := by decide +kernel
set_option maxRecDepth 100000 in
theorem flX0_init_13 : Cond.fieldLink RX0 13 (TX0 2).1 (TX0 2).2.1 (TX0 2).2.2.1 ∈ wsX0_init := by decide +kernel
set_option maxRecDepth 100000 in
theorem flX0_init_16 : Cond.fieldLink RX0 16 (TX0 3).1 (TX0 3).2.1 (TX0 3).2.2.1 ∈ wsX0_init := by decide +kernel
set_option maxRecDepth 100000 in
theorem flX0_init_19 : Cond.fieldLink RX0 19 (TX0 4).1 (TX0 4).2.1 (TX0 4).2.2.1 ∈ wsX0_init := by decide +kernel
set_option maxRecDepth 100000 in
theorem flX0_init_22 : Cond.fieldLink RX0 22 (TX0 5).1 (TX0 5).2.1 (TX0 5).2.2.1 ∈ wsX0_init := by decide +kernel
set_option maxRecDepth 100000 in
theorem flX0_init_25 : Cond.fieldLink RX0 25 (TX0 7).1 (TX0 7).2.1 (TX0 7).2.2.1 ∈ wsX0_init := by decide +kernel
set_option maxRecDepth 100000 in
theorem flX0_init_28 : Cond.fieldLink RX0 28 (TX0 8).1 (TX0 8).2.1 (TX0 8).2.2.1 ∈ wsX0_init := by decide +kernel
set_option maxRecDepth 100000 in
theorem flX0_init_31 : Cond.fieldLink RX0 31 (TX0 9).1 (TX0 9).2.1 (TX0 9).2.2.1 ∈ wsX0_init := by decide +kernel
set_option maxRecDepth 100000 in
theorem flX0_init_34 : Cond.fieldLink RX0 34 (TX0 10).1 (TX0 10).2.1 (TX0 10).2.2.1 ∈ wsX0_init := by decide +kernel
set_option maxRecDepth 100000 in
theorem flX0_init_37 : Cond.fieldLink RX0 37 (TX0 11).1 (TX0 11).2.1 (TX0 11).2.2.1 ∈ wsX0_init := by decide +kernel
set_option maxRecDepth 100000 in
theorem flX0_init_41 : Cond.fieldLink RX0 41 (TX0 12).1 (TX0 12).2.1 (TX0 12).2.2.1 ∈ wsX0_init := by decide +kernel
set_option maxRecDepth 100000 in
theorem flX0_init_44 : Cond.fieldLink RX0 44 (TX0 13).1 (TX0 13).2.1 (TX0 13).2.2.1 ∈ wsX0_init := by decide +kernel
set_option maxRecDepth 100000 in
theorem flX0_init_47 : Cond.fieldLink RX0 47 (TX0 14).1 (TX0 14).2.1 (TX0 14).2.2.1 ∈ wsX0_init := by decide +kernel
set_option maxRecDepth 100000 in
theorem flX0_init_50 : Cond.fieldLink RX0 50 (TX0 15).1 (TX0 15).2.1 (TX0 15).2.2.1 ∈ wsX0_init := by decide +kernel
set_option maxRecDepth 100000 in
theorem flX0_init_53 : Cond.fieldLink RX0 53 (TX0 0).1 (TX0 0).2.1 (TX0 0).2.2.1 ∈ wsX0_init := by decide +kernel
set_option maxRecDepth 100000 in
theorem flX0_init_57 : Cond.fieldLink RX0 57 (TX0 17).1 (TX0 17).2.1 (TX0 17).2.2.1 ∈ wsX0_init := by decide +kernel
set_option maxHeartbeats 4000000 in
set_option maxRecDepth 100000 in
theorem cX_init {l : Launch} {D : va_G} {cI cZ : ClassId} {q : Nat} : gMK l yX0_init wsX0_init ({ frames := 1, cells := 14, slots := 199, locals := 30 } : Room) D (gTy cI cZ) q 0 [.int (iI 0), .null, .null, .null, .null, .null, .int (iI 0), .null, .null, .null, .null, .null, .null, .null, .null, .null, .int (iI 0), .int (iI 0), .int (iI 0)] (fun r => gX cI cZ q r [((1 : Nat) : Int), ((0 : Nat) : Int), 0, -1, 0] [fun _ => 0, fun _ => 0, fun _ => 0, fun _ => 0, gu (fun _ => 0) 0 (-1), fun _ => 0, fun _ => 0, fun _ => 0, fun _ => 0, fun _ => 0, fun _ => 0, fun _ => 0, fun _ => 0, fun _ => 0]) := by
  refine g_ofK (by decide +kernel) rfl rfl rfl (Nat.le_of_ble_eq_true rfl) ?_
  intro p e s m args below meth c Q A0 E hin2 hret
  refine g_aload_n E dX0_init_0 rfl rfl ?_
  refine g_obj E k1X0 k2X0 k3X0 rfl dX0_init_1 ⟨(Nat.le_of_ble_eq_true rfl), (Nat.le_of_ble_eq_true rfl)⟩ ?_
  refine g_aload_n E dX0_init_4 rfl rfl ?_
  refine g_bipush E dX0_init_5 (by decide) ?_
  refine g_newI E (n := 11) k4X0 dX0_init_7 rfl (Nat.le_of_ble_eq_true rfl) ⟨(Nat.le_of_ble_eq_true rfl), (Nat.le_of_ble_eq_true rfl)⟩ (fun a0 => ?_)
  refine g_putOF E hin2 (fs' := [_, _, _, _, _, _, _, _, _, _, _, _, _, _, _, _, _, _, _]) (ty := .array .int) inX0_init rfl flX0_init_9 dX0_init_9 tyX0_ok nmX0 (by decide) rfl rfl (by decide +kernel) rfl rfl (Nat.le_of_ble_eq_true rfl) rfl ?_
  refine g_aload_n E dX0_init_12 rfl rfl ?_
  refine g_bipush E dX0_init_13 (by decide) ?_
  refine g_newI E (n := 11) k4X0 dX0_init_15 rfl (Nat.le_of_ble_eq_true rfl) ⟨(Nat.le_of_ble_eq_true rfl), (Nat.le_of_ble_eq_true rfl)⟩ (fun a1 => ?_)
  refine g_putOF E hin2 (fs' := [_, _, _, _, _, _, _, _, _, _, _, _, _, _, _, _, _, _, _]) (ty := .array .int) inX0_init rfl flX0_init_13 dX0_init_17 tyX0_ok nmX0 (by decide) rfl rfl (by decide +kernel) rfl rfl (Nat.le_of_ble_eq_true rfl) rfl ?_
  refine g_aload_n E dX0_init_20 rfl rfl ?_
  refine g_bipush E dX0_init_21 (by decide) ?_
  refine g_newI E (n := 11) k4X0 dX0_init_23 rfl (Nat.le_of_ble_eq_true rfl) ⟨(Nat.le_of_ble_eq_true rfl), (Nat.le_of_ble_eq_true rfl)⟩ (fun a2 => ?_)
  refine g_putOF E hin2 (fs' := [_, _, _, _, _, _, _, _, _, _, _, _, _, _, _, _, _, _, _]) (ty := .array .int) inX0_init rfl flX0_init_16 dX0_init_25 tyX0_ok nmX0 (by decide) rfl rfl (by decide +kernel) rfl rfl (Nat.le_of_ble_eq_true rfl) rfl ?_
  refine g_aload_n E dX0_init_28 rfl rfl ?_
  refine g_bipush E dX0_init_29 (by decide) ?_
  refine g_newI E (n := 11) k4X0 dX0_init_31 rfl (Nat.le_of_ble_eq_true rfl) ⟨(Nat.le_of_ble_eq_true rfl), (Nat.le_of_ble_eq_true rfl)⟩ (fun a3 => ?_)
  refine g_putOF E hin2 (fs' := [_, _, _, _, _, _, _, _, _, _, _, _, _, _, _, _, _, _, _]) (ty := .array .int) inX0_init rfl flX0_init_19 dX0_init_33 tyX0_ok nmX0 (by decide) rfl rfl (by decide +kernel) rfl rfl (Nat.le_of_ble_eq_true rfl) rfl ?_
  refine g_aload_n E dX0_init_36 rfl rfl ?_
  refine g_bipush E dX0_init_37 (by decide) ?_
  refine g_newI E (n := 11) k4X0 dX0_init_39 rfl (Nat.le_of_ble_eq_true rfl) ⟨(Nat.le_of_ble_eq_true rfl), (Nat.le_of_ble_eq_true rfl)⟩ (fun a4 => ?_)
  refine g_putOF E hin2 (fs' := [_, _, _, _, _, _, _, _, _, _, _, _, _, _, _, _, _, _, _]) (ty := .array .int) inX0_init rfl flX0_init_22 dX0_init_41 tyX0_ok nmX0 (by decide) rfl rfl (by decide +kernel) rfl rfl (Nat.le_of_ble_eq_true rfl) rfl ?_
  refine g_aload_n E dX0_init_44 rfl rfl ?_
  refine g_bipush E dX0_init_45 (by decide) ?_
  refine g_newI E (n := 16) k4X0 dX0_init_47 rfl (Nat.le_of_ble_eq_true rfl) ⟨(Nat.le_of_ble_eq_true rfl), (Nat.le_of_ble_eq_true rfl)⟩ (fun a5 => ?_)
  refine g_putOF E hin2 (fs' := [_, _, _, _, _, _, _, _, _, _, _, _, _, _, _, _, _, _, _]) (ty := .array .int) inX0_init rfl flX0_init_25 dX0_init_49 tyX0_ok nmX0 (by decide) rfl rfl (by decide +kernel) rfl rfl (Nat.le_of_ble_eq_true rfl) rfl ?_
  refine g_aload_n E dX0_init_52 rfl rfl ?_
  refine g_bipush E dX0_init_53 (by decide) ?_
  refine g_newI E (n := 16) k4X0 dX0_init_55 rfl (Nat.le_of_ble_eq_true rfl) ⟨(Nat.le_of_ble_eq_true rfl), (Nat.le_of_ble_eq_true rfl)⟩ (fun a6 => ?_)
  refine g_putOF E hin2 (fs' := [_, _, _, _, _, _, _, _, _, _, _, _, _, _, _, _, _, _, _]) (ty := .array .int) inX0_init rfl flX0_init_28 dX0_init_57 tyX0_ok nmX0 (by decide) rfl rfl (by decide +kernel) rfl rfl (Nat.le_of_ble_eq_true rfl) rfl ?_
  refine g_aload_n E dX0_init_60 rfl rfl ?_
  refine g_bipush E dX0_init_61 (by decide) ?_
  refine g_newI E (n := 16) k4X0 dX0_init_63 rfl (Nat.le_of_ble_eq_true rfl) ⟨(Nat.le_of_ble_eq_true rfl), (Nat.le_of_ble_eq_true rfl)⟩ (fun a7 => ?_)
  refine g_putOF E hin2 (fs' := [_, _, _, _, _, _, _, _, _, _, _, _, _, _, _, _, _, _, _]) (ty := .array .int) inX0_init rfl flX0_init_31 dX0_init_65 tyX0_ok nmX0 (by decide) rfl rfl (by decide +kernel) rfl rfl (Nat.le_of_ble_eq_true rfl) rfl ?_
  refine g_aload_n E dX0_init_68 rfl rfl ?_
  refine g_bipush E dX0_init_69 (by decide) ?_
  refine g_newI E (n := 16) k4X0 dX0_init_71 rfl (Nat.le_of_ble_eq_true rfl) ⟨(Nat.le_of_ble_eq_true rfl), (Nat.le_of_ble_eq_true rfl)⟩ (fun a8 => ?_)
  refine g_putOF E hin2 (fs' := [_, _, _, _, _, _, _, _, _, _, _, _, _, _, _, _, _, _, _]) (ty := .array .int) inX0_init rfl flX0_init_34 dX0_init_73 tyX0_ok nmX0 (by decide) rfl rfl (by decide +kernel) rfl rfl (Nat.le_of_ble_eq_true rfl) rfl ?_
  refine g_aload_n E dX0_init_76 rfl rfl ?_
  refine g_bipush E dX0_init_77 (by decide) ?_
  refine g_newZ E (n := 16) k5X0 dX0_init_79 rfl (Nat.le_of_ble_eq_true rfl) ⟨(Nat.le_of_ble_eq_true rfl), (Nat.le_of_ble_eq_true rfl)⟩ (fun a9 => ?_)
  refine g_putOF E hin2 (fs' := [_, _, _, _, _, _, _, _, _, _, _, _, _, _, _, _, _, _, _]) (ty := .array .boolean) inX0_init rfl flX0_init_37 dX0_init_81 tyX0_ok nmX0 (by decide) rfl rfl (by decide +kernel) rfl rfl (Nat.le_of_ble_eq_true rfl) rfl ?_
  refine g_aload_n E dX0_init_84 rfl rfl ?_
  refine g_bipush E dX0_init_85 (by decide) ?_
  refine g_newI E (n := 16) k4X0 dX0_init_87 rfl (Nat.le_of_ble_eq_true rfl) ⟨(Nat.le_of_ble_eq_true rfl), (Nat.le_of_ble_eq_true rfl)⟩ (fun a10 => ?_)
  refine g_putOF E hin2 (fs' := [_, _, _, _, _, _, _, _, _, _, _, _, _, _, _, _, _, _, _]) (ty := .array .int) inX0_init rfl flX0_init_41 dX0_init_89 tyX0_ok nmX0 (by decide) rfl rfl (by decide +kernel) rfl rfl (Nat.le_of_ble_eq_true rfl) rfl ?_
  refine g_aload_n E dX0_init_92 rfl rfl ?_
  refine g_bipush E dX0_init_93 (by decide) ?_
  refine g_newI E (n := 16) k4X0 dX0_init_95 rfl (Nat.le_of_ble_eq_true rfl) ⟨(Nat.le_of_ble_eq_true rfl), (Nat.le_of_ble_eq_true rfl)⟩ (fun a11 => ?_)
  refine g_putOF E hin2 (fs' := [_, _, _, _, _, _, _, _, _, _, _, _, _, _, _, _, _, _, _]) (ty := .array .int) inX0_init rfl flX0_init_44 dX0_init_97 tyX0_ok nmX0 (by decide) rfl rfl (by decide +kernel) rfl rfl (Nat.le_of_ble_eq_true rfl) rfl ?_
  refine g_aload_n E dX0_init_100 rfl rfl ?_
  refine g_bipush E dX0_init_101 (by decide) ?_
  refine g_newI E (n := 16) k4X0 dX0_init_103 rfl (Nat.le_of_ble_eq_true rfl) ⟨(Nat.le_of_ble_eq_true rfl), (Nat.le_of_ble_eq_true rfl)⟩ (fun a12 => ?_)
  refine g_putOF E hin2 (fs' := [_, _, _, _, _, _, _, _, _, _, _, _, _, _, _, _, _, _, _]) (ty := .array .int) inX0_init rfl flX0_init_47 dX0_init_105 tyX0_ok nmX0 (by decide) rfl rfl (by decide +kernel) rfl rfl (Nat.le_of_ble_eq_true rfl) rfl ?_
  refine g_aload_n E dX0_init_108 rfl rfl ?_
  refine g_bipush E dX0_init_109 (by decide) ?_
  refine g_newI E (n := 16) k4X0 dX0_init_111 rfl (Nat.le_of_ble_eq_true rfl) ⟨(Nat.le_of_ble_eq_true rfl), (Nat.le_of_ble_eq_true rfl)⟩ (fun a13 => ?_)
  refine g_putOF E hin2 (fs' := [_, _, _, _, _, _, _, _, _, _, _, _, _, _, _, _, _, _, _]) (ty := .array .int) inX0_init rfl flX0_init_50 dX0_init_113 tyX0_ok nmX0 (by decide) rfl rfl (by decide +kernel) rfl rfl (Nat.le_of_ble_eq_true rfl) rfl ?_
  refine g_aload_n E dX0_init_116 rfl rfl ?_
  refine g_iconst E dX0_init_117 ?_
  refine g_putO E (fs' := [_, _, _, _, _, _, _, _, _, _, _, _, _, _, _, _, _, _, _]) inX0_init rfl flX0_init_53 dX0_init_118 tyX0_ok nmX0 (by decide) rfl (by decide +kernel) (Nat.le_of_ble_eq_true rfl) rfl ?_
  refine g_aload_n E dX0_init_121 rfl rfl ?_
  refine g_iconst E dX0_init_122 ?_
  refine g_putO E (fs' := [_, _, _, _, _, _, _, _, _, _, _, _, _, _, _, _, _, _, _]) inX0_init rfl flX0_init_57 dX0_init_123 tyX0_ok nmX0 (by decide) rfl (by decide +kernel) (Nat.le_of_ble_eq_true rfl) rfl ?_
  refine g_eq (ws' := gX cI cZ q (fun k => [a0, a1, a2, a3, a4, a5, a6, a7, a8, a9, a10, a11, a12, a13].getD k 0) [((1 : Nat) : Int), ((0 : Nat) : Int), 0, -1, 0] [fun _ => 0, fun _ => 0, fun _ => 0, fun _ => 0, fun _ => 0, fun _ => 0, fun _ => 0, fun _ => 0, fun _ => 0, fun _ => 0, fun _ => 0, fun _ => 0, fun _ => 0, fun _ => 0]) ?_ rfl rfl rfl
  refine g_aload_n E dX0_init_126 rfl rfl ?_
  refine g_getR E inX0_init rfl flX0_init_22 dX0_init_127 (by decide) rfl ?_
  refine g_iconst E dX0_init_130 ?_
  refine g_iconst E dX0_init_131 ?_
  refine g_ast E (A' := [_, _, _, _, _, _, _, _, _, _, _, _, _, _]) (i := 0) dX0_init_132 rfl rfl rfl (by omega) rfl ?_
  exact hret _ _ _ dX0_init_133
end
section
theorem dL_cell_0 : decode cL_cell 0 = .ok (.iload_n 1, 1) := by decide +kernel
theorem dL_cell_1 : decode cL_cell 1 = .ok (.aload_n 0, 1) := by decide +kernel
theorem dL_cell_2 : decode cL_cell 2 = .ok (.arraylength, 1) := by decide +kernel
theorem dL_cell_3 : decode cL_cell 3 = .ok (.if_icmp .ge 9, 3) := by decide +kernel
theorem dL_cell_6 : decode cL_cell 6 = .ok (.aload_n 0, 1) := by decide +kernel
theorem dL_cell_7 : decode cL_cell 7 = .ok (.iload_n 1, 1) := by decide +kernel
theorem dL_cell_8 : decode cL_cell 8 = .ok (.iaload, 1) := by decide +kernel
theorem dL_cell_9 : decode cL_cell 9 = .ok (.goto 18, 3) := by decide +kernel
theorem dL_cell_12 : decode cL_cell 12 = .ok (.sipush 7919, 3) := by decide +kernel
theorem dL_cell_15 : decode cL_cell 15 = .ok (.iload_n 1, 1) := by decide +kernel
theorem dL_cell_16 : decode cL_cell 16 = .ok (.sipush 461, 3) := by decide +kernel
theorem dL_cell_19 : decode cL_cell 19 = .ok (.iadd, 1) := by decide +kernel
theorem dL_cell_20 : decode cL_cell 20 = .ok (.imul, 1) := by decide +kernel
theorem dL_cell_21 : decode cL_cell 21 = .ok (.iload_n 1, 1) := by decide +kernel
theorem dL_cell_22 : decode cL_cell 22 = .ok (.sipush 1427, 3) := by decide +kernel
theorem dL_cell_25 : decode cL_cell 25 = .ok (.iadd, 1) := by decide +kernel
theorem dL_cell_26 : decode cL_cell 26 = .ok (.imul, 1) := by decide +kernel
theorem dL_cell_27 : decode cL_cell 27 = .ok (.ireturn, 1) := by decide +kernel
theorem dL_low_0 : decode cL_low 0 = .ok (.iload_n 0, 1) := by decide +kernel
theorem dL_low_1 : decode cL_low 1 = .ok (.ldc 7, 2) := by decide +kernel
theorem dL_low_3 : decode cL_low 3 = .ok (.iand, 1) := by decide +kernel
theorem dL_low_4 : decode cL_low 4 = .ok (.iload_n 1, 1) := by decide +kernel
theorem dL_low_5 : decode cL_low 5 = .ok (.irem, 1) := by decide +kernel
theorem dL_low_6 : decode cL_low 6 = .ok (.ireturn, 1) := by decide +kernel
theorem dL_addPlace_0 : decode cL_addPlace 0 = .ok (.aload_n 0, 1) := by decide +kernel
theorem dL_addPlace_1 : decode cL_addPlace 1 = .ok (.iload_n 1, 1) := by decide +kernel
theorem dL_addPlace_2 : decode cL_addPlace 2 = .ok (.invokevirtual 8, 3) := by decide +kernel
theorem dL_addPlace_5 : decode cL_addPlace 5 = .ok (.ireturn, 1) := by decide +kernel
theorem dL_addPlace_6 : decode cL_addPlace 6 = .ok (.astore_n 2, 1) := by decide +kernel
theorem dL_addPlace_7 : decode cL_addPlace 7 = .ok (.ldc 16, 2) := by decide +kernel
theorem dL_addPlace_9 : decode cL_addPlace 9 = .ok (.ireturn, 1) := by decide +kernel
theorem dL_addPlace_10 : decode cL_addPlace 10 = .ok (.astore_n 2, 1) := by decide +kernel
theorem dL_addPlace_11 : decode cL_addPlace 11 = .ok (.ldc 16, 2) := by decide +kernel
theorem dL_addPlace_13 : decode cL_addPlace 13 = .ok (.ireturn, 1) := by decide +kernel
theorem dL_addDoor_0 : decode cL_addDoor 0 = .ok (.aload_n 0, 1) := by decide +kernel
theorem dL_addDoor_1 : decode cL_addDoor 1 = .ok (.iload_n 1, 1) := by decide +kernel
theorem dL_addDoor_2 : decode cL_addDoor 2 = .ok (.iload_n 2, 1) := by decide +kernel
theorem dL_addDoor_3 : decode cL_addDoor 3 = .ok (.iload_n 3, 1) := by decide +kernel
theorem dL_addDoor_4 : decode cL_addDoor 4 = .ok (.iload 4, 2) := by decide +kernel
theorem dL_addDoor_6 : decode cL_addDoor 6 = .ok (.invokevirtual 19, 3) := by decide +kernel
theorem dL_addDoor_9 : decode cL_addDoor 9 = .ok (.ireturn, 1) := by decide +kernel
theorem dL_addDoor_10 : decode cL_addDoor 10 = .ok (.astore 5, 2) := by decide +kernel
theorem dL_addDoor_12 : decode cL_addDoor 12 = .ok (.ldc 16, 2) := by decide +kernel
theorem dL_addDoor_14 : decode cL_addDoor 14 = .ok (.ireturn, 1) := by decide +kernel
theorem dL_addDoor_15 : decode cL_addDoor 15 = .ok (.astore 5, 2) := by decide +kernel
theorem dL_addDoor_17 : decode cL_addDoor 17 = .ok (.ldc 16, 2) := by decide +kernel
theorem dL_addDoor_19 : decode cL_addDoor 19 = .ok (.ireturn, 1) := by decide +kernel
theorem dL_addDoor_20 : decode cL_addDoor 20 = .ok (.astore 5, 2) := by decide +kernel
theorem dL_addDoor_22 : decode cL_addDoor 22 = .ok (.ldc 16, 2) := by decide +kernel
theorem dL_addDoor_24 : decode cL_addDoor 24 = .ok (.ireturn, 1) := by decide +kernel
theorem dL_setDoor_0 : decode cL_setDoor 0 = .ok (.aload_n 0, 1) := by decide +kernel
theorem dL_setDoor_1 : decode cL_setDoor 1 = .ok (.iload_n 1, 1) := by decide +kernel
theorem dL_setDoor_2 : decode cL_setDoor 2 = .ok (.iload_n 2, 1) := by decide +kernel
theorem dL_setDoor_3 : decode cL_setDoor 3 = .ok (.invokevirtual 25, 3) := by decide +kernel
theorem dL_setDoor_6 : decode cL_setDoor 6 = .ok (.ifCond .eq 7, 3) := by decide +kernel
theorem dL_setDoor_9 : decode cL_setDoor 9 = .ok (.iconst 1, 1) := by decide +kernel
theorem dL_setDoor_10 : decode cL_setDoor 10 = .ok (.goto 4, 3) := by decide +kernel
theorem dL_setDoor_13 : decode cL_setDoor 13 = .ok (.iconst 0, 1) := by decide +kernel
theorem dL_setDoor_14 : decode cL_setDoor 14 = .ok (.ireturn, 1) := by decide +kernel
theorem dL_setDoor_15 : decode cL_setDoor 15 = .ok (.astore_n 3, 1) := by decide +kernel
theorem dL_setDoor_16 : decode cL_setDoor 16 = .ok (.ldc 16, 2) := by decide +kernel
theorem dL_setDoor_18 : decode cL_setDoor 18 = .ok (.ireturn, 1) := by decide +kernel
theorem dL_come_0 : decode cL_come 0 = .ok (.aload_n 0, 1) := by decide +kernel
theorem dL_come_1 : decode cL_come 1 = .ok (.iload_n 1, 1) := by decide +kernel
theorem dL_come_2 : decode cL_come 2 = .ok (.iload_n 2, 1) := by decide +kernel
theorem dL_come_3 : decode cL_come 3 = .ok (.invokevirtual 29, 3) := by decide +kernel
theorem dL_come_6 : decode cL_come 6 = .ok (.ireturn, 1) := by decide +kernel
theorem dL_come_7 : decode cL_come 7 = .ok (.astore_n 3, 1) := by decide +kernel
theorem dL_come_8 : decode cL_come 8 = .ok (.ldc 16, 2) := by decide +kernel
theorem dL_come_10 : decode cL_come 10 = .ok (.ireturn, 1) := by decide +kernel
theorem dL_come_11 : decode cL_come 11 = .ok (.astore_n 3, 1) := by decide +kernel
theorem dL_come_12 : decode cL_come 12 = .ok (.ldc 16, 2) := by decide +kernel
theorem dL_come_14 : decode cL_come 14 = .ok (.ireturn, 1) := by decide +kernel
theorem dL_come_15 : decode cL_come 15 = .ok (.astore_n 3, 1) := by decide +kernel
theorem dL_come_16 : decode cL_come 16 = .ok (.ldc 16, 2) := by decide +kernel
theorem dL_come_18 : decode cL_come 18 = .ok (.ireturn, 1) := by decide +kernel
theorem dL_setRelease_0 : decode cL_setRelease 0 = .ok (.aload_n 0, 1) := by decide +kernel
theorem dL_setRelease_1 : decode cL_setRelease 1 = .ok (.iload_n 1, 1) := by decide +kernel
theorem dL_setRelease_2 : decode cL_setRelease 2 = .ok (.iload_n 2, 1) := by decide +kernel
theorem dL_setRelease_3 : decode cL_setRelease 3 = .ok (.invokevirtual 33, 3) := by decide +kernel
theorem dL_setRelease_6 : decode cL_setRelease 6 = .ok (.ireturn, 1) := by decide +kernel
theorem dL_setRelease_7 : decode cL_setRelease 7 = .ok (.astore_n 3, 1) := by decide +kernel
theorem dL_setRelease_8 : decode cL_setRelease 8 = .ok (.ldc 16, 2) := by decide +kernel
theorem dL_setRelease_10 : decode cL_setRelease 10 = .ok (.ireturn, 1) := by decide +kernel
theorem dL_setRelease_11 : decode cL_setRelease 11 = .ok (.astore_n 3, 1) := by decide +kernel
theorem dL_setRelease_12 : decode cL_setRelease 12 = .ok (.ldc 16, 2) := by decide +kernel
theorem dL_setRelease_14 : decode cL_setRelease 14 = .ok (.ireturn, 1) := by decide +kernel
theorem dL_step_0 : decode cL_step 0 = .ok (.aload_n 0, 1) := by decide +kernel
theorem dL_step_1 : decode cL_step 1 = .ok (.iload_n 1, 1) := by decide +kernel
theorem dL_step_2 : decode cL_step 2 = .ok (.invokevirtual 36, 3) := by decide +kernel
theorem dL_step_5 : decode cL_step 5 = .ok (.ireturn, 1) := by decide +kernel
theorem dL_step_6 : decode cL_step 6 = .ok (.astore_n 2, 1) := by decide +kernel
theorem dL_step_7 : decode cL_step 7 = .ok (.ldc 16, 2) := by decide +kernel
theorem dL_step_9 : decode cL_step 9 = .ok (.ireturn, 1) := by decide +kernel
theorem dL_distance_0 : decode cL_distance 0 = .ok (.aload_n 0, 1) := by decide +kernel
theorem dL_distance_1 : decode cL_distance 1 = .ok (.iload_n 1, 1) := by decide +kernel
theorem dL_distance_2 : decode cL_distance 2 = .ok (.invokevirtual 39, 3) := by decide +kernel
theorem dL_distance_5 : decode cL_distance 5 = .ok (.ireturn, 1) := by decide +kernel
theorem dL_distance_6 : decode cL_distance 6 = .ok (.astore_n 2, 1) := by decide +kernel
theorem dL_distance_7 : decode cL_distance 7 = .ok (.ldc 16, 2) := by decide +kernel
theorem dL_distance_9 : decode cL_distance 9 = .ok (.ireturn, 1) := by decide +kernel
theorem dL_distance_10 : decode cL_distance 10 = .ok (.astore_n 2, 1) := by decide +kernel
theorem dL_distance_11 : decode cL_distance 11 = .ok (.iconst (-1), 1) := by decide +kernel
theorem dL_distance_12 : decode cL_distance 12 = .ok (.ireturn, 1) := by decide +kernel
theorem dL_door_0 : decode cL_door 0 = .ok (.aload_n 0, 1) := by decide +kernel
theorem dL_door_1 : decode cL_door 1 = .ok (.iload_n 1, 1) := by decide +kernel
theorem dL_door_2 : decode cL_door 2 = .ok (.invokevirtual 44, 3) := by decide +kernel
theorem dL_door_5 : decode cL_door 5 = .ok (.ireturn, 1) := by decide +kernel
theorem dL_door_6 : decode cL_door 6 = .ok (.astore_n 2, 1) := by decide +kernel
theorem dL_door_7 : decode cL_door 7 = .ok (.ldc 16, 2) := by decide +kernel
theorem dL_door_9 : decode cL_door 9 = .ok (.ireturn, 1) := by decide +kernel
theorem dL_door_10 : decode cL_door 10 = .ok (.astore_n 2, 1) := by decide +kernel
theorem dL_door_11 : decode cL_door 11 = .ok (.iconst (-1), 1) := by decide +kernel
theorem dL_door_12 : decode cL_door 12 = .ok (.ireturn, 1) := by decide +kernel
theorem dL_bound_0 : decode cL_bound 0 = .ok (.aload_n 0, 1) := by decide +kernel
theorem dL_bound_1 : decode cL_bound 1 = .ok (.invokevirtual 47, 3) := by decide +kernel
theorem dL_bound_4 : decode cL_bound 4 = .ok (.ireturn, 1) := by decide +kernel
theorem dL_bound_5 : decode cL_bound 5 = .ok (.astore_n 1, 1) := by decide +kernel
theorem dL_bound_6 : decode cL_bound 6 = .ok (.iconst (-1), 1) := by decide +kernel
theorem dL_bound_7 : decode cL_bound 7 = .ok (.ireturn, 1) := by decide +kernel
theorem dL_latest_0 : decode cL_latest 0 = .ok (.aload_n 0, 1) := by decide +kernel
theorem dL_latest_1 : decode cL_latest 1 = .ok (.invokevirtual 51, 3) := by decide +kernel
theorem dL_latest_4 : decode cL_latest 4 = .ok (.ireturn, 1) := by decide +kernel
theorem dL_latest_5 : decode cL_latest 5 = .ok (.astore_n 1, 1) := by decide +kernel
theorem dL_latest_6 : decode cL_latest 6 = .ok (.iconst (-1), 1) := by decide +kernel
theorem dL_latest_7 : decode cL_latest 7 = .ok (.ireturn, 1) := by decide +kernel
theorem dL_act_0 : decode cL_act 0 = .ok (.iload_n 1, 1) := by decide +kernel
theorem dL_act_1 : decode cL_act 1 = .ok (.bipush 24, 2) := by decide +kernel
theorem dL_act_3 : decode cL_act 3 = .ok (.ishr, 1) := by decide +kernel
theorem dL_act_4 : decode cL_act 4 = .ok (.bipush 9, 2) := by decide +kernel
theorem dL_act_6 : decode cL_act 6 = .ok (.invokestatic 54, 3) := by decide +kernel
theorem dL_act_9 : decode cL_act 9 = .ok (.ifCond .ne 7, 3) := by decide +kernel
theorem dL_act_12 : decode cL_act 12 = .ok (.iconst 1, 1) := by decide +kernel
theorem dL_act_13 : decode cL_act 13 = .ok (.goto 4, 3) := by decide +kernel
theorem dL_act_16 : decode cL_act 16 = .ok (.iconst 0, 1) := by decide +kernel
theorem dL_act_17 : decode cL_act 17 = .ok (.istore_n 2, 1) := by decide +kernel
theorem dL_act_18 : decode cL_act 18 = .ok (.aload_n 0, 1) := by decide +kernel
theorem dL_act_19 : decode cL_act 19 = .ok (.invokevirtual 59, 3) := by decide +kernel
theorem dL_act_22 : decode cL_act 22 = .ok (.istore_n 3, 1) := by decide +kernel
theorem dL_act_23 : decode cL_act 23 = .ok (.iload_n 1, 1) := by decide +kernel
theorem dL_act_24 : decode cL_act 24 = .ok (.iconst 4, 1) := by decide +kernel
theorem dL_act_25 : decode cL_act 25 = .ok (.ishr, 1) := by decide +kernel
theorem dL_act_26 : decode cL_act 26 = .ok (.iload_n 3, 1) := by decide +kernel
theorem dL_act_27 : decode cL_act 27 = .ok (.iload_n 2, 1) := by decide +kernel
theorem dL_act_28 : decode cL_act 28 = .ok (.ifCond .eq 7, 3) := by decide +kernel
theorem dL_act_31 : decode cL_act 31 = .ok (.iconst 1, 1) := by decide +kernel
theorem dL_act_32 : decode cL_act 32 = .ok (.goto 4, 3) := by decide +kernel
theorem dL_act_35 : decode cL_act 35 = .ok (.iconst 0, 1) := by decide +kernel
theorem dL_act_36 : decode cL_act 36 = .ok (.iadd, 1) := by decide +kernel
theorem dL_act_37 : decode cL_act 37 = .ok (.invokestatic 54, 3) := by decide +kernel
theorem dL_act_40 : decode cL_act 40 = .ok (.istore 4, 2) := by decide +kernel
theorem dL_act_42 : decode cL_act 42 = .ok (.iload_n 2, 1) := by decide +kernel
theorem dL_act_43 : decode cL_act 43 = .ok (.ifCond .eq 16, 3) := by decide +kernel
theorem dL_act_46 : decode cL_act 46 = .ok (.iload_n 1, 1) := by decide +kernel
theorem dL_act_47 : decode cL_act 47 = .ok (.bipush 8, 2) := by decide +kernel
theorem dL_act_49 : decode cL_act 49 = .ok (.ishr, 1) := by decide +kernel
theorem dL_act_50 : decode cL_act 50 = .ok (.iload_n 3, 1) := by decide +kernel
theorem dL_act_51 : decode cL_act 51 = .ok (.iconst 1, 1) := by decide +kernel
theorem dL_act_52 : decode cL_act 52 = .ok (.iadd, 1) := by decide +kernel
theorem dL_act_53 : decode cL_act 53 = .ok (.invokestatic 54, 3) := by decide +kernel
theorem dL_act_56 : decode cL_act 56 = .ok (.goto 29, 3) := by decide +kernel
theorem dL_act_59 : decode cL_act 59 = .ok (.iload_n 3, 1) := by decide +kernel
theorem dL_act_60 : decode cL_act 60 = .ok (.iconst 1, 1) := by decide +kernel
theorem dL_act_61 : decode cL_act 61 = .ok (.if_icmp .ne 7, 3) := by decide +kernel
theorem dL_act_64 : decode cL_act 64 = .ok (.iconst 0, 1) := by decide +kernel
theorem dL_act_65 : decode cL_act 65 = .ok (.goto 20, 3) := by decide +kernel
theorem dL_act_68 : decode cL_act 68 = .ok (.iload 4, 2) := by decide +kernel
theorem dL_act_70 : decode cL_act 70 = .ok (.iconst 1, 1) := by decide +kernel
theorem dL_act_71 : decode cL_act 71 = .ok (.iadd, 1) := by decide +kernel
theorem dL_act_72 : decode cL_act 72 = .ok (.iload_n 1, 1) := by decide +kernel
theorem dL_act_73 : decode cL_act 73 = .ok (.bipush 8, 2) := by decide +kernel
theorem dL_act_75 : decode cL_act 75 = .ok (.ishr, 1) := by decide +kernel
theorem dL_act_76 : decode cL_act 76 = .ok (.iload_n 3, 1) := by decide +kernel
theorem dL_act_77 : decode cL_act 77 = .ok (.iconst 1, 1) := by decide +kernel
theorem dL_act_78 : decode cL_act 78 = .ok (.isub, 1) := by decide +kernel
theorem dL_act_79 : decode cL_act 79 = .ok (.invokestatic 54, 3) := by decide +kernel
theorem dL_act_82 : decode cL_act 82 = .ok (.iadd, 1) := by decide +kernel
theorem dL_act_83 : decode cL_act 83 = .ok (.iload_n 3, 1) := by decide +kernel
theorem dL_act_84 : decode cL_act 84 = .ok (.irem, 1) := by decide +kernel
theorem dL_act_85 : decode cL_act 85 = .ok (.istore 5, 2) := by decide +kernel
theorem dL_act_87 : decode cL_act 87 = .ok (.iload_n 1, 1) := by decide +kernel
theorem dL_act_88 : decode cL_act 88 = .ok (.bipush 14, 2) := by decide +kernel
theorem dL_act_90 : decode cL_act 90 = .ok (.invokestatic 54, 3) := by decide +kernel
theorem dL_act_93 : decode cL_act 93 = .ok (.tableswitch 259 0 10 #[59, 59, 91, 91, 91, 152, 185, 185, 185, 185, 219], 59) := by decide +kernel
theorem dL_act_152 : decode cL_act 152 = .ok (.aload_n 0, 1) := by decide +kernel
theorem dL_act_153 : decode cL_act 153 = .ok (.iload_n 2, 1) := by decide +kernel
theorem dL_act_154 : decode cL_act 154 = .ok (.ifCond .eq 15, 3) := by decide +kernel
theorem dL_act_157 : decode cL_act 157 = .ok (.iload_n 1, 1) := by decide +kernel
theorem dL_act_158 : decode cL_act 158 = .ok (.bipush 9, 2) := by decide +kernel
theorem dL_act_160 : decode cL_act 160 = .ok (.ishr, 1) := by decide +kernel
theorem dL_act_161 : decode cL_act 161 = .ok (.bipush 33, 2) := by decide +kernel
theorem dL_act_163 : decode cL_act 163 = .ok (.invokestatic 54, 3) := by decide +kernel
theorem dL_act_166 : decode cL_act 166 = .ok (.goto 14, 3) := by decide +kernel
theorem dL_act_169 : decode cL_act 169 = .ok (.iconst 1, 1) := by decide +kernel
theorem dL_act_170 : decode cL_act 170 = .ok (.iload_n 1, 1) := by decide +kernel
theorem dL_act_171 : decode cL_act 171 = .ok (.bipush 9, 2) := by decide +kernel
theorem dL_act_173 : decode cL_act 173 = .ok (.ishr, 1) := by decide +kernel
theorem dL_act_174 : decode cL_act 174 = .ok (.bipush 12, 2) := by decide +kernel
theorem dL_act_176 : decode cL_act 176 = .ok (.invokestatic 54, 3) := by decide +kernel
theorem dL_act_179 : decode cL_act 179 = .ok (.iadd, 1) := by decide +kernel
theorem dL_act_180 : decode cL_act 180 = .ok (.invokestatic 62, 3) := by decide +kernel
theorem dL_act_183 : decode cL_act 183 = .ok (.ireturn, 1) := by decide +kernel
theorem dL_act_184 : decode cL_act 184 = .ok (.aload_n 0, 1) := by decide +kernel
theorem dL_act_185 : decode cL_act 185 = .ok (.iload 4, 2) := by decide +kernel
theorem dL_act_187 : decode cL_act 187 = .ok (.iload 5, 2) := by decide +kernel
theorem dL_act_189 : decode cL_act 189 = .ok (.iload_n 2, 1) := by decide +kernel
theorem dL_act_190 : decode cL_act 190 = .ok (.ifCond .eq 15, 3) := by decide +kernel
theorem dL_act_193 : decode cL_act 193 = .ok (.iload_n 1, 1) := by decide +kernel
theorem dL_act_194 : decode cL_act 194 = .ok (.bipush 12, 2) := by decide +kernel
theorem dL_act_196 : decode cL_act 196 = .ok (.ishr, 1) := by decide +kernel
theorem dL_act_197 : decode cL_act 197 = .ok (.bipush 11, 2) := by decide +kernel
theorem dL_act_199 : decode cL_act 199 = .ok (.invokestatic 54, 3) := by decide +kernel
theorem dL_act_202 : decode cL_act 202 = .ok (.goto 13, 3) := by decide +kernel
theorem dL_act_205 : decode cL_act 205 = .ok (.iconst 1, 1) := by decide +kernel
theorem dL_act_206 : decode cL_act 206 = .ok (.iload_n 1, 1) := by decide +kernel
theorem dL_act_207 : decode cL_act 207 = .ok (.bipush 12, 2) := by decide +kernel
theorem dL_act_209 : decode cL_act 209 = .ok (.ishr, 1) := by decide +kernel
theorem dL_act_210 : decode cL_act 210 = .ok (.iconst 5, 1) := by decide +kernel
theorem dL_act_211 : decode cL_act 211 = .ok (.invokestatic 54, 3) := by decide +kernel
theorem dL_act_214 : decode cL_act 214 = .ok (.iadd, 1) := by decide +kernel
theorem dL_act_215 : decode cL_act 215 = .ok (.iload_n 2, 1) := by decide +kernel
theorem dL_act_216 : decode cL_act 216 = .ok (.ifCond .eq 15, 3) := by decide +kernel
theorem dL_act_219 : decode cL_act 219 = .ok (.iload_n 1, 1) := by decide +kernel
theorem dL_act_220 : decode cL_act 220 = .ok (.bipush 15, 2) := by decide +kernel
theorem dL_act_222 : decode cL_act 222 = .ok (.ishr, 1) := by decide +kernel
theorem dL_act_223 : decode cL_act 223 = .ok (.bipush 7, 2) := by decide +kernel
theorem dL_act_225 : decode cL_act 225 = .ok (.invokestatic 54, 3) := by decide +kernel
theorem dL_act_228 : decode cL_act 228 = .ok (.goto 13, 3) := by decide +kernel
theorem dL_act_231 : decode cL_act 231 = .ok (.iconst 1, 1) := by decide +kernel
theorem dL_act_232 : decode cL_act 232 = .ok (.iload_n 1, 1) := by decide +kernel
theorem dL_act_233 : decode cL_act 233 = .ok (.bipush 15, 2) := by decide +kernel
theorem dL_act_235 : decode cL_act 235 = .ok (.ishr, 1) := by decide +kernel
theorem dL_act_236 : decode cL_act 236 = .ok (.iconst 5, 1) := by decide +kernel
theorem dL_act_237 : decode cL_act 237 = .ok (.invokestatic 54, 3) := by decide +kernel
theorem dL_act_240 : decode cL_act 240 = .ok (.iadd, 1) := by decide +kernel
theorem dL_act_241 : decode cL_act 241 = .ok (.invokestatic 65, 3) := by decide +kernel
theorem dL_act_244 : decode cL_act 244 = .ok (.ireturn, 1) := by decide +kernel
theorem dL_act_245 : decode cL_act 245 = .ok (.aload_n 0, 1) := by decide +kernel
theorem dL_act_246 : decode cL_act 246 = .ok (.iload_n 1, 1) := by decide +kernel
theorem dL_act_247 : decode cL_act 247 = .ok (.iconst 4, 1) := by decide +kernel
theorem dL_act_248 : decode cL_act 248 = .ok (.ishr, 1) := by decide +kernel
theorem dL_act_249 : decode cL_act 249 = .ok (.aload_n 0, 1) := by decide +kernel
theorem dL_act_250 : decode cL_act 250 = .ok (.invokevirtual 68, 3) := by decide +kernel
theorem dL_act_253 : decode cL_act 253 = .ok (.iconst 1, 1) := by decide +kernel
theorem dL_act_254 : decode cL_act 254 = .ok (.iadd, 1) := by decide +kernel
theorem dL_act_255 : decode cL_act 255 = .ok (.invokestatic 54, 3) := by decide +kernel
theorem dL_act_258 : decode cL_act 258 = .ok (.iload_n 1, 1) := by decide +kernel
theorem dL_act_259 : decode cL_act 259 = .ok (.bipush 9, 2) := by decide +kernel
theorem dL_act_261 : decode cL_act 261 = .ok (.ishr, 1) := by decide +kernel
theorem dL_act_262 : decode cL_act 262 = .ok (.iconst 3, 1) := by decide +kernel
theorem dL_act_263 : decode cL_act 263 = .ok (.invokestatic 54, 3) := by decide +kernel
theorem dL_act_266 : decode cL_act 266 = .ok (.ifCond .le 7, 3) := by decide +kernel
theorem dL_act_269 : decode cL_act 269 = .ok (.iconst 1, 1) := by decide +kernel
theorem dL_act_270 : decode cL_act 270 = .ok (.goto 4, 3) := by decide +kernel
theorem dL_act_273 : decode cL_act 273 = .ok (.iconst 0, 1) := by decide +kernel
theorem dL_act_274 : decode cL_act 274 = .ok (.invokestatic 71, 3) := by decide +kernel
theorem dL_act_277 : decode cL_act 277 = .ok (.ireturn, 1) := by decide +kernel
theorem dL_act_278 : decode cL_act 278 = .ok (.aload_n 0, 1) := by decide +kernel
theorem dL_act_279 : decode cL_act 279 = .ok (.iload 4, 2) := by decide +kernel
theorem dL_act_281 : decode cL_act 281 = .ok (.iload_n 2, 1) := by decide +kernel
theorem dL_act_282 : decode cL_act 282 = .ok (.ifCond .eq 15, 3) := by decide +kernel
theorem dL_act_285 : decode cL_act 285 = .ok (.iload_n 1, 1) := by decide +kernel
theorem dL_act_286 : decode cL_act 286 = .ok (.bipush 12, 2) := by decide +kernel
theorem dL_act_288 : decode cL_act 288 = .ok (.ishr, 1) := by decide +kernel
theorem dL_act_289 : decode cL_act 289 = .ok (.bipush 33, 2) := by decide +kernel
theorem dL_act_291 : decode cL_act 291 = .ok (.invokestatic 54, 3) := by decide +kernel
theorem dL_act_294 : decode cL_act 294 = .ok (.goto 14, 3) := by decide +kernel
theorem dL_act_297 : decode cL_act 297 = .ok (.iconst 1, 1) := by decide +kernel
theorem dL_act_298 : decode cL_act 298 = .ok (.iload_n 1, 1) := by decide +kernel
theorem dL_act_299 : decode cL_act 299 = .ok (.bipush 12, 2) := by decide +kernel
theorem dL_act_301 : decode cL_act 301 = .ok (.ishr, 1) := by decide +kernel
theorem dL_act_302 : decode cL_act 302 = .ok (.bipush 8, 2) := by decide +kernel
theorem dL_act_304 : decode cL_act 304 = .ok (.invokestatic 54, 3) := by decide +kernel
theorem dL_act_307 : decode cL_act 307 = .ok (.iadd, 1) := by decide +kernel
theorem dL_act_308 : decode cL_act 308 = .ok (.invokestatic 74, 3) := by decide +kernel
theorem dL_act_311 : decode cL_act 311 = .ok (.ireturn, 1) := by decide +kernel
theorem dL_act_312 : decode cL_act 312 = .ok (.aload_n 0, 1) := by decide +kernel
theorem dL_act_313 : decode cL_act 313 = .ok (.iload 4, 2) := by decide +kernel
theorem dL_act_315 : decode cL_act 315 = .ok (.iload_n 2, 1) := by decide +kernel
theorem dL_act_316 : decode cL_act 316 = .ok (.ifCond .eq 18, 3) := by decide +kernel
theorem dL_act_319 : decode cL_act 319 = .ok (.iload_n 1, 1) := by decide +kernel
theorem dL_act_320 : decode cL_act 320 = .ok (.bipush 12, 2) := by decide +kernel
theorem dL_act_322 : decode cL_act 322 = .ok (.ishr, 1) := by decide +kernel
theorem dL_act_323 : decode cL_act 323 = .ok (.sipush 1005, 3) := by decide +kernel
theorem dL_act_326 : decode cL_act 326 = .ok (.invokestatic 54, 3) := by decide +kernel
theorem dL_act_329 : decode cL_act 329 = .ok (.iconst 2, 1) := by decide +kernel
theorem dL_act_330 : decode cL_act 330 = .ok (.isub, 1) := by decide +kernel
theorem dL_act_331 : decode cL_act 331 = .ok (.goto 17, 3) := by decide +kernel
theorem dL_act_334 : decode cL_act 334 = .ok (.aload_n 0, 1) := by decide +kernel
theorem dL_act_335 : decode cL_act 335 = .ok (.invokevirtual 77, 3) := by decide +kernel
theorem dL_act_338 : decode cL_act 338 = .ok (.iload_n 1, 1) := by decide +kernel
theorem dL_act_339 : decode cL_act 339 = .ok (.bipush 12, 2) := by decide +kernel
theorem dL_act_341 : decode cL_act 341 = .ok (.ishr, 1) := by decide +kernel
theorem dL_act_342 : decode cL_act 342 = .ok (.bipush 8, 2) := by decide +kernel
theorem dL_act_344 : decode cL_act 344 = .ok (.invokestatic 54, 3) := by decide +kernel
theorem dL_act_347 : decode cL_act 347 = .ok (.iadd, 1) := by decide +kernel
theorem dL_act_348 : decode cL_act 348 = .ok (.invokestatic 80, 3) := by decide +kernel
theorem dL_act_351 : decode cL_act 351 = .ok (.ireturn, 1) := by decide +kernel
theorem dL_act_352 : decode cL_act 352 = .ok (.aload_n 0, 1) := by decide +kernel
theorem dL_act_353 : decode cL_act 353 = .ok (.iload_n 2, 1) := by decide +kernel
theorem dL_act_354 : decode cL_act 354 = .ok (.ifCond .eq 15, 3) := by decide +kernel
theorem dL_act_357 : decode cL_act 357 = .ok (.iload_n 1, 1) := by decide +kernel
theorem dL_act_358 : decode cL_act 358 = .ok (.bipush 12, 2) := by decide +kernel
theorem dL_act_360 : decode cL_act 360 = .ok (.ishr, 1) := by decide +kernel
theorem dL_act_361 : decode cL_act 361 = .ok (.bipush 53, 2) := by decide +kernel
theorem dL_act_363 : decode cL_act 363 = .ok (.invokestatic 54, 3) := by decide +kernel
theorem dL_act_366 : decode cL_act 366 = .ok (.goto 13, 3) := by decide +kernel
theorem dL_act_369 : decode cL_act 369 = .ok (.iconst 1, 1) := by decide +kernel
theorem dL_act_370 : decode cL_act 370 = .ok (.iload_n 1, 1) := by decide +kernel
theorem dL_act_371 : decode cL_act 371 = .ok (.bipush 12, 2) := by decide +kernel
theorem dL_act_373 : decode cL_act 373 = .ok (.ishr, 1) := by decide +kernel
theorem dL_act_374 : decode cL_act 374 = .ok (.iconst 3, 1) := by decide +kernel
theorem dL_act_375 : decode cL_act 375 = .ok (.invokestatic 54, 3) := by decide +kernel
theorem dL_act_378 : decode cL_act 378 = .ok (.iadd, 1) := by decide +kernel
theorem dL_act_379 : decode cL_act 379 = .ok (.invokestatic 82, 3) := by decide +kernel
theorem dL_act_382 : decode cL_act 382 = .ok (.ireturn, 1) := by decide +kernel
theorem dL_areAlike_0 : decode cL_areAlike 0 = .ok (.aload_n 0, 1) := by decide +kernel
theorem dL_areAlike_1 : decode cL_areAlike 1 = .ok (.invokevirtual 59, 3) := by decide +kernel
theorem dL_areAlike_4 : decode cL_areAlike 4 = .ok (.aload_n 1, 1) := by decide +kernel
theorem dL_areAlike_5 : decode cL_areAlike 5 = .ok (.invokevirtual 59, 3) := by decide +kernel
theorem dL_areAlike_8 : decode cL_areAlike 8 = .ok (.if_icmp .ne 73, 3) := by decide +kernel
theorem dL_areAlike_11 : decode cL_areAlike 11 = .ok (.aload_n 0, 1) := by decide +kernel
theorem dL_areAlike_12 : decode cL_areAlike 12 = .ok (.invokevirtual 68, 3) := by decide +kernel
theorem dL_areAlike_15 : decode cL_areAlike 15 = .ok (.aload_n 1, 1) := by decide +kernel
theorem dL_areAlike_16 : decode cL_areAlike 16 = .ok (.invokevirtual 68, 3) := by decide +kernel
theorem dL_areAlike_19 : decode cL_areAlike 19 = .ok (.if_icmp .ne 62, 3) := by decide +kernel
theorem dL_areAlike_22 : decode cL_areAlike 22 = .ok (.aload_n 0, 1) := by decide +kernel
theorem dL_areAlike_23 : decode cL_areAlike 23 = .ok (.invokevirtual 77, 3) := by decide +kernel
theorem dL_areAlike_26 : decode cL_areAlike 26 = .ok (.aload_n 1, 1) := by decide +kernel
theorem dL_areAlike_27 : decode cL_areAlike 27 = .ok (.invokevirtual 77, 3) := by decide +kernel
theorem dL_areAlike_30 : decode cL_areAlike 30 = .ok (.if_icmp .ne 51, 3) := by decide +kernel
theorem dL_areAlike_33 : decode cL_areAlike 33 = .ok (.aload_n 0, 1) := by decide +kernel
theorem dL_areAlike_34 : decode cL_areAlike 34 = .ok (.invokevirtual 84, 3) := by decide +kernel
theorem dL_areAlike_37 : decode cL_areAlike 37 = .ok (.aload_n 1, 1) := by decide +kernel
theorem dL_areAlike_38 : decode cL_areAlike 38 = .ok (.invokevirtual 84, 3) := by decide +kernel
theorem dL_areAlike_41 : decode cL_areAlike 41 = .ok (.if_icmp .ne 40, 3) := by decide +kernel
theorem dL_areAlike_44 : decode cL_areAlike 44 = .ok (.aload_n 0, 1) := by decide +kernel
theorem dL_areAlike_45 : decode cL_areAlike 45 = .ok (.invokevirtual 87, 3) := by decide +kernel
theorem dL_areAlike_48 : decode cL_areAlike 48 = .ok (.aload_n 1, 1) := by decide +kernel
theorem dL_areAlike_49 : decode cL_areAlike 49 = .ok (.invokevirtual 87, 3) := by decide +kernel
theorem dL_areAlike_52 : decode cL_areAlike 52 = .ok (.if_icmp .ne 29, 3) := by decide +kernel
theorem dL_areAlike_55 : decode cL_areAlike 55 = .ok (.aload_n 0, 1) := by decide +kernel
theorem dL_areAlike_56 : decode cL_areAlike 56 = .ok (.invokestatic 90, 3) := by decide +kernel
theorem dL_areAlike_59 : decode cL_areAlike 59 = .ok (.aload_n 1, 1) := by decide +kernel
theorem dL_areAlike_60 : decode cL_areAlike 60 = .ok (.invokestatic 90, 3) := by decide +kernel
theorem dL_areAlike_63 : decode cL_areAlike 63 = .ok (.if_icmp .ne 18, 3) := by decide +kernel
theorem dL_areAlike_66 : decode cL_areAlike 66 = .ok (.aload_n 0, 1) := by decide +kernel
theorem dL_areAlike_67 : decode cL_areAlike 67 = .ok (.invokevirtual 93, 3) := by decide +kernel
theorem dL_areAlike_70 : decode cL_areAlike 70 = .ok (.aload_n 1, 1) := by decide +kernel
theorem dL_areAlike_71 : decode cL_areAlike 71 = .ok (.invokevirtual 93, 3) := by decide +kernel
theorem dL_areAlike_74 : decode cL_areAlike 74 = .ok (.if_icmp .ne 7, 3) := by decide +kernel
theorem dL_areAlike_77 : decode cL_areAlike 77 = .ok (.iconst 1, 1) := by decide +kernel
theorem dL_areAlike_78 : decode cL_areAlike 78 = .ok (.goto 4, 3) := by decide +kernel
theorem dL_areAlike_81 : decode cL_areAlike 81 = .ok (.iconst 0, 1) := by decide +kernel
theorem dL_areAlike_82 : decode cL_areAlike 82 = .ok (.istore_n 2, 1) := by decide +kernel
theorem dL_areAlike_83 : decode cL_areAlike 83 = .ok (.iconst 0, 1) := by decide +kernel
theorem dL_areAlike_84 : decode cL_areAlike 84 = .ok (.istore_n 3, 1) := by decide +kernel
theorem dL_areAlike_85 : decode cL_areAlike 85 = .ok (.iload_n 3, 1) := by decide +kernel
theorem dL_areAlike_86 : decode cL_areAlike 86 = .ok (.aload_n 0, 1) := by decide +kernel
theorem dL_areAlike_87 : decode cL_areAlike 87 = .ok (.invokevirtual 59, 3) := by decide +kernel
theorem dL_areAlike_90 : decode cL_areAlike 90 = .ok (.if_icmp .ge 45, 3) := by decide +kernel
theorem dL_areAlike_93 : decode cL_areAlike 93 = .ok (.iload_n 2, 1) := by decide +kernel
theorem dL_areAlike_94 : decode cL_areAlike 94 = .ok (.ifCond .eq 41, 3) := by decide +kernel
theorem dL_areAlike_97 : decode cL_areAlike 97 = .ok (.aload_n 0, 1) := by decide +kernel
theorem dL_areAlike_98 : decode cL_areAlike 98 = .ok (.iload_n 3, 1) := by decide +kernel
theorem dL_areAlike_99 : decode cL_areAlike 99 = .ok (.invokevirtual 96, 3) := by decide +kernel
theorem dL_areAlike_102 : decode cL_areAlike 102 = .ok (.aload_n 1, 1) := by decide +kernel
theorem dL_areAlike_103 : decode cL_areAlike 103 = .ok (.iload_n 3, 1) := by decide +kernel
theorem dL_areAlike_104 : decode cL_areAlike 104 = .ok (.invokevirtual 96, 3) := by decide +kernel
theorem dL_areAlike_107 : decode cL_areAlike 107 = .ok (.if_icmp .ne 20, 3) := by decide +kernel
theorem dL_areAlike_110 : decode cL_areAlike 110 = .ok (.aload_n 0, 1) := by decide +kernel
theorem dL_areAlike_111 : decode cL_areAlike 111 = .ok (.iload_n 3, 1) := by decide +kernel
theorem dL_areAlike_112 : decode cL_areAlike 112 = .ok (.invokevirtual 99, 3) := by decide +kernel
theorem dL_areAlike_115 : decode cL_areAlike 115 = .ok (.aload_n 1, 1) := by decide +kernel
theorem dL_areAlike_116 : decode cL_areAlike 116 = .ok (.iload_n 3, 1) := by decide +kernel
theorem dL_areAlike_117 : decode cL_areAlike 117 = .ok (.invokevirtual 99, 3) := by decide +kernel
theorem dL_areAlike_120 : decode cL_areAlike 120 = .ok (.if_icmp .ne 7, 3) := by decide +kernel
theorem dL_areAlike_123 : decode cL_areAlike 123 = .ok (.iconst 1, 1) := by decide +kernel
theorem dL_areAlike_124 : decode cL_areAlike 124 = .ok (.goto 4, 3) := by decide +kernel
theorem dL_areAlike_127 : decode cL_areAlike 127 = .ok (.iconst 0, 1) := by decide +kernel
theorem dL_areAlike_128 : decode cL_areAlike 128 = .ok (.istore_n 2, 1) := by decide +kernel
theorem dL_areAlike_129 : decode cL_areAlike 129 = .ok (.iinc 3 1, 3) := by decide +kernel
theorem dL_areAlike_132 : decode cL_areAlike 132 = .ok (.goto (-47), 3) := by decide +kernel
theorem dL_areAlike_135 : decode cL_areAlike 135 = .ok (.iload_n 2, 1) := by decide +kernel
theorem dL_areAlike_136 : decode cL_areAlike 136 = .ok (.ireturn, 1) := by decide +kernel
theorem dL_arePlacesSo_0 : decode cL_arePlacesSo 0 = .ok (.iconst 0, 1) := by decide +kernel
theorem dL_arePlacesSo_1 : decode cL_arePlacesSo 1 = .ok (.istore_n 1, 1) := by decide +kernel
theorem dL_arePlacesSo_2 : decode cL_arePlacesSo 2 = .ok (.iconst 0, 1) := by decide +kernel
theorem dL_arePlacesSo_3 : decode cL_arePlacesSo 3 = .ok (.istore_n 2, 1) := by decide +kernel
theorem dL_arePlacesSo_4 : decode cL_arePlacesSo 4 = .ok (.aload_n 0, 1) := by decide +kernel
theorem dL_arePlacesSo_5 : decode cL_arePlacesSo 5 = .ok (.iconst 0, 1) := by decide +kernel
theorem dL_arePlacesSo_6 : decode cL_arePlacesSo 6 = .ok (.invokestatic 102, 3) := by decide +kernel
theorem dL_arePlacesSo_9 : decode cL_arePlacesSo 9 = .ok (.ifCond .ne 16, 3) := by decide +kernel
theorem dL_arePlacesSo_12 : decode cL_arePlacesSo 12 = .ok (.aload_n 0, 1) := by decide +kernel
theorem dL_arePlacesSo_13 : decode cL_arePlacesSo 13 = .ok (.iconst 0, 1) := by decide +kernel
theorem dL_arePlacesSo_14 : decode cL_arePlacesSo 14 = .ok (.invokestatic 104, 3) := by decide +kernel
theorem dL_arePlacesSo_17 : decode cL_arePlacesSo 17 = .ok (.iconst (-1), 1) := by decide +kernel
theorem dL_arePlacesSo_18 : decode cL_arePlacesSo 18 = .ok (.if_icmp .ne 7, 3) := by decide +kernel
theorem dL_arePlacesSo_21 : decode cL_arePlacesSo 21 = .ok (.iconst 1, 1) := by decide +kernel
theorem dL_arePlacesSo_22 : decode cL_arePlacesSo 22 = .ok (.goto 4, 3) := by decide +kernel
theorem dL_arePlacesSo_25 : decode cL_arePlacesSo 25 = .ok (.iconst 0, 1) := by decide +kernel
theorem dL_arePlacesSo_26 : decode cL_arePlacesSo 26 = .ok (.istore_n 3, 1) := by decide +kernel
theorem dL_arePlacesSo_27 : decode cL_arePlacesSo 27 = .ok (.iconst 1, 1) := by decide +kernel
theorem dL_arePlacesSo_28 : decode cL_arePlacesSo 28 = .ok (.istore 4, 2) := by decide +kernel
theorem dL_arePlacesSo_30 : decode cL_arePlacesSo 30 = .ok (.iload 4, 2) := by decide +kernel
theorem dL_arePlacesSo_32 : decode cL_arePlacesSo 32 = .ok (.aload_n 0, 1) := by decide +kernel
theorem dL_arePlacesSo_33 : decode cL_arePlacesSo 33 = .ok (.invokevirtual 59, 3) := by decide +kernel
theorem dL_arePlacesSo_36 : decode cL_arePlacesSo 36 = .ok (.if_icmp .ge 136, 3) := by decide +kernel
theorem dL_arePlacesSo_39 : decode cL_arePlacesSo 39 = .ok (.aload_n 0, 1) := by decide +kernel
theorem dL_arePlacesSo_40 : decode cL_arePlacesSo 40 = .ok (.iload 4, 2) := by decide +kernel
theorem dL_arePlacesSo_42 : decode cL_arePlacesSo 42 = .ok (.invokestatic 102, 3) := by decide +kernel
theorem dL_arePlacesSo_45 : decode cL_arePlacesSo 45 = .ok (.istore 5, 2) := by decide +kernel
theorem dL_arePlacesSo_47 : decode cL_arePlacesSo 47 = .ok (.iload_n 1, 1) := by decide +kernel
theorem dL_arePlacesSo_48 : decode cL_arePlacesSo 48 = .ok (.aload_n 0, 1) := by decide +kernel
theorem dL_arePlacesSo_49 : decode cL_arePlacesSo 49 = .ok (.iload 4, 2) := by decide +kernel
theorem dL_arePlacesSo_51 : decode cL_arePlacesSo 51 = .ok (.invokevirtual 96, 3) := by decide +kernel
theorem dL_arePlacesSo_54 : decode cL_arePlacesSo 54 = .ok (.iadd, 1) := by decide +kernel
theorem dL_arePlacesSo_55 : decode cL_arePlacesSo 55 = .ok (.istore_n 1, 1) := by decide +kernel
theorem dL_arePlacesSo_56 : decode cL_arePlacesSo 56 = .ok (.iload_n 2, 1) := by decide +kernel
theorem dL_arePlacesSo_57 : decode cL_arePlacesSo 57 = .ok (.iload 5, 2) := by decide +kernel
theorem dL_arePlacesSo_59 : decode cL_arePlacesSo 59 = .ok (.ifCond .ge 12, 3) := by decide +kernel
theorem dL_arePlacesSo_62 : decode cL_arePlacesSo 62 = .ok (.aload_n 0, 1) := by decide +kernel
theorem dL_arePlacesSo_63 : decode cL_arePlacesSo 63 = .ok (.iload 4, 2) := by decide +kernel
theorem dL_arePlacesSo_65 : decode cL_arePlacesSo 65 = .ok (.invokevirtual 96, 3) := by decide +kernel
theorem dL_arePlacesSo_68 : decode cL_arePlacesSo 68 = .ok (.goto 4, 3) := by decide +kernel
theorem dL_arePlacesSo_71 : decode cL_arePlacesSo 71 = .ok (.iconst 0, 1) := by decide +kernel
theorem dL_arePlacesSo_72 : decode cL_arePlacesSo 72 = .ok (.iadd, 1) := by decide +kernel
theorem dL_arePlacesSo_73 : decode cL_arePlacesSo 73 = .ok (.istore_n 2, 1) := by decide +kernel
theorem dL_arePlacesSo_74 : decode cL_arePlacesSo 74 = .ok (.aload_n 0, 1) := by decide +kernel
theorem dL_arePlacesSo_75 : decode cL_arePlacesSo 75 = .ok (.iload 4, 2) := by decide +kernel
theorem dL_arePlacesSo_77 : decode cL_arePlacesSo 77 = .ok (.invokevirtual 99, 3) := by decide +kernel
theorem dL_arePlacesSo_80 : decode cL_arePlacesSo 80 = .ok (.istore 6, 2) := by decide +kernel
theorem dL_arePlacesSo_82 : decode cL_arePlacesSo 82 = .ok (.iload_n 3, 1) := by decide +kernel
theorem dL_arePlacesSo_83 : decode cL_arePlacesSo 83 = .ok (.ifCond .eq 81, 3) := by decide +kernel
theorem dL_arePlacesSo_86 : decode cL_arePlacesSo 86 = .ok (.iload 5, 2) := by decide +kernel
theorem dL_arePlacesSo_88 : decode cL_arePlacesSo 88 = .ok (.ifCond .ge 7, 3) := by decide +kernel
theorem dL_arePlacesSo_91 : decode cL_arePlacesSo 91 = .ok (.iconst 1, 1) := by decide +kernel
theorem dL_arePlacesSo_92 : decode cL_arePlacesSo 92 = .ok (.goto 4, 3) := by decide +kernel
theorem dL_arePlacesSo_95 : decode cL_arePlacesSo 95 = .ok (.iconst 0, 1) := by decide +kernel
theorem dL_arePlacesSo_96 : decode cL_arePlacesSo 96 = .ok (.aload_n 0, 1) := by decide +kernel
theorem dL_arePlacesSo_97 : decode cL_arePlacesSo 97 = .ok (.iload 4, 2) := by decide +kernel
theorem dL_arePlacesSo_99 : decode cL_arePlacesSo 99 = .ok (.invokestatic 104, 3) := by decide +kernel
theorem dL_arePlacesSo_102 : decode cL_arePlacesSo 102 = .ok (.ifCond .ge 7, 3) := by decide +kernel
theorem dL_arePlacesSo_105 : decode cL_arePlacesSo 105 = .ok (.iconst 1, 1) := by decide +kernel
theorem dL_arePlacesSo_106 : decode cL_arePlacesSo 106 = .ok (.goto 4, 3) := by decide +kernel
theorem dL_arePlacesSo_109 : decode cL_arePlacesSo 109 = .ok (.iconst 0, 1) := by decide +kernel
theorem dL_arePlacesSo_110 : decode cL_arePlacesSo 110 = .ok (.if_icmp .ne 54, 3) := by decide +kernel
theorem dL_arePlacesSo_113 : decode cL_arePlacesSo 113 = .ok (.iload 5, 2) := by decide +kernel
theorem dL_arePlacesSo_115 : decode cL_arePlacesSo 115 = .ok (.ifCond .eq 49, 3) := by decide +kernel
theorem dL_arePlacesSo_118 : decode cL_arePlacesSo 118 = .ok (.iload 5, 2) := by decide +kernel
theorem dL_arePlacesSo_120 : decode cL_arePlacesSo 120 = .ok (.aload_n 0, 1) := by decide +kernel
theorem dL_arePlacesSo_121 : decode cL_arePlacesSo 121 = .ok (.invokevirtual 59, 3) := by decide +kernel
theorem dL_arePlacesSo_124 : decode cL_arePlacesSo 124 = .ok (.if_icmp .ge 40, 3) := by decide +kernel
theorem dL_arePlacesSo_127 : decode cL_arePlacesSo 127 = .ok (.iload 6, 2) := by decide +kernel
theorem dL_arePlacesSo_129 : decode cL_arePlacesSo 129 = .ok (.ifCond .lt 35, 3) := by decide +kernel
theorem dL_arePlacesSo_132 : decode cL_arePlacesSo 132 = .ok (.iload 6, 2) := by decide +kernel
theorem dL_arePlacesSo_134 : decode cL_arePlacesSo 134 = .ok (.aload_n 0, 1) := by decide +kernel
theorem dL_arePlacesSo_135 : decode cL_arePlacesSo 135 = .ok (.iload 4, 2) := by decide +kernel
theorem dL_arePlacesSo_137 : decode cL_arePlacesSo 137 = .ok (.invokevirtual 96, 3) := by decide +kernel
theorem dL_arePlacesSo_140 : decode cL_arePlacesSo 140 = .ok (.if_icmp .gt 24, 3) := by decide +kernel
theorem dL_arePlacesSo_143 : decode cL_arePlacesSo 143 = .ok (.iload 6, 2) := by decide +kernel
theorem dL_arePlacesSo_145 : decode cL_arePlacesSo 145 = .ok (.bipush 9, 2) := by decide +kernel
theorem dL_arePlacesSo_147 : decode cL_arePlacesSo 147 = .ok (.if_icmp .gt 17, 3) := by decide +kernel
theorem dL_arePlacesSo_150 : decode cL_arePlacesSo 150 = .ok (.iload 5, 2) := by decide +kernel
theorem dL_arePlacesSo_152 : decode cL_arePlacesSo 152 = .ok (.ifCond .ge 8, 3) := by decide +kernel
theorem dL_arePlacesSo_155 : decode cL_arePlacesSo 155 = .ok (.iload 6, 2) := by decide +kernel
theorem dL_arePlacesSo_157 : decode cL_arePlacesSo 157 = .ok (.ifCond .ne 7, 3) := by decide +kernel
theorem dL_arePlacesSo_160 : decode cL_arePlacesSo 160 = .ok (.iconst 1, 1) := by decide +kernel
theorem dL_arePlacesSo_161 : decode cL_arePlacesSo 161 = .ok (.goto 4, 3) := by decide +kernel
theorem dL_arePlacesSo_164 : decode cL_arePlacesSo 164 = .ok (.iconst 0, 1) := by decide +kernel
theorem dL_arePlacesSo_165 : decode cL_arePlacesSo 165 = .ok (.istore_n 3, 1) := by decide +kernel
theorem dL_arePlacesSo_166 : decode cL_arePlacesSo 166 = .ok (.iinc 4 1, 3) := by decide +kernel
theorem dL_arePlacesSo_169 : decode cL_arePlacesSo 169 = .ok (.goto (-139), 3) := by decide +kernel
theorem dL_arePlacesSo_172 : decode cL_arePlacesSo 172 = .ok (.aload_n 0, 1) := by decide +kernel
theorem dL_arePlacesSo_173 : decode cL_arePlacesSo 173 = .ok (.invokestatic 106, 3) := by decide +kernel
theorem dL_arePlacesSo_176 : decode cL_arePlacesSo 176 = .ok (.istore 4, 2) := by decide +kernel
theorem dL_arePlacesSo_178 : decode cL_arePlacesSo 178 = .ok (.iload_n 3, 1) := by decide +kernel
theorem dL_arePlacesSo_179 : decode cL_arePlacesSo 179 = .ok (.ifCond .eq 67, 3) := by decide +kernel
theorem dL_arePlacesSo_182 : decode cL_arePlacesSo 182 = .ok (.aload_n 0, 1) := by decide +kernel
theorem dL_arePlacesSo_183 : decode cL_arePlacesSo 183 = .ok (.invokevirtual 84, 3) := by decide +kernel
theorem dL_arePlacesSo_186 : decode cL_arePlacesSo 186 = .ok (.iload_n 1, 1) := by decide +kernel
theorem dL_arePlacesSo_187 : decode cL_arePlacesSo 187 = .ok (.if_icmp .ne 59, 3) := by decide +kernel
theorem dL_arePlacesSo_190 : decode cL_arePlacesSo 190 = .ok (.aload_n 0, 1) := by decide +kernel
theorem dL_arePlacesSo_191 : decode cL_arePlacesSo 191 = .ok (.invokevirtual 93, 3) := by decide +kernel
theorem dL_arePlacesSo_194 : decode cL_arePlacesSo 194 = .ok (.iload_n 2, 1) := by decide +kernel
theorem dL_arePlacesSo_195 : decode cL_arePlacesSo 195 = .ok (.if_icmp .ne 51, 3) := by decide +kernel
theorem dL_arePlacesSo_198 : decode cL_arePlacesSo 198 = .ok (.iload 4, 2) := by decide +kernel
theorem dL_arePlacesSo_200 : decode cL_arePlacesSo 200 = .ok (.ifCond .ge 7, 3) := by decide +kernel
theorem dL_arePlacesSo_203 : decode cL_arePlacesSo 203 = .ok (.iconst 1, 1) := by decide +kernel
theorem dL_arePlacesSo_204 : decode cL_arePlacesSo 204 = .ok (.goto 4, 3) := by decide +kernel
theorem dL_arePlacesSo_207 : decode cL_arePlacesSo 207 = .ok (.iconst 0, 1) := by decide +kernel
theorem dL_arePlacesSo_208 : decode cL_arePlacesSo 208 = .ok (.iload_n 2, 1) := by decide +kernel
theorem dL_arePlacesSo_209 : decode cL_arePlacesSo 209 = .ok (.ifCond .le 7, 3) := by decide +kernel
theorem dL_arePlacesSo_212 : decode cL_arePlacesSo 212 = .ok (.iconst 1, 1) := by decide +kernel
theorem dL_arePlacesSo_213 : decode cL_arePlacesSo 213 = .ok (.goto 4, 3) := by decide +kernel
theorem dL_arePlacesSo_216 : decode cL_arePlacesSo 216 = .ok (.iconst 0, 1) := by decide +kernel
theorem dL_arePlacesSo_217 : decode cL_arePlacesSo 217 = .ok (.if_icmp .ne 29, 3) := by decide +kernel
theorem dL_arePlacesSo_220 : decode cL_arePlacesSo 220 = .ok (.iload 4, 2) := by decide +kernel
theorem dL_arePlacesSo_222 : decode cL_arePlacesSo 222 = .ok (.ifCond .ne 7, 3) := by decide +kernel
theorem dL_arePlacesSo_225 : decode cL_arePlacesSo 225 = .ok (.iconst 1, 1) := by decide +kernel
theorem dL_arePlacesSo_226 : decode cL_arePlacesSo 226 = .ok (.goto 4, 3) := by decide +kernel
theorem dL_arePlacesSo_229 : decode cL_arePlacesSo 229 = .ok (.iconst 0, 1) := by decide +kernel
theorem dL_arePlacesSo_230 : decode cL_arePlacesSo 230 = .ok (.iload_n 1, 1) := by decide +kernel
theorem dL_arePlacesSo_231 : decode cL_arePlacesSo 231 = .ok (.ifCond .ne 7, 3) := by decide +kernel
theorem dL_arePlacesSo_234 : decode cL_arePlacesSo 234 = .ok (.iconst 1, 1) := by decide +kernel
theorem dL_arePlacesSo_235 : decode cL_arePlacesSo 235 = .ok (.goto 4, 3) := by decide +kernel
theorem dL_arePlacesSo_238 : decode cL_arePlacesSo 238 = .ok (.iconst 0, 1) := by decide +kernel
theorem dL_arePlacesSo_239 : decode cL_arePlacesSo 239 = .ok (.if_icmp .ne 7, 3) := by decide +kernel
theorem dL_arePlacesSo_242 : decode cL_arePlacesSo 242 = .ok (.iconst 1, 1) := by decide +kernel
theorem dL_arePlacesSo_243 : decode cL_arePlacesSo 243 = .ok (.goto 4, 3) := by decide +kernel
theorem dL_arePlacesSo_246 : decode cL_arePlacesSo 246 = .ok (.iconst 0, 1) := by decide +kernel
theorem dL_arePlacesSo_247 : decode cL_arePlacesSo 247 = .ok (.ireturn, 1) := by decide +kernel
theorem dL_isStepSo_0 : decode cL_isStepSo 0 = .ok (.aload_n 0, 1) := by decide +kernel
theorem dL_isStepSo_1 : decode cL_isStepSo 1 = .ok (.invokevirtual 84, 3) := by decide +kernel
theorem dL_isStepSo_4 : decode cL_isStepSo 4 = .ok (.aload_n 0, 1) := by decide +kernel
theorem dL_isStepSo_5 : decode cL_isStepSo 5 = .ok (.iconst 0, 1) := by decide +kernel
theorem dL_isStepSo_6 : decode cL_isStepSo 6 = .ok (.invokevirtual 96, 3) := by decide +kernel
theorem dL_isStepSo_9 : decode cL_isStepSo 9 = .ok (.iadd, 1) := by decide +kernel
theorem dL_isStepSo_10 : decode cL_isStepSo 10 = .ok (.istore_n 2, 1) := by decide +kernel
theorem dL_isStepSo_11 : decode cL_isStepSo 11 = .ok (.iconst 0, 1) := by decide +kernel
theorem dL_isStepSo_12 : decode cL_isStepSo 12 = .ok (.istore_n 3, 1) := by decide +kernel
theorem dL_isStepSo_13 : decode cL_isStepSo 13 = .ok (.iconst 0, 1) := by decide +kernel
theorem dL_isStepSo_14 : decode cL_isStepSo 14 = .ok (.istore 4, 2) := by decide +kernel
theorem dL_isStepSo_16 : decode cL_isStepSo 16 = .ok (.iload 4, 2) := by decide +kernel
theorem dL_isStepSo_18 : decode cL_isStepSo 18 = .ok (.aload_n 0, 1) := by decide +kernel
theorem dL_isStepSo_19 : decode cL_isStepSo 19 = .ok (.invokevirtual 59, 3) := by decide +kernel
theorem dL_isStepSo_22 : decode cL_isStepSo 22 = .ok (.if_icmp .ge 43, 3) := by decide +kernel
theorem dL_isStepSo_25 : decode cL_isStepSo 25 = .ok (.aload_n 1, 1) := by decide +kernel
theorem dL_isStepSo_26 : decode cL_isStepSo 26 = .ok (.iload 4, 2) := by decide +kernel
theorem dL_isStepSo_28 : decode cL_isStepSo 28 = .ok (.aload_n 0, 1) := by decide +kernel
theorem dL_isStepSo_29 : decode cL_isStepSo 29 = .ok (.iload 4, 2) := by decide +kernel
theorem dL_isStepSo_31 : decode cL_isStepSo 31 = .ok (.invokevirtual 96, 3) := by decide +kernel
theorem dL_isStepSo_34 : decode cL_isStepSo 34 = .ok (.i2l, 1) := by decide +kernel
theorem dL_isStepSo_35 : decode cL_isStepSo 35 = .ok (.lastore, 1) := by decide +kernel
theorem dL_isStepSo_36 : decode cL_isStepSo 36 = .ok (.aload_n 1, 1) := by decide +kernel
theorem dL_isStepSo_37 : decode cL_isStepSo 37 = .ok (.bipush 12, 2) := by decide +kernel
theorem dL_isStepSo_39 : decode cL_isStepSo 39 = .ok (.iload 4, 2) := by decide +kernel
theorem dL_isStepSo_41 : decode cL_isStepSo 41 = .ok (.iadd, 1) := by decide +kernel
theorem dL_isStepSo_42 : decode cL_isStepSo 42 = .ok (.aload_n 0, 1) := by decide +kernel
theorem dL_isStepSo_43 : decode cL_isStepSo 43 = .ok (.iload 4, 2) := by decide +kernel
theorem dL_isStepSo_45 : decode cL_isStepSo 45 = .ok (.invokevirtual 99, 3) := by decide +kernel
theorem dL_isStepSo_48 : decode cL_isStepSo 48 = .ok (.i2l, 1) := by decide +kernel
theorem dL_isStepSo_49 : decode cL_isStepSo 49 = .ok (.lastore, 1) := by decide +kernel
theorem dL_isStepSo_50 : decode cL_isStepSo 50 = .ok (.iload_n 3, 1) := by decide +kernel
theorem dL_isStepSo_51 : decode cL_isStepSo 51 = .ok (.aload_n 0, 1) := by decide +kernel
theorem dL_isStepSo_52 : decode cL_isStepSo 52 = .ok (.iload 4, 2) := by decide +kernel
theorem dL_isStepSo_54 : decode cL_isStepSo 54 = .ok (.invokevirtual 99, 3) := by decide +kernel
theorem dL_isStepSo_57 : decode cL_isStepSo 57 = .ok (.iadd, 1) := by decide +kernel
theorem dL_isStepSo_58 : decode cL_isStepSo 58 = .ok (.istore_n 3, 1) := by decide +kernel
theorem dL_isStepSo_59 : decode cL_isStepSo 59 = .ok (.iinc 4 1, 3) := by decide +kernel
theorem dL_isStepSo_62 : decode cL_isStepSo 62 = .ok (.goto (-46), 3) := by decide +kernel
theorem dL_isStepSo_65 : decode cL_isStepSo 65 = .ok (.iconst 0, 1) := by decide +kernel
theorem dL_isStepSo_66 : decode cL_isStepSo 66 = .ok (.istore 4, 2) := by decide +kernel
theorem dL_isStepSo_68 : decode cL_isStepSo 68 = .ok (.iload 4, 2) := by decide +kernel
theorem dL_isStepSo_70 : decode cL_isStepSo 70 = .ok (.aload_n 0, 1) := by decide +kernel
theorem dL_isStepSo_71 : decode cL_isStepSo 71 = .ok (.invokevirtual 68, 3) := by decide +kernel
theorem dL_isStepSo_74 : decode cL_isStepSo 74 = .ok (.if_icmp .ge 23, 3) := by decide +kernel
theorem dL_isStepSo_77 : decode cL_isStepSo 77 = .ok (.aload_n 1, 1) := by decide +kernel
theorem dL_isStepSo_78 : decode cL_isStepSo 78 = .ok (.bipush 24, 2) := by decide +kernel
theorem dL_isStepSo_80 : decode cL_isStepSo 80 = .ok (.iload 4, 2) := by decide +kernel
theorem dL_isStepSo_82 : decode cL_isStepSo 82 = .ok (.iadd, 1) := by decide +kernel
theorem dL_isStepSo_83 : decode cL_isStepSo 83 = .ok (.aload_n 0, 1) := by decide +kernel
theorem dL_isStepSo_84 : decode cL_isStepSo 84 = .ok (.iload 4, 2) := by decide +kernel
theorem dL_isStepSo_86 : decode cL_isStepSo 86 = .ok (.invokevirtual 108, 3) := by decide +kernel
theorem dL_isStepSo_89 : decode cL_isStepSo 89 = .ok (.i2l, 1) := by decide +kernel
theorem dL_isStepSo_90 : decode cL_isStepSo 90 = .ok (.lastore, 1) := by decide +kernel
theorem dL_isStepSo_91 : decode cL_isStepSo 91 = .ok (.iinc 4 1, 3) := by decide +kernel
theorem dL_isStepSo_94 : decode cL_isStepSo 94 = .ok (.goto (-26), 3) := by decide +kernel
theorem dL_isStepSo_97 : decode cL_isStepSo 97 = .ok (.iconst 1, 1) := by decide +kernel
theorem dL_isStepSo_98 : decode cL_isStepSo 98 = .ok (.istore 4, 2) := by decide +kernel
theorem dL_isStepSo_100 : decode cL_isStepSo 100 = .ok (.iload 4, 2) := by decide +kernel
theorem dL_isStepSo_102 : decode cL_isStepSo 102 = .ok (.aload_n 0, 1) := by decide +kernel
theorem dL_isStepSo_103 : decode cL_isStepSo 103 = .ok (.invokevirtual 59, 3) := by decide +kernel
theorem dL_isStepSo_106 : decode cL_isStepSo 106 = .ok (.if_icmp .ge 56, 3) := by decide +kernel
theorem dL_isStepSo_109 : decode cL_isStepSo 109 = .ok (.aload_n 0, 1) := by decide +kernel
theorem dL_isStepSo_110 : decode cL_isStepSo 110 = .ok (.iload 4, 2) := by decide +kernel
theorem dL_isStepSo_112 : decode cL_isStepSo 112 = .ok (.invokestatic 104, 3) := by decide +kernel
theorem dL_isStepSo_115 : decode cL_isStepSo 115 = .ok (.istore 5, 2) := by decide +kernel
theorem dL_isStepSo_117 : decode cL_isStepSo 117 = .ok (.iload 5, 2) := by decide +kernel
theorem dL_isStepSo_119 : decode cL_isStepSo 119 = .ok (.ifCond .lt 23, 3) := by decide +kernel
theorem dL_isStepSo_122 : decode cL_isStepSo 122 = .ok (.aload_n 1, 1) := by decide +kernel
theorem dL_isStepSo_123 : decode cL_isStepSo 123 = .ok (.bipush 24, 2) := by decide +kernel
theorem dL_isStepSo_125 : decode cL_isStepSo 125 = .ok (.iload 5, 2) := by decide +kernel
theorem dL_isStepSo_127 : decode cL_isStepSo 127 = .ok (.iadd, 1) := by decide +kernel
theorem dL_isStepSo_128 : decode cL_isStepSo 128 = .ok (.dup2, 1) := by decide +kernel
theorem dL_isStepSo_129 : decode cL_isStepSo 129 = .ok (.laload, 1) := by decide +kernel
theorem dL_isStepSo_130 : decode cL_isStepSo 130 = .ok (.aload_n 1, 1) := by decide +kernel
theorem dL_isStepSo_131 : decode cL_isStepSo 131 = .ok (.bipush 12, 2) := by decide +kernel
theorem dL_isStepSo_133 : decode cL_isStepSo 133 = .ok (.iload 4, 2) := by decide +kernel
theorem dL_isStepSo_135 : decode cL_isStepSo 135 = .ok (.iadd, 1) := by decide +kernel
theorem dL_isStepSo_136 : decode cL_isStepSo 136 = .ok (.laload, 1) := by decide +kernel
theorem dL_isStepSo_137 : decode cL_isStepSo 137 = .ok (.ladd, 1) := by decide +kernel
theorem dL_isStepSo_138 : decode cL_isStepSo 138 = .ok (.lastore, 1) := by decide +kernel
theorem dL_isStepSo_139 : decode cL_isStepSo 139 = .ok (.goto 17, 3) := by decide +kernel
theorem dL_isStepSo_142 : decode cL_isStepSo 142 = .ok (.aload_n 1, 1) := by decide +kernel
theorem dL_isStepSo_143 : decode cL_isStepSo 143 = .ok (.bipush 12, 2) := by decide +kernel
theorem dL_isStepSo_145 : decode cL_isStepSo 145 = .ok (.iload 4, 2) := by decide +kernel
theorem dL_isStepSo_147 : decode cL_isStepSo 147 = .ok (.iadd, 1) := by decide +kernel
theorem dL_isStepSo_148 : decode cL_isStepSo 148 = .ok (.laload, 1) := by decide +kernel
theorem dL_isStepSo_149 : decode cL_isStepSo 149 = .ok (.lconst 0, 1) := by decide +kernel
theorem dL_isStepSo_150 : decode cL_isStepSo 150 = .ok (.lcmp, 1) := by decide +kernel
theorem dL_isStepSo_151 : decode cL_isStepSo 151 = .ok (.ifCond .eq 5, 3) := by decide +kernel
theorem dL_isStepSo_154 : decode cL_isStepSo 154 = .ok (.iconst 0, 1) := by decide +kernel
theorem dL_isStepSo_155 : decode cL_isStepSo 155 = .ok (.ireturn, 1) := by decide +kernel
theorem dL_isStepSo_156 : decode cL_isStepSo 156 = .ok (.iinc 4 1, 3) := by decide +kernel
theorem dL_isStepSo_159 : decode cL_isStepSo 159 = .ok (.goto (-59), 3) := by decide +kernel
theorem dL_isStepSo_162 : decode cL_isStepSo 162 = .ok (.aload_n 0, 1) := by decide +kernel
theorem dL_isStepSo_163 : decode cL_isStepSo 163 = .ok (.invokevirtual 87, 3) := by decide +kernel
theorem dL_isStepSo_166 : decode cL_isStepSo 166 = .ok (.istore 4, 2) := by decide +kernel
theorem dL_isStepSo_168 : decode cL_isStepSo 168 = .ok (.aload_n 0, 1) := by decide +kernel
theorem dL_isStepSo_169 : decode cL_isStepSo 169 = .ok (.invokevirtual 77, 3) := by decide +kernel
theorem dL_isStepSo_172 : decode cL_isStepSo 172 = .ok (.istore 5, 2) := by decide +kernel
theorem dL_isStepSo_174 : decode cL_isStepSo 174 = .ok (.aload_n 0, 1) := by decide +kernel
theorem dL_isStepSo_175 : decode cL_isStepSo 175 = .ok (.iconst 1, 1) := by decide +kernel
theorem dL_isStepSo_176 : decode cL_isStepSo 176 = .ok (.invokevirtual 36, 3) := by decide +kernel
theorem dL_isStepSo_179 : decode cL_isStepSo 179 = .ok (.istore 6, 2) := by decide +kernel
theorem dL_isStepSo_181 : decode cL_isStepSo 181 = .ok (.iconst 0, 1) := by decide +kernel
theorem dL_isStepSo_182 : decode cL_isStepSo 182 = .ok (.istore 7, 2) := by decide +kernel
theorem dL_isStepSo_184 : decode cL_isStepSo 184 = .ok (.aload_n 0, 1) := by decide +kernel
theorem dL_isStepSo_185 : decode cL_isStepSo 185 = .ok (.invokevirtual 84, 3) := by decide +kernel
theorem dL_isStepSo_188 : decode cL_isStepSo 188 = .ok (.aload_n 0, 1) := by decide +kernel
theorem dL_isStepSo_189 : decode cL_isStepSo 189 = .ok (.iconst 0, 1) := by decide +kernel
theorem dL_isStepSo_190 : decode cL_isStepSo 190 = .ok (.invokevirtual 96, 3) := by decide +kernel
theorem dL_isStepSo_193 : decode cL_isStepSo 193 = .ok (.iadd, 1) := by decide +kernel
theorem dL_isStepSo_194 : decode cL_isStepSo 194 = .ok (.iload_n 2, 1) := by decide +kernel
theorem dL_isStepSo_195 : decode cL_isStepSo 195 = .ok (.if_icmp .ne 65, 3) := by decide +kernel
theorem dL_isStepSo_198 : decode cL_isStepSo 198 = .ok (.aload_n 0, 1) := by decide +kernel
theorem dL_isStepSo_199 : decode cL_isStepSo 199 = .ok (.invokevirtual 77, 3) := by decide +kernel
theorem dL_isStepSo_202 : decode cL_isStepSo 202 = .ok (.iload 5, 2) := by decide +kernel
theorem dL_isStepSo_204 : decode cL_isStepSo 204 = .ok (.iconst 1, 1) := by decide +kernel
theorem dL_isStepSo_205 : decode cL_isStepSo 205 = .ok (.iadd, 1) := by decide +kernel
theorem dL_isStepSo_206 : decode cL_isStepSo 206 = .ok (.if_icmp .ne 54, 3) := by decide +kernel
theorem dL_isStepSo_209 : decode cL_isStepSo 209 = .ok (.aload_n 0, 1) := by decide +kernel
theorem dL_isStepSo_210 : decode cL_isStepSo 210 = .ok (.invokevirtual 87, 3) := by decide +kernel
theorem dL_isStepSo_213 : decode cL_isStepSo 213 = .ok (.iload 4, 2) := by decide +kernel
theorem dL_isStepSo_215 : decode cL_isStepSo 215 = .ok (.aload_n 0, 1) := by decide +kernel
theorem dL_isStepSo_216 : decode cL_isStepSo 216 = .ok (.invokevirtual 84, 3) := by decide +kernel
theorem dL_isStepSo_219 : decode cL_isStepSo 219 = .ok (.iadd, 1) := by decide +kernel
theorem dL_isStepSo_220 : decode cL_isStepSo 220 = .ok (.if_icmp .ne 40, 3) := by decide +kernel
theorem dL_isStepSo_223 : decode cL_isStepSo 223 = .ok (.iload 6, 2) := by decide +kernel
theorem dL_isStepSo_225 : decode cL_isStepSo 225 = .ok (.i2l, 1) := by decide +kernel
theorem dL_isStepSo_226 : decode cL_isStepSo 226 = .ok (.aload_n 0, 1) := by decide +kernel
theorem dL_isStepSo_227 : decode cL_isStepSo 227 = .ok (.iconst 0, 1) := by decide +kernel
theorem dL_isStepSo_228 : decode cL_isStepSo 228 = .ok (.invokevirtual 96, 3) := by decide +kernel
theorem dL_isStepSo_231 : decode cL_isStepSo 231 = .ok (.i2l, 1) := by decide +kernel
theorem dL_isStepSo_232 : decode cL_isStepSo 232 = .ok (.aload_n 1, 1) := by decide +kernel
theorem dL_isStepSo_233 : decode cL_isStepSo 233 = .ok (.iconst 0, 1) := by decide +kernel
theorem dL_isStepSo_234 : decode cL_isStepSo 234 = .ok (.laload, 1) := by decide +kernel
theorem dL_isStepSo_235 : decode cL_isStepSo 235 = .ok (.lsub, 1) := by decide +kernel
theorem dL_isStepSo_236 : decode cL_isStepSo 236 = .ok (.lcmp, 1) := by decide +kernel
theorem dL_isStepSo_237 : decode cL_isStepSo 237 = .ok (.ifCond .ne 23, 3) := by decide +kernel
theorem dL_isStepSo_240 : decode cL_isStepSo 240 = .ok (.iload 6, 2) := by decide +kernel
theorem dL_isStepSo_242 : decode cL_isStepSo 242 = .ok (.ifCond .eq 14, 3) := by decide +kernel
theorem dL_isStepSo_245 : decode cL_isStepSo 245 = .ok (.aload_n 0, 1) := by decide +kernel
theorem dL_isStepSo_246 : decode cL_isStepSo 246 = .ok (.invokestatic 90, 3) := by decide +kernel
theorem dL_isStepSo_249 : decode cL_isStepSo 249 = .ok (.iload 5, 2) := by decide +kernel
theorem dL_isStepSo_251 : decode cL_isStepSo 251 = .ok (.iconst 1, 1) := by decide +kernel
theorem dL_isStepSo_252 : decode cL_isStepSo 252 = .ok (.iadd, 1) := by decide +kernel
theorem dL_isStepSo_253 : decode cL_isStepSo 253 = .ok (.if_icmp .ne 7, 3) := by decide +kernel
theorem dL_isStepSo_256 : decode cL_isStepSo 256 = .ok (.iconst 1, 1) := by decide +kernel
theorem dL_isStepSo_257 : decode cL_isStepSo 257 = .ok (.goto 4, 3) := by decide +kernel
theorem dL_isStepSo_260 : decode cL_isStepSo 260 = .ok (.iconst 0, 1) := by decide +kernel
theorem dL_isStepSo_261 : decode cL_isStepSo 261 = .ok (.istore 8, 2) := by decide +kernel
theorem dL_isStepSo_263 : decode cL_isStepSo 263 = .ok (.iconst 1, 1) := by decide +kernel
theorem dL_isStepSo_264 : decode cL_isStepSo 264 = .ok (.istore 9, 2) := by decide +kernel
theorem dL_isStepSo_266 : decode cL_isStepSo 266 = .ok (.iload 9, 2) := by decide +kernel
theorem dL_isStepSo_268 : decode cL_isStepSo 268 = .ok (.aload_n 0, 1) := by decide +kernel
theorem dL_isStepSo_269 : decode cL_isStepSo 269 = .ok (.invokevirtual 59, 3) := by decide +kernel
theorem dL_isStepSo_272 : decode cL_isStepSo 272 = .ok (.if_icmp .ge 64, 3) := by decide +kernel
theorem dL_isStepSo_275 : decode cL_isStepSo 275 = .ok (.aload_n 1, 1) := by decide +kernel
theorem dL_isStepSo_276 : decode cL_isStepSo 276 = .ok (.iload 9, 2) := by decide +kernel
theorem dL_isStepSo_278 : decode cL_isStepSo 278 = .ok (.laload, 1) := by decide +kernel
theorem dL_isStepSo_279 : decode cL_isStepSo 279 = .ok (.aload_n 1, 1) := by decide +kernel
theorem dL_isStepSo_280 : decode cL_isStepSo 280 = .ok (.bipush 12, 2) := by decide +kernel
theorem dL_isStepSo_282 : decode cL_isStepSo 282 = .ok (.iload 9, 2) := by decide +kernel
theorem dL_isStepSo_284 : decode cL_isStepSo 284 = .ok (.iadd, 1) := by decide +kernel
theorem dL_isStepSo_285 : decode cL_isStepSo 285 = .ok (.laload, 1) := by decide +kernel
theorem dL_isStepSo_286 : decode cL_isStepSo 286 = .ok (.lsub, 1) := by decide +kernel
theorem dL_isStepSo_287 : decode cL_isStepSo 287 = .ok (.lstore 10, 2) := by decide +kernel
theorem dL_isStepSo_289 : decode cL_isStepSo 289 = .ok (.iload 8, 2) := by decide +kernel
theorem dL_isStepSo_291 : decode cL_isStepSo 291 = .ok (.ifCond .eq 20, 3) := by decide +kernel
theorem dL_isStepSo_294 : decode cL_isStepSo 294 = .ok (.aload_n 0, 1) := by decide +kernel
theorem dL_isStepSo_295 : decode cL_isStepSo 295 = .ok (.iload 9, 2) := by decide +kernel
theorem dL_isStepSo_297 : decode cL_isStepSo 297 = .ok (.invokevirtual 96, 3) := by decide +kernel
theorem dL_isStepSo_300 : decode cL_isStepSo 300 = .ok (.i2l, 1) := by decide +kernel
theorem dL_isStepSo_301 : decode cL_isStepSo 301 = .ok (.lload 10, 2) := by decide +kernel
theorem dL_isStepSo_303 : decode cL_isStepSo 303 = .ok (.lcmp, 1) := by decide +kernel
theorem dL_isStepSo_304 : decode cL_isStepSo 304 = .ok (.ifCond .lt 7, 3) := by decide +kernel
theorem dL_isStepSo_307 : decode cL_isStepSo 307 = .ok (.iconst 1, 1) := by decide +kernel
theorem dL_isStepSo_308 : decode cL_isStepSo 308 = .ok (.goto 4, 3) := by decide +kernel
theorem dL_isStepSo_311 : decode cL_isStepSo 311 = .ok (.iconst 0, 1) := by decide +kernel
theorem dL_isStepSo_312 : decode cL_isStepSo 312 = .ok (.istore 8, 2) := by decide +kernel
theorem dL_isStepSo_314 : decode cL_isStepSo 314 = .ok (.iload 7, 2) := by decide +kernel
theorem dL_isStepSo_316 : decode cL_isStepSo 316 = .ok (.aload_n 0, 1) := by decide +kernel
theorem dL_isStepSo_317 : decode cL_isStepSo 317 = .ok (.iload 9, 2) := by decide +kernel
theorem dL_isStepSo_319 : decode cL_isStepSo 319 = .ok (.invokevirtual 96, 3) := by decide +kernel
theorem dL_isStepSo_322 : decode cL_isStepSo 322 = .ok (.i2l, 1) := by decide +kernel
theorem dL_isStepSo_323 : decode cL_isStepSo 323 = .ok (.lload 10, 2) := by decide +kernel
theorem dL_isStepSo_325 : decode cL_isStepSo 325 = .ok (.lsub, 1) := by decide +kernel
theorem dL_isStepSo_326 : decode cL_isStepSo 326 = .ok (.l2i, 1) := by decide +kernel
theorem dL_isStepSo_327 : decode cL_isStepSo 327 = .ok (.iadd, 1) := by decide +kernel
theorem dL_isStepSo_328 : decode cL_isStepSo 328 = .ok (.istore 7, 2) := by decide +kernel
theorem dL_isStepSo_330 : decode cL_isStepSo 330 = .ok (.iinc 9 1, 3) := by decide +kernel
theorem dL_isStepSo_333 : decode cL_isStepSo 333 = .ok (.goto (-67), 3) := by decide +kernel
theorem dL_isStepSo_336 : decode cL_isStepSo 336 = .ok (.iconst 0, 1) := by decide +kernel
theorem dL_isStepSo_337 : decode cL_isStepSo 337 = .ok (.istore 9, 2) := by decide +kernel
theorem dL_isStepSo_339 : decode cL_isStepSo 339 = .ok (.iload 9, 2) := by decide +kernel
theorem dL_isStepSo_341 : decode cL_isStepSo 341 = .ok (.aload_n 0, 1) := by decide +kernel
theorem dL_isStepSo_342 : decode cL_isStepSo 342 = .ok (.invokevirtual 68, 3) := by decide +kernel
theorem dL_isStepSo_345 : decode cL_isStepSo 345 = .ok (.if_icmp .ge 39, 3) := by decide +kernel
theorem dL_isStepSo_348 : decode cL_isStepSo 348 = .ok (.iload 8, 2) := by decide +kernel
theorem dL_isStepSo_350 : decode cL_isStepSo 350 = .ok (.ifCond .eq 25, 3) := by decide +kernel
theorem dL_isStepSo_353 : decode cL_isStepSo 353 = .ok (.aload_n 0, 1) := by decide +kernel
theorem dL_isStepSo_354 : decode cL_isStepSo 354 = .ok (.iload 9, 2) := by decide +kernel
theorem dL_isStepSo_356 : decode cL_isStepSo 356 = .ok (.invokevirtual 108, 3) := by decide +kernel
theorem dL_isStepSo_359 : decode cL_isStepSo 359 = .ok (.i2l, 1) := by decide +kernel
theorem dL_isStepSo_360 : decode cL_isStepSo 360 = .ok (.aload_n 1, 1) := by decide +kernel
theorem dL_isStepSo_361 : decode cL_isStepSo 361 = .ok (.bipush 24, 2) := by decide +kernel
theorem dL_isStepSo_363 : decode cL_isStepSo 363 = .ok (.iload 9, 2) := by decide +kernel
theorem dL_isStepSo_365 : decode cL_isStepSo 365 = .ok (.iadd, 1) := by decide +kernel
theorem dL_isStepSo_366 : decode cL_isStepSo 366 = .ok (.laload, 1) := by decide +kernel
theorem dL_isStepSo_367 : decode cL_isStepSo 367 = .ok (.lcmp, 1) := by decide +kernel
theorem dL_isStepSo_368 : decode cL_isStepSo 368 = .ok (.ifCond .ne 7, 3) := by decide +kernel
theorem dL_isStepSo_371 : decode cL_isStepSo 371 = .ok (.iconst 1, 1) := by decide +kernel
theorem dL_isStepSo_372 : decode cL_isStepSo 372 = .ok (.goto 4, 3) := by decide +kernel
theorem dL_isStepSo_375 : decode cL_isStepSo 375 = .ok (.iconst 0, 1) := by decide +kernel
theorem dL_isStepSo_376 : decode cL_isStepSo 376 = .ok (.istore 8, 2) := by decide +kernel
theorem dL_isStepSo_378 : decode cL_isStepSo 378 = .ok (.iinc 9 1, 3) := by decide +kernel
theorem dL_isStepSo_381 : decode cL_isStepSo 381 = .ok (.goto (-42), 3) := by decide +kernel
theorem dL_isStepSo_384 : decode cL_isStepSo 384 = .ok (.iload 8, 2) := by decide +kernel
theorem dL_isStepSo_386 : decode cL_isStepSo 386 = .ok (.ifCond .eq 16, 3) := by decide +kernel
theorem dL_isStepSo_389 : decode cL_isStepSo 389 = .ok (.iload 7, 2) := by decide +kernel
theorem dL_isStepSo_391 : decode cL_isStepSo 391 = .ok (.iload 6, 2) := by decide +kernel
theorem dL_isStepSo_393 : decode cL_isStepSo 393 = .ok (.iadd, 1) := by decide +kernel
theorem dL_isStepSo_394 : decode cL_isStepSo 394 = .ok (.iload_n 3, 1) := by decide +kernel
theorem dL_isStepSo_395 : decode cL_isStepSo 395 = .ok (.if_icmp .ne 7, 3) := by decide +kernel
theorem dL_isStepSo_398 : decode cL_isStepSo 398 = .ok (.iconst 1, 1) := by decide +kernel
theorem dL_isStepSo_399 : decode cL_isStepSo 399 = .ok (.goto 4, 3) := by decide +kernel
theorem dL_isStepSo_402 : decode cL_isStepSo 402 = .ok (.iconst 0, 1) := by decide +kernel
theorem dL_isStepSo_403 : decode cL_isStepSo 403 = .ok (.ireturn, 1) := by decide +kernel
theorem dL_law_0 : decode cL_law 0 = .ok (.new 9, 3) := by decide +kernel
theorem dL_law_3 : decode cL_law 3 = .ok (.dup, 1) := by decide +kernel
theorem dL_law_4 : decode cL_law 4 = .ok (.invokespecial 111, 3) := by decide +kernel
theorem dL_law_7 : decode cL_law 7 = .ok (.astore_n 1, 1) := by decide +kernel
theorem dL_law_8 : decode cL_law 8 = .ok (.new 9, 3) := by decide +kernel
theorem dL_law_11 : decode cL_law 11 = .ok (.dup, 1) := by decide +kernel
theorem dL_law_12 : decode cL_law 12 = .ok (.invokespecial 111, 3) := by decide +kernel
theorem dL_law_15 : decode cL_law 15 = .ok (.astore_n 2, 1) := by decide +kernel
theorem dL_law_16 : decode cL_law 16 = .ok (.bipush 40, 2) := by decide +kernel
theorem dL_law_18 : decode cL_law 18 = .ok (.newarray .long, 2) := by decide +kernel
theorem dL_law_20 : decode cL_law 20 = .ok (.astore_n 3, 1) := by decide +kernel
theorem dL_law_21 : decode cL_law 21 = .ok (.iconst 0, 1) := by decide +kernel
theorem dL_law_22 : decode cL_law 22 = .ok (.istore 4, 2) := by decide +kernel
theorem dL_law_24 : decode cL_law 24 = .ok (.iload 4, 2) := by decide +kernel
theorem dL_law_26 : decode cL_law 26 = .ok (.bipush 60, 2) := by decide +kernel
theorem dL_law_28 : decode cL_law 28 = .ok (.if_icmp .ge 98, 3) := by decide +kernel
theorem dL_law_31 : decode cL_law 31 = .ok (.aload_n 0, 1) := by decide +kernel
theorem dL_law_32 : decode cL_law 32 = .ok (.iload 4, 2) := by decide +kernel
theorem dL_law_34 : decode cL_law 34 = .ok (.invokestatic 112, 3) := by decide +kernel
theorem dL_law_37 : decode cL_law 37 = .ok (.istore 5, 2) := by decide +kernel
theorem dL_law_39 : decode cL_law 39 = .ok (.aload_n 1, 1) := by decide +kernel
theorem dL_law_40 : decode cL_law 40 = .ok (.iload 5, 2) := by decide +kernel
theorem dL_law_42 : decode cL_law 42 = .ok (.invokestatic 116, 3) := by decide +kernel
theorem dL_law_45 : decode cL_law 45 = .ok (.istore 6, 2) := by decide +kernel
theorem dL_law_47 : decode cL_law 47 = .ok (.iload 6, 2) := by decide +kernel
theorem dL_law_49 : decode cL_law 49 = .ok (.ldc 16, 2) := by decide +kernel
theorem dL_law_51 : decode cL_law 51 = .ok (.if_icmp .eq 14, 3) := by decide +kernel
theorem dL_law_54 : decode cL_law 54 = .ok (.aload_n 2, 1) := by decide +kernel
theorem dL_law_55 : decode cL_law 55 = .ok (.iload 5, 2) := by decide +kernel
theorem dL_law_57 : decode cL_law 57 = .ok (.invokestatic 116, 3) := by decide +kernel
theorem dL_law_60 : decode cL_law 60 = .ok (.iload 6, 2) := by decide +kernel
theorem dL_law_62 : decode cL_law 62 = .ok (.if_icmp .ne 18, 3) := by decide +kernel
theorem dL_law_65 : decode cL_law 65 = .ok (.aload_n 1, 1) := by decide +kernel
theorem dL_law_66 : decode cL_law 66 = .ok (.aload_n 2, 1) := by decide +kernel
theorem dL_law_67 : decode cL_law 67 = .ok (.invokestatic 119, 3) := by decide +kernel
theorem dL_law_70 : decode cL_law 70 = .ok (.ifCond .eq 10, 3) := by decide +kernel
theorem dL_law_73 : decode cL_law 73 = .ok (.aload_n 1, 1) := by decide +kernel
theorem dL_law_74 : decode cL_law 74 = .ok (.invokestatic 123, 3) := by decide +kernel
theorem dL_law_77 : decode cL_law 77 = .ok (.ifCond .ne 5, 3) := by decide +kernel
theorem dL_law_80 : decode cL_law 80 = .ok (.iconst 0, 1) := by decide +kernel
theorem dL_law_81 : decode cL_law 81 = .ok (.ireturn, 1) := by decide +kernel
theorem dL_law_82 : decode cL_law 82 = .ok (.iload 4, 2) := by decide +kernel
theorem dL_law_84 : decode cL_law 84 = .ok (.iconst 5, 1) := by decide +kernel
theorem dL_law_85 : decode cL_law 85 = .ok (.irem, 1) := by decide +kernel
theorem dL_law_86 : decode cL_law 86 = .ok (.iconst 4, 1) := by decide +kernel
theorem dL_law_87 : decode cL_law 87 = .ok (.if_icmp .ne 33, 3) := by decide +kernel
theorem dL_law_90 : decode cL_law 90 = .ok (.aload_n 2, 1) := by decide +kernel
theorem dL_law_91 : decode cL_law 91 = .ok (.iconst 1, 1) := by decide +kernel
theorem dL_law_92 : decode cL_law 92 = .ok (.invokevirtual 36, 3) := by decide +kernel
theorem dL_law_95 : decode cL_law 95 = .ok (.istore 7, 2) := by decide +kernel
theorem dL_law_97 : decode cL_law 97 = .ok (.aload_n 1, 1) := by decide +kernel
theorem dL_law_98 : decode cL_law 98 = .ok (.aload_n 3, 1) := by decide +kernel
theorem dL_law_99 : decode cL_law 99 = .ok (.invokestatic 127, 3) := by decide +kernel
theorem dL_law_102 : decode cL_law 102 = .ok (.ifCond .eq 16, 3) := by decide +kernel
theorem dL_law_105 : decode cL_law 105 = .ok (.aload_n 1, 1) := by decide +kernel
theorem dL_law_106 : decode cL_law 106 = .ok (.aload_n 2, 1) := by decide +kernel
theorem dL_law_107 : decode cL_law 107 = .ok (.invokestatic 119, 3) := by decide +kernel
theorem dL_law_110 : decode cL_law 110 = .ok (.ifCond .eq 8, 3) := by decide +kernel
theorem dL_law_113 : decode cL_law 113 = .ok (.iload 7, 2) := by decide +kernel
theorem dL_law_115 : decode cL_law 115 = .ok (.ifCond .ge 5, 3) := by decide +kernel
theorem dL_law_118 : decode cL_law 118 = .ok (.iconst 0, 1) := by decide +kernel
theorem dL_law_119 : decode cL_law 119 = .ok (.ireturn, 1) := by decide +kernel
theorem dL_law_120 : decode cL_law 120 = .ok (.iinc 4 1, 3) := by decide +kernel
theorem dL_law_123 : decode cL_law 123 = .ok (.goto (-99), 3) := by decide +kernel
theorem dL_law_126 : decode cL_law 126 = .ok (.aload_n 1, 1) := by decide +kernel
theorem dL_law_127 : decode cL_law 127 = .ok (.invokevirtual 84, 3) := by decide +kernel
theorem dL_law_130 : decode cL_law 130 = .ok (.istore 4, 2) := by decide +kernel
theorem dL_law_132 : decode cL_law 132 = .ok (.aload_n 1, 1) := by decide +kernel
theorem dL_law_133 : decode cL_law 133 = .ok (.invokestatic 106, 3) := by decide +kernel
theorem dL_law_136 : decode cL_law 136 = .ok (.istore 5, 2) := by decide +kernel
theorem dL_law_138 : decode cL_law 138 = .ok (.aload_n 1, 1) := by decide +kernel
theorem dL_law_139 : decode cL_law 139 = .ok (.invokevirtual 131, 3) := by decide +kernel
theorem dL_law_142 : decode cL_law 142 = .ok (.istore 6, 2) := by decide +kernel
theorem dL_law_144 : decode cL_law 144 = .ok (.iload 6, 2) := by decide +kernel
theorem dL_law_146 : decode cL_law 146 = .ok (.sipush 300, 3) := by decide +kernel
theorem dL_law_149 : decode cL_law 149 = .ok (.if_icmp .gt 53, 3) := by decide +kernel
theorem dL_law_152 : decode cL_law 152 = .ok (.iload 6, 2) := by decide +kernel
theorem dL_law_154 : decode cL_law 154 = .ok (.aload_n 2, 1) := by decide +kernel
theorem dL_law_155 : decode cL_law 155 = .ok (.invokevirtual 131, 3) := by decide +kernel
theorem dL_law_158 : decode cL_law 158 = .ok (.if_icmp .ne 44, 3) := by decide +kernel
theorem dL_law_161 : decode cL_law 161 = .ok (.aload_n 1, 1) := by decide +kernel
theorem dL_law_162 : decode cL_law 162 = .ok (.aload_n 2, 1) := by decide +kernel
theorem dL_law_163 : decode cL_law 163 = .ok (.invokestatic 119, 3) := by decide +kernel
theorem dL_law_166 : decode cL_law 166 = .ok (.ifCond .eq 36, 3) := by decide +kernel
theorem dL_law_169 : decode cL_law 169 = .ok (.iload 4, 2) := by decide +kernel
theorem dL_law_171 : decode cL_law 171 = .ok (.ifCond .gt 8, 3) := by decide +kernel
theorem dL_law_174 : decode cL_law 174 = .ok (.iload 6, 2) := by decide +kernel
theorem dL_law_176 : decode cL_law 176 = .ok (.ifCond .ne 26, 3) := by decide +kernel
theorem dL_law_179 : decode cL_law 179 = .ok (.iload 5, 2) := by decide +kernel
theorem dL_law_181 : decode cL_law 181 = .ok (.ifCond .lt 17, 3) := by decide +kernel
theorem dL_law_184 : decode cL_law 184 = .ok (.aload_n 1, 1) := by decide +kernel
theorem dL_law_185 : decode cL_law 185 = .ok (.invokevirtual 84, 3) := by decide +kernel
theorem dL_law_188 : decode cL_law 188 = .ok (.ifCond .gt 10, 3) := by decide +kernel
theorem dL_law_191 : decode cL_law 191 = .ok (.iload 6, 2) := by decide +kernel
theorem dL_law_193 : decode cL_law 193 = .ok (.iload 5, 2) := by decide +kernel
theorem dL_law_195 : decode cL_law 195 = .ok (.if_icmp .lt 7, 3) := by decide +kernel
theorem dL_law_198 : decode cL_law 198 = .ok (.iconst 1, 1) := by decide +kernel
theorem dL_law_199 : decode cL_law 199 = .ok (.goto 4, 3) := by decide +kernel
theorem dL_law_202 : decode cL_law 202 = .ok (.iconst 0, 1) := by decide +kernel
theorem dL_law_203 : decode cL_law 203 = .ok (.ireturn, 1) := by decide +kernel
end
section
set_option maxRecDepth 20000 in
theorem wsL_law_i1 : GoodIn lw_tbl wsL_law0_r1 := goodIn_p wsL_law0_r1 [34, 37] (by decide +kernel) (by decide +kernel)
set_option maxRecDepth 20000 in
theorem wsL_law_i2 : GoodIn lw_tbl wsL_law0_r2 := goodIn_p wsL_law0_r2 [228, 277, 280, 285] (by decide +kernel) (by decide +kernel)
set_option maxRecDepth 20000 in
theorem wsL_law_i3 : GoodIn lw_tbl wsL_law0_r3 := goodIn_p wsL_law0_r3 [293, 104, 107, 243, 297] (by decide +kernel) (by decide +kernel)
set_option maxRecDepth 20000 in
theorem wsL_law_i4 : GoodIn lw_tbl wsL_law0_r4 := goodIn_p wsL_law0_r4 [301, 305, 309, 318, 322] (by decide +kernel) (by decide +kernel)
set_option maxRecDepth 20000 in
theorem wsL_law_i5 : GoodIn lw_tbl wsL_law0_r5 := goodIn_p wsL_law0_r5 [205, 342, 349, 353, 357] (by decide +kernel) (by decide +kernel)
set_option maxRecDepth 20000 in
theorem wsL_law_i6 : GoodIn lw_tbl wsL_law0_r6 := goodIn_p wsL_law0_r6 [365, 192, 369, 376] (by decide +kernel) (by decide +kernel)
set_option maxRecDepth 20000 in
theorem wsL_law_i7 : GoodIn lw_tbl wsL_law0_r7 := goodIn_p wsL_law0_r7 [101, 180, 184, 188, 197] (by decide +kernel) (by decide +kernel)
set_option maxRecDepth 20000 in
theorem wsL_law_i8 : GoodIn lw_tbl wsL_law0_r8 := goodIn_p wsL_law0_r8 [208, 201, 212, 216, 382, 386] (by decide +kernel) (by decide +kernel)
set_option maxRecDepth 20000 in
theorem wsL_law_i9 : GoodIn lw_tbl wsL_law0_r9 := goodIn_p wsL_law0_r9 [394, 397, 240, 418] (by decide +kernel) (by decide +kernel)
set_option maxRecDepth 20000 in
theorem wsL_law_i10 : GoodIn lw_tbl wsL_law0_r10 := goodIn_p wsL_law0_r10 [422, 425, 432, 439] (by decide +kernel) (by decide +kernel)
set_option maxRecDepth 20000 in
theorem wsL_law_i11 : GoodIn lw_tbl wsL_law0_r11 := goodIn_p wsL_law0_r11 [236, 274, 263, 267, 271, 442, 446] (by decide +kernel) (by decide +kernel)
set_option maxRecDepth 20000 in
theorem wsL_law_i12 : GoodIn lw_tbl wsL_law0_r12 := goodIn_p wsL_law0_r12 [220, 224] (by decide +kernel) (by decide +kernel)
set_option maxRecDepth 20000 in
theorem wsL_law_iX0 : GoodIn lw_tbl wsX00 := goodIn_p wsX00 [] (by decide +kernel) (by decide +kernel)
set_option maxRecDepth 20000 in
theorem wsL_law_x0 : ∀ w ∈ (vx_atS RX0 175 "java/lang/IllegalArgumentException" ["java/lang/RuntimeException", "java/lang/Exception"]).filter goodWord, w ∈ lw_tbl := by decide +kernel
set_option maxRecDepth 20000 in
theorem wsL_law_x1 : ∀ w ∈ (vx_atS RX0 180 "java/lang/IllegalStateException" ["java/lang/RuntimeException", "java/lang/Exception"]).filter goodWord, w ∈ lw_tbl := by decide +kernel
set_option maxRecDepth 20000 in
theorem wsL_law_x2 : ∀ w ∈ (vx_atS RX0 166 "java/lang/IndexOutOfBoundsException" ["java/lang/RuntimeException", "java/lang/Exception"]).filter goodWord, w ∈ lw_tbl := by decide +kernel
set_option maxRecDepth 20000 in
theorem wsL_law_x3 : ∀ w ∈ (gNSat).filter goodWord, w ∈ lw_tbl := by decide +kernel
theorem wsL_law_in0 : ∀ w ∈ wsL_law0, w ∈ lw_tbl := fun w h => ((goodIn_app (goodIn_app (goodIn_app wsL_law_i1 (goodIn_app wsL_law_i2 (goodIn_app wsL_law_i3 (goodIn_app wsL_law_i4 (goodIn_app wsL_law_i5 (goodIn_app wsL_law_i6 (goodIn_app wsL_law_i7 (goodIn_app wsL_law_i8 (goodIn_app wsL_law_i9 (goodIn_app wsL_law_i10 (goodIn_app wsL_law_i11 wsL_law_i12))))))))))) wsL_law_iX0) (fun _ h => absurd h List.not_mem_nil)) w h).1
theorem wsL_law_in : ∀ w ∈ wsL_law, w ∈ lw_tbl := fun w h => (List.mem_append.mp h).elim (fun h => (List.mem_append.mp h).elim (fun h => (List.mem_append.mp h).elim (fun h => (List.mem_append.mp h).elim (fun h => wsL_law_in0 w h) (fun h => wsL_law_x0 w h)) (fun h => wsL_law_x1 w h)) (fun h => wsL_law_x2 w h)) (fun h => wsL_law_x3 w h)
end
section
/-! ===== rows for the law: calls that make cells, the heap's growth counted ===== -/
def gTyL (cI cZ cL : ClassId) : List (ClassId × FieldType) := [(cI, .int), (cZ, .boolean), (cL, .long)]
abbrev gO (cL : ClassId) (o : Nat) (fL : Nat → Int64) : Nat × va_E := (o, .inl (cL, 40, .inr (.inl fL)))
def rK (lam k : Nat) : Room := { frames := lam, cells := k, slots := 6 * k, locals := 27 * lam }
/-- the heap Hb, k cells behind the start's at least; nothing old is touched -/
def hC (A0 : Nat → Prop) (s : State) (Hb : Heap) (k : Nat) : Prop := va_S A0 s.heap Hb [] ∧ gKT A0 s Hb ∧ s.heap.size + k ≤ Hb.size
theorem gKT.heap {A0 : Nat → Prop} {s : State} {Hb H : Heap} {locs : List Loc} (h : gKT A0 s Hb) (hS : va_S A0 Hb H locs) : gKT A0 s H := ⟨h.1.kept hS.2.1, h.2.1.kept hS.2.1, h.2.2⟩
theorem hC.next {A0 : Nat → Prop} {s : State} {Hb H1 : Heap} {locs1 : List Loc} {k j : Nat} (C : hC A0 s Hb k) (hS : va_S A0 Hb H1 locs1) (hz : Hb.size + j ≤ H1.size) : hC A0 s H1 (k + j) := ⟨⟨Nat.le_trans C.1.1 hS.1, fun q h1 h2 => (hS.2.1 q (Nat.lt_of_lt_of_le h1 C.1.1) h2).trans (C.1.2.1 q h1 h2), fun _ h => nomatch h⟩, C.2.1.heap hS, by have := C.2.2; omega⟩
theorem hC.mono {A0 : Nat → Prop} {s : State} {Hb : Heap} {k j : Nat} (C : hC A0 s Hb k) (h : j ≤ k) : hC A0 s Hb j := ⟨C.1, C.2.1, by have := C.2.2; omega⟩
/-- returns rv; k cells more in the heap at least, at most the room's -/
def gMN (l : Launch) (y : MethodName) (ws : List Cond) (rm : Room) (k : Nat) (D : va_G) (tys : List (ClassId × FieldType)) (W0 : va_W) (av : List Value) (rv : Int) (W1 : va_W) : Prop :=
  ∀ sz : Nat, Met l y ws rm (va_Pc av (fun U => gB0 D tys W0 sz U ∧ gKT (va_A W0 sz) U U.heap)) (va_Qi (fun (r : Int32) (_ : Unit) => r = iI rv) (fun _ t => sz + k ≤ t.heap.size ∧ gB1 D tys (va_A W0 sz) W1 t) (va_A W0 sz)) rm.cells rm.slots (va_A W0 sz)
theorem g_Pm {D : va_G} {cl : List vw_C} {w1 w2 : va_W} {H : Heap} (p : w1.Perm w2) (h : va_P D cl w1 H) : va_P D cl w2 H := fun k q hk => by
  obtain ⟨j, hj⟩ := List.getElem?_of_mem (p.mem_iff.mpr (List.mem_of_getElem? hk))
  exact h j q hj
theorem g_Dn {A : Nat → Prop} {w : va_W} : va_D A w ↔ (w.map (fun q => q.1)).Nodup ∧ ∀ q ∈ w, A q.1 := by
  constructor
  · intro h
    refine ⟨?_, fun q hq => ?_⟩
    · unfold List.Nodup
      rw [List.pairwise_iff_getElem]
      intro i j hi hj hij e
      have hi' : i < w.length := by simpa using hi
      have hj' : j < w.length := by simpa using hj
      have := h.1 i j w[i] w[j] (List.getElem?_eq_getElem hi') (List.getElem?_eq_getElem hj') (by simpa using e)
      omega
    · obtain ⟨j, hj⟩ := List.getElem?_of_mem hq
      exact h.2 j q hj
  · rintro ⟨h1, h2⟩
    unfold List.Nodup at h1
    rw [List.pairwise_iff_getElem] at h1
    refine ⟨fun i j p q hi hj e => ?_, fun k q hk => h2 q (List.mem_of_getElem? hk)⟩
    obtain ⟨li, ei⟩ := List.getElem?_eq_some_iff.mp hi
    obtain ⟨lj, ej⟩ := List.getElem?_eq_some_iff.mp hj
    have li' : i < (w.map (fun q => q.1)).length := by simpa using li
    have lj' : j < (w.map (fun q => q.1)).length := by simpa using lj
    have e2 : (w.map (fun q => q.1))[i] = (w.map (fun q => q.1))[j] := by
      rw [List.getElem_map, List.getElem_map, ei, ej]
      exact e
    rcases Nat.lt_trichotomy i j with h | h | h
    · exact absurd e2 (h1 i j li' lj' h)
    · exact h
    · exact absurd e2.symm (h1 j i lj' li' h)
theorem g_Dm {A : Nat → Prop} {w1 w2 : va_W} (p : w1.Perm w2) (h : va_D A w1) : va_D A w2 := by
  obtain ⟨h1, h2⟩ := g_Dn.mp h
  exact g_Dn.mpr ⟨(p.map _).nodup_iff.mp h1, fun q hq => h2 q (p.mem_iff.mpr hq)⟩
section GLW
variable {Hb : Heap} {p : Program} {l : Launch} {e : Env} {R : Room} {s : State} {m : MethodId} {args : Array Value} {below : List Frame} {meth : Method} {c : Code} {cells slots : Nat} {Q : State → Prop} {A0 : Nat → Prop} {D : va_G}
variable {own : String} {cc : ByteArray} {nL : Nat} {Ts : List Cond} {tys : List (ClassId × FieldType)} {ws : va_W} {lv : List (Option Value)} {pc : Nat} {st st0 : List Value}
theorem h_perm {ws' : va_W} (hp : ws'.Perm ws) (K : hJ Hb p l e R s m args below meth c cells slots Q A0 D ws' lv pc st) : hJ Hb p l e R s m args below meth c cells slots Q A0 D ws lv pc st := fun H locs ls hP hD hS hL => K H locs ls (g_Pm hp.symm hP) (g_Dm hp.symm hD) hS hL
theorem h_wid {k n : Nat} (h1 : cells ≤ k) (h2 : slots ≤ n) (K : hJ Hb p l e R s m args below meth c k n Q A0 D ws lv pc st) : hJ Hb p l e R s m args below meth c cells slots Q A0 D ws lv pc st := fun H locs ls hP hD hS hL => W.widen h1 h2 (K H locs ls hP hD hS hL)
theorem g_Pl {D : va_G} {cl : List vw_C} {w1 w2 : va_W} {H : Heap} (h : va_P D cl (w1 ++ w2) H) : va_P D cl w1 H := fun k q hk => h k q (by rw [List.getElem?_append_left (List.getElem?_eq_some_iff.mp hk).1]; exact hk)
theorem g_Dl {A : Nat → Prop} {w1 w2 : va_W} (h : va_D A (w1 ++ w2)) : va_D A w1 := by
  have key : ∀ (k : Nat) (q : Nat × va_E), w1[k]? = some q → (w1 ++ w2)[k]? = some q := fun k q hk => by rw [List.getElem?_append_left (List.getElem?_eq_some_iff.mp hk).1]; exact hk
  exact ⟨fun i j p q hi hj hpq => h.1 _ _ p q (key i p hi) (key j q hj) hpq, fun k q hk => h.2 _ q (key k q hk)⟩
theorem g_Dx {A : Nat → Prop} {w1 w2 : va_W} (h : va_D A (w1 ++ w2)) : ∀ (i j : Nat) (p q : Nat × va_E), w2[i]? = some p → w1[j]? = some q → p.1 ≠ q.1 := by
  intro i j p q hi hj hpq
  have h1 := (List.getElem?_eq_some_iff.mp hj).1
  have := h.1 (w1.length + i) j p q (by rw [List.getElem?_append_right (by omega)]; simpa using hi) (by rw [List.getElem?_append_left h1]; exact hj) hpq
  omega
theorem g_swap {a b : va_W} (K : hJ Hb p l e R s m args below meth c cells slots Q A0 D (b ++ a) lv pc st) : hJ Hb p l e R s m args below meth c cells slots Q A0 D (a ++ b) lv pc st := fun H locs ls hP hD hS hL => K H locs ls ((g_Pr hP).app (g_Pl hP)) ((g_Dr hD).app (g_Dl hD) (g_Dx hD)) hS hL
theorem g_callIW (E : hE Hb p s m args c own cc nL Ts D tys A0) {tysC : List (ClassId × FieldType)} (is : List Nat) (his : is.filterMap (fun i => tys[i]?) = tysC) {C : String} {y : MethodName} {bytes : ByteArray} {maxL index lam n q ci N : Nat} {T : u_T} {fs : List Value} {ret : Option FieldType} {wsY : List Cond} {wr wc wc' : va_W} {As : List Value} {rv : Int}
    (hM : gMI l y wsY lam D tysC wc (.ref q :: As) rv wc') (cw : CallW R s args own C index y bytes maxL ret wsY (gR lam) 0 0 n) (hn : As.length = n) (hlv : lv.length = nL) (hst : st0 = As.reverse ++ .ref q :: st) (hcat : (st.map fun v => v.category).sum ≤ 8) (he : wc[0]? = some (q, .inr (ci, fs))) (hc : vwCl[ci]? = some (C, T, N))
    (hdg : decode cc pc = .ok (.invokevirtual index, 3)) (hcs : cells ≤ R.cells ∧ slots ≤ R.slots) (K : hJ Hb p l e R s m args below meth c cells slots Q A0 D (wr ++ wc') lv (pc + 3) (.int (iI rv) :: st)) : hJ Hb p l e R s m args below meth c cells slots Q A0 D (wr ++ wc) lv pc st0 := by
  obtain ⟨⟨hx, hb, hml, hown, hts⟩, hK, hA⟩ := E
  intro H locs ls hP hD hS hL
  subst hst
  have hKc := hK.sub is his
  have hPc := g_Pr hP
  have hDc := g_Dr hD
  have hFc := va_free (wc := wc) hD hS hA _ (g_isC wr wc)
  refine va_calli (va_runV (As := As) (rest := st) ⟨hx, hb, hml, hown, hts⟩ (hM H.size) cw ⟨fun a U g mk q => by obtain ⟨q0, q1, qP, qK, qD⟩ := q; exact ⟨q0, q1, qP, va_K.moved (u := U) (U := U.calling g mk a) (Vm.Alike.refl U.vm) qK, qD⟩, va_recv hK hPc hc he, fun U hU hW => ⟨rfl, by rw [hU], by rw [hU]; exact hPc, va_K.moved hW.alike hKc, hDc.weaken (fun _ _ _ _ => trivial)⟩⟩ rfl hn (hL.1.trans hlv) rfl (lv_room hcat) hdg hcs) hS (fun q _ h => hFc q h) hFc (fun r u t H1 locs1 ht hvm hw hB hz1 hk1 hS1 => ?_)
  obtain ⟨hP1, hK1, hD1⟩ := hB
  rw [ht] at hP1
  obtain ⟨hP2, hD2⟩ := va_join hP hD _ _ (g_isC wr wc) (g_isR wr wc) (g_nd _ List.nodup_range) (g_dis _ _) hk1 hFc hP1 hD1
  rw [hw]
  exact K H1 locs1 ls hP2 hD2 hS1 hL
theorem g_callM (E : hE Hb p s m args c own cc nL Ts D tys A0) {tysC : List (ClassId × FieldType)} (is : List Nat) (his : is.filterMap (fun i => tys[i]?) = tysC) {C : String} {y : MethodName} {bytes : ByteArray} {maxL index lam n q ci N : Nat} {T : u_T} {fs : List Value} {ret : Option FieldType} {wsY : List Cond} {wr wc wc' : va_W} {As : List Value} {rv : Int}
    (hM : gMI l y wsY lam D tysC wc (.ref q :: As) rv wc') (cw : CallW R s args own C index y bytes maxL ret wsY (gR lam) 0 0 n) (hn : As.length = n) (hlv : lv.length = nL) (hst : st0 = As.reverse ++ .ref q :: st) (hcat : (st.map fun v => v.category).sum ≤ 8) (he : wc[0]? = some (q, .inr (ci, fs))) (hc : vwCl[ci]? = some (C, T, N))
    (hdg : decode cc pc = .ok (.invokevirtual index, 3)) (hcs : cells ≤ R.cells ∧ slots ≤ R.slots) (K : hJ Hb p l e R s m args below meth c cells slots Q A0 D (wc' ++ wr) lv (pc + 3) (.int (iI rv) :: st)) : hJ Hb p l e R s m args below meth c cells slots Q A0 D (wc ++ wr) lv pc st0 :=
  g_swap (g_callIW E is his hM cw hn hlv hst hcat he hc hdg hcs (g_swap K))
theorem g_callCW (E : hE Hb p s m args c own cc nL Ts D tys A0) {tysC : List (ClassId × FieldType)} (is : List Nat) (his : is.filterMap (fun i => tys[i]?) = tysC) {CN : String} {y : MethodName} {bytes : ByteArray} {maxL index lam n q ci N : Nat} {T : u_T} {fs : List Value} {ret : Option FieldType} {wsY : List Cond} {wr wc : va_W} {As : List Value} {EX : String} {hh : List (Nat × Nat × Nat × Nat)}
    (hM : gMT l y wsY lam D tysC wc (.ref q :: As) EX) {k0 : Nat} (C : hC A0 s Hb k0) (htab : c.exceptionTable.toList = tableOf hh) (pre : List ExceptionTableEntry) (x : ExceptionTableEntry) (suf : List ExceptionTableEntry) (hsplit : tableOf hh = pre ++ x :: suf)
    (hpass : ∀ z ∈ pre, z.catchType ≠ 0 ∧ ∃ nm : String, Cond.classLink own z.catchType nm ∈ Ts ∧ (EX, nm) ∈ gNcs) (hcov : covers x pc = true) (hct : x.catchType ≠ 0) (hlink : Cond.classLink own x.catchType EX ∈ Ts) (hEx : EX ∈ gEx)
    (cw : CallW R s args own CN index y bytes maxL ret wsY (gRx lam) 1 6 n) (hn : As.length = n) (hlv : lv.length = nL) (hst : st0 = As.reverse ++ .ref q :: st) (hcat : (st.map fun v => v.category).sum ≤ 8) (he : wc[0]? = some (q, .inr (ci, fs))) (hc : vwCl[ci]? = some (CN, T, N))
    (hdg : decode cc pc = .ok (.invokevirtual index, 3)) (hcs : cells + 1 ≤ R.cells ∧ slots + 6 ≤ R.slots) (K : ∀ (a : Nat) (Hb' : Heap), hC A0 s Hb' (k0 + 1) → hE Hb' p s m args c own cc nL Ts D tys A0 → hJ Hb' p l e R s m args below meth c (cells + 1) (slots + 6) Q A0 D (wr ++ wc) lv x.handlerPc [.ref a]) : hJ Hb p l e R s m args below meth c cells slots Q A0 D (wr ++ wc) lv pc st0 := by
  obtain ⟨⟨hx, hb, hml, hown, hts⟩, hK, hA⟩ := E
  intro H locs ls hP hD hS hL
  subst hst
  have hKc := hK.sub is his
  have hPc := g_Pr hP
  have hDc := g_Dr hD
  have hFc := va_free (wc := wc) hD hS hA _ (g_isC wr wc)
  refine vx_callv (vx_runV (As := As) (rest := st) ⟨hx, hb, hml, hown, hts⟩ (hM H.size) cw ⟨fun a U g mk q => by obtain ⟨q0, ⟨q1, qP, qK, qD⟩, qT⟩ := q; exact ⟨q0, ⟨q1, qP, va_K.moved (u := U) (U := U.calling g mk a) (Vm.Alike.refl U.vm) qK, qD⟩, qT⟩, va_recv hK hPc hc he, fun U hU hW => ⟨rfl, ⟨by rw [hU], by rw [hU]; exact hPc, va_K.moved hW.alike hKc, hDc.weaken (fun _ _ _ _ => trivial)⟩, gKT.call C.2.1 hS hFc hU hW⟩⟩ rfl hn (hL.1.trans hlv) rfl (lv_room hcat) hdg hcs) hS (fun q _ h => hFc q h) hFc (fun q _ h => hFc q h) (fun E9 ce q9 u t H1 locs1 ht hvm hp hB hz hk hS1 hce hcv hcl => ?_) (fun u t H1 locs1 ht hvm hw hB hz1 hk1 hS1 => hw.elim)
  obtain ⟨rfl, hz9, hP1, hK1, hD1⟩ := hB
  rw [ht] at hP1 hz9
  have hzz : Hb.size + 1 ≤ H1.size := by have := hS.1; omega
  obtain ⟨hP2, hD2⟩ := va_join hP hD _ _ (g_isC wr wc) (g_isR wr wc) (g_nd _ List.nodup_range) (g_dis _ _) hk hFc hP1 hD1
  exact vx_catch hown pre x suf (htab.trans hsplit) (fun z hz9 => Or.inr ⟨(hpass z hz9).1, by obtain ⟨nm, h1, h2⟩ := (hpass z hz9).2; exact ⟨nm, hts _ h1, C.2.1.2.2.2.2.1 _ h2⟩⟩) hcov hct (hts _ hlink) (va_Nw.use rfl (C.2.1.2.2.2.1 _ hEx)) hce hcv hcl (K q9 H1 (C.next hS1 hzz) ⟨⟨hx, hb, hml, hown, hts⟩, hK, fun q h => hA q (by omega)⟩ H1 locs1 ls hP2 hD2 ⟨Nat.le_refl _, fun _ _ _ => rfl, hS1.2.2⟩ hL)
theorem h_callN (E : hE Hb p s m args c own cc nL Ts D tys A0) {k0 k : Nat} (C : hC A0 s Hb k0) {y : MethodName} {bytes : ByteArray} {maxL index n : Nat} {rm : Room} {ret : Option FieldType} {wsY : List Cond} {wr wc wc' : va_W} {As : List Value} {rv : Int}
    (hM : gMN l y wsY rm k D tys wc As rv wc') (cw : CallB R s args own index y bytes maxL ret wsY rm rm.cells rm.slots n ∧ (Cond.static y).before args s = true) (hn : As.length = n) (hlv : lv.length = nL) (hst : st0 = As.reverse ++ st) (hcat : (st.map fun v => v.category).sum ≤ 8)
    (hdg : decode cc pc = .ok (.invokestatic index, 3)) (hcs : cells + rm.cells ≤ R.cells ∧ slots + rm.slots ≤ R.slots) (K : ∀ Hb' : Heap, hC A0 s Hb' (k0 + k) → hE Hb' p s m args c own cc nL Ts D tys A0 → hJ Hb' p l e R s m args below meth c (cells + rm.cells) (slots + rm.slots) Q A0 D (wr ++ wc') lv (pc + 3) (.int (iI rv) :: st)) : hJ Hb p l e R s m args below meth c cells slots Q A0 D (wr ++ wc) lv pc st0 := by
  obtain ⟨⟨hx, hb, hml, hown, hts⟩, hK, hA⟩ := E
  intro H locs ls hP hD hS hL
  subst hst
  have hPc := g_Pr hP
  have hDc := g_Dr hD
  have hFc := va_free (wc := wc) hD hS hA _ (g_isC wr wc)
  refine va_calli (va_runS (As := As) (rest := st) ⟨hx, hb, hml, hown, hts⟩ (hM H.size) cw ⟨fun a U g mk q => by obtain ⟨q0, ⟨q1, qP, qK, qD⟩, qT⟩ := q; exact ⟨q0, ⟨q1, qP, va_K.moved (u := U) (U := U.calling g mk a) (Vm.Alike.refl U.vm) qK, qD⟩, qT⟩, fun U hU hW => ⟨rfl, ⟨by rw [hU], by rw [hU]; exact hPc, va_K.moved hW.alike hK, hDc.weaken (fun _ _ _ _ => trivial)⟩, gKT.call C.2.1 hS hFc hU hW⟩⟩ rfl hn (hL.1.trans hlv) rfl (lv_room hcat) hdg hcs) hS (fun q _ h => hFc q h) hFc (fun r u t H1 locs1 ht hvm hw hB hz1 hk1 hS1 => ?_)
  obtain ⟨hz9, hP1, hK1, hD1⟩ := hB
  rw [ht] at hP1 hz9
  obtain ⟨hP2, hD2⟩ := va_join hP hD _ _ (g_isC wr wc) (g_isR wr wc) (g_nd _ List.nodup_range) (g_dis _ _) hk1 hFc hP1 hD1
  rw [hw]
  have hzz : Hb.size + k ≤ H1.size := by have := hS.1; omega
  exact K H1 (C.next hS1 hzz) ⟨⟨hx, hb, hml, hown, hts⟩, hK, fun q h => hA q (by omega)⟩ H1 locs1 ls hP2 hD2 ⟨Nat.le_refl _, fun _ _ _ => rfl, hS1.2.2⟩ hL
theorem h_callNW (E : hE Hb p s m args c own cc nL Ts D tys A0) {k0 k : Nat} (C : hC A0 s Hb k0) {y : MethodName} {bytes : ByteArray} {maxL index n : Nat} {rm : Room} {ret : Option FieldType} {hh : List (Nat × Nat × Nat × Nat)} {wsY : List Cond} {wr wc wc' : va_W} {As : List Value} {rv : Int}
    (hM : gMN l y wsY rm k D tys wc As rv wc') (cw : vx_CSW R s args own index y bytes maxL ret hh wsY rm rm.cells rm.slots n) (hn : As.length = n) (hlv : lv.length = nL) (hst : st0 = As.reverse ++ st) (hcat : (st.map fun v => v.category).sum ≤ 8)
    (hdg : decode cc pc = .ok (.invokestatic index, 3)) (hcs : cells + rm.cells ≤ R.cells ∧ slots + rm.slots ≤ R.slots) (K : ∀ Hb' : Heap, hC A0 s Hb' (k0 + k) → hE Hb' p s m args c own cc nL Ts D tys A0 → hJ Hb' p l e R s m args below meth c (cells + rm.cells) (slots + rm.slots) Q A0 D (wr ++ wc') lv (pc + 3) (.int (iI rv) :: st)) : hJ Hb p l e R s m args below meth c cells slots Q A0 D (wr ++ wc) lv pc st0 := by
  obtain ⟨⟨hx, hb, hml, hown, hts⟩, hK, hA⟩ := E
  intro H locs ls hP hD hS hL
  subst hst
  have hPc := g_Pr hP
  have hDc := g_Dr hD
  have hFc := va_free (wc := wc) hD hS hA _ (g_isC wr wc)
  refine va_calli (vx_runSW (As := As) (rest := st) ⟨hx, hb, hml, hown, hts⟩ (hM H.size) cw ⟨fun a U g mk q => by obtain ⟨q0, ⟨q1, qP, qK, qD⟩, qT⟩ := q; exact ⟨q0, ⟨q1, qP, va_K.moved (u := U) (U := U.calling g mk a) (Vm.Alike.refl U.vm) qK, qD⟩, qT⟩, fun U hU hW => ⟨rfl, ⟨by rw [hU], by rw [hU]; exact hPc, va_K.moved hW.alike hK, hDc.weaken (fun _ _ _ _ => trivial)⟩, gKT.call C.2.1 hS hFc hU hW⟩⟩ rfl hn (hL.1.trans hlv) rfl (lv_room hcat) hdg hcs) hS (fun q _ h => hFc q h) hFc (fun r u t H1 locs1 ht hvm hw hB hz1 hk1 hS1 => ?_)
  obtain ⟨hz9, hP1, hK1, hD1⟩ := hB
  rw [ht] at hP1 hz9
  obtain ⟨hP2, hD2⟩ := va_join hP hD _ _ (g_isC wr wc) (g_isR wr wc) (g_nd _ List.nodup_range) (g_dis _ _) hk1 hFc hP1 hD1
  rw [hw]
  have hzz : Hb.size + k ≤ H1.size := by have := hS.1; omega
  exact K H1 (C.next hS1 hzz) ⟨⟨hx, hb, hml, hown, hts⟩, hK, fun q h => hA q (by omega)⟩ H1 locs1 ls hP2 hD2 ⟨Nat.le_refl _, fun _ _ _ => rfl, hS1.2.2⟩ hL
theorem h_callSIW (E : hE Hb p s m args c own cc nL Ts D tys A0) {y : MethodName} {bytes : ByteArray} {maxL index lam n : Nat} {ret : Option FieldType} {wsY : List Cond} {wr wc wc' : va_W} {As : List Value} {rv : Int}
    (hM : gMI l y wsY lam D tys wc As rv wc') (cw : CallB R s args own index y bytes maxL ret wsY (gR lam) 0 0 n ∧ (Cond.static y).before args s = true) (hn : As.length = n) (hlv : lv.length = nL) (hst : st0 = As.reverse ++ st) (hcat : (st.map fun v => v.category).sum ≤ 8)
    (hdg : decode cc pc = .ok (.invokestatic index, 3)) (hcs : cells ≤ R.cells ∧ slots ≤ R.slots) (K : hJ Hb p l e R s m args below meth c cells slots Q A0 D (wr ++ wc') lv (pc + 3) (.int (iI rv) :: st)) : hJ Hb p l e R s m args below meth c cells slots Q A0 D (wr ++ wc) lv pc st0 := by
  obtain ⟨⟨hx, hb, hml, hown, hts⟩, hK, hA⟩ := E
  intro H locs ls hP hD hS hL
  subst hst
  have hPc := g_Pr hP
  have hDc := g_Dr hD
  have hFc := va_free (wc := wc) hD hS hA _ (g_isC wr wc)
  refine va_calli (va_runS (As := As) (rest := st) ⟨hx, hb, hml, hown, hts⟩ (hM H.size) cw ⟨fun a U g mk q => by obtain ⟨q0, q1, qP, qK, qD⟩ := q; exact ⟨q0, q1, qP, va_K.moved (u := U) (U := U.calling g mk a) (Vm.Alike.refl U.vm) qK, qD⟩, fun U hU hW => ⟨rfl, by rw [hU], by rw [hU]; exact hPc, va_K.moved hW.alike hK, hDc.weaken (fun _ _ _ _ => trivial)⟩⟩ rfl hn (hL.1.trans hlv) rfl (lv_room hcat) hdg hcs) hS (fun q _ h => hFc q h) hFc (fun r u t H1 locs1 ht hvm hw hB hz1 hk1 hS1 => ?_)
  obtain ⟨hP1, hK1, hD1⟩ := hB
  rw [ht] at hP1
  obtain ⟨hP2, hD2⟩ := va_join hP hD _ _ (g_isC wr wc) (g_isR wr wc) (g_nd _ List.nodup_range) (g_dis _ _) hk1 hFc hP1 hD1
  rw [hw]
  exact K H1 locs1 ls hP2 hD2 hS1 hL
theorem g_i2l (E : hE Hb p s m args c own cc nL Ts D tys A0) {x : Int32} (hdg : decode cc pc = .ok (.i2l, 1)) (K : hJ Hb p l e R s m args below meth c cells slots Q A0 D ws lv (pc + 1) (.long x.toInt64 :: st)) : hJ Hb p l e R s m args below meth c cells slots Q A0 D ws lv pc (.int x :: st) := by
  obtain ⟨⟨hx, hb, hml, hown, hts⟩, hK, hA⟩ := E
  intro H locs ls hP hD hS hL
  exact lv_i2l hx hb hdg rfl (K H locs ls hP hD hS hL)
theorem g_lconst (E : hE Hb p s m args c own cc nL Ts D tys A0) {n : Fin 2} {v : Int64} (hdg : decode cc pc = .ok (.lconst n, 1)) (hv : Int64.ofNat n = v) (K : hJ Hb p l e R s m args below meth c cells slots Q A0 D ws lv (pc + 1) (.long v :: st)) : hJ Hb p l e R s m args below meth c cells slots Q A0 D ws lv pc st := by
  obtain ⟨⟨hx, hb, hml, hown, hts⟩, hK, hA⟩ := E
  intro H locs ls hP hD hS hL
  exact lv_lconst hx hb hdg hv (K H locs ls hP hD hS hL)
theorem g_last0 {cI cZ cL : ClassId} (E : hE Hb p s m args c own cc nL Ts D (gTyL cI cZ cL) A0) {o : Nat} {wr : va_W} {x : Int} (hx0 : 0 ≤ x ∧ x < 40) (hdg : decode cc pc = .ok (.lastore, 1)) (K : hJ Hb p l e R s m args below meth c cells slots Q A0 D (gO cL o (fun _ => 0) :: wr) lv (pc + 1) st) : hJ Hb p l e R s m args below meth c cells slots Q A0 D (gO cL o (fun _ => 0) :: wr) lv pc (.long 0 :: .int (iI x) :: .ref o :: st) := by
  obtain ⟨⟨hx, hb, hml, hown, hts⟩, hK, hA⟩ := E
  intro H locs ls hP hD hS hL
  refine va_last (D := D) (cl := vwCl) hx hb hK hP hD hS 0 2 rfl rfl (iI_in (a := x) (n := 40) hx0.1 hx0.2 (by omega)) hdg (fun H1 locs1 hP1 hD1 hS1 => ?_)
  have e2 : ∀ i : Nat, vp_updL (fun _ => (0 : Int64)) i 0 = fun _ => 0 := fun i => by
    funext j
    unfold vp_updL
    split <;> rfl
  rw [e2] at hP1 hD1
  exact K H1 locs1 ls hP1 hD1 hS1 hL
theorem g_lald0 {cI cZ cL : ClassId} (E : hE Hb p s m args c own cc nL Ts D (gTyL cI cZ cL) A0) {o : Nat} {wr : va_W} {x : Int} (hx0 : 0 ≤ x ∧ x < 40) (hdg : decode cc pc = .ok (.laload, 1)) (K : hJ Hb p l e R s m args below meth c cells slots Q A0 D (gO cL o (fun _ => 0) :: wr) lv (pc + 1) (.long 0 :: st)) : hJ Hb p l e R s m args below meth c cells slots Q A0 D (gO cL o (fun _ => 0) :: wr) lv pc (.int (iI x) :: .ref o :: st) := by
  obtain ⟨⟨hx, hb, hml, hown, hts⟩, hK, hA⟩ := E
  intro H locs ls hP hD hS hL
  exact va_lald (D := D) (cl := vwCl) hx hb hK hP 0 2 rfl rfl (iI_in (a := x) (n := 40) hx0.1 hx0.2 (by omega)) hdg (K H locs ls hP hD hS hL)
theorem g_lsub0 (E : hE Hb p s m args c own cc nL Ts D tys A0) (hdg : decode cc pc = .ok (.lsub, 1)) (K : hJ Hb p l e R s m args below meth c cells slots Q A0 D ws lv (pc + 1) (.long 0 :: st)) : hJ Hb p l e R s m args below meth c cells slots Q A0 D ws lv pc (.long 0 :: .long 0 :: st) := by
  obtain ⟨⟨hx, hb, hml, hown, hts⟩, hK, hA⟩ := E
  intro H locs ls hP hD hS hL
  exact lv_lsub hx hb hdg (K H locs ls hP hD hS hL)
theorem lg_cmp_s (x : Int64) : lg_cmp x x = iI 0 := by
  simp [lg_cmp]
  rfl
theorem g_lcmp0 (E : hE Hb p s m args c own cc nL Ts D tys A0) {x y : Int64} (h : x = y) (hdg : decode cc pc = .ok (.lcmp, 1)) (K : hJ Hb p l e R s m args below meth c cells slots Q A0 D ws lv (pc + 1) (.int (iI 0) :: st)) : hJ Hb p l e R s m args below meth c cells slots Q A0 D ws lv pc (.long y :: .long x :: st) := by
  obtain ⟨⟨hx, hb, hml, hown, hts⟩, hK, hA⟩ := E
  intro H locs ls hP hD hS hL
  subst h
  refine W.lcmp hx hb hdg ?_
  rw [lg_cmp_s]
  exact K H locs ls hP hD hS hL
theorem g_irem (E : hE Hb p s m args c own cc nL Ts D tys A0) {a b : Int} (hdg : decode cc pc = .ok (.irem, 1)) (hr : 0 ≤ a ∧ a < 2147483648 ∧ 0 < b ∧ b < 2147483648) (K : hJ Hb p l e R s m args below meth c cells slots Q A0 D ws lv (pc + 1) (.int (iI (a % b)) :: st)) : hJ Hb p l e R s m args below meth c cells slots Q A0 D ws lv pc (.int (iI b) :: .int (iI a) :: st) := by
  obtain ⟨⟨hx, hb, hml, hown, hts⟩, hK, hA⟩ := E
  intro H locs ls hP hD hS hL
  refine lv_irem hx hb hdg (by rw [iI_0, iI_eq ⟨by omega, by omega⟩ ⟨by omega, by omega⟩]; omega) ?_
  have h1 : iI a = nI a.toNat := by rw [show nI a.toNat = Int32.ofNat a.toNat from rfl, ← iI_nat]; rw [Int.toNat_of_nonneg hr.1]
  have h2 : iI b = nI b.toNat := by rw [show nI b.toNat = Int32.ofNat b.toNat from rfl, ← iI_nat]; rw [Int.toNat_of_nonneg (by omega)]
  have h3 : iI a - iI a / iI b * iI b = iI (a % b) := by
    rw [h1, h2, pk_rem (by omega) (by omega) (by omega), show nI (a.toNat % b.toNat) = Int32.ofNat (a.toNat % b.toNat) from rfl, ← iI_nat]
    congr 1
    rw [Int.natCast_emod, Int.toNat_of_nonneg hr.1, Int.toNat_of_nonneg (by omega)]
  rw [h3]
  exact K H locs ls hP hD hS hL
theorem g_ishrZ (E : hE Hb p s m args c own cc nL Ts D tys A0) {a b v : Int} (hdg : decode cc pc = .ok (.ishr, 1)) (hv : iI a >>> (iI b &&& 31) = iI v) (K : hJ Hb p l e R s m args below meth c cells slots Q A0 D ws lv (pc + 1) (.int (iI v) :: st)) : hJ Hb p l e R s m args below meth c cells slots Q A0 D ws lv pc (.int (iI b) :: .int (iI a) :: st) := by
  obtain ⟨⟨hx, hb, hml, hown, hts⟩, hK, hA⟩ := E
  intro H locs ls hP hD hS hL
  refine lv_ishr hx hb hdg ?_
  rw [hv]
  exact K H locs ls hP hD hS hL
theorem g_tab (E : hE Hb p s m args c own cc nL Ts D tys A0) {dflt lo hi : Int} {offs : Array Int} {len : Nat} {x off : Int} {tgt : Nat} (hdg : decode cc pc = .ok (.tableswitch dflt lo hi offs, len)) (h1 : ¬ (iI x).toInt < lo) (h2 : ¬ hi < (iI x).toInt) (ho : offs[((iI x).toInt - lo).toNat]? = some off) (ht : (pc : Int) + off = (tgt : Int)) (K : hJ Hb p l e R s m args below meth c cells slots Q A0 D ws lv tgt st) : hJ Hb p l e R s m args below meth c cells slots Q A0 D ws lv pc (.int (iI x) :: st) := by
  obtain ⟨⟨hx, hb, hml, hown, hts⟩, hK, hA⟩ := E
  intro H locs ls hP hD hS hL
  exact lv_tableIn hx hb hdg h1 h2 ho ht (K H locs ls hP hD hS hL)
theorem g_ald0 {cI cZ cL : ClassId} (E : hE Hb p s m args c own cc nL Ts D (gTyL cI cZ cL) A0) {b n i : Nat} {f : Nat → Int32} {x : Int} {wr : va_W} (hx0 : x = (i : Int)) (hi : i < n ∧ n ≤ 2147483648) (hdg : decode cc pc = .ok (.iaload, 1)) (K : hJ Hb p l e R s m args below meth c cells slots Q A0 D ((b, .inl (cI, n, .inl f)) :: wr) lv (pc + 1) (.int (f i) :: st)) : hJ Hb p l e R s m args below meth c cells slots Q A0 D ((b, .inl (cI, n, .inl f)) :: wr) lv pc (.int (iI x) :: .ref b :: st) := by
  subst hx0
  obtain ⟨⟨hx, hb, hml, hown, hts⟩, hK, hA⟩ := E
  intro H locs ls hP hD hS hL
  have hcl : (iI (i : Int)).toNatClampNeg = i := by rw [iI_cl (by omega) (by omega), Int.toNat_natCast]
  refine va_iald (D := D) (cl := vwCl) hx hb hK hP 0 0 rfl rfl (iI_in (a := (i : Int)) (n := n) (by omega) (by omega) hi.2) hdg ?_
  rw [hcl]
  exact K H locs ls hP hD hS hL
theorem g_alen0 {cI cZ cL : ClassId} (E : hE Hb p s m args c own cc nL Ts D (gTyL cI cZ cL) A0) {b n : Nat} {f : Nat → Int32} {wr : va_W} (hdg : decode cc pc = .ok (.arraylength, 1)) (K : hJ Hb p l e R s m args below meth c cells slots Q A0 D ((b, .inl (cI, n, .inl f)) :: wr) lv (pc + 1) (.int (iI (n : Int)) :: st)) : hJ Hb p l e R s m args below meth c cells slots Q A0 D ((b, .inl (cI, n, .inl f)) :: wr) lv pc (.ref b :: st) := by
  obtain ⟨⟨hx, hb, hml, hown, hts⟩, hK, hA⟩ := E
  intro H locs ls hP hD hS hL
  exact va_alen (D := D) (cl := vwCl) hx hb hK hP 0 0 rfl rfl (v := iI (n : Int)) (iI_nat n).symm hdg (K H locs ls hP hD hS hL)
theorem g_newO (E : hE Hb p s m args c own cc nL Ts D tys A0) {C : String} {T : u_T} {N ci index : Nat} (hin : ∀ w ∈ u_ws C T N, w ∈ Ts) (ty : Nat → FieldType) (hty : ∀ k, k < N → parseFieldDescriptor (T k).2.2.1 = some (ty k)) (h1 : Cond.classLink own index C ∈ Ts) (h2 : Cond.instantiable C N ∈ Ts) (h3 : Cond.initialized C ∈ Ts) (hc : vwCl[ci]? = some (C, T, N)) {fs : List Value} (hfs : ∀ j, j < N → defaultValue (ty j) = vp_V fs j) (hcs : cells + 1 ≤ R.cells ∧ slots + N ≤ R.slots) (hdg : decode cc pc = .ok (.new index, 3))
    (K : ∀ q : Nat, hJ Hb p l e R s m args below meth c (cells + 1) (slots + N) Q A0 D (ws ++ [(q, .inr (ci, fs))]) lv (pc + 3) (.ref q :: st)) : hJ Hb p l e R s m args below meth c cells slots Q A0 D ws lv pc st := by
  obtain ⟨⟨hx, hb, hml, hown, hts⟩, hK, hA⟩ := E
  intro H locs ls hP hD hS hL
  exact va_new hx hb hts hin ty hty hown (hts _ h1) (hts _ h2) (hts _ h3) hK hP hD hS hA hc hfs hcs.1 hcs.2 hdg (fun q H1 hP1 hD1 hS1 => K q H1 locs ls hP1 hD1 hS1 hL)
theorem g_newL {cI cZ cL : ClassId} (E : hE Hb p s m args c own cc nL Ts D (gTyL cI cZ cL) A0) (harr : Cond.arrayClass .long ∈ Ts) (hdg : decode cc pc = .ok (.newarray .long, 2)) (hcs : cells + 1 ≤ R.cells ∧ slots + 40 ≤ R.slots)
    (K : ∀ a : Nat, hJ Hb p l e R s m args below meth c (cells + 1) (slots + 40) Q A0 D (ws ++ [gO cL a (fun _ => 0)]) lv (pc + 2) (.ref a :: st)) : hJ Hb p l e R s m args below meth c cells slots Q A0 D ws lv pc (.int (iI 40) :: st) := by
  obtain ⟨⟨hx, hb, hml, hown, hts⟩, hK, hA⟩ := E
  intro H locs ls hP hD hS hL
  have h0 : ¬ iI (40 : Int) < 0 := by rw [iI_0, iI_lt ⟨by omega, by omega⟩ ⟨by omega, by omega⟩]; omega
  refine va_newa (D := D) (cl := vwCl) (atype := .long) (a0 := (40, .inr (.inl (fun _ => 0)))) hx hb (hts _ harr) rfl hK hP hD hS hA (fun _ => rfl) h0 (N' := 40) (by rw [iI_cl (by omega) (by omega)]; rfl) (by decide) hcs.1 hcs.2 hdg (fun a cA H1 hK1 hP1 hD1 hS1 => ?_)
  have e1 : s.vm.findClass ("[" ++ FieldType.long.toString) = some cA := (hK1.2 3 _ rfl).2
  have e2 : s.vm.findClass ("[" ++ FieldType.long.toString) = some cL := (hK.2 2 _ rfl).2
  cases Option.some.inj (e1.symm.trans e2)
  exact K a H1 locs ls hP1 hD1 hS1 hL
theorem g_callK (E : hE Hb p s m args c own cc nL Ts D tys A0) {tysC : List (ClassId × FieldType)} (is : List Nat) (his : is.filterMap (fun i => tys[i]?) = tysC) {y : MethodName} {bytes : ByteArray} {maxL index q ci : Nat} {rm : Room} {fs : List Value} {wsY : List Cond} {wr : va_W} {W1 : (Nat → Nat) → va_W}
    (hM : gMK l y wsY rm D tysC q ci fs W1) (cw : CallB R s args own index y bytes maxL none wsY rm rm.cells rm.slots 0 ∧ y.name = "<init>" ∧ (Cond.instanceMethod y).before args s = true) (hlv : lv.length = nL) (hcat : (st.map fun v => v.category).sum ≤ 8)
    (hdg : decode cc pc = .ok (.invokespecial index, 3)) (hcs : cells + rm.cells ≤ R.cells ∧ slots + rm.slots ≤ R.slots) (K : ∀ r : Nat → Nat, hJ Hb p l e R s m args below meth c (cells + rm.cells) (slots + rm.slots) Q A0 D (wr ++ W1 r) lv (pc + 3) st) : hJ Hb p l e R s m args below meth c cells slots Q A0 D (wr ++ [(q, .inr (ci, fs))]) lv pc (.ref q :: st) := by
  obtain ⟨⟨hx, hb, hml, hown, hts⟩, hK, hA⟩ := E
  intro H locs ls hP hD hS hL
  have hKc := hK.sub is his
  have hPc := g_Pr hP
  have hDc := g_Dr hD
  have hFc := va_free (wc := [(q, .inr (ci, fs))]) hD hS hA _ (g_isC wr [(q, .inr (ci, fs))])
  refine va_callv (va_runI (As := []) (rest := st) ⟨hx, hb, hml, hown, hts⟩ (hM H.size) cw ⟨fun a U g mk q => by obtain ⟨q0, q1, qP, qK, qD⟩ := q; exact ⟨q0, q1, qP, va_K.moved (u := U) (U := U.calling g mk a) (Vm.Alike.refl U.vm) qK, qD⟩, fun U hU hW => ⟨rfl, by rw [hU], by rw [hU]; exact hPc, va_K.moved hW.alike hKc, hDc.weaken (fun _ _ _ _ => trivial)⟩⟩ rfl rfl (hL.1.trans hlv) rfl (lv_room hcat) hdg hcs) hS (fun q _ h => hFc q h) hFc (fun r t H1 locs1 ht hvm hw hB hz1 hk1 hS1 => ?_)
  obtain ⟨hP1, hK1, hD1⟩ := hB
  rw [ht] at hP1
  obtain ⟨hP2, hD2⟩ := va_join hP hD _ _ (g_isC wr [(q, .inr (ci, fs))]) (g_isR wr [(q, .inr (ci, fs))]) (g_nd _ List.nodup_range) (g_dis _ _) hk1 hFc hP1 hD1
  exact K r H1 locs1 ls hP2 hD2 hS1 hL
end GLW
theorem g_arr {t : FieldType} {args : Array Value} {s : State} (h : (Cond.arrayClass t).before args s = true) : ∃ cA : ClassId, ArrOfT s cA t ∧ s.vm.findClass ("[" ++ t.toString) = some cA := by
  obtain ⟨cA, kA, comp, h1, h2, h3⟩ := Cond.arrayClass_spec h
  exact ⟨cA, fun n z => ⟨fun k h => (by cases h), kA, h2, comp, h3⟩, h1⟩
theorem gS_str1 : ∀ x ∈ gStr, Cond.stringRef RX0 x.1 x.2 ∈ lw_tbl := by decide +kernel
theorem gS_str2 : ∀ x ∈ gStr, Cond.exactly (.string RX0 x.1) "java/lang/String" ∈ flatC (Jvm.Cond.and given_1 narrow_1) := by decide +kernel
theorem gS_ex : ∀ x ∈ gEx, Cond.castable x x ∈ lw_tbl := by decide +kernel
theorem gS_nc : ∀ x ∈ gNcs, Cond.not (.castable x.1 x.2) ∈ flatC (Jvm.Cond.and given_1 narrow_1) := by decide +kernel
theorem gS_de : ∀ x ∈ gDe, Cond.declares x ∈ lw_tbl := by decide +kernel
theorem gKT_start {args : Array Value} {s : State} (hts : ∀ w ∈ lw_tbl, w.before args s = true) (hgv : (Jvm.Cond.and given_1 narrow_1).before args s = true) : gKT (fun q => s.heap.size ≤ q) s s.heap := by
  have hq := flat_of_before _ hgv
  have hA : ∀ a : Nat, a < s.heap.size → ¬ (s.heap.size ≤ a) := fun a h => Nat.not_le.mpr h
  refine ⟨vx_Zqof (hts _ (by decide +kernel)) (hts _ (by decide +kernel)) (hq _ (by decide +kernel)) hA, vx_Zqof (hts _ (by decide +kernel)) (hts _ (by decide +kernel)) (hq _ (by decide +kernel)) hA, fun x hx => ?_, fun x hx => ?_, fun x hx => ?_, fun x hx => ?_⟩
  · obtain ⟨a, cA, lc, kA, ha, -⟩ := Cond.exactly_spec (hq _ (gS_str2 x hx))
    exact ⟨a, vk_R.of (hts _ (gS_str1 x hx)) ha⟩
  · exact va_Nw.of rfl (hts _ (gS_ex x hx))
  · exact va_Nc.of (hq _ (gS_nc x hx))
  · exact va_Nw.of rfl (hts _ (gS_de x hx))
theorem g_ofNW {l : Launch} {rm : Room} {k : Nat} {y : MethodName} {ws ws' : List Cond} {D : va_G} {tys : List (ClassId × FieldType)} {W0 W1 : va_W} {av : List Value} {rv : Int} {own : String} {cc : ByteArray} {maxL : Nat} {hh : List (Nat × Nat × Nat × Nat)}
    (hy : plainName y.cls = true) (hcls : y.cls = own) (hw : ws = Cond.codeWith y cc maxL (some .int) hh :: ws') (hlen : av.length ≤ maxL) (hcat : ∀ v ∈ av, v.category = 1)
    (body : ∀ (p : Program) (e : Env) (s : State) (m : MethodId) (args : Array Value) (below : List Frame) (meth : Method) (c : Code) (Q : State → Prop) (A0 : Nat → Prop), gE p s m args c own cc maxL ws D tys A0 → hC A0 s s.heap 0 → c.exceptionTable.toList = tableOf hh → (∀ (Hb : Heap) (lv : List (Option Value)) (pc : Nat), hC A0 s Hb k → decode cc pc = .ok (.ireturn, 1) → hJ Hb p l e rm s m args below meth c rm.cells rm.slots Q A0 D W1 lv pc [.int (iI rv)]) →
      gJ p l e rm s m args below meth c 0 0 Q A0 D W0 (av.map some ++ List.replicate (maxL - av.length) none) 0 []) : gMN l y ws rm k D tys W0 av rv W1 := by
  intro sz
  refine va_MetW (cc := cc) (maxL := maxL) (ret := some .int) (hh := hh) hy hw ?_
  intro p e s m args below meth c s₁ B hml hv
  obtain ⟨rfl, ⟨hsz, hP, hK, hD0⟩, hT⟩ := hv
  have hts := atoms_spec (ws := ws) B.pre
  have htab := vx_table (x := y) B (hts (Cond.codeWith y cc maxL (some .int) hh) (by rw [hw]; exact List.mem_cons_self))
  have hown : s.vm.findClass own = some m.cls := by rw [← hcls]; exact findClass_of_methodNamed B.named
  subst hsz
  have hD := hD0.self (sz := s.heap.size)
  have hl := lv_entry av (n := maxL) (by rw [g_slen hcat]; exact hlen)
  rw [lg_entry_eq]
  refine body p e s m _ below meth c _ (va_A W0 s.heap.size) ⟨⟨B.exec, B.bytes, hml, hown, hts⟩, hK, fun q h => Or.inr h⟩ ⟨va_S.rf, hT, Nat.le_refl _⟩ htab ?_ s.heap [] _ hP hD va_S.rf (gL_entry hlen hcat hl)
  intro Hb lv pc C hdg H locs ls hP9 hD9 hS9 hL9
  refine W.iret (v := iI rv) B.exec B.bytes B.returns (fun t ht hW => ⟨⟨iI rv, (), rfl, rfl, by rw [ht]; have := C.2.2; have := hS9.1; omega, by rw [ht]; exact hP9, va_K.moved hW.alike hK, hD9⟩, by rw [ht]; exact Nat.le_trans C.1.1 hS9.1, fun q h1 h2 => ?_⟩) hS9.2.2 hdg
  rw [ht]
  exact (hS9.2.1 q (Nat.lt_of_lt_of_le h1 C.1.1) h2).trans (C.1.2.1 q h1 h2)
theorem g_ofN {l : Launch} {rm : Room} {k : Nat} {y : MethodName} {ws ws' : List Cond} {D : va_G} {tys : List (ClassId × FieldType)} {W0 W1 : va_W} {av : List Value} {rv : Int} {own : String} {cc : ByteArray} {maxL : Nat} {ty : FieldType}
    (hy : plainName y.cls = true) (hcls : y.cls = own) (hw : ws = Cond.code y cc maxL (some ty) :: ws') (hlen : av.length ≤ maxL) (hcat : ∀ v ∈ av, v.category = 1) (hnar : narrow ty (.int (iI rv)) = .int (iI rv))
    (body : ∀ (p : Program) (e : Env) (s : State) (m : MethodId) (args : Array Value) (below : List Frame) (meth : Method) (c : Code) (Q : State → Prop) (A0 : Nat → Prop), gE p s m args c own cc maxL ws D tys A0 → hC A0 s s.heap 0 → (∀ (Hb : Heap) (lv : List (Option Value)) (pc : Nat), hC A0 s Hb k → decode cc pc = .ok (.ireturn, 1) → hJ Hb p l e rm s m args below meth c rm.cells rm.slots Q A0 D W1 lv pc [.int (iI rv)]) →
      gJ p l e rm s m args below meth c 0 0 Q A0 D W0 (av.map some ++ List.replicate (maxL - av.length) none) 0 []) : gMN l y ws rm k D tys W0 av rv W1 := by
  intro sz
  refine Met.ofW (cc := cc) (maxL := maxL) (ret := some ty) hy hw ?_
  intro p e s m args below meth c s₁ B hml hv
  obtain ⟨rfl, ⟨hsz, hP, hK, hD0⟩, hT⟩ := hv
  have hts := atoms_spec (ws := ws) B.pre
  have hown : s.vm.findClass own = some m.cls := by rw [← hcls]; exact findClass_of_methodNamed B.named
  subst hsz
  have hD := hD0.self (sz := s.heap.size)
  have hl := lv_entry av (n := maxL) (by rw [g_slen hcat]; exact hlen)
  rw [lg_entry_eq]
  refine body p e s m _ below meth c _ (va_A W0 s.heap.size) ⟨⟨B.exec, B.bytes, hml, hown, hts⟩, hK, fun q h => Or.inr h⟩ ⟨va_S.rf, hT, Nat.le_refl _⟩ ?_ s.heap [] _ hP hD va_S.rf (gL_entry hlen hcat hl)
  intro Hb lv pc C hdg H locs ls hP9 hD9 hS9 hL9
  refine W.zret (v := iI rv) B.exec B.bytes B.returns hnar (fun t ht hW => ⟨⟨iI rv, (), rfl, rfl, by rw [ht]; have := C.2.2; have := hS9.1; omega, by rw [ht]; exact hP9, va_K.moved hW.alike hK, hD9⟩, by rw [ht]; exact Nat.le_trans C.1.1 hS9.1, fun q h1 h2 => ?_⟩) hS9.2.2 hdg
  rw [ht]
  exact (hS9.2.1 q (Nat.lt_of_lt_of_le h1 C.1.1) h2).trans (C.1.2.1 q h1 h2)
end
section
set_option maxRecDepth 100000 in
theorem cl_addPlace_14 : Cond.classLink RL 14 gIA ∈ wsL_addPlace := by decide +kernel
set_option maxRecDepth 100000 in
theorem hdL_X0_addPlace : yX0_addPlace.cls = RX0 ∧ yX0_addPlace.cls ≠ "java/lang/invoke/MethodHandle" ∧ yX0_addPlace.cls ≠ "java/lang/invoke/VarHandle" ∧ (parseMethodDescriptor yX0_addPlace.desc).map (fun d => d.parameters.length) = some 1 := by decide +kernel
set_option maxRecDepth 100000 in
theorem kc_addPlace_16 : Cond.constant RL 16 (iI (-99999)) ∈ wsL_addPlace := by decide +kernel
set_option maxRecDepth 100000 in
theorem cl_latest_42 : Cond.classLink RL 42 gNS ∈ wsL_latest := by decide +kernel
set_option maxRecDepth 100000 in
theorem hdL_X0_latest : yX0_latest.cls = RX0 ∧ yX0_latest.cls ≠ "java/lang/invoke/MethodHandle" ∧ yX0_latest.cls ≠ "java/lang/invoke/VarHandle" ∧ (parseMethodDescriptor yX0_latest.desc).map (fun d => d.parameters.length) = some 0 := by decide +kernel
set_option maxRecDepth 100000 in
theorem cl_door_23 : Cond.classLink RL 23 gIX ∈ wsL_door := by decide +kernel
set_option maxRecDepth 100000 in
theorem cl_door_42 : Cond.classLink RL 42 gNS ∈ wsL_door := by decide +kernel
set_option maxRecDepth 100000 in
theorem hdL_X0_door : yX0_door.cls = RX0 ∧ yX0_door.cls ≠ "java/lang/invoke/MethodHandle" ∧ yX0_door.cls ≠ "java/lang/invoke/VarHandle" ∧ (parseMethodDescriptor yX0_door.desc).map (fun d => d.parameters.length) = some 1 := by decide +kernel
set_option maxRecDepth 100000 in
theorem hdL_X0_distance : yX0_distance.cls = RX0 ∧ yX0_distance.cls ≠ "java/lang/invoke/MethodHandle" ∧ yX0_distance.cls ≠ "java/lang/invoke/VarHandle" ∧ (parseMethodDescriptor yX0_distance.desc).map (fun d => d.parameters.length) = some 1 := by decide +kernel
set_option maxRecDepth 100000 in
theorem hdL_X0_bound : yX0_bound.cls = RX0 ∧ yX0_bound.cls ≠ "java/lang/invoke/MethodHandle" ∧ yX0_bound.cls ≠ "java/lang/invoke/VarHandle" ∧ (parseMethodDescriptor yX0_bound.desc).map (fun d => d.parameters.length) = some 0 := by decide +kernel
set_option maxRecDepth 100000 in
theorem kc_low_7 : Cond.constant RL 7 (iI 2147483647) ∈ wsL_low := by decide +kernel
set_option maxRecDepth 100000 in
theorem hdS_low : yL_low.cls ≠ "java/lang/invoke/MethodHandle" ∧ yL_low.cls ≠ "java/lang/invoke/VarHandle" ∧ (parseMethodDescriptor yL_low.desc).map (fun d => d.parameters.length) = some 2 := by decide +kernel
set_option maxRecDepth 100000 in
theorem hdL_X0_places : yX0_places.cls = RX0 ∧ yX0_places.cls ≠ "java/lang/invoke/MethodHandle" ∧ yX0_places.cls ≠ "java/lang/invoke/VarHandle" ∧ (parseMethodDescriptor yX0_places.desc).map (fun d => d.parameters.length) = some 0 := by decide +kernel
set_option maxRecDepth 100000 in
theorem hdS_addPlace : yL_addPlace.cls ≠ "java/lang/invoke/MethodHandle" ∧ yL_addPlace.cls ≠ "java/lang/invoke/VarHandle" ∧ (parseMethodDescriptor yL_addPlace.desc).map (fun d => d.parameters.length) = some 2 := by decide +kernel
set_option maxRecDepth 100000 in
theorem hdL_X0_doors : yX0_doors.cls = RX0 ∧ yX0_doors.cls ≠ "java/lang/invoke/MethodHandle" ∧ yX0_doors.cls ≠ "java/lang/invoke/VarHandle" ∧ (parseMethodDescriptor yX0_doors.desc).map (fun d => d.parameters.length) = some 0 := by decide +kernel
set_option maxRecDepth 100000 in
theorem hdL_X0_now : yX0_now.cls = RX0 ∧ yX0_now.cls ≠ "java/lang/invoke/MethodHandle" ∧ yX0_now.cls ≠ "java/lang/invoke/VarHandle" ∧ (parseMethodDescriptor yX0_now.desc).map (fun d => d.parameters.length) = some 0 := by decide +kernel
set_option maxRecDepth 100000 in
theorem hdL_X0_inside : yX0_inside.cls = RX0 ∧ yX0_inside.cls ≠ "java/lang/invoke/MethodHandle" ∧ yX0_inside.cls ≠ "java/lang/invoke/VarHandle" ∧ (parseMethodDescriptor yX0_inside.desc).map (fun d => d.parameters.length) = some 0 := by decide +kernel
set_option maxRecDepth 100000 in
theorem hdL_X0_waited : yX0_waited.cls = RX0 ∧ yX0_waited.cls ≠ "java/lang/invoke/MethodHandle" ∧ yX0_waited.cls ≠ "java/lang/invoke/VarHandle" ∧ (parseMethodDescriptor yX0_waited.desc).map (fun d => d.parameters.length) = some 0 := by decide +kernel
set_option maxRecDepth 100000 in
theorem hdL_X0_trapped : yX0_trapped.cls = RX0 ∧ yX0_trapped.cls ≠ "java/lang/invoke/MethodHandle" ∧ yX0_trapped.cls ≠ "java/lang/invoke/VarHandle" ∧ (parseMethodDescriptor yX0_trapped.desc).map (fun d => d.parameters.length) = some 0 := by decide +kernel
set_option maxRecDepth 100000 in
theorem hdL_X0_people : yX0_people.cls = RX0 ∧ yX0_people.cls ≠ "java/lang/invoke/MethodHandle" ∧ yX0_people.cls ≠ "java/lang/invoke/VarHandle" ∧ (parseMethodDescriptor yX0_people.desc).map (fun d => d.parameters.length) = some 1 := by decide +kernel
set_option maxRecDepth 100000 in
theorem hdL_X0_wouldMove : yX0_wouldMove.cls = RX0 ∧ yX0_wouldMove.cls ≠ "java/lang/invoke/MethodHandle" ∧ yX0_wouldMove.cls ≠ "java/lang/invoke/VarHandle" ∧ (parseMethodDescriptor yX0_wouldMove.desc).map (fun d => d.parameters.length) = some 1 := by decide +kernel
set_option maxRecDepth 100000 in
theorem hdS_latest : yL_latest.cls ≠ "java/lang/invoke/MethodHandle" ∧ yL_latest.cls ≠ "java/lang/invoke/VarHandle" ∧ (parseMethodDescriptor yL_latest.desc).map (fun d => d.parameters.length) = some 1 := by decide +kernel
set_option maxRecDepth 100000 in
theorem hdS_distance : yL_distance.cls ≠ "java/lang/invoke/MethodHandle" ∧ yL_distance.cls ≠ "java/lang/invoke/VarHandle" ∧ (parseMethodDescriptor yL_distance.desc).map (fun d => d.parameters.length) = some 2 := by decide +kernel
set_option maxRecDepth 100000 in
theorem hdS_door : yL_door.cls ≠ "java/lang/invoke/MethodHandle" ∧ yL_door.cls ≠ "java/lang/invoke/VarHandle" ∧ (parseMethodDescriptor yL_door.desc).map (fun d => d.parameters.length) = some 2 := by decide +kernel
set_option maxRecDepth 100000 in
theorem hdS_bound : yL_bound.cls ≠ "java/lang/invoke/MethodHandle" ∧ yL_bound.cls ≠ "java/lang/invoke/VarHandle" ∧ (parseMethodDescriptor yL_bound.desc).map (fun d => d.parameters.length) = some 1 := by decide +kernel
set_option maxRecDepth 100000 in
theorem hdL_X0_step : yX0_step.cls = RX0 ∧ yX0_step.cls ≠ "java/lang/invoke/MethodHandle" ∧ yX0_step.cls ≠ "java/lang/invoke/VarHandle" ∧ (parseMethodDescriptor yX0_step.desc).map (fun d => d.parameters.length) = some 1 := by decide +kernel
/-! ===== a fresh bench: the outside alone, nobody, no door, time t ===== -/
abbrev zX (cI cZ : ClassId) (q : Nat) (r : Nat → Nat) (t : Int) : va_W := gX cI cZ q r [((1 : Nat) : Int), ((0 : Nat) : Int), t, -1, 0] [fun _ => 0, fun _ => 0, fun _ => 0, fun _ => 0, gu (fun _ => 0) 0 (-1), fun _ => 0, fun _ => 0, fun _ => 0, fun _ => 0, fun _ => 0, fun _ => 0, fun _ => 0, fun _ => 0, fun _ => 0]
theorem zB0 : ∀ j : Nat, -2147483648 ≤ (fun _ : Nat => (0 : Int)) j ∧ (fun _ : Nat => (0 : Int)) j < 2147483648 := fun j => by show -2147483648 ≤ (0 : Int) ∧ (0 : Int) < 2147483648; omega
theorem zB4 : ∀ j : Nat, -2147483648 ≤ (gu (fun _ => 0) 0 (-1)) j ∧ (gu (fun _ => 0) 0 (-1)) j < 2147483648 := gu_B zB0 (by omega)
theorem z4 : (gu (fun _ => (0 : Int)) 0 (-1)) 0 = -1 := rfl
theorem zok {t : Int} (ht : 0 ≤ t ∧ t ≤ 1000) : xOk 1 0 (fun _ => 0) (fun _ => 0) (fun _ => 0) (fun _ => 0) (fun _ => 0) (fun _ => 0) (fun _ => 0, fun _ => 0, fun _ => 0, t, -1, 0) := by
  refine ⟨⟨?_, ?_⟩, fun j h1 h2 => absurd h2 (by omega), ⟨?_, ?_⟩, ⟨?_, ?_⟩, ⟨?_, ?_⟩, ?_, ?_⟩
  · show -2147483648 ≤ t; omega
  · show t < 2147483647; omega
  · show (0 : Int) ≤ 0; omega
  · show (0 : Int) < 1073741824; omega
  · show -2147483648 ≤ (0 : Int); omega
  · show (0 : Int) < 2147483648; omega
  · show -2147483648 ≤ (0 : Int); omega
  · show (0 : Int) < 2147483648; omega
  · show -2147483648 ≤ (0 : Int); omega
  · show (0 : Int) < 2147483648; omega
theorem zX_places {l : Launch} {D : va_G} {cI cZ : ClassId} {q : Nat} {r : Nat → Nat} {t : Int} : gMI l yX0_places wsX0_places 6 D (gTy cI cZ) (zX cI cZ q r t) [.ref q] 1 (zX cI cZ q r t) := cX_places
theorem zX_doors {l : Launch} {D : va_G} {cI cZ : ClassId} {q : Nat} {r : Nat → Nat} {t : Int} : gMI l yX0_doors wsX0_doors 6 D (gTy cI cZ) (zX cI cZ q r t) [.ref q] 0 (zX cI cZ q r t) := cX_doors
theorem zX_now {l : Launch} {D : va_G} {cI cZ : ClassId} {q : Nat} {r : Nat → Nat} {t : Int} : gMI l yX0_now wsX0_now 6 D (gTy cI cZ) (zX cI cZ q r t) [.ref q] t (zX cI cZ q r t) := cX_now
theorem zX_waited {l : Launch} {D : va_G} {cI cZ : ClassId} {q : Nat} {r : Nat → Nat} {t : Int} : gMI l yX0_waited wsX0_waited 6 D (gTy cI cZ) (zX cI cZ q r t) [.ref q] 0 (zX cI cZ q r t) := cX_waited
theorem zX_inside {l : Launch} {D : va_G} {cI cZ : ClassId} {q : Nat} {r : Nat → Nat} {t : Int} : gMI l yX0_inside wsX0_inside 0 D (gTy cI cZ) (zX cI cZ q r t) [.ref q] 0 (zX cI cZ q r t) := cX_inside ⟨by omega, by omega⟩
theorem zX_trapped {l : Launch} {D : va_G} {cI cZ : ClassId} {q : Nat} {r : Nat → Nat} {t : Int} : gMI l yX0_trapped wsX0_trapped 0 D (gTy cI cZ) (zX cI cZ q r t) [.ref q] 0 (zX cI cZ q r t) := cX_trapped ⟨by omega, by omega⟩ zB0
theorem zX_people {l : Launch} {D : va_G} {cI cZ : ClassId} {q : Nat} {r : Nat → Nat} {t : Int} : gMI l yX0_people wsX0_people 6 D (gTy cI cZ) (zX cI cZ q r t) [.ref q, .int (iI 0)] 0 (zX cI cZ q r t) := cX_people (i := 0) ⟨by omega, by omega⟩ (by omega)
theorem zX_wouldMove {l : Launch} {D : va_G} {cI cZ : ClassId} {q : Nat} {r : Nat → Nat} {t : Int} : gMI l yX0_wouldMove wsX0_wouldMove 6 D (gTy cI cZ) (zX cI cZ q r t) [.ref q, .int (iI 0)] 0 (zX cI cZ q r t) := cX_wouldMove0 (i := 0) ⟨by omega, by omega⟩ (by omega) (by omega) zB4 (by rw [z4]; omega)
theorem zX_distance {l : Launch} {D : va_G} {cI cZ : ClassId} {q : Nat} {r : Nat → Nat} {t : Int} : gMI l yX0_distance wsX0_distance 6 D (gTy cI cZ) (zX cI cZ q r t) [.ref q, .int (iI 0)] 0 (zX cI cZ q r t) := cX_distance (i := 0) ⟨by omega, by omega⟩ (by omega) zB0 (by show (0 : Int) ≠ -1; omega)
theorem zX_bound {l : Launch} {D : va_G} {cI cZ : ClassId} {q : Nat} {r : Nat → Nat} {t : Int} : gMI l yX0_bound wsX0_bound 6 D (gTy cI cZ) (zX cI cZ q r t) [.ref q] 0 (zX cI cZ q r t) := cX_bound ⟨by omega, by omega⟩ (by omega) zB0 zB0 (fun j h => absurd h (by omega)) (fun j h => absurd h (by omega)) (fun d h1 h2 => absurd h2 (by omega)) rfl
theorem zX_step {l : Launch} {D : va_G} {cI cZ : ClassId} {q : Nat} {r : Nat → Nat} {t : Int} (ht : 0 ≤ t ∧ t ≤ 1000) : gMI l yX0_step wsX0_step 6 D (gTy cI cZ) (zX cI cZ q r t) [.ref q, .int (iI 1)] 0 (zX cI cZ q r (t + 1)) := cX_step (n := 1) ⟨by omega, by omega⟩ ⟨by omega, by omega⟩ (by omega) zB0 zB0 zB0 (fun j h => absurd h (by omega)) (fun k hk => by have hk0 : k = 0 := (by omega); subst hk0; exact zok ht)
theorem zX_clear {l : Launch} {D : va_G} {cI cZ : ClassId} {q : Nat} {r : Nat → Nat} {t : Int} (ht : 0 ≤ t ∧ t ≤ 1000) : gMI l yX0_clear wsX0_clear 6 D (gTy cI cZ) (zX cI cZ q r t) [.ref q] 0 (zX cI cZ q r t) := cX_clear (n := 0) ⟨by omega, by omega⟩ (by omega) zB0 zB0 zB0 (fun j h => absurd h (by omega)) (fun k hk => by have hk0 : k = 0 := (by omega); subst hk0; exact zok ht) (by omega) (fun k hk => absurd hk (by omega)) (fun k hk => absurd hk (by omega)) (Or.inr (Or.inl (by show (0 : Int) ≤ 0; omega)))
theorem zT_addPlace {l : Launch} {D : va_G} {cI cZ : ClassId} {q : Nat} {r : Nat → Nat} {t : Int} (hfl : l.stackTraces = false) : gMT l yX0_addPlace wsX0_addPlace 7 D (gTy cI cZ) (zX cI cZ q r t) [.ref q, .int (iI 0)] gIA := tX_addPlace1 hfl (by omega) (by omega)
theorem zT_latest {l : Launch} {D : va_G} {cI cZ : ClassId} {q : Nat} {r : Nat → Nat} {t : Int} (hfl : l.stackTraces = false) : gMT l yX0_latest wsX0_latest 7 D (gTy cI cZ) (zX cI cZ q r t) [.ref q] gNS := tX_latest1 hfl rfl
theorem zT_door {l : Launch} {D : va_G} {cI cZ : ClassId} {q : Nat} {r : Nat → Nat} {t : Int} (hfl : l.stackTraces = false) : gMT l yX0_door wsX0_door 7 D (gTy cI cZ) (zX cI cZ q r t) [.ref q, .int (iI 0)] gNS := tX_door2 (i := 0) hfl ⟨by omega, by omega⟩ (by omega) rfl
set_option maxHeartbeats 4000000 in
set_option maxRecDepth 100000 in
theorem wL_addPlace {l : Launch} {D : va_G} {cI cZ cL : ClassId} {q : Nat} {r : Nat → Nat} {t : Int} (hfl : l.stackTraces = false) : gMN l yL_addPlace wsL_addPlace (rK 8 1) 1 D (gTyL cI cZ cL) (zX cI cZ q r t) [.ref q, .int (iI 0)] (-99999) (zX cI cZ q r t) := by
  refine g_ofNW (by decide +kernel) rfl rfl (Nat.le_of_ble_eq_true rfl) (g_cat1 rfl) ?_
  intro p e s m args below meth c Q A0 E C htab hret
  have hts := E.1.2.2.2.2
  show gJ p l e (rK 8 1) s m args below meth c 0 0 Q A0 D (zX cI cZ q r t) [some (.ref q), some (.int (iI 0)), none] 0 []
  refine g_aload_n E dL_addPlace_0 rfl rfl ?_
  refine g_iload_n E dL_addPlace_1 rfl rfl ?_
  refine g_callCW E [0, 1] rfl (wr := []) (zT_addPlace hfl) C htab [] ⟨0, 5, 6, 14⟩ [⟨0, 5, 10, 17⟩] rfl (fun z hz => nomatch hz) (by decide) (by decide) cl_addPlace_14 (by decide +kernel) (cwV 1 hts gL_addPlace_X0_addPlace rfl rfl rfl hdL_X0_addPlace ⟨(Nat.le_of_ble_eq_true rfl), (Nat.le_of_ble_eq_true rfl)⟩) rfl rfl rfl (Nat.le_of_ble_eq_true rfl) rfl rfl dL_addPlace_2 (by decide) (fun a Hb' C E => ?_)
  refine g_astore_n E (lv' := [_, _, _]) dL_addPlace_6 rfl (Nat.le_of_ble_eq_true rfl) rfl ?_
  refine g_ldcI E kc_addPlace_16 dL_addPlace_7 ?_
  exact hret _ _ _ (C.mono (by omega)) dL_addPlace_9
set_option maxHeartbeats 4000000 in
set_option maxRecDepth 100000 in
theorem wL_latest {l : Launch} {D : va_G} {cI cZ cL : ClassId} {q : Nat} {r : Nat → Nat} {t : Int} (hfl : l.stackTraces = false) : gMN l yL_latest wsL_latest (rK 8 1) 1 D (gTyL cI cZ cL) (zX cI cZ q r t) [.ref q] (-1) (zX cI cZ q r t) := by
  refine g_ofNW (by decide +kernel) rfl rfl (Nat.le_of_ble_eq_true rfl) (g_cat1 rfl) ?_
  intro p e s m args below meth c Q A0 E C htab hret
  have hts := E.1.2.2.2.2
  show gJ p l e (rK 8 1) s m args below meth c 0 0 Q A0 D (zX cI cZ q r t) [some (.ref q), none] 0 []
  refine g_aload_n E dL_latest_0 rfl rfl ?_
  refine g_callCW E [0, 1] rfl (wr := []) (zT_latest hfl) C htab [] ⟨0, 4, 5, 42⟩ [] rfl (fun z hz => nomatch hz) (by decide) (by decide) cl_latest_42 (by decide +kernel) (cwV 0 hts gL_latest_X0_latest rfl rfl rfl hdL_X0_latest ⟨(Nat.le_of_ble_eq_true rfl), (Nat.le_of_ble_eq_true rfl)⟩) rfl rfl rfl (Nat.le_of_ble_eq_true rfl) rfl rfl dL_latest_1 (by decide) (fun a Hb' C E => ?_)
  refine g_astore_n E (lv' := [_, _]) dL_latest_5 rfl (Nat.le_of_ble_eq_true rfl) rfl ?_
  refine g_iconst E dL_latest_6 ?_
  exact hret _ _ _ (C.mono (by omega)) dL_latest_7
set_option maxHeartbeats 4000000 in
set_option maxRecDepth 100000 in
theorem wL_door {l : Launch} {D : va_G} {cI cZ cL : ClassId} {q : Nat} {r : Nat → Nat} {t : Int} (hfl : l.stackTraces = false) : gMN l yL_door wsL_door (rK 8 1) 1 D (gTyL cI cZ cL) (zX cI cZ q r t) [.ref q, .int (iI 0)] (-1) (zX cI cZ q r t) := by
  refine g_ofNW (by decide +kernel) rfl rfl (Nat.le_of_ble_eq_true rfl) (g_cat1 rfl) ?_
  intro p e s m args below meth c Q A0 E C htab hret
  have hts := E.1.2.2.2.2
  show gJ p l e (rK 8 1) s m args below meth c 0 0 Q A0 D (zX cI cZ q r t) [some (.ref q), some (.int (iI 0)), none] 0 []
  refine g_aload_n E dL_door_0 rfl rfl ?_
  refine g_iload_n E dL_door_1 rfl rfl ?_
  refine g_callCW E [0, 1] rfl (wr := []) (zT_door hfl) C htab [⟨0, 5, 6, 23⟩] ⟨0, 5, 10, 42⟩ [] rfl (fun z hz => by (rcases List.mem_singleton.mp hz with rfl; exact ⟨by decide, gIX, cl_door_23, by decide +kernel⟩)) (by decide) (by decide) cl_door_42 (by decide +kernel) (cwV 1 hts gL_door_X0_door rfl rfl rfl hdL_X0_door ⟨(Nat.le_of_ble_eq_true rfl), (Nat.le_of_ble_eq_true rfl)⟩) rfl rfl rfl (Nat.le_of_ble_eq_true rfl) rfl rfl dL_door_2 (by decide) (fun a Hb' C E => ?_)
  refine g_astore_n E (lv' := [_, _, _]) dL_door_10 rfl (Nat.le_of_ble_eq_true rfl) rfl ?_
  refine g_iconst E dL_door_11 ?_
  exact hret _ _ _ (C.mono (by omega)) dL_door_12
set_option maxHeartbeats 4000000 in
set_option maxRecDepth 100000 in
theorem wL_distance {l : Launch} {D : va_G} {cI cZ cL : ClassId} {q : Nat} {r : Nat → Nat} {t : Int} : gMN l yL_distance wsL_distance (rK 8 0) 0 D (gTyL cI cZ cL) (zX cI cZ q r t) [.ref q, .int (iI 0)] 0 (zX cI cZ q r t) := by
  refine g_ofNW (by decide +kernel) rfl rfl (Nat.le_of_ble_eq_true rfl) (g_cat1 rfl) ?_
  intro p e s m args below meth c Q A0 E C htab hret
  have hts := E.1.2.2.2.2
  show gJ p l e (rK 8 0) s m args below meth c 0 0 Q A0 D (zX cI cZ q r t) [some (.ref q), some (.int (iI 0)), none] 0 []
  refine g_aload_n E dL_distance_0 rfl rfl ?_
  refine g_iload_n E dL_distance_1 rfl rfl ?_
  refine g_callIW E [0, 1] rfl (wr := []) zX_distance (cwV 1 hts gL_distance_X0_distance rfl rfl rfl hdL_X0_distance ⟨(Nat.le_of_ble_eq_true rfl), (Nat.le_of_ble_eq_true rfl)⟩) rfl rfl rfl (Nat.le_of_ble_eq_true rfl) rfl rfl dL_distance_2 (by decide) ?_
  exact hret _ _ _ C dL_distance_5
set_option maxHeartbeats 4000000 in
set_option maxRecDepth 100000 in
theorem wL_bound {l : Launch} {D : va_G} {cI cZ cL : ClassId} {q : Nat} {r : Nat → Nat} {t : Int} : gMN l yL_bound wsL_bound (rK 8 0) 0 D (gTyL cI cZ cL) (zX cI cZ q r t) [.ref q] 0 (zX cI cZ q r t) := by
  refine g_ofNW (by decide +kernel) rfl rfl (Nat.le_of_ble_eq_true rfl) (g_cat1 rfl) ?_
  intro p e s m args below meth c Q A0 E C htab hret
  have hts := E.1.2.2.2.2
  show gJ p l e (rK 8 0) s m args below meth c 0 0 Q A0 D (zX cI cZ q r t) [some (.ref q), none] 0 []
  refine g_aload_n E dL_bound_0 rfl rfl ?_
  refine g_callIW E [0, 1] rfl (wr := []) zX_bound (cwV 0 hts gL_bound_X0_bound rfl rfl rfl hdL_X0_bound ⟨(Nat.le_of_ble_eq_true rfl), (Nat.le_of_ble_eq_true rfl)⟩) rfl rfl rfl (Nat.le_of_ble_eq_true rfl) rfl rfl dL_bound_1 (by decide) ?_
  exact hret _ _ _ C dL_bound_4
set_option maxHeartbeats 4000000 in
set_option maxRecDepth 100000 in
theorem zL_low {l : Launch} {D : va_G} {tys : List (ClassId × FieldType)} {n : Int} (hn : 1 ≤ n ∧ n ≤ 2000) : gMI l yL_low wsL_low 0 D tys [] [.int (iI 0), .int (iI n)] 0 [] := by
  refine g_ofI (ty := .int) (by decide +kernel) rfl rfl (Nat.le_of_ble_eq_true rfl) (g_cat1 rfl) rfl ?_
  intro p e s m args below meth c Q A0 E hret
  have hts := E.1.2.2.2.2
  show gJ p l e (gR 0) s m args below meth c 0 0 Q A0 D [] [some (.int (iI 0)), some (.int (iI n))] 0 []
  refine g_iload_n E dL_low_0 rfl rfl ?_
  refine g_ldcI E kc_low_7 dL_low_1 ?_
  refine g_iandZ E dL_low_3 (v := 0) (by decide) ?_
  refine g_iload_n E dL_low_4 rfl rfl ?_
  refine g_irem E dL_low_5 ⟨by omega, by omega, by omega, by omega⟩ ?_
  exact g_ri (Int.zero_emod n) hret dL_low_6
end
section
set_option maxHeartbeats 4000000 in
set_option maxRecDepth 100000 in
theorem zL_act {l : Launch} {D : va_G} {cI cZ cL : ClassId} {q : Nat} {r : Nat → Nat} {t : Int} (hfl : l.stackTraces = false) : gMN l yL_act wsL_act (rK 10 1) 1 D (gTyL cI cZ cL) (zX cI cZ q r t) [.ref q, .int (iI 0)] (-99999) (zX cI cZ q r t) := by
  refine g_ofN (ty := .int) (by decide +kernel) rfl rfl (Nat.le_of_ble_eq_true rfl) (g_cat1 rfl) rfl ?_
  intro p e s m args below meth c Q A0 E C hret
  have hts := E.1.2.2.2.2
  show gJ p l e (rK 10 1) s m args below meth c 0 0 Q A0 D (zX cI cZ q r t) [some (.ref q), some (.int (iI 0)), none, none, none, none] 0 []
  refine g_iload_n E dL_act_0 rfl rfl ?_
  refine g_bipush E dL_act_1 (by decide) ?_
  refine g_ishrZ E dL_act_3 (v := 0) (by decide) ?_
  refine g_bipush E dL_act_4 (by decide) ?_
  refine g_callSI E (zL_low (by omega)) (va_cwS 2 hts gL_act_L_low rfl rfl rfl hdS_low ⟨(Nat.le_of_ble_eq_true rfl), (Nat.le_of_ble_eq_true rfl)⟩) rfl rfl rfl (Nat.le_of_ble_eq_true rfl) dL_act_6 (by decide) ?_
  refine g_if_ne_f E dL_act_9 (tgt := 16) (by decide) (by omega) (by omega) ?_
  refine g_iconst E dL_act_12 ?_
  refine g_goto E dL_act_13 (tgt := 17) (by decide) ?_
  refine g_istore_n E (lv' := [_, _, _, _, _, _]) dL_act_17 rfl (Nat.le_of_ble_eq_true rfl) rfl ?_
  refine g_aload_n E dL_act_18 rfl rfl ?_
  refine g_callIW E [0, 1] rfl (wr := []) zX_places (cwV 0 hts gL_act_X0_places rfl rfl rfl hdL_X0_places ⟨(Nat.le_of_ble_eq_true rfl), (Nat.le_of_ble_eq_true rfl)⟩) rfl rfl rfl (Nat.le_of_ble_eq_true rfl) rfl rfl dL_act_19 (by decide) ?_
  refine g_istore_n E (lv' := [_, _, _, _, _, _]) dL_act_22 rfl (Nat.le_of_ble_eq_true rfl) rfl ?_
  refine g_iload_n E dL_act_23 rfl rfl ?_
  refine g_iconst E dL_act_24 ?_
  refine g_ishrZ E dL_act_25 (v := 0) (by decide) ?_
  refine g_iload_n E dL_act_26 rfl rfl ?_
  refine g_iload_n E dL_act_27 rfl rfl ?_
  refine g_if_eq_f E dL_act_28 (tgt := 35) (by decide) (by omega) (by omega) ?_
  refine g_iconst E dL_act_31 ?_
  refine g_goto E dL_act_32 (tgt := 36) (by decide) ?_
  refine g_iadd E dL_act_36 ?_
  refine g_callSI E (zL_low (by omega)) (va_cwS 2 hts gL_act_L_low rfl rfl rfl hdS_low ⟨(Nat.le_of_ble_eq_true rfl), (Nat.le_of_ble_eq_true rfl)⟩) rfl rfl rfl (Nat.le_of_ble_eq_true rfl) dL_act_37 (by decide) ?_
  refine g_istore E (lv' := [_, _, _, _, _, _]) dL_act_40 (Nat.le_of_ble_eq_true rfl) rfl ?_
  refine g_iload_n E dL_act_42 rfl rfl ?_
  refine g_if_eq_f E dL_act_43 (tgt := 59) (by decide) (by omega) (by omega) ?_
  refine g_iload_n E dL_act_46 rfl rfl ?_
  refine g_bipush E dL_act_47 (by decide) ?_
  refine g_ishrZ E dL_act_49 (v := 0) (by decide) ?_
  refine g_iload_n E dL_act_50 rfl rfl ?_
  refine g_iconst E dL_act_51 ?_
  refine g_iadd E dL_act_52 ?_
  refine g_callSI E (zL_low (by omega)) (va_cwS 2 hts gL_act_L_low rfl rfl rfl hdS_low ⟨(Nat.le_of_ble_eq_true rfl), (Nat.le_of_ble_eq_true rfl)⟩) rfl rfl rfl (Nat.le_of_ble_eq_true rfl) dL_act_53 (by decide) ?_
  refine g_goto E dL_act_56 (tgt := 85) (by decide) ?_
  refine g_istore E (lv' := [_, _, _, _, _, _]) dL_act_85 (Nat.le_of_ble_eq_true rfl) rfl ?_
  refine g_iload_n E dL_act_87 rfl rfl ?_
  refine g_bipush E dL_act_88 (by decide) ?_
  refine g_callSI E (zL_low (by omega)) (va_cwS 2 hts gL_act_L_low rfl rfl rfl hdS_low ⟨(Nat.le_of_ble_eq_true rfl), (Nat.le_of_ble_eq_true rfl)⟩) rfl rfl rfl (Nat.le_of_ble_eq_true rfl) dL_act_90 (by decide) ?_
  refine g_tab E (off := 59) (tgt := 152) dL_act_93 (by decide) (by decide) (by decide) (by decide) ?_
  refine g_aload_n E dL_act_152 rfl rfl ?_
  refine g_iload_n E dL_act_153 rfl rfl ?_
  refine g_if_eq_f E dL_act_154 (tgt := 169) (by decide) (by omega) (by omega) ?_
  refine g_iload_n E dL_act_157 rfl rfl ?_
  refine g_bipush E dL_act_158 (by decide) ?_
  refine g_ishrZ E dL_act_160 (v := 0) (by decide) ?_
  refine g_bipush E dL_act_161 (by decide) ?_
  refine g_callSI E (zL_low (by omega)) (va_cwS 2 hts gL_act_L_low rfl rfl rfl hdS_low ⟨(Nat.le_of_ble_eq_true rfl), (Nat.le_of_ble_eq_true rfl)⟩) rfl rfl rfl (Nat.le_of_ble_eq_true rfl) dL_act_163 (by decide) ?_
  refine g_goto E dL_act_166 (tgt := 180) (by decide) ?_
  refine h_callNW E C (wr := []) (wL_addPlace hfl) (vx_cwSW 2 hts gL_act_L_addPlace rfl rfl rfl hdS_addPlace ⟨(Nat.le_of_ble_eq_true rfl), (Nat.le_of_ble_eq_true rfl)⟩) rfl rfl rfl (Nat.le_of_ble_eq_true rfl) dL_act_180 (by decide) (fun Hb' C E => ?_)
  exact hret _ _ _ (C.mono (by omega)) dL_act_183
set_option maxHeartbeats 4000000 in
set_option maxRecDepth 100000 in
theorem zL_areAlike {l : Launch} {D : va_G} {cI cZ cL : ClassId} {q q2 : Nat} {r r2 : Nat → Nat} {t : Int} (hfl : l.stackTraces = false) (ht : 0 ≤ t ∧ t ≤ 1000) : gMN l yL_areAlike wsL_areAlike (rK 10 2) 2 D (gTyL cI cZ cL) (zX cI cZ q r t ++ zX cI cZ q2 r2 t) [.ref q, .ref q2] 1 (zX cI cZ q r t ++ zX cI cZ q2 r2 t) := by
  refine g_ofN (ty := .boolean) (by decide +kernel) rfl rfl (Nat.le_of_ble_eq_true rfl) (g_cat1 rfl) (g_narZ (Or.inr rfl)) ?_
  intro p e s m args below meth c Q A0 E C hret
  have hts := E.1.2.2.2.2
  show gJ p l e (rK 10 2) s m args below meth c 0 0 Q A0 D (zX cI cZ q r t ++ zX cI cZ q2 r2 t) [some (.ref q), some (.ref q2), none, none] 0 []
  refine g_aload_n E dL_areAlike_0 rfl rfl ?_
  refine g_callM E [0, 1] rfl zX_places (cwV 0 hts gL_areAlike_X0_places rfl rfl rfl hdL_X0_places ⟨(Nat.le_of_ble_eq_true rfl), (Nat.le_of_ble_eq_true rfl)⟩) rfl rfl rfl (Nat.le_of_ble_eq_true rfl) rfl rfl dL_areAlike_1 (by decide) ?_
  refine g_aload_n E dL_areAlike_4 rfl rfl ?_
  refine g_callIW E [0, 1] rfl zX_places (cwV 0 hts gL_areAlike_X0_places rfl rfl rfl hdL_X0_places ⟨(Nat.le_of_ble_eq_true rfl), (Nat.le_of_ble_eq_true rfl)⟩) rfl rfl rfl (Nat.le_of_ble_eq_true rfl) rfl rfl dL_areAlike_5 (by decide) ?_
  refine g_icmp_ne_f E dL_areAlike_8 (tgt := 81) (by decide) (by omega) (by omega) ?_
  refine g_aload_n E dL_areAlike_11 rfl rfl ?_
  refine g_callM E [0, 1] rfl zX_doors (cwV 0 hts gL_areAlike_X0_doors rfl rfl rfl hdL_X0_doors ⟨(Nat.le_of_ble_eq_true rfl), (Nat.le_of_ble_eq_true rfl)⟩) rfl rfl rfl (Nat.le_of_ble_eq_true rfl) rfl rfl dL_areAlike_12 (by decide) ?_
  refine g_aload_n E dL_areAlike_15 rfl rfl ?_
  refine g_callIW E [0, 1] rfl zX_doors (cwV 0 hts gL_areAlike_X0_doors rfl rfl rfl hdL_X0_doors ⟨(Nat.le_of_ble_eq_true rfl), (Nat.le_of_ble_eq_true rfl)⟩) rfl rfl rfl (Nat.le_of_ble_eq_true rfl) rfl rfl dL_areAlike_16 (by decide) ?_
  refine g_icmp_ne_f E dL_areAlike_19 (tgt := 81) (by decide) (by omega) (by omega) ?_
  refine g_aload_n E dL_areAlike_22 rfl rfl ?_
  refine g_callM E [0, 1] rfl zX_now (cwV 0 hts gL_areAlike_X0_now rfl rfl rfl hdL_X0_now ⟨(Nat.le_of_ble_eq_true rfl), (Nat.le_of_ble_eq_true rfl)⟩) rfl rfl rfl (Nat.le_of_ble_eq_true rfl) rfl rfl dL_areAlike_23 (by decide) ?_
  refine g_aload_n E dL_areAlike_26 rfl rfl ?_
  refine g_callIW E [0, 1] rfl zX_now (cwV 0 hts gL_areAlike_X0_now rfl rfl rfl hdL_X0_now ⟨(Nat.le_of_ble_eq_true rfl), (Nat.le_of_ble_eq_true rfl)⟩) rfl rfl rfl (Nat.le_of_ble_eq_true rfl) rfl rfl dL_areAlike_27 (by decide) ?_
  refine g_icmp_ne_f E dL_areAlike_30 (tgt := 81) (by decide) (by omega) (by omega) ?_
  refine g_aload_n E dL_areAlike_33 rfl rfl ?_
  refine g_callM E [0, 1] rfl zX_inside (cwV 0 hts gL_areAlike_X0_inside rfl rfl rfl hdL_X0_inside ⟨(Nat.le_of_ble_eq_true rfl), (Nat.le_of_ble_eq_true rfl)⟩) rfl rfl rfl (Nat.le_of_ble_eq_true rfl) rfl rfl dL_areAlike_34 (by decide) ?_
  refine g_aload_n E dL_areAlike_37 rfl rfl ?_
  refine g_callIW E [0, 1] rfl zX_inside (cwV 0 hts gL_areAlike_X0_inside rfl rfl rfl hdL_X0_inside ⟨(Nat.le_of_ble_eq_true rfl), (Nat.le_of_ble_eq_true rfl)⟩) rfl rfl rfl (Nat.le_of_ble_eq_true rfl) rfl rfl dL_areAlike_38 (by decide) ?_
  refine g_icmp_ne_f E dL_areAlike_41 (tgt := 81) (by decide) (by omega) (by omega) ?_
  refine g_aload_n E dL_areAlike_44 rfl rfl ?_
  refine g_callM E [0, 1] rfl zX_waited (cwV 0 hts gL_areAlike_X0_waited rfl rfl rfl hdL_X0_waited ⟨(Nat.le_of_ble_eq_true rfl), (Nat.le_of_ble_eq_true rfl)⟩) rfl rfl rfl (Nat.le_of_ble_eq_true rfl) rfl rfl dL_areAlike_45 (by decide) ?_
  refine g_aload_n E dL_areAlike_48 rfl rfl ?_
  refine g_callIW E [0, 1] rfl zX_waited (cwV 0 hts gL_areAlike_X0_waited rfl rfl rfl hdL_X0_waited ⟨(Nat.le_of_ble_eq_true rfl), (Nat.le_of_ble_eq_true rfl)⟩) rfl rfl rfl (Nat.le_of_ble_eq_true rfl) rfl rfl dL_areAlike_49 (by decide) ?_
  refine g_icmp_ne_f E dL_areAlike_52 (tgt := 81) (by decide) (by omega) (by omega) ?_
  refine g_aload_n E dL_areAlike_55 rfl rfl ?_
  refine g_swap ?_
  refine h_callNW E C (wr := (zX cI cZ q2 r2 t)) (wL_latest hfl) (vx_cwSW 1 hts gL_areAlike_L_latest rfl rfl rfl hdS_latest ⟨(Nat.le_of_ble_eq_true rfl), (Nat.le_of_ble_eq_true rfl)⟩) rfl rfl rfl (Nat.le_of_ble_eq_true rfl) dL_areAlike_56 (by decide) (fun Hb' C E => ?_)
  refine g_swap ?_
  refine g_aload_n E dL_areAlike_59 rfl rfl ?_
  refine h_callNW E C (wr := (zX cI cZ q r t)) (wL_latest hfl) (vx_cwSW 1 hts gL_areAlike_L_latest rfl rfl rfl hdS_latest ⟨(Nat.le_of_ble_eq_true rfl), (Nat.le_of_ble_eq_true rfl)⟩) rfl rfl rfl (Nat.le_of_ble_eq_true rfl) dL_areAlike_60 (by decide) (fun Hb' C E => ?_)
  refine g_icmp_ne_f E dL_areAlike_63 (tgt := 81) (by decide) (by omega) (by omega) ?_
  refine g_aload_n E dL_areAlike_66 rfl rfl ?_
  refine g_callM E [0, 1] rfl zX_trapped (cwV 0 hts gL_areAlike_X0_trapped rfl rfl rfl hdL_X0_trapped ⟨(Nat.le_of_ble_eq_true rfl), (Nat.le_of_ble_eq_true rfl)⟩) rfl rfl rfl (Nat.le_of_ble_eq_true rfl) rfl rfl dL_areAlike_67 (by decide) ?_
  refine g_aload_n E dL_areAlike_70 rfl rfl ?_
  refine g_callIW E [0, 1] rfl zX_trapped (cwV 0 hts gL_areAlike_X0_trapped rfl rfl rfl hdL_X0_trapped ⟨(Nat.le_of_ble_eq_true rfl), (Nat.le_of_ble_eq_true rfl)⟩) rfl rfl rfl (Nat.le_of_ble_eq_true rfl) rfl rfl dL_areAlike_71 (by decide) ?_
  refine g_icmp_ne_f E dL_areAlike_74 (tgt := 81) (by decide) (by omega) (by omega) ?_
  refine g_iconst E dL_areAlike_77 ?_
  refine g_goto E dL_areAlike_78 (tgt := 82) (by decide) ?_
  refine g_istore_n E (lv' := [_, _, _, _]) dL_areAlike_82 rfl (Nat.le_of_ble_eq_true rfl) rfl ?_
  refine g_iconst E dL_areAlike_83 ?_
  refine g_istore_n E (lv' := [_, _, _, _]) dL_areAlike_84 rfl (Nat.le_of_ble_eq_true rfl) rfl ?_
  refine g_iload_n E dL_areAlike_85 rfl rfl ?_
  refine g_aload_n E dL_areAlike_86 rfl rfl ?_
  refine g_callM E [0, 1] rfl zX_places (cwV 0 hts gL_areAlike_X0_places rfl rfl rfl hdL_X0_places ⟨(Nat.le_of_ble_eq_true rfl), (Nat.le_of_ble_eq_true rfl)⟩) rfl rfl rfl (Nat.le_of_ble_eq_true rfl) rfl rfl dL_areAlike_87 (by decide) ?_
  refine g_icmp_ge_f E dL_areAlike_90 (tgt := 135) (by decide) (by omega) (by omega) ?_
  refine g_iload_n E dL_areAlike_93 rfl rfl ?_
  refine g_if_eq_f E dL_areAlike_94 (tgt := 135) (by decide) (by omega) (by omega) ?_
  refine g_aload_n E dL_areAlike_97 rfl rfl ?_
  refine g_iload_n E dL_areAlike_98 rfl rfl ?_
  refine g_callM E [0, 1] rfl zX_people (cwV 1 hts gL_areAlike_X0_people rfl rfl rfl hdL_X0_people ⟨(Nat.le_of_ble_eq_true rfl), (Nat.le_of_ble_eq_true rfl)⟩) rfl rfl rfl (Nat.le_of_ble_eq_true rfl) rfl rfl dL_areAlike_99 (by decide) ?_
  refine g_aload_n E dL_areAlike_102 rfl rfl ?_
  refine g_iload_n E dL_areAlike_103 rfl rfl ?_
  refine g_callIW E [0, 1] rfl zX_people (cwV 1 hts gL_areAlike_X0_people rfl rfl rfl hdL_X0_people ⟨(Nat.le_of_ble_eq_true rfl), (Nat.le_of_ble_eq_true rfl)⟩) rfl rfl rfl (Nat.le_of_ble_eq_true rfl) rfl rfl dL_areAlike_104 (by decide) ?_
  refine g_icmp_ne_f E dL_areAlike_107 (tgt := 127) (by decide) (by omega) (by omega) ?_
  refine g_aload_n E dL_areAlike_110 rfl rfl ?_
  refine g_iload_n E dL_areAlike_111 rfl rfl ?_
  refine g_callM E [0, 1] rfl zX_wouldMove (cwV 1 hts gL_areAlike_X0_wouldMove rfl rfl rfl hdL_X0_wouldMove ⟨(Nat.le_of_ble_eq_true rfl), (Nat.le_of_ble_eq_true rfl)⟩) rfl rfl rfl (Nat.le_of_ble_eq_true rfl) rfl rfl dL_areAlike_112 (by decide) ?_
  refine g_aload_n E dL_areAlike_115 rfl rfl ?_
  refine g_iload_n E dL_areAlike_116 rfl rfl ?_
  refine g_callIW E [0, 1] rfl zX_wouldMove (cwV 1 hts gL_areAlike_X0_wouldMove rfl rfl rfl hdL_X0_wouldMove ⟨(Nat.le_of_ble_eq_true rfl), (Nat.le_of_ble_eq_true rfl)⟩) rfl rfl rfl (Nat.le_of_ble_eq_true rfl) rfl rfl dL_areAlike_117 (by decide) ?_
  refine g_icmp_ne_f E dL_areAlike_120 (tgt := 127) (by decide) (by omega) (by omega) ?_
  refine g_iconst E dL_areAlike_123 ?_
  refine g_goto E dL_areAlike_124 (tgt := 128) (by decide) ?_
  refine g_istore_n E (lv' := [_, _, _, _]) dL_areAlike_128 rfl (Nat.le_of_ble_eq_true rfl) rfl ?_
  refine g_iinc E (lv' := [_, _, _, _]) dL_areAlike_129 rfl rfl ?_
  refine g_goto E dL_areAlike_132 (tgt := 85) (by decide) ?_
  refine g_iload_n E dL_areAlike_85 rfl rfl ?_
  refine g_aload_n E dL_areAlike_86 rfl rfl ?_
  refine g_callM E [0, 1] rfl zX_places (cwV 0 hts gL_areAlike_X0_places rfl rfl rfl hdL_X0_places ⟨(Nat.le_of_ble_eq_true rfl), (Nat.le_of_ble_eq_true rfl)⟩) rfl rfl rfl (Nat.le_of_ble_eq_true rfl) rfl rfl dL_areAlike_87 (by decide) ?_
  refine g_icmp_ge_t E dL_areAlike_90 (tgt := 135) (by decide) (by omega) (by omega) ?_
  refine g_iload_n E dL_areAlike_135 rfl rfl ?_
  exact hret _ _ _ (C.mono (by omega)) dL_areAlike_136
end
section
set_option maxHeartbeats 4000000 in
set_option maxRecDepth 100000 in
theorem zL_arePlacesSo {l : Launch} {D : va_G} {cI cZ cL : ClassId} {q : Nat} {r : Nat → Nat} {t : Int} (hfl : l.stackTraces = false) : gMN l yL_arePlacesSo wsL_arePlacesSo (rK 10 1) 1 D (gTyL cI cZ cL) (zX cI cZ q r t) [.ref q] 1 (zX cI cZ q r t) := by
  refine g_ofN (ty := .boolean) (by decide +kernel) rfl rfl (Nat.le_of_ble_eq_true rfl) (g_cat1 rfl) (g_narZ (Or.inr rfl)) ?_
  intro p e s m args below meth c Q A0 E C hret
  have hts := E.1.2.2.2.2
  show gJ p l e (rK 10 1) s m args below meth c 0 0 Q A0 D (zX cI cZ q r t) [some (.ref q), none, none, none, none, none, none] 0 []
  refine g_iconst E dL_arePlacesSo_0 ?_
  refine g_istore_n E (lv' := [_, _, _, _, _, _, _]) dL_arePlacesSo_1 rfl (Nat.le_of_ble_eq_true rfl) rfl ?_
  refine g_iconst E dL_arePlacesSo_2 ?_
  refine g_istore_n E (lv' := [_, _, _, _, _, _, _]) dL_arePlacesSo_3 rfl (Nat.le_of_ble_eq_true rfl) rfl ?_
  refine g_aload_n E dL_arePlacesSo_4 rfl rfl ?_
  refine g_iconst E dL_arePlacesSo_5 ?_
  refine h_callNW E C (wr := []) wL_distance (vx_cwSW 2 hts gL_arePlacesSo_L_distance rfl rfl rfl hdS_distance ⟨(Nat.le_of_ble_eq_true rfl), (Nat.le_of_ble_eq_true rfl)⟩) rfl rfl rfl (Nat.le_of_ble_eq_true rfl) dL_arePlacesSo_6 (by decide) (fun Hb' C E => ?_)
  refine g_if_ne_f E dL_arePlacesSo_9 (tgt := 25) (by decide) (by omega) (by omega) ?_
  refine g_aload_n E dL_arePlacesSo_12 rfl rfl ?_
  refine g_iconst E dL_arePlacesSo_13 ?_
  refine h_callNW E C (wr := []) (wL_door hfl) (vx_cwSW 2 hts gL_arePlacesSo_L_door rfl rfl rfl hdS_door ⟨(Nat.le_of_ble_eq_true rfl), (Nat.le_of_ble_eq_true rfl)⟩) rfl rfl rfl (Nat.le_of_ble_eq_true rfl) dL_arePlacesSo_14 (by decide) (fun Hb' C E => ?_)
  refine g_iconst E dL_arePlacesSo_17 ?_
  refine g_icmp_ne_f E dL_arePlacesSo_18 (tgt := 25) (by decide) (by omega) (by omega) ?_
  refine g_iconst E dL_arePlacesSo_21 ?_
  refine g_goto E dL_arePlacesSo_22 (tgt := 26) (by decide) ?_
  refine g_istore_n E (lv' := [_, _, _, _, _, _, _]) dL_arePlacesSo_26 rfl (Nat.le_of_ble_eq_true rfl) rfl ?_
  refine g_iconst E dL_arePlacesSo_27 ?_
  refine g_istore E (lv' := [_, _, _, _, _, _, _]) dL_arePlacesSo_28 (Nat.le_of_ble_eq_true rfl) rfl ?_
  refine g_iload E dL_arePlacesSo_30 rfl ?_
  refine g_aload_n E dL_arePlacesSo_32 rfl rfl ?_
  refine g_callIW E [0, 1] rfl (wr := []) zX_places (cwV 0 hts gL_arePlacesSo_X0_places rfl rfl rfl hdL_X0_places ⟨(Nat.le_of_ble_eq_true rfl), (Nat.le_of_ble_eq_true rfl)⟩) rfl rfl rfl (Nat.le_of_ble_eq_true rfl) rfl rfl dL_arePlacesSo_33 (by decide) ?_
  refine g_icmp_ge_t E dL_arePlacesSo_36 (tgt := 172) (by decide) (by omega) (by omega) ?_
  refine g_aload_n E dL_arePlacesSo_172 rfl rfl ?_
  refine h_callNW E C (wr := []) wL_bound (vx_cwSW 1 hts gL_arePlacesSo_L_bound rfl rfl rfl hdS_bound ⟨(Nat.le_of_ble_eq_true rfl), (Nat.le_of_ble_eq_true rfl)⟩) rfl rfl rfl (Nat.le_of_ble_eq_true rfl) dL_arePlacesSo_173 (by decide) (fun Hb' C E => ?_)
  refine g_istore E (lv' := [_, _, _, _, _, _, _]) dL_arePlacesSo_176 (Nat.le_of_ble_eq_true rfl) rfl ?_
  refine g_iload_n E dL_arePlacesSo_178 rfl rfl ?_
  refine g_if_eq_f E dL_arePlacesSo_179 (tgt := 246) (by decide) (by omega) (by omega) ?_
  refine g_aload_n E dL_arePlacesSo_182 rfl rfl ?_
  refine g_callIW E [0, 1] rfl (wr := []) zX_inside (cwV 0 hts gL_arePlacesSo_X0_inside rfl rfl rfl hdL_X0_inside ⟨(Nat.le_of_ble_eq_true rfl), (Nat.le_of_ble_eq_true rfl)⟩) rfl rfl rfl (Nat.le_of_ble_eq_true rfl) rfl rfl dL_arePlacesSo_183 (by decide) ?_
  refine g_iload_n E dL_arePlacesSo_186 rfl rfl ?_
  refine g_icmp_ne_f E dL_arePlacesSo_187 (tgt := 246) (by decide) (by omega) (by omega) ?_
  refine g_aload_n E dL_arePlacesSo_190 rfl rfl ?_
  refine g_callIW E [0, 1] rfl (wr := []) zX_trapped (cwV 0 hts gL_arePlacesSo_X0_trapped rfl rfl rfl hdL_X0_trapped ⟨(Nat.le_of_ble_eq_true rfl), (Nat.le_of_ble_eq_true rfl)⟩) rfl rfl rfl (Nat.le_of_ble_eq_true rfl) rfl rfl dL_arePlacesSo_191 (by decide) ?_
  refine g_iload_n E dL_arePlacesSo_194 rfl rfl ?_
  refine g_icmp_ne_f E dL_arePlacesSo_195 (tgt := 246) (by decide) (by omega) (by omega) ?_
  refine g_iload E dL_arePlacesSo_198 rfl ?_
  refine g_if_ge_t E dL_arePlacesSo_200 (tgt := 207) (by decide) (by omega) (by omega) ?_
  refine g_iconst E dL_arePlacesSo_207 ?_
  refine g_iload_n E dL_arePlacesSo_208 rfl rfl ?_
  refine g_if_le_t E dL_arePlacesSo_209 (tgt := 216) (by decide) (by omega) (by omega) ?_
  refine g_iconst E dL_arePlacesSo_216 ?_
  refine g_icmp_ne_f E dL_arePlacesSo_217 (tgt := 246) (by decide) (by omega) (by omega) ?_
  refine g_iload E dL_arePlacesSo_220 rfl ?_
  refine g_if_ne_f E dL_arePlacesSo_222 (tgt := 229) (by decide) (by omega) (by omega) ?_
  refine g_iconst E dL_arePlacesSo_225 ?_
  refine g_goto E dL_arePlacesSo_226 (tgt := 230) (by decide) ?_
  refine g_iload_n E dL_arePlacesSo_230 rfl rfl ?_
  refine g_if_ne_f E dL_arePlacesSo_231 (tgt := 238) (by decide) (by omega) (by omega) ?_
  refine g_iconst E dL_arePlacesSo_234 ?_
  refine g_goto E dL_arePlacesSo_235 (tgt := 239) (by decide) ?_
  refine g_icmp_ne_f E dL_arePlacesSo_239 (tgt := 246) (by decide) (by omega) (by omega) ?_
  refine g_iconst E dL_arePlacesSo_242 ?_
  refine g_goto E dL_arePlacesSo_243 (tgt := 247) (by decide) ?_
  exact hret _ _ _ (C.mono (by omega)) dL_arePlacesSo_247
end
section
set_option maxHeartbeats 4000000 in
set_option maxRecDepth 100000 in
theorem zL_isStepSo {l : Launch} {D : va_G} {cI cZ cL : ClassId} {q x : Nat} {r : Nat → Nat} {t : Int} (ht : 0 ≤ t ∧ t ≤ 1000) : gMN l yL_isStepSo wsL_isStepSo (rK 10 0) 0 D (gTyL cI cZ cL) (gO cL x (fun _ => 0) :: zX cI cZ q r t) [.ref q, .ref x] 1 (gO cL x (fun _ => 0) :: zX cI cZ q r (t + 1)) := by
  refine g_ofN (ty := .boolean) (by decide +kernel) rfl rfl (Nat.le_of_ble_eq_true rfl) (g_cat1 rfl) (g_narZ (Or.inr rfl)) ?_
  intro p e s m args below meth c Q A0 E C hret
  have hts := E.1.2.2.2.2
  show gJ p l e (rK 10 0) s m args below meth c 0 0 Q A0 D (gO cL x (fun _ => 0) :: zX cI cZ q r t) [some (.ref q), some (.ref x), none, none, none, none, none, none, none, none, none, none] 0 []
  refine g_aload_n E dL_isStepSo_0 rfl rfl ?_
  refine g_callIW E [0, 1] rfl (wr := [gO cL x (fun _ => 0)]) zX_inside (cwV 0 hts gL_isStepSo_X0_inside rfl rfl rfl hdL_X0_inside ⟨(Nat.le_of_ble_eq_true rfl), (Nat.le_of_ble_eq_true rfl)⟩) rfl rfl rfl (Nat.le_of_ble_eq_true rfl) rfl rfl dL_isStepSo_1 (by decide) ?_
  refine g_aload_n E dL_isStepSo_4 rfl rfl ?_
  refine g_iconst E dL_isStepSo_5 ?_
  refine g_callIW E [0, 1] rfl (wr := [gO cL x (fun _ => 0)]) zX_people (cwV 1 hts gL_isStepSo_X0_people rfl rfl rfl hdL_X0_people ⟨(Nat.le_of_ble_eq_true rfl), (Nat.le_of_ble_eq_true rfl)⟩) rfl rfl rfl (Nat.le_of_ble_eq_true rfl) rfl rfl dL_isStepSo_6 (by decide) ?_
  refine g_iadd E dL_isStepSo_9 ?_
  refine g_istore_n E (lv' := [_, _, _, _, _, _, _, _, _, _, _, _]) dL_isStepSo_10 rfl (Nat.le_of_ble_eq_true rfl) rfl ?_
  refine g_iconst E dL_isStepSo_11 ?_
  refine g_istore_n E (lv' := [_, _, _, _, _, _, _, _, _, _, _, _]) dL_isStepSo_12 rfl (Nat.le_of_ble_eq_true rfl) rfl ?_
  refine g_iconst E dL_isStepSo_13 ?_
  refine g_istore E (lv' := [_, _, _, _, _, _, _, _, _, _, _, _]) dL_isStepSo_14 (Nat.le_of_ble_eq_true rfl) rfl ?_
  refine g_iload E dL_isStepSo_16 rfl ?_
  refine g_aload_n E dL_isStepSo_18 rfl rfl ?_
  refine g_callIW E [0, 1] rfl (wr := [gO cL x (fun _ => 0)]) zX_places (cwV 0 hts gL_isStepSo_X0_places rfl rfl rfl hdL_X0_places ⟨(Nat.le_of_ble_eq_true rfl), (Nat.le_of_ble_eq_true rfl)⟩) rfl rfl rfl (Nat.le_of_ble_eq_true rfl) rfl rfl dL_isStepSo_19 (by decide) ?_
  refine g_icmp_ge_f E dL_isStepSo_22 (tgt := 65) (by decide) (by omega) (by omega) ?_
  refine g_aload_n E dL_isStepSo_25 rfl rfl ?_
  refine g_iload E dL_isStepSo_26 rfl ?_
  refine g_aload_n E dL_isStepSo_28 rfl rfl ?_
  refine g_iload E dL_isStepSo_29 rfl ?_
  refine g_callIW E [0, 1] rfl (wr := [gO cL x (fun _ => 0)]) zX_people (cwV 1 hts gL_isStepSo_X0_people rfl rfl rfl hdL_X0_people ⟨(Nat.le_of_ble_eq_true rfl), (Nat.le_of_ble_eq_true rfl)⟩) rfl rfl rfl (Nat.le_of_ble_eq_true rfl) rfl rfl dL_isStepSo_31 (by decide) ?_
  refine g_i2l E dL_isStepSo_34 ?_
  refine g_last0 E (by omega) dL_isStepSo_35 ?_
  refine g_aload_n E dL_isStepSo_36 rfl rfl ?_
  refine g_bipush E dL_isStepSo_37 (by decide) ?_
  refine g_iload E dL_isStepSo_39 rfl ?_
  refine g_iadd E dL_isStepSo_41 ?_
  refine g_aload_n E dL_isStepSo_42 rfl rfl ?_
  refine g_iload E dL_isStepSo_43 rfl ?_
  refine g_callIW E [0, 1] rfl (wr := [gO cL x (fun _ => 0)]) zX_wouldMove (cwV 1 hts gL_isStepSo_X0_wouldMove rfl rfl rfl hdL_X0_wouldMove ⟨(Nat.le_of_ble_eq_true rfl), (Nat.le_of_ble_eq_true rfl)⟩) rfl rfl rfl (Nat.le_of_ble_eq_true rfl) rfl rfl dL_isStepSo_45 (by decide) ?_
  refine g_i2l E dL_isStepSo_48 ?_
  refine g_last0 E (by omega) dL_isStepSo_49 ?_
  refine g_iload_n E dL_isStepSo_50 rfl rfl ?_
  refine g_aload_n E dL_isStepSo_51 rfl rfl ?_
  refine g_iload E dL_isStepSo_52 rfl ?_
  refine g_callIW E [0, 1] rfl (wr := [gO cL x (fun _ => 0)]) zX_wouldMove (cwV 1 hts gL_isStepSo_X0_wouldMove rfl rfl rfl hdL_X0_wouldMove ⟨(Nat.le_of_ble_eq_true rfl), (Nat.le_of_ble_eq_true rfl)⟩) rfl rfl rfl (Nat.le_of_ble_eq_true rfl) rfl rfl dL_isStepSo_54 (by decide) ?_
  refine g_iadd E dL_isStepSo_57 ?_
  refine g_istore_n E (lv' := [_, _, _, _, _, _, _, _, _, _, _, _]) dL_isStepSo_58 rfl (Nat.le_of_ble_eq_true rfl) rfl ?_
  refine g_iinc E (lv' := [_, _, _, _, _, _, _, _, _, _, _, _]) dL_isStepSo_59 rfl rfl ?_
  refine g_goto E dL_isStepSo_62 (tgt := 16) (by decide) ?_
  refine g_iload E dL_isStepSo_16 rfl ?_
  refine g_aload_n E dL_isStepSo_18 rfl rfl ?_
  refine g_callIW E [0, 1] rfl (wr := [gO cL x (fun _ => 0)]) zX_places (cwV 0 hts gL_isStepSo_X0_places rfl rfl rfl hdL_X0_places ⟨(Nat.le_of_ble_eq_true rfl), (Nat.le_of_ble_eq_true rfl)⟩) rfl rfl rfl (Nat.le_of_ble_eq_true rfl) rfl rfl dL_isStepSo_19 (by decide) ?_
  refine g_icmp_ge_t E dL_isStepSo_22 (tgt := 65) (by decide) (by omega) (by omega) ?_
  refine g_iconst E dL_isStepSo_65 ?_
  refine g_istore E (lv' := [_, _, _, _, _, _, _, _, _, _, _, _]) dL_isStepSo_66 (Nat.le_of_ble_eq_true rfl) rfl ?_
  refine g_iload E dL_isStepSo_68 rfl ?_
  refine g_aload_n E dL_isStepSo_70 rfl rfl ?_
  refine g_callIW E [0, 1] rfl (wr := [gO cL x (fun _ => 0)]) zX_doors (cwV 0 hts gL_isStepSo_X0_doors rfl rfl rfl hdL_X0_doors ⟨(Nat.le_of_ble_eq_true rfl), (Nat.le_of_ble_eq_true rfl)⟩) rfl rfl rfl (Nat.le_of_ble_eq_true rfl) rfl rfl dL_isStepSo_71 (by decide) ?_
  refine g_icmp_ge_t E dL_isStepSo_74 (tgt := 97) (by decide) (by omega) (by omega) ?_
  refine g_iconst E dL_isStepSo_97 ?_
  refine g_istore E (lv' := [_, _, _, _, _, _, _, _, _, _, _, _]) dL_isStepSo_98 (Nat.le_of_ble_eq_true rfl) rfl ?_
  refine g_iload E dL_isStepSo_100 rfl ?_
  refine g_aload_n E dL_isStepSo_102 rfl rfl ?_
  refine g_callIW E [0, 1] rfl (wr := [gO cL x (fun _ => 0)]) zX_places (cwV 0 hts gL_isStepSo_X0_places rfl rfl rfl hdL_X0_places ⟨(Nat.le_of_ble_eq_true rfl), (Nat.le_of_ble_eq_true rfl)⟩) rfl rfl rfl (Nat.le_of_ble_eq_true rfl) rfl rfl dL_isStepSo_103 (by decide) ?_
  refine g_icmp_ge_t E dL_isStepSo_106 (tgt := 162) (by decide) (by omega) (by omega) ?_
  refine g_aload_n E dL_isStepSo_162 rfl rfl ?_
  refine g_callIW E [0, 1] rfl (wr := [gO cL x (fun _ => 0)]) zX_waited (cwV 0 hts gL_isStepSo_X0_waited rfl rfl rfl hdL_X0_waited ⟨(Nat.le_of_ble_eq_true rfl), (Nat.le_of_ble_eq_true rfl)⟩) rfl rfl rfl (Nat.le_of_ble_eq_true rfl) rfl rfl dL_isStepSo_163 (by decide) ?_
  refine g_istore E (lv' := [_, _, _, _, _, _, _, _, _, _, _, _]) dL_isStepSo_166 (Nat.le_of_ble_eq_true rfl) rfl ?_
  refine g_aload_n E dL_isStepSo_168 rfl rfl ?_
  refine g_callIW E [0, 1] rfl (wr := [gO cL x (fun _ => 0)]) zX_now (cwV 0 hts gL_isStepSo_X0_now rfl rfl rfl hdL_X0_now ⟨(Nat.le_of_ble_eq_true rfl), (Nat.le_of_ble_eq_true rfl)⟩) rfl rfl rfl (Nat.le_of_ble_eq_true rfl) rfl rfl dL_isStepSo_169 (by decide) ?_
  refine g_istore E (lv' := [_, _, _, _, _, _, _, _, _, _, _, _]) dL_isStepSo_172 (Nat.le_of_ble_eq_true rfl) rfl ?_
  refine g_aload_n E dL_isStepSo_174 rfl rfl ?_
  refine g_iconst E dL_isStepSo_175 ?_
  refine g_callIW E [0, 1] rfl (wr := [gO cL x (fun _ => 0)]) (zX_step ht) (cwV 1 hts gL_isStepSo_X0_step rfl rfl rfl hdL_X0_step ⟨(Nat.le_of_ble_eq_true rfl), (Nat.le_of_ble_eq_true rfl)⟩) rfl rfl rfl (Nat.le_of_ble_eq_true rfl) rfl rfl dL_isStepSo_176 (by decide) ?_
  refine g_istore E (lv' := [_, _, _, _, _, _, _, _, _, _, _, _]) dL_isStepSo_179 (Nat.le_of_ble_eq_true rfl) rfl ?_
  refine g_iconst E dL_isStepSo_181 ?_
  refine g_istore E (lv' := [_, _, _, _, _, _, _, _, _, _, _, _]) dL_isStepSo_182 (Nat.le_of_ble_eq_true rfl) rfl ?_
  refine g_aload_n E dL_isStepSo_184 rfl rfl ?_
  refine g_callIW E [0, 1] rfl (wr := [gO cL x (fun _ => 0)]) zX_inside (cwV 0 hts gL_isStepSo_X0_inside rfl rfl rfl hdL_X0_inside ⟨(Nat.le_of_ble_eq_true rfl), (Nat.le_of_ble_eq_true rfl)⟩) rfl rfl rfl (Nat.le_of_ble_eq_true rfl) rfl rfl dL_isStepSo_185 (by decide) ?_
  refine g_aload_n E dL_isStepSo_188 rfl rfl ?_
  refine g_iconst E dL_isStepSo_189 ?_
  refine g_callIW E [0, 1] rfl (wr := [gO cL x (fun _ => 0)]) zX_people (cwV 1 hts gL_isStepSo_X0_people rfl rfl rfl hdL_X0_people ⟨(Nat.le_of_ble_eq_true rfl), (Nat.le_of_ble_eq_true rfl)⟩) rfl rfl rfl (Nat.le_of_ble_eq_true rfl) rfl rfl dL_isStepSo_190 (by decide) ?_
  refine g_iadd E dL_isStepSo_193 ?_
  refine g_iload_n E dL_isStepSo_194 rfl rfl ?_
  refine g_icmp_ne_f E dL_isStepSo_195 (tgt := 260) (by decide) (by omega) (by omega) ?_
  refine g_aload_n E dL_isStepSo_198 rfl rfl ?_
  refine g_callIW E [0, 1] rfl (wr := [gO cL x (fun _ => 0)]) zX_now (cwV 0 hts gL_isStepSo_X0_now rfl rfl rfl hdL_X0_now ⟨(Nat.le_of_ble_eq_true rfl), (Nat.le_of_ble_eq_true rfl)⟩) rfl rfl rfl (Nat.le_of_ble_eq_true rfl) rfl rfl dL_isStepSo_199 (by decide) ?_
  refine g_iload E dL_isStepSo_202 rfl ?_
  refine g_iconst E dL_isStepSo_204 ?_
  refine g_iadd E dL_isStepSo_205 ?_
  refine g_icmp_ne_f E dL_isStepSo_206 (tgt := 260) (by decide) (by omega) (by omega) ?_
  refine g_aload_n E dL_isStepSo_209 rfl rfl ?_
  refine g_callIW E [0, 1] rfl (wr := [gO cL x (fun _ => 0)]) zX_waited (cwV 0 hts gL_isStepSo_X0_waited rfl rfl rfl hdL_X0_waited ⟨(Nat.le_of_ble_eq_true rfl), (Nat.le_of_ble_eq_true rfl)⟩) rfl rfl rfl (Nat.le_of_ble_eq_true rfl) rfl rfl dL_isStepSo_210 (by decide) ?_
  refine g_iload E dL_isStepSo_213 rfl ?_
  refine g_aload_n E dL_isStepSo_215 rfl rfl ?_
  refine g_callIW E [0, 1] rfl (wr := [gO cL x (fun _ => 0)]) zX_inside (cwV 0 hts gL_isStepSo_X0_inside rfl rfl rfl hdL_X0_inside ⟨(Nat.le_of_ble_eq_true rfl), (Nat.le_of_ble_eq_true rfl)⟩) rfl rfl rfl (Nat.le_of_ble_eq_true rfl) rfl rfl dL_isStepSo_216 (by decide) ?_
  refine g_iadd E dL_isStepSo_219 ?_
  refine g_icmp_ne_f E dL_isStepSo_220 (tgt := 260) (by decide) (by omega) (by omega) ?_
  refine g_iload E dL_isStepSo_223 rfl ?_
  refine g_i2l E dL_isStepSo_225 ?_
  refine g_aload_n E dL_isStepSo_226 rfl rfl ?_
  refine g_iconst E dL_isStepSo_227 ?_
  refine g_callIW E [0, 1] rfl (wr := [gO cL x (fun _ => 0)]) zX_people (cwV 1 hts gL_isStepSo_X0_people rfl rfl rfl hdL_X0_people ⟨(Nat.le_of_ble_eq_true rfl), (Nat.le_of_ble_eq_true rfl)⟩) rfl rfl rfl (Nat.le_of_ble_eq_true rfl) rfl rfl dL_isStepSo_228 (by decide) ?_
  refine g_i2l E dL_isStepSo_231 ?_
  refine g_aload_n E dL_isStepSo_232 rfl rfl ?_
  refine g_iconst E dL_isStepSo_233 ?_
  refine g_lald0 E (by omega) dL_isStepSo_234 ?_
  refine g_lsub0 E dL_isStepSo_235 ?_
  refine g_lcmp0 E rfl dL_isStepSo_236 ?_
  refine g_if_ne_f E dL_isStepSo_237 (tgt := 260) (by decide) (by omega) (by omega) ?_
  refine g_iload E dL_isStepSo_240 rfl ?_
  refine g_if_eq_t E dL_isStepSo_242 (tgt := 256) (by decide) (by omega) (by omega) ?_
  refine g_iconst E dL_isStepSo_256 ?_
  refine g_goto E dL_isStepSo_257 (tgt := 261) (by decide) ?_
  refine g_istore E (lv' := [_, _, _, _, _, _, _, _, _, _, _, _]) dL_isStepSo_261 (Nat.le_of_ble_eq_true rfl) rfl ?_
  refine g_iconst E dL_isStepSo_263 ?_
  refine g_istore E (lv' := [_, _, _, _, _, _, _, _, _, _, _, _]) dL_isStepSo_264 (Nat.le_of_ble_eq_true rfl) rfl ?_
  refine g_iload E dL_isStepSo_266 rfl ?_
  refine g_aload_n E dL_isStepSo_268 rfl rfl ?_
  refine g_callIW E [0, 1] rfl (wr := [gO cL x (fun _ => 0)]) zX_places (cwV 0 hts gL_isStepSo_X0_places rfl rfl rfl hdL_X0_places ⟨(Nat.le_of_ble_eq_true rfl), (Nat.le_of_ble_eq_true rfl)⟩) rfl rfl rfl (Nat.le_of_ble_eq_true rfl) rfl rfl dL_isStepSo_269 (by decide) ?_
  refine g_icmp_ge_t E dL_isStepSo_272 (tgt := 336) (by decide) (by omega) (by omega) ?_
  refine g_iconst E dL_isStepSo_336 ?_
  refine g_istore E (lv' := [_, _, _, _, _, _, _, _, _, _, _, _]) dL_isStepSo_337 (Nat.le_of_ble_eq_true rfl) rfl ?_
  refine g_iload E dL_isStepSo_339 rfl ?_
  refine g_aload_n E dL_isStepSo_341 rfl rfl ?_
  refine g_callIW E [0, 1] rfl (wr := [gO cL x (fun _ => 0)]) zX_doors (cwV 0 hts gL_isStepSo_X0_doors rfl rfl rfl hdL_X0_doors ⟨(Nat.le_of_ble_eq_true rfl), (Nat.le_of_ble_eq_true rfl)⟩) rfl rfl rfl (Nat.le_of_ble_eq_true rfl) rfl rfl dL_isStepSo_342 (by decide) ?_
  refine g_icmp_ge_t E dL_isStepSo_345 (tgt := 384) (by decide) (by omega) (by omega) ?_
  refine g_iload E dL_isStepSo_384 rfl ?_
  refine g_if_eq_f E dL_isStepSo_386 (tgt := 402) (by decide) (by omega) (by omega) ?_
  refine g_iload E dL_isStepSo_389 rfl ?_
  refine g_iload E dL_isStepSo_391 rfl ?_
  refine g_iadd E dL_isStepSo_393 ?_
  refine g_iload_n E dL_isStepSo_394 rfl rfl ?_
  refine g_icmp_ne_f E dL_isStepSo_395 (tgt := 402) (by decide) (by omega) (by omega) ?_
  refine g_iconst E dL_isStepSo_398 ?_
  refine g_goto E dL_isStepSo_399 (tgt := 403) (by decide) ?_
  exact hret _ _ _ C dL_isStepSo_403
end
section
/-! ===== the script: sixty zeros, read and never written ===== -/
section GCE
variable {Hb : Heap} {p : Program} {l : Launch} {e : Env} {R : Room} {s : State} {m : MethodId} {args : Array Value} {below : List Frame} {meth : Method} {c : Code} {cells slots : Nat} {Q : State → Prop} {A0 : Nat → Prop} {D : va_G}
variable {own : String} {cc : ByteArray} {nL : Nat} {Ts : List Cond} {tys : List (ClassId × FieldType)} {ws : va_W} {lv : List (Option Value)} {pc : Nat} {st st0 : List Value}
theorem g_sld (E : hE Hb p s m args c own cc nL Ts D tys A0) {b L : Nat} {xs : Nat → Int32} (hX : va_X b L xs s Hb) (hbl : b < Hb.size) (hbA : ¬ A0 b) {j : Nat} {x : Int} (hdg : decode cc pc = .ok (.iaload, 1)) (hx0 : x = (j : Int)) (hj : j < L ∧ L ≤ 2147483648) (K : hJ Hb p l e R s m args below meth c cells slots Q A0 D ws lv (pc + 1) (.int (iI (xs j).toInt) :: st)) : hJ Hb p l e R s m args below meth c cells slots Q A0 D ws lv pc (.int (iI x) :: .ref b :: st) := by
  subst hx0
  obtain ⟨⟨hx, hb, hml, hown, hts⟩, hK, hA⟩ := E
  intro H locs ls hP hD hS hL
  have hcl : (iI (j : Int)).toNatClampNeg = j := by rw [iI_cl (by omega) (by omega), Int.toNat_natCast]
  refine va_sld hx hb hX hbl hbA hS (iI_in (a := (j : Int)) (n := L) (by omega) (by omega) hj.2) hdg ?_
  rw [hcl, ← iI_of (xs j)]
  exact K H locs ls hP hD hS hL
theorem g_scl (E : hE Hb p s m args c own cc nL Ts D tys A0) {b L : Nat} {xs : Nat → Int32} (hX : va_X b L xs s Hb) (hbl : b < Hb.size) (hbA : ¬ A0 b) (hdg : decode cc pc = .ok (.arraylength, 1)) (K : hJ Hb p l e R s m args below meth c cells slots Q A0 D ws lv (pc + 1) (.int (iI (L : Int)) :: st)) : hJ Hb p l e R s m args below meth c cells slots Q A0 D ws lv pc (.ref b :: st) := by
  obtain ⟨⟨hx, hb, hml, hown, hts⟩, hK, hA⟩ := E
  intro H locs ls hP hD hS hL
  refine va_slen hx hb hX hbl hbA hS hdg ?_
  rw [← iI_nat]
  exact K H locs ls hP hD hS hL
end GCE
def zCell (l : Launch) (D : va_G) (tys : List (ClassId × FieldType)) (b n : Nat) : Prop :=
  ∀ sz : Nat, Met l yL_cell wsL_cell (gR 0) (va_Pc [.ref b, .int (iI (n : Int))] (fun U => gB0 D tys [] sz U ∧ b < sz ∧ va_X b 60 (fun _ => 0) U U.heap)) (va_Qi (fun (r : Int32) (_ : Unit) => r = iI 0) (fun _ t => gB1 D tys (va_A [] sz) [] t) (va_A [] sz)) 0 0 (va_A [] sz)
set_option maxHeartbeats 4000000 in
set_option maxRecDepth 100000 in
theorem zL_cell {l : Launch} {D : va_G} {tys : List (ClassId × FieldType)} {b n : Nat} (hn : n < 60) : zCell l D tys b n := by
  intro sz
  refine Met.ofW (cc := cL_cell) (maxL := 2) (ret := some .int) (by decide +kernel) rfl ?_
  intro p e s m args below meth c s₁ B hml hv
  obtain ⟨rfl, ⟨hsz, hP, hK, hD0⟩, hbs, hX⟩ := hv
  have hts := atoms_spec (ws := wsL_cell) B.pre
  have hown : s.vm.findClass RL = some m.cls := findClass_of_methodNamed (x := yL_cell) B.named
  subst hsz
  have hD := hD0.self (sz := s.heap.size)
  have hl := lv_entry ([.ref b, .int (iI (n : Int))]) (n := 2) (Nat.le_of_ble_eq_true rfl)
  rw [lg_entry_eq]
  have hbA : ¬ va_A [] s.heap.size b := fun h => by
    rcases h with ⟨k, e, h⟩ | h
    · simp at h
    · omega
  have E : gE p s m #[.ref b, .int (iI (n : Int))] c RL cL_cell 2 wsL_cell D tys (va_A [] s.heap.size) := ⟨⟨B.exec, B.bytes, hml, hown, hts⟩, hK, fun q h => Or.inr h⟩
  have main : gJ p l e (gR 0) s m #[.ref b, .int (iI (n : Int))] below meth c 0 0 (MQ below (va_Qi (fun (r : Int32) (_ : Unit) => r = iI 0) (fun _ t => gB1 D tys (va_A [] s.heap.size) [] t) (va_A [] s.heap.size)) #[.ref b, .int (iI (n : Int))] s 0 0 (va_A [] s.heap.size)) (va_A [] s.heap.size) D [] [some (.ref b), some (.int (iI (n : Int)))] 0 [] := by
    refine g_iload_n E dL_cell_0 rfl rfl ?_
    refine g_aload_n E dL_cell_1 rfl rfl ?_
    refine g_scl E hX hbs hbA dL_cell_2 ?_
    refine g_icmp_ge_f E dL_cell_3 (tgt := 12) (by decide) ⟨by omega, by omega⟩ (by omega) ?_
    refine g_aload_n E dL_cell_6 rfl rfl ?_
    refine g_iload_n E dL_cell_7 rfl rfl ?_
    refine g_sld E hX hbs hbA (j := n) dL_cell_8 rfl ⟨hn, by omega⟩ ?_
    refine g_goto E dL_cell_9 (tgt := 27) (by decide) ?_
    intro H locs ls hP9 hD9 hS9 hL9
    exact W.iret (v := iI 0) B.exec B.bytes B.returns (fun t ht hW => ⟨⟨iI 0, (), rfl, rfl, by rw [ht]; exact hP9, va_K.moved hW.alike hK, hD9⟩, hS9.F ht⟩) hS9.2.2 dL_cell_27
  exact main s.heap [] _ hP hD va_S.rf (gL_entry (l := [.ref b, .int (iI (n : Int))]) (n := 2) (Nat.le_of_ble_eq_true rfl) (g_cat1 rfl) hl)
section GCE2
variable {Hb : Heap} {p : Program} {l : Launch} {e : Env} {R : Room} {s : State} {m : MethodId} {args : Array Value} {below : List Frame} {meth : Method} {c : Code} {cells slots : Nat} {Q : State → Prop} {A0 : Nat → Prop} {D : va_G}
variable {own : String} {cc : ByteArray} {nL : Nat} {Ts : List Cond} {tys : List (ClassId × FieldType)} {ws : va_W} {lv : List (Option Value)} {pc : Nat} {st st0 : List Value}
theorem h_callCell (E : hE Hb p s m args c own cc nL Ts D tys A0) {k0 : Nat} (C : hC A0 s Hb k0) {b k index n : Nat} (hX : va_X b 60 (fun _ => 0) s s.heap) (hbl : b < s.heap.size) (hbA : ¬ A0 b)
    (hM : zCell l D tys b k) (cw : CallB R s args own index yL_cell cL_cell 2 (some .int) wsL_cell (gR 0) 0 0 n ∧ (Cond.static yL_cell).before args s = true) (hn : ([.ref b, .int (iI (k : Int))] : List Value).length = n) (hlv : lv.length = nL) (hst : st0 = ([.ref b, .int (iI (k : Int))] : List Value).reverse ++ st) (hcat : (st.map fun v => v.category).sum ≤ 8)
    (hdg : decode cc pc = .ok (.invokestatic index, 3)) (hcs : cells ≤ R.cells ∧ slots ≤ R.slots) (K : hJ Hb p l e R s m args below meth c cells slots Q A0 D ws lv (pc + 3) (.int (iI 0) :: st)) : hJ Hb p l e R s m args below meth c cells slots Q A0 D ws lv pc st0 := by
  obtain ⟨⟨hx, hb, hml, hown, hts⟩, hK, hA⟩ := E
  intro H locs ls hP hD hS hL
  subst hst
  have hP0 : va_P D vwCl [] H := fun k q h => by simp at h
  have hD0 : ∀ A : Nat → Prop, va_D A [] := fun A => ⟨fun i j p q h => by simp at h, fun k q h => by simp at h⟩
  have hFc : ∀ q, va_A [] H.size q → A0 q := fun q h => by
    rcases h with ⟨k, e, h⟩ | h
    · simp at h
    · exact hA q (Nat.le_trans hS.1 h)
  have hbH : b < Hb.size := Nat.lt_of_lt_of_le hbl C.1.1
  have hXH : va_X b 60 (fun _ => 0) s H := (hX.kept (C.1.2.1 b hbl hbA)).kept (hS.2.1 b hbH hbA)
  refine va_calli (va_runS (As := [.ref b, .int (iI (k : Int))]) (rest := st) ⟨hx, hb, hml, hown, hts⟩ (hM H.size) cw ⟨fun a U g mk q => by obtain ⟨q0, ⟨q1, qP, qK, qD⟩, qb, qX⟩ := q; exact ⟨q0, ⟨q1, qP, va_K.moved (u := U) (U := U.calling g mk a) (Vm.Alike.refl U.vm) qK, qD⟩, qb, va_X.moved (u := U) (U := U.calling g mk a) (Vm.Alike.refl U.vm) qX⟩, fun U hU hW => ⟨rfl, ⟨by rw [hU], by rw [hU]; exact hP0, va_K.moved hW.alike hK, hD0 _⟩, Nat.lt_of_lt_of_le hbH hS.1, by rw [hU]; exact va_X.moved hW.alike hXH⟩⟩ rfl hn (hL.1.trans hlv) rfl (lv_room hcat) hdg hcs) hS (fun q _ h => hFc q h) hFc (fun r u t H1 locs1 ht hvm hw hB hz1 hk1 hS1 => ?_)
  rw [hw]
  exact K H1 locs1 ls (hP.kept (fun k q hk => hk1 q.1 (hP k q hk).lt (fun h => by
    rcases h with ⟨k, e, h⟩ | h
    · simp at h
    · exact absurd (hP k q hk).lt (by omega)))) hD hS1 hL
end GCE2
end
section
set_option maxRecDepth 100000 in
theorem hdS_cell : yL_cell.cls ≠ "java/lang/invoke/MethodHandle" ∧ yL_cell.cls ≠ "java/lang/invoke/VarHandle" ∧ (parseMethodDescriptor yL_cell.desc).map (fun d => d.parameters.length) = some 2 := by decide +kernel
set_option maxRecDepth 100000 in
theorem hdS_act : yL_act.cls ≠ "java/lang/invoke/MethodHandle" ∧ yL_act.cls ≠ "java/lang/invoke/VarHandle" ∧ (parseMethodDescriptor yL_act.desc).map (fun d => d.parameters.length) = some 2 := by decide +kernel
set_option maxRecDepth 100000 in
theorem kc_law_16 : Cond.constant RL 16 (iI (-99999)) ∈ wsL_law := by decide +kernel
set_option maxRecDepth 100000 in
theorem hdS_areAlike : yL_areAlike.cls ≠ "java/lang/invoke/MethodHandle" ∧ yL_areAlike.cls ≠ "java/lang/invoke/VarHandle" ∧ (parseMethodDescriptor yL_areAlike.desc).map (fun d => d.parameters.length) = some 2 := by decide +kernel
set_option maxRecDepth 100000 in
theorem hdS_arePlacesSo : yL_arePlacesSo.cls ≠ "java/lang/invoke/MethodHandle" ∧ yL_arePlacesSo.cls ≠ "java/lang/invoke/VarHandle" ∧ (parseMethodDescriptor yL_arePlacesSo.desc).map (fun d => d.parameters.length) = some 1 := by decide +kernel
set_option maxRecDepth 100000 in
theorem hdS_isStepSo : yL_isStepSo.cls ≠ "java/lang/invoke/MethodHandle" ∧ yL_isStepSo.cls ≠ "java/lang/invoke/VarHandle" ∧ (parseMethodDescriptor yL_isStepSo.desc).map (fun d => d.parameters.length) = some 2 := by decide +kernel
set_option maxRecDepth 100000 in
theorem hdL_X0_clear : yX0_clear.cls = RX0 ∧ yX0_clear.cls ≠ "java/lang/invoke/MethodHandle" ∧ yX0_clear.cls ≠ "java/lang/invoke/VarHandle" ∧ (parseMethodDescriptor yX0_clear.desc).map (fun d => d.parameters.length) = some 0 := by decide +kernel
/-! ===== the law's loop on sixty zeros: each round throws four times at least ===== -/
def RB : Room := { frames := 12, cells := 1000, slots := 10000, locals := 442 }
abbrev zV (cI cZ cL : ClassId) (x q q2 : Nat) (r r2 : Nat → Nat) (t t2 : Int) : va_W := gO cL x (fun _ => 0) :: (zX cI cZ q r t ++ zX cI cZ q2 r2 t2)
theorem zp_o {g : Nat × va_E} {o p : va_W} : ((g :: p) ++ o).Perm (g :: (o ++ p)) := (List.perm_append_comm (l₁ := p) (l₂ := o)).cons g
theorem zp_x {g : Nat × va_E} {o p : va_W} : (p ++ (g :: o)).Perm (g :: (o ++ p)) := List.perm_append_comm (l₁ := p) (l₂ := g :: o)
theorem zp_n {g : Nat × va_E} {o p : va_W} : (g :: (o ++ p)).Perm ((o ++ p) ++ [g]) := (List.perm_append_singleton g (o ++ p)).symm
section GLP
variable {p : Program} {l : Launch} {e : Env} {s : State} {m : MethodId} {args : Array Value} {below : List Frame} {meth : Method} {c : Code} {Q : State → Prop} {A0 : Nat → Prop} {D : va_G} {cI cZ cL : ClassId} {b x q q2 : Nat} {r r2 : Nat → Nat}
def zHd (p : Program) (l : Launch) (e : Env) (s : State) (m : MethodId) (args : Array Value) (below : List Frame) (meth : Method) (c : Code) (Q : State → Prop) (A0 : Nat → Prop) (D : va_G) (cI cZ cL : ClassId) (b x q q2 : Nat) (r r2 : Nat → Nat) (n : Nat) (t : Int) : Prop :=
  ∀ (Hb : Heap) (a5 a6 a7 : Option Value), hC A0 s Hb (4 * n) → hE Hb p s m args c RL cL_law 8 wsL_law D (gTyL cI cZ cL) A0 → hJ Hb p l e RB s m args below meth c (31 + 6 * n) (476 + 36 * n) Q A0 D (zV cI cZ cL x q q2 r r2 t t) [some (.ref b), some (.ref q), some (.ref q2), some (.ref x), some (.int (iI (n : Int))), a5, a6, a7] 24 []
set_option maxHeartbeats 4000000 in
set_option maxRecDepth 100000 in
theorem zHd_1 (hfl : l.stackTraces = false) (hX : va_X b 60 (fun _ => 0) s s.heap) (hbl : b < s.heap.size) (hbA : ¬ A0 b) {n : Nat} {t : Int} (hn : n < 60) (ht : 0 ≤ t ∧ t ≤ 900) (h4 : n % 5 ≠ 4) (K : zHd p l e s m args below meth c Q A0 D cI cZ cL b x q q2 r r2 (n + 1) t) : zHd p l e s m args below meth c Q A0 D cI cZ cL b x q q2 r r2 n t := by
  intro Hb a5 a6 a7 C E
  have hts := E.1.2.2.2.2
  have ht0 : 0 ≤ t ∧ t ≤ 1000 := ⟨ht.1, by omega⟩
  replace ht := ht0
  refine g_iload E dL_law_24 rfl ?_
  refine g_bipush E dL_law_26 (by decide) ?_
  refine g_icmp_ge_f E dL_law_28 (tgt := 126) (by decide) ⟨by omega, by omega⟩ (by omega) ?_
  refine g_aload_n E dL_law_31 rfl rfl ?_
  refine g_iload E dL_law_32 rfl ?_
  refine h_callCell E C hX hbl hbA (k := n) (zL_cell hn) (va_cwS 2 hts gL_law_L_cell rfl rfl rfl hdS_cell ⟨(Nat.le_of_ble_eq_true rfl), (Nat.le_of_ble_eq_true rfl)⟩) rfl rfl rfl (Nat.le_of_ble_eq_true rfl) dL_law_34 (by refine ⟨?_, ?_⟩ <;> simp only [rK, RB] <;> omega) ?_
  refine g_istore E (lv' := [_, _, _, _, _, _, _, _]) dL_law_37 (Nat.le_of_ble_eq_true rfl) rfl ?_
  refine g_aload_n E dL_law_39 rfl rfl ?_
  refine g_iload E dL_law_40 rfl ?_
  refine h_perm (zp_o (g := gO cL x (fun _ => 0)) (o := (zX cI cZ q r t)) (p := (zX cI cZ q2 r2 t))) ?_
  refine h_callN E C (wr := (gO cL x (fun _ => 0) :: (zX cI cZ q2 r2 t))) (zL_act hfl) (va_cwS 2 hts gL_law_L_act rfl rfl rfl hdS_act ⟨(Nat.le_of_ble_eq_true rfl), (Nat.le_of_ble_eq_true rfl)⟩) rfl rfl rfl (Nat.le_of_ble_eq_true rfl) dL_law_42 (by refine ⟨?_, ?_⟩ <;> simp only [rK, RB] <;> omega) (fun Hb' C E => ?_)
  refine h_perm (zp_o (g := gO cL x (fun _ => 0)) (o := (zX cI cZ q r t)) (p := (zX cI cZ q2 r2 t))).symm ?_
  refine g_istore E (lv' := [_, _, _, _, _, _, _, _]) dL_law_45 (Nat.le_of_ble_eq_true rfl) rfl ?_
  refine g_iload E dL_law_47 rfl ?_
  refine g_ldcI E kc_law_16 dL_law_49 ?_
  refine g_icmp_eq_t E dL_law_51 (tgt := 65) (by decide) (by omega) (by omega) ?_
  refine g_aload_n E dL_law_65 rfl rfl ?_
  refine g_aload_n E dL_law_66 rfl rfl ?_
  refine h_callN E C (wr := [gO cL x (fun _ => 0)]) (zL_areAlike hfl ht) (va_cwS 2 hts gL_law_L_areAlike rfl rfl rfl hdS_areAlike ⟨(Nat.le_of_ble_eq_true rfl), (Nat.le_of_ble_eq_true rfl)⟩) rfl rfl rfl (Nat.le_of_ble_eq_true rfl) dL_law_67 (by refine ⟨?_, ?_⟩ <;> simp only [rK, RB] <;> omega) (fun Hb' C E => ?_)
  refine g_if_eq_f E dL_law_70 (tgt := 80) (by decide) (by omega) (by omega) ?_
  refine g_aload_n E dL_law_73 rfl rfl ?_
  refine h_perm (zp_o (g := gO cL x (fun _ => 0)) (o := (zX cI cZ q r t)) (p := (zX cI cZ q2 r2 t))) ?_
  refine h_callN E C (wr := (gO cL x (fun _ => 0) :: (zX cI cZ q2 r2 t))) (zL_arePlacesSo hfl) (va_cwS 1 hts gL_law_L_arePlacesSo rfl rfl rfl hdS_arePlacesSo ⟨(Nat.le_of_ble_eq_true rfl), (Nat.le_of_ble_eq_true rfl)⟩) rfl rfl rfl (Nat.le_of_ble_eq_true rfl) dL_law_74 (by refine ⟨?_, ?_⟩ <;> simp only [rK, RB] <;> omega) (fun Hb' C E => ?_)
  refine h_perm (zp_o (g := gO cL x (fun _ => 0)) (o := (zX cI cZ q r t)) (p := (zX cI cZ q2 r2 t))).symm ?_
  refine g_if_ne_t E dL_law_77 (tgt := 82) (by decide) (by omega) (by omega) ?_
  refine g_iload E dL_law_82 rfl ?_
  refine g_iconst E dL_law_84 ?_
  refine g_irem E dL_law_85 ⟨by omega, by omega, by omega, by omega⟩ ?_
  refine g_iconst E dL_law_86 ?_
  refine g_icmp_ne_t E dL_law_87 (tgt := 120) (by decide) ⟨by omega, by omega⟩ (by omega) ?_
  refine g_iinc E (lv' := [_, _, _, _, some (.int (iI ((n + 1 : Nat) : Int))), _, _, _]) dL_law_120 rfl rfl ?_
  refine g_goto E dL_law_123 (tgt := 24) (by decide) ?_
  refine h_wid (k := 31 + 6 * (n + 1)) (n := 476 + 36 * (n + 1)) (by simp only [rK]; omega) (by simp only [rK]; omega) ?_
  exact K _ _ _ _ (C.mono (by omega)) E
set_option maxHeartbeats 4000000 in
set_option maxRecDepth 100000 in
theorem zHd_4 (hfl : l.stackTraces = false) (hX : va_X b 60 (fun _ => 0) s s.heap) (hbl : b < s.heap.size) (hbA : ¬ A0 b) {n : Nat} {t : Int} (hn : n < 60) (ht : 0 ≤ t ∧ t ≤ 900) (h4 : n % 5 = 4) (K : zHd p l e s m args below meth c Q A0 D cI cZ cL b x q q2 r r2 (n + 1) (t + 1)) : zHd p l e s m args below meth c Q A0 D cI cZ cL b x q q2 r r2 n t := by
  intro Hb a5 a6 a7 C E
  have hts := E.1.2.2.2.2
  have ht1 : 0 ≤ t + 1 ∧ t + 1 ≤ 1000 := ⟨by omega, by omega⟩
  replace ht : 0 ≤ t ∧ t ≤ 1000 := ⟨ht.1, by omega⟩
  refine g_iload E dL_law_24 rfl ?_
  refine g_bipush E dL_law_26 (by decide) ?_
  refine g_icmp_ge_f E dL_law_28 (tgt := 126) (by decide) ⟨by omega, by omega⟩ (by omega) ?_
  refine g_aload_n E dL_law_31 rfl rfl ?_
  refine g_iload E dL_law_32 rfl ?_
  refine h_callCell E C hX hbl hbA (k := n) (zL_cell hn) (va_cwS 2 hts gL_law_L_cell rfl rfl rfl hdS_cell ⟨(Nat.le_of_ble_eq_true rfl), (Nat.le_of_ble_eq_true rfl)⟩) rfl rfl rfl (Nat.le_of_ble_eq_true rfl) dL_law_34 (by refine ⟨?_, ?_⟩ <;> simp only [rK, RB] <;> omega) ?_
  refine g_istore E (lv' := [_, _, _, _, _, _, _, _]) dL_law_37 (Nat.le_of_ble_eq_true rfl) rfl ?_
  refine g_aload_n E dL_law_39 rfl rfl ?_
  refine g_iload E dL_law_40 rfl ?_
  refine h_perm (zp_o (g := gO cL x (fun _ => 0)) (o := (zX cI cZ q r t)) (p := (zX cI cZ q2 r2 t))) ?_
  refine h_callN E C (wr := (gO cL x (fun _ => 0) :: (zX cI cZ q2 r2 t))) (zL_act hfl) (va_cwS 2 hts gL_law_L_act rfl rfl rfl hdS_act ⟨(Nat.le_of_ble_eq_true rfl), (Nat.le_of_ble_eq_true rfl)⟩) rfl rfl rfl (Nat.le_of_ble_eq_true rfl) dL_law_42 (by refine ⟨?_, ?_⟩ <;> simp only [rK, RB] <;> omega) (fun Hb' C E => ?_)
  refine h_perm (zp_o (g := gO cL x (fun _ => 0)) (o := (zX cI cZ q r t)) (p := (zX cI cZ q2 r2 t))).symm ?_
  refine g_istore E (lv' := [_, _, _, _, _, _, _, _]) dL_law_45 (Nat.le_of_ble_eq_true rfl) rfl ?_
  refine g_iload E dL_law_47 rfl ?_
  refine g_ldcI E kc_law_16 dL_law_49 ?_
  refine g_icmp_eq_t E dL_law_51 (tgt := 65) (by decide) (by omega) (by omega) ?_
  refine g_aload_n E dL_law_65 rfl rfl ?_
  refine g_aload_n E dL_law_66 rfl rfl ?_
  refine h_callN E C (wr := [gO cL x (fun _ => 0)]) (zL_areAlike hfl ht) (va_cwS 2 hts gL_law_L_areAlike rfl rfl rfl hdS_areAlike ⟨(Nat.le_of_ble_eq_true rfl), (Nat.le_of_ble_eq_true rfl)⟩) rfl rfl rfl (Nat.le_of_ble_eq_true rfl) dL_law_67 (by refine ⟨?_, ?_⟩ <;> simp only [rK, RB] <;> omega) (fun Hb' C E => ?_)
  refine g_if_eq_f E dL_law_70 (tgt := 80) (by decide) (by omega) (by omega) ?_
  refine g_aload_n E dL_law_73 rfl rfl ?_
  refine h_perm (zp_o (g := gO cL x (fun _ => 0)) (o := (zX cI cZ q r t)) (p := (zX cI cZ q2 r2 t))) ?_
  refine h_callN E C (wr := (gO cL x (fun _ => 0) :: (zX cI cZ q2 r2 t))) (zL_arePlacesSo hfl) (va_cwS 1 hts gL_law_L_arePlacesSo rfl rfl rfl hdS_arePlacesSo ⟨(Nat.le_of_ble_eq_true rfl), (Nat.le_of_ble_eq_true rfl)⟩) rfl rfl rfl (Nat.le_of_ble_eq_true rfl) dL_law_74 (by refine ⟨?_, ?_⟩ <;> simp only [rK, RB] <;> omega) (fun Hb' C E => ?_)
  refine h_perm (zp_o (g := gO cL x (fun _ => 0)) (o := (zX cI cZ q r t)) (p := (zX cI cZ q2 r2 t))).symm ?_
  refine g_if_ne_t E dL_law_77 (tgt := 82) (by decide) (by omega) (by omega) ?_
  refine g_iload E dL_law_82 rfl ?_
  refine g_iconst E dL_law_84 ?_
  refine g_irem E dL_law_85 ⟨by omega, by omega, by omega, by omega⟩ ?_
  refine g_iconst E dL_law_86 ?_
  refine g_icmp_ne_f E dL_law_87 (tgt := 120) (by decide) ⟨by omega, by omega⟩ (by omega) ?_
  refine g_aload_n E dL_law_90 rfl rfl ?_
  refine g_iconst E dL_law_91 ?_
  refine g_callIW E [0, 1] rfl (wr := (gO cL x (fun _ => 0) :: (zX cI cZ q r t))) (zX_step ht) (cwV 1 hts gL_law_X0_step rfl rfl rfl hdL_X0_step ⟨(Nat.le_of_ble_eq_true rfl), (Nat.le_of_ble_eq_true rfl)⟩) rfl rfl rfl (Nat.le_of_ble_eq_true rfl) rfl rfl dL_law_92 (by refine ⟨?_, ?_⟩ <;> simp only [rK, RB] <;> omega) ?_
  refine g_istore E (lv' := [_, _, _, _, _, _, _, _]) dL_law_95 (Nat.le_of_ble_eq_true rfl) rfl ?_
  refine g_aload_n E dL_law_97 rfl rfl ?_
  refine g_aload_n E dL_law_98 rfl rfl ?_
  refine h_perm zp_x ?_
  refine h_callN E C (wr := (zX cI cZ q2 r2 (t + 1))) (zL_isStepSo ht) (va_cwS 2 hts gL_law_L_isStepSo rfl rfl rfl hdS_isStepSo ⟨(Nat.le_of_ble_eq_true rfl), (Nat.le_of_ble_eq_true rfl)⟩) rfl rfl rfl (Nat.le_of_ble_eq_true rfl) dL_law_99 (by refine ⟨?_, ?_⟩ <;> simp only [rK, RB] <;> omega) (fun Hb' C E => ?_)
  refine h_perm zp_x.symm ?_
  refine g_if_eq_f E dL_law_102 (tgt := 118) (by decide) (by omega) (by omega) ?_
  refine g_aload_n E dL_law_105 rfl rfl ?_
  refine g_aload_n E dL_law_106 rfl rfl ?_
  refine h_callN E C (wr := [gO cL x (fun _ => 0)]) (zL_areAlike hfl (t := t + 1) ht1) (va_cwS 2 hts gL_law_L_areAlike rfl rfl rfl hdS_areAlike ⟨(Nat.le_of_ble_eq_true rfl), (Nat.le_of_ble_eq_true rfl)⟩) rfl rfl rfl (Nat.le_of_ble_eq_true rfl) dL_law_107 (by refine ⟨?_, ?_⟩ <;> simp only [rK, RB] <;> omega) (fun Hb' C E => ?_)
  refine g_if_eq_f E dL_law_110 (tgt := 118) (by decide) (by omega) (by omega) ?_
  refine g_iload E dL_law_113 rfl ?_
  refine g_if_ge_t E dL_law_115 (tgt := 120) (by decide) (by omega) (by omega) ?_
  refine g_iinc E (lv' := [_, _, _, _, some (.int (iI ((n + 1 : Nat) : Int))), _, _, _]) dL_law_120 rfl rfl ?_
  refine g_goto E dL_law_123 (tgt := 24) (by decide) ?_
  refine h_wid (k := 31 + 6 * (n + 1)) (n := 476 + 36 * (n + 1)) (by simp only [rK]; omega) (by simp only [rK]; omega) ?_
  exact K _ _ _ _ (C.mono (by omega)) E
set_option maxHeartbeats 4000000 in
set_option maxRecDepth 100000 in
theorem zHd_60 (hfl : l.stackTraces = false) {t : Int} (ht : 0 ≤ t ∧ t ≤ 1000) (hret : ∀ (Hb : Heap) (W1 : va_W) (lv : List (Option Value)), hC A0 s Hb 141 → hJ Hb p l e RB s m args below meth c 1000 10000 Q A0 D W1 lv 203 [.int (iI 1)]) : zHd p l e s m args below meth c Q A0 D cI cZ cL b x q q2 r r2 60 t := by
  intro Hb a5 a6 a7 C E
  have hts := E.1.2.2.2.2
  refine g_iload E dL_law_24 rfl ?_
  refine g_bipush E dL_law_26 (by decide) ?_
  refine g_icmp_ge_t E dL_law_28 (tgt := 126) (by decide) ⟨by omega, by omega⟩ (by omega) ?_
  refine g_aload_n E dL_law_126 rfl rfl ?_
  refine h_perm (zp_o (g := gO cL x (fun _ => 0)) (o := (zX cI cZ q r t)) (p := (zX cI cZ q2 r2 t))) ?_
  refine g_callIW E [0, 1] rfl (wr := (gO cL x (fun _ => 0) :: (zX cI cZ q2 r2 t))) zX_inside (cwV 0 hts gL_law_X0_inside rfl rfl rfl hdL_X0_inside ⟨(Nat.le_of_ble_eq_true rfl), (Nat.le_of_ble_eq_true rfl)⟩) rfl rfl rfl (Nat.le_of_ble_eq_true rfl) rfl rfl dL_law_127 (by refine ⟨?_, ?_⟩ <;> simp only [rK, RB] <;> omega) ?_
  refine h_perm (zp_o (g := gO cL x (fun _ => 0)) (o := (zX cI cZ q r t)) (p := (zX cI cZ q2 r2 t))).symm ?_
  refine g_istore E (lv' := [_, _, _, _, _, _, _, _]) dL_law_130 (Nat.le_of_ble_eq_true rfl) rfl ?_
  refine g_aload_n E dL_law_132 rfl rfl ?_
  refine h_perm (zp_o (g := gO cL x (fun _ => 0)) (o := (zX cI cZ q r t)) (p := (zX cI cZ q2 r2 t))) ?_
  refine h_callNW E C (wr := (gO cL x (fun _ => 0) :: (zX cI cZ q2 r2 t))) wL_bound (vx_cwSW 1 hts gL_law_L_bound rfl rfl rfl hdS_bound ⟨(Nat.le_of_ble_eq_true rfl), (Nat.le_of_ble_eq_true rfl)⟩) rfl rfl rfl (Nat.le_of_ble_eq_true rfl) dL_law_133 (by refine ⟨?_, ?_⟩ <;> simp only [rK, RB] <;> omega) (fun Hb' C E => ?_)
  refine h_perm (zp_o (g := gO cL x (fun _ => 0)) (o := (zX cI cZ q r t)) (p := (zX cI cZ q2 r2 t))).symm ?_
  refine g_istore E (lv' := [_, _, _, _, _, _, _, _]) dL_law_136 (Nat.le_of_ble_eq_true rfl) rfl ?_
  refine g_aload_n E dL_law_138 rfl rfl ?_
  refine h_perm (zp_o (g := gO cL x (fun _ => 0)) (o := (zX cI cZ q r t)) (p := (zX cI cZ q2 r2 t))) ?_
  refine g_callIW E [0, 1] rfl (wr := (gO cL x (fun _ => 0) :: (zX cI cZ q2 r2 t))) (zX_clear ht) (cwV 0 hts gL_law_X0_clear rfl rfl rfl hdL_X0_clear ⟨(Nat.le_of_ble_eq_true rfl), (Nat.le_of_ble_eq_true rfl)⟩) rfl rfl rfl (Nat.le_of_ble_eq_true rfl) rfl rfl dL_law_139 (by refine ⟨?_, ?_⟩ <;> simp only [rK, RB] <;> omega) ?_
  refine h_perm (zp_o (g := gO cL x (fun _ => 0)) (o := (zX cI cZ q r t)) (p := (zX cI cZ q2 r2 t))).symm ?_
  refine g_istore E (lv' := [_, _, _, _, _, _, _, _]) dL_law_142 (Nat.le_of_ble_eq_true rfl) rfl ?_
  refine g_iload E dL_law_144 rfl ?_
  refine g_sipush E dL_law_146 (by decide) ?_
  refine g_icmp_gt_f E dL_law_149 (tgt := 202) (by decide) (by omega) (by omega) ?_
  refine g_iload E dL_law_152 rfl ?_
  refine g_aload_n E dL_law_154 rfl rfl ?_
  refine g_callIW E [0, 1] rfl (wr := (gO cL x (fun _ => 0) :: (zX cI cZ q r t))) (zX_clear ht) (cwV 0 hts gL_law_X0_clear rfl rfl rfl hdL_X0_clear ⟨(Nat.le_of_ble_eq_true rfl), (Nat.le_of_ble_eq_true rfl)⟩) rfl rfl rfl (Nat.le_of_ble_eq_true rfl) rfl rfl dL_law_155 (by refine ⟨?_, ?_⟩ <;> simp only [rK, RB] <;> omega) ?_
  refine g_icmp_ne_f E dL_law_158 (tgt := 202) (by decide) (by omega) (by omega) ?_
  refine g_aload_n E dL_law_161 rfl rfl ?_
  refine g_aload_n E dL_law_162 rfl rfl ?_
  refine h_callN E C (wr := [gO cL x (fun _ => 0)]) (zL_areAlike hfl ht) (va_cwS 2 hts gL_law_L_areAlike rfl rfl rfl hdS_areAlike ⟨(Nat.le_of_ble_eq_true rfl), (Nat.le_of_ble_eq_true rfl)⟩) rfl rfl rfl (Nat.le_of_ble_eq_true rfl) dL_law_163 (by refine ⟨?_, ?_⟩ <;> simp only [rK, RB] <;> omega) (fun Hb' C E => ?_)
  refine g_if_eq_f E dL_law_166 (tgt := 202) (by decide) (by omega) (by omega) ?_
  refine g_iload E dL_law_169 rfl ?_
  refine g_if_gt_f E dL_law_171 (tgt := 179) (by decide) (by omega) (by omega) ?_
  refine g_iload E dL_law_174 rfl ?_
  refine g_if_ne_f E dL_law_176 (tgt := 202) (by decide) (by omega) (by omega) ?_
  refine g_iload E dL_law_179 rfl ?_
  refine g_if_lt_f E dL_law_181 (tgt := 198) (by decide) (by omega) (by omega) ?_
  refine g_aload_n E dL_law_184 rfl rfl ?_
  refine h_perm (zp_o (g := gO cL x (fun _ => 0)) (o := (zX cI cZ q r t)) (p := (zX cI cZ q2 r2 t))) ?_
  refine g_callIW E [0, 1] rfl (wr := (gO cL x (fun _ => 0) :: (zX cI cZ q2 r2 t))) zX_inside (cwV 0 hts gL_law_X0_inside rfl rfl rfl hdL_X0_inside ⟨(Nat.le_of_ble_eq_true rfl), (Nat.le_of_ble_eq_true rfl)⟩) rfl rfl rfl (Nat.le_of_ble_eq_true rfl) rfl rfl dL_law_185 (by refine ⟨?_, ?_⟩ <;> simp only [rK, RB] <;> omega) ?_
  refine h_perm (zp_o (g := gO cL x (fun _ => 0)) (o := (zX cI cZ q r t)) (p := (zX cI cZ q2 r2 t))).symm ?_
  refine g_if_gt_f E dL_law_188 (tgt := 198) (by decide) (by omega) (by omega) ?_
  refine g_iload E dL_law_191 rfl ?_
  refine g_iload E dL_law_193 rfl ?_
  refine g_icmp_lt_f E dL_law_195 (tgt := 202) (by decide) (by omega) (by omega) ?_
  refine g_iconst E dL_law_198 ?_
  refine g_goto E dL_law_199 (tgt := 203) (by decide) ?_
  refine h_wid (k := 1000) (n := 10000) (by simp only [rK]; omega) (by simp only [rK]; omega) ?_
  exact hret _ _ _ (C.mono (by omega))
theorem zHd_all (hfl : l.stackTraces = false) (hX : va_X b 60 (fun _ => 0) s s.heap) (hbl : b < s.heap.size) (hbA : ¬ A0 b) (hret : ∀ (Hb : Heap) (W1 : va_W) (lv : List (Option Value)), hC A0 s Hb 141 → hJ Hb p l e RB s m args below meth c 1000 10000 Q A0 D W1 lv 203 [.int (iI 1)]) : zHd p l e s m args below meth c Q A0 D cI cZ cL b x q q2 r r2 0 0 := by
  have h := g_loop (fun n => zHd p l e s m args below meth c Q A0 D cI cZ cL b x q q2 r r2 n ((n / 5 : Nat) : Int)) 60 (zHd_60 hfl (by omega) hret) (fun n hn K => ?_) 0 (by omega)
  · exact h
  · by_cases h4 : n % 5 = 4
    · refine zHd_4 hfl hX hbl hbA hn (by omega) h4 ?_
      have h5 : (((n + 1) / 5 : Nat) : Int) = ((n / 5 : Nat) : Int) + 1 := by omega
      rw [← h5]
      exact K
    · refine zHd_1 hfl hX hbl hbA hn (by omega) h4 ?_
      have h5 : (n + 1) / 5 = n / 5 := by omega
      rw [h5] at K
      exact K
end GLP
end
section
/-! ===== from the law's entry: on a script of sixty zeros the heap grows by 141 cells at least ===== -/
theorem uX0_in : ∀ w ∈ u_ws RX0 TX0 19, w ∈ lw_tbl := by decide +kernel
theorem fs0_ok : ∀ j, j < 19 → defaultValue (tyX0 j) = vp_V [.int (iI 0), .null, .null, .null, .null, .null, .int (iI 0), .null, .null, .null, .null, .null, .null, .null, .null, .null, .int (iI 0), .int (iI 0), .int (iI 0)] j := fun j hj => by
  rcases (show j = 0 ∨ j = 1 ∨ j = 2 ∨ j = 3 ∨ j = 4 ∨ j = 5 ∨ j = 6 ∨ j = 7 ∨ j = 8 ∨ j = 9 ∨ j = 10 ∨ j = 11 ∨ j = 12 ∨ j = 13 ∨ j = 14 ∨ j = 15 ∨ j = 16 ∨ j = 17 ∨ j = 18 by omega) with rfl | rfl | rfl | rfl | rfl | rfl | rfl | rfl | rfl | rfl | rfl | rfl | rfl | rfl | rfl | rfl | rfl | rfl | rfl <;> rfl
theorem hdI_X0 : yX0_init.cls ≠ "java/lang/invoke/MethodHandle" ∧ yX0_init.cls ≠ "java/lang/invoke/VarHandle" ∧ (parseMethodDescriptor yX0_init.desc).map (fun d => d.parameters.length) = some 0 := by decide +kernel
theorem wI_1 : Cond.classLink RL 9 RX0 ∈ lw_tbl ∧ Cond.instantiable RX0 19 ∈ lw_tbl ∧ Cond.initialized RX0 ∈ lw_tbl ∧ Cond.methodLink RL 111 yX0_init ∈ lw_tbl ∧ Cond.instanceMethod yX0_init ∈ lw_tbl := by decide +kernel
theorem wI_3 : Cond.arrayClass .int ∈ lw_tbl ∧ Cond.arrayClass .boolean ∈ lw_tbl ∧ Cond.arrayClass .long ∈ lw_tbl := by decide +kernel
set_option maxHeartbeats 4000000 in
set_option maxRecDepth 100000 in
theorem zStart {p : Program} {e : Env} {s : State} {m : MethodId} {below : List Frame} {meth : Method} {c : Code} (l : Launch) (hflags : l.flags = flags0) {b : Nat} (hx : p.tables.exec = Jvm.exec) (hb : c.code = code) (hr : meth.sig.returnType = ret) (hml : c.maxLocals = 8) (hown : s.vm.findClass RL = some m.cls) (hts : ∀ w ∈ lw_tbl, w.before #[Value.ref b] s = true) (hX : va_X b 60 (fun _ => 0) s s.heap) (hbl : b < s.heap.size) (hlocks : meth.locks = false) (hgv : (Jvm.Cond.and given_1 narrow_1).before #[Value.ref b] s = true) :
    W p l e RB s m #[Value.ref b] below meth c s.heap [] 0 0 (MQ below (fun _ s _ t => s.heap.size + 141 ≤ t.heap.size) #[Value.ref b] s 1000 10000 (fun q => s.heap.size ≤ q)) (entryFrame m ([Value.ref b] : List Value).toArray 8) := by
  have hfl : l.stackTraces = false := by
    unfold Launch.stackTraces
    rw [hflags]
    decide +kernel
  obtain ⟨n1, n2, n3, n4, n5⟩ := wI_1
  obtain ⟨j1, j2, j3⟩ := wI_3
  obtain ⟨c0, iS0, hKn0⟩ := u_known (C := RX0) (T := TX0) (N := 19) (n := 19) hts uX0_in (hts _ n2)
  obtain ⟨D, hKc⟩ : ∃ (D : va_G), ∀ (k : Nat) (q : vw_C), vwCl[k]? = some q → u_Kn s q.1 q.2.1 q.2.2 (D.1 k) (D.2 k) := by
    refine ⟨(fun _ => c0, fun _ => iS0), ?_⟩
    intro k q hq
    match k, hq with
    | 0, hq => cases hq; exact hKn0
    | k + 1, hq => simp [vwCl] at hq
  obtain ⟨cI, aI, fI⟩ := g_arr (hts _ j1)
  obtain ⟨cZ, aZ, fZ⟩ := g_arr (hts _ j2)
  obtain ⟨cL, aL, fL⟩ := g_arr (hts _ j3)
  have hK : va_K D vwCl (gTyL cI cZ cL) s := ⟨hKc, fun k q h => by
    match k, h with
    | 0, h => cases h; exact ⟨aI, fI⟩
    | 1, h => cases h; exact ⟨aZ, fZ⟩
    | 2, h => cases h; exact ⟨aL, fL⟩
    | k + 3, h => simp [gTyL] at h⟩
  have E1 : gE p s m #[Value.ref b] c RL cL_law 8 lw_tbl D (gTyL cI cZ cL) (fun q => s.heap.size ≤ q) := ⟨⟨hx, hb, hml, hown, hts⟩, hK, fun _ h => h⟩
  have E : gE p s m #[Value.ref b] c RL cL_law 8 wsL_law D (gTyL cI cZ cL) (fun q => s.heap.size ≤ q) := ⟨⟨hx, hb, hml, hown, fun w hw => hts w (wsL_law_in w hw)⟩, hK, fun _ h => h⟩
  have hts2 := E.1.2.2.2.2
  have hT := gKT_start hts hgv
  have hret : ∀ (Hb : Heap) (W1 : va_W) (lv : List (Option Value)), hC (fun q => s.heap.size ≤ q) s Hb 141 → hJ Hb p l e RB s m #[Value.ref b] below meth c 1000 10000 (MQ below (fun _ s _ t => s.heap.size + 141 ≤ t.heap.size) #[Value.ref b] s 1000 10000 (fun q => s.heap.size ≤ q)) (fun q => s.heap.size ≤ q) D W1 lv 203 [.int (iI 1)] := by
    intro Hb W1 lv C H locs ls hP hD hS hL
    have hsz : s.heap.size + 141 ≤ H.size := by have := C.2.2; have := hS.1; omega
    exact W.zret (ty := .boolean) (v := iI 1) hx hb hr rfl (fun t ht hW => by rw [ht]; exact hsz) hS.2.2 dL_law_203 hlocks
  have main : gJ p l e RB s m #[Value.ref b] below meth c 0 0 (MQ below (fun _ s _ t => s.heap.size + 141 ≤ t.heap.size) #[Value.ref b] s 1000 10000 (fun q => s.heap.size ≤ q)) (fun q => s.heap.size ≤ q) D [] [some (.ref b), none, none, none, none, none, none, none] 0 [] := by
    refine g_newO E1 (ci := 0) uX0_in tyX0 tyX0_ok n1 n2 n3 rfl fs0_ok ⟨(Nat.le_of_ble_eq_true rfl), (Nat.le_of_ble_eq_true rfl)⟩ dL_law_0 (fun q => ?_)
    refine g_dup E dL_law_3 rfl ?_
    refine g_callK E [0, 1] rfl (wr := []) (cX_init (l := l) (D := D) (cI := cI) (cZ := cZ) (q := q)) (cwI 0 hts2 gL_law_X0_init rfl rfl rfl (hts _ n3) (hts _ n4) (hts _ n5) rfl hdI_X0 ⟨(Nat.le_of_ble_eq_true rfl), (Nat.le_of_ble_eq_true rfl)⟩) rfl (Nat.le_of_ble_eq_true rfl) dL_law_4 ⟨(Nat.le_of_ble_eq_true rfl), (Nat.le_of_ble_eq_true rfl)⟩ (fun r => ?_)
    refine g_astore_n E (lv' := [some (.ref b), some (.ref q), none, none, none, none, none, none]) dL_law_7 rfl (Nat.le_of_ble_eq_true rfl) rfl ?_
    refine g_newO E1 (ci := 0) uX0_in tyX0 tyX0_ok n1 n2 n3 rfl fs0_ok ⟨(Nat.le_of_ble_eq_true rfl), (Nat.le_of_ble_eq_true rfl)⟩ dL_law_8 (fun q2 => ?_)
    refine g_dup E dL_law_11 rfl ?_
    refine g_callK E [0, 1] rfl (wr := zX cI cZ q r 0) (cX_init (l := l) (D := D) (cI := cI) (cZ := cZ) (q := q2)) (cwI 0 hts2 gL_law_X0_init rfl rfl rfl (hts _ n3) (hts _ n4) (hts _ n5) rfl hdI_X0 ⟨(Nat.le_of_ble_eq_true rfl), (Nat.le_of_ble_eq_true rfl)⟩) rfl (Nat.le_of_ble_eq_true rfl) dL_law_12 ⟨(Nat.le_of_ble_eq_true rfl), (Nat.le_of_ble_eq_true rfl)⟩ (fun r2 => ?_)
    refine g_astore_n E (lv' := [some (.ref b), some (.ref q), some (.ref q2), none, none, none, none, none]) dL_law_15 rfl (Nat.le_of_ble_eq_true rfl) rfl ?_
    refine g_bipush E (n := 40) dL_law_16 (by decide) ?_
    refine g_newL E1 j3 dL_law_18 ⟨(Nat.le_of_ble_eq_true rfl), (Nat.le_of_ble_eq_true rfl)⟩ (fun x => ?_)
    refine h_perm zp_n ?_
    refine g_astore_n E (lv' := [some (.ref b), some (.ref q), some (.ref q2), some (.ref x), none, none, none, none]) dL_law_20 rfl (Nat.le_of_ble_eq_true rfl) rfl ?_
    refine g_iconst E dL_law_21 ?_
    refine g_istore E (lv' := [some (.ref b), some (.ref q), some (.ref q2), some (.ref x), some (.int (iI 0)), none, none, none]) dL_law_22 (Nat.le_of_ble_eq_true rfl) rfl ?_
    exact zHd_all hfl hX hbl (Nat.not_le.mpr hbl) hret s.heap none none none ⟨va_S.rf, hT, by omega⟩ E
  have hl := lv_entry ([.ref b]) (n := 8) (Nat.le_of_ble_eq_true rfl)
  rw [lg_entry_eq]
  exact main s.heap [] _ (fun k q h => by simp at h) ⟨fun i j p q h => by simp at h, fun k q h => by simp at h⟩ va_S.rf (gL_entry (l := [.ref b]) (n := 8) (Nat.le_of_ble_eq_true rfl) (g_cat1 rfl) hl)
set_option maxHeartbeats 4000000 in
theorem zWalk (l : Launch) (hflags : l.flags = flags0) (b : Addr) : MetFree l x (headSpec (Jvm.Cond.code x code maxLocals ret :: tables_1) RB) (fun args s => args = #[.ref b] ∧ s.IntsAt b (List.replicate 60 0) ∧ (Jvm.Cond.and given_1 narrow_1).before args s = true) (fun _ _ _ _ _ => True) (fun _ s _ t => s.heap.size + 141 ≤ t.heap.size) := by
  refine MetFree.of_bodyS (code := code) (maxLocals := maxLocals) (ret := ret) (by decide) ?_ ?_
  · intro args s m h hn
    obtain ⟨meth, c, h1, h2, h3, h4, h5, h6, -, -⟩ := Cond.code_spec hn (atoms_spec (ws := Jvm.Cond.code x code maxLocals ret :: tables_1) h _ List.mem_cons_self)
    exact ⟨meth, c, h1, h2, h3, h4, h5, h6⟩
  · intro p e s m args below meth c s₁ B hml0 hP _
    obtain ⟨rfl, hx, hgv⟩ := hP
    obtain ⟨scr, harrAt, hlist, hof, hsmall⟩ := hx
    obtain ⟨hcb, hkn, -, -⟩ := State.arrayAt?_spec harrAt
    have hown : s.vm.findClass RL = some m.cls := findClass_of_methodNamed (x := x) B.named
    have hts0 : ∀ c ∈ (Jvm.Cond.code x code maxLocals ret :: tables_1), c.before #[Value.ref b] s = true := atoms_spec (ws := Jvm.Cond.code x code maxLocals ret :: tables_1) B.pre
    have hts : ∀ w ∈ lw_tbl, w.before #[Value.ref b] s = true := k2_hts_sels lw_privs (fun w hw => hts0 w (List.mem_cons_of_mem _ hw)) lw_privs_ok
    have hml : c.maxLocals = 8 := B.maxLocals_eq (hts0 _ List.mem_cons_self)
    have hh0 : s₁.heap = s.heap := by rw [B.state]; rfl
    have hsz : scr.slots.size = 60 := by rw [← Array.length_toList, hlist]; simp
    have hval : ∀ j : Nat, j < 60 → scr.slots[j]? = some (.int 0) := fun j hj => by
      rw [← Array.getElem?_toList, hlist, List.map_replicate, List.getElem?_replicate, if_pos hj]
    have hbl : b < s.heap.size := (Array.getElem?_eq_some_iff.mp hcb).1
    have hX : va_X b 60 (fun _ => 0) s s.heap := ⟨scr, hcb, hof, hkn, hsz, hval⟩
    obtain ⟨t, a1, o, b1, b2, b3, -⟩ := zStart (p := p) (e := e) (m := m) (below := below) (meth := meth) (c := c) l hflags B.exec B.bytes B.returns hml hown hts hX hbl B.notSynchronized hgv s₁ hh0 (Stand.of_body B)
    exact ⟨t, o, a1, b1, b2, b3⟩
/-- from a start of the Statement's own, with sixty zeros for a script and the machine's usual room behind it: the printed refutation of the first of the two claims -/
theorem zRefute {p : Program} {e : Env} {s : State} {m : MethodId} {b : Addr} {below : List Frame} (h : AtStart classFile x code maxLocals ret World_1 tables_1 room_1 Calls_1 rest_1 Pre_1 launch0 p e s m #[.ref b] below) (hxs : s.IntsAt b (List.replicate 60 0)) (hroom : s.hasRoom e.platform RB = true) : RefutedClaimed_1_1 := by
  obtain ⟨hL, hW, ha, hl, hc, hk, hf, hfit, hheap, happ, hcalls, hrest, hpre⟩ := id h
  have happ' : (headSpec (Jvm.Cond.code x code maxLocals ret :: tables_1) RB).appliesLoose x e.platform s = true := by
    obtain ⟨r1, r2, r3, r4, r5, r6, -, r8⟩ := (Spec.appliesLoose_iff hf).mp ((Spec.applies_iff_loose hf).mp happ).1
    exact (Spec.appliesLoose_iff hf).mpr ⟨r1, r2, r3, r4, r5, r6, hroom, r8⟩
  obtain ⟨n, o, h1, h2, h3, h4⟩ := zWalk launch0 rfl b p e ha hc hk s m _ below hf happ' ⟨rfl, hxs, hpre⟩ trivial
  refine ⟨launch0, p, e, s, m, _, below, rfl, h, n, o, h1, h2, h3, fun hP => ?_⟩
  have h5 := hP.2.2.2.2.2.1
  have h6 : (stepsAlone p.tables e n s).heap.size ≤ s.heap.size + 140 := h5
  omega
end
section
/-! ===== the printed start with another script: sixty zeros ===== -/
def zz : State := start1.aboutOf (Array.replicate 60 (.int 0))
set_option maxRecDepth 100000 in
theorem zz_ot1 : (Cond.code x code maxLocals ret :: tables_1_1).all (fun w => vx_ot w || w.before start1.args0 zz) = true := by decide +kernel
set_option maxRecDepth 100000 in
theorem zz_ot2 : tables_1_2.all (fun w => vx_ot w || w.before start1.args0 zz) = true := by decide +kernel
theorem zz_words : ∀ c ∈ (Cond.code x code maxLocals ret :: tables_1), c.before start1.args0 zz = true := by
  intro c hc
  have key : (vx_ot c || c.before start1.args0 zz) = true := by
    rcases List.mem_cons.mp hc with h | h
    · exact List.all_eq_true.mp zz_ot1 c (by rw [h]; exact List.mem_cons_self)
    · have h1 : c ∈ tables_1_1 ++ tables_1_2 := h
      rcases List.mem_append.mp h1 with h2 | h2
      · exact List.all_eq_true.mp zz_ot1 c (List.mem_cons_of_mem _ h2)
      · exact List.all_eq_true.mp zz_ot2 c h2
  rcases (Bool.or_eq_true _ _).mp key with h | h
  · exact vx_ot_at (s := start1.about) (U := zz) (args := start1.args0) (State.WarmedH.refl start1.about) rfl h (start1.words c hc)
  · exact h
theorem zz_ints : zz.IntsAt 0 (List.replicate 60 0) := by
  refine ⟨{ cls := 14, slots := Array.replicate 60 (.int 0), vm := .none }, rfl, ?_, ⟨?_, start1.cArr "[I" 13 .int, rfl, 13, rfl⟩, by decide⟩
  · rw [Array.toList_replicate, List.map_replicate]
  · intro k h
    cases h
set_option maxRecDepth 100000 in
theorem zz_start : AtStart classFile x code maxLocals ret World_1 tables_1 room_1 Calls_1 rest_1 Pre_1 launch0 start1.p0 start1.e0 zz ⟨0, 0⟩ #[.ref 0] Lib.HandBits.below0 :=
  ⟨lists_1, trivial, launch0.admits_env _ _ _, launch0.least_env, fairChoices_fair.cas, fairChoices_fair.clock, rfl, by decide +kernel, by decide +kernel,
    (Spec.applies_iff rfl).mpr ⟨rfl, rfl, rfl, by decide +kernel, by decide +kernel, by decide +kernel, launch0.hasRoom_least _ room_1 (by decide +kernel) (by decide +kernel) (by decide +kernel) (by decide +kernel) (by decide +kernel) (by decide +kernel), atoms_intro zz_words⟩,
    trivial, (show rest_1_c.before #[.ref 0] zz = true by decide +kernel), (show (Cond.and given_1 narrow_1).before #[.ref 0] zz = true by decide +kernel)⟩
theorem zz_room : zz.hasRoom start1.e0.platform RB = true := launch0.hasRoom_least _ RB (by decide +kernel) (by decide +kernel) (by decide +kernel) (by decide +kernel) (by decide +kernel) (by decide +kernel)
/-- the printed refutation: on a script of sixty zeros the law makes more than the 140 cells that the claim allows -/
theorem r_vc : RefutedClaimed_1_1 := zRefute zz_start zz_ints zz_room
theorem i_vc : Claimed_1_1 ∧ Claimed_1_2 := sorry
end
