section
-- ===== PART A: goes FIRST, ahead of the names: the tables' words, and 'selects' of the private methods out of them =====
/-- a private method of a class that the tables say can be made, by its rows of tables_1 -/
def lw_okq (q : MethodName × Nat) : Prop := (q.1.cls ≠ "java/lang/invoke/MethodHandle" ∧ q.1.cls ≠ "java/lang/invoke/VarHandle") ∧ Cond.instantiable q.1.cls q.2 ∈ tables_1 ∧ Cond.privateMethod q.1 ∈ tables_1 ∧ Cond.instanceMethod q.1 ∈ tables_1
theorem lw_p0 : lw_okq (⟨"Stairflow", "areAllReleased", "()Z"⟩, 19) := ⟨⟨by decide +kernel, by decide +kernel⟩, List.mem_of_getElem? (i := 12) (by decide +kernel), List.mem_of_getElem? (i := 96) (by decide +kernel), List.mem_of_getElem? (i := 97) (by decide +kernel)⟩
theorem lw_p1 : lw_okq (⟨"Stairflow", "passOneStep", "()I"⟩, 19) := ⟨⟨by decide +kernel, by decide +kernel⟩, List.mem_of_getElem? (i := 12) (by decide +kernel), List.mem_of_getElem? (i := 100) (by decide +kernel), List.mem_of_getElem? (i := 101) (by decide +kernel)⟩
theorem lw_p2 : lw_okq (⟨"Stairflow", "grantAll", "()V"⟩, 19) := ⟨⟨by decide +kernel, by decide +kernel⟩, List.mem_of_getElem? (i := 12) (by decide +kernel), List.mem_of_getElem? (i := 104) (by decide +kernel), List.mem_of_getElem? (i := 105) (by decide +kernel)⟩
theorem lw_p3 : lw_okq (⟨"Stairflow", "grantAt", "(I)V"⟩, 19) := ⟨⟨by decide +kernel, by decide +kernel⟩, List.mem_of_getElem? (i := 12) (by decide +kernel), List.mem_of_getElem? (i := 108) (by decide +kernel), List.mem_of_getElem? (i := 109) (by decide +kernel)⟩
theorem lw_p4 : lw_okq (⟨"Stairflow", "roomLeft", "(I)I"⟩, 19) := ⟨⟨by decide +kernel, by decide +kernel⟩, List.mem_of_getElem? (i := 12) (by decide +kernel), List.mem_of_getElem? (i := 112) (by decide +kernel), List.mem_of_getElem? (i := 113) (by decide +kernel)⟩
theorem lw_p5 : lw_okq (⟨"Stairflow", "grantRound", "(II)I"⟩, 19) := ⟨⟨by decide +kernel, by decide +kernel⟩, List.mem_of_getElem? (i := 12) (by decide +kernel), List.mem_of_getElem? (i := 117) (by decide +kernel), List.mem_of_getElem? (i := 118) (by decide +kernel)⟩
theorem lw_p6 : lw_okq (⟨"Stairflow", "wishBy", "(I)I"⟩, 19) := ⟨⟨by decide +kernel, by decide +kernel⟩, List.mem_of_getElem? (i := 12) (by decide +kernel), List.mem_of_getElem? (i := 121) (by decide +kernel), List.mem_of_getElem? (i := 122) (by decide +kernel)⟩
theorem lw_p7 : lw_okq (⟨"Stairflow", "isPlace", "(I)Z"⟩, 19) := ⟨⟨by decide +kernel, by decide +kernel⟩, List.mem_of_getElem? (i := 12) (by decide +kernel), List.mem_of_getElem? (i := 125) (by decide +kernel), List.mem_of_getElem? (i := 126) (by decide +kernel)⟩
theorem lw_p8 : lw_okq (⟨"Stairflow", "moveGranted", "()I"⟩, 19) := ⟨⟨by decide +kernel, by decide +kernel⟩, List.mem_of_getElem? (i := 12) (by decide +kernel), List.mem_of_getElem? (i := 132) (by decide +kernel), List.mem_of_getElem? (i := 133) (by decide +kernel)⟩
theorem lw_p9 : lw_okq (⟨"java/lang/Throwable", "fillInStackTrace", "(I)Ljava/lang/Throwable;"⟩, 6) := ⟨⟨by decide +kernel, by decide +kernel⟩, List.mem_of_getElem? (i := 203) (by decide +kernel), List.mem_of_getElem? (i := 201) (by decide +kernel), List.mem_of_getElem? (i := 202) (by decide +kernel)⟩
theorem lw_p10 : lw_okq (⟨"Stairflow", "findWays", "()V"⟩, 19) := ⟨⟨by decide +kernel, by decide +kernel⟩, List.mem_of_getElem? (i := 12) (by decide +kernel), List.mem_of_getElem? (i := 252) (by decide +kernel), List.mem_of_getElem? (i := 253) (by decide +kernel)⟩
theorem lw_p11 : lw_okq (⟨"Stairflow", "measureDistances", "()V"⟩, 19) := ⟨⟨by decide +kernel, by decide +kernel⟩, List.mem_of_getElem? (i := 12) (by decide +kernel), List.mem_of_getElem? (i := 256) (by decide +kernel), List.mem_of_getElem? (i := 257) (by decide +kernel)⟩
theorem lw_p12 : lw_okq (⟨"Stairflow", "reach", "(III)V"⟩, 19) := ⟨⟨by decide +kernel, by decide +kernel⟩, List.mem_of_getElem? (i := 12) (by decide +kernel), List.mem_of_getElem? (i := 260) (by decide +kernel), List.mem_of_getElem? (i := 261) (by decide +kernel)⟩
theorem lw_p13 : lw_okq (⟨"Stairflow", "offerDoor", "(III)V"⟩, 19) := ⟨⟨by decide +kernel, by decide +kernel⟩, List.mem_of_getElem? (i := 12) (by decide +kernel), List.mem_of_getElem? (i := 264) (by decide +kernel), List.mem_of_getElem? (i := 265) (by decide +kernel)⟩
theorem lw_p14 : lw_okq (⟨"Stairflow", "requirePlace", "(I)V"⟩, 19) := ⟨⟨by decide +kernel, by decide +kernel⟩, List.mem_of_getElem? (i := 12) (by decide +kernel), List.mem_of_getElem? (i := 276) (by decide +kernel), List.mem_of_getElem? (i := 277) (by decide +kernel)⟩
theorem lw_p15 : lw_okq (⟨"Stairflow", "requireDoor", "(I)V"⟩, 19) := ⟨⟨by decide +kernel, by decide +kernel⟩, List.mem_of_getElem? (i := 12) (by decide +kernel), List.mem_of_getElem? (i := 303) (by decide +kernel), List.mem_of_getElem? (i := 304) (by decide +kernel)⟩
def lw_privs_1 : List (MethodName × Nat) := [(⟨"Stairflow", "areAllReleased", "()Z"⟩, 19), (⟨"Stairflow", "passOneStep", "()I"⟩, 19), (⟨"Stairflow", "grantAll", "()V"⟩, 19), (⟨"Stairflow", "grantAt", "(I)V"⟩, 19), (⟨"Stairflow", "roomLeft", "(I)I"⟩, 19), (⟨"Stairflow", "grantRound", "(II)I"⟩, 19), (⟨"Stairflow", "wishBy", "(I)I"⟩, 19), (⟨"Stairflow", "isPlace", "(I)Z"⟩, 19), (⟨"Stairflow", "moveGranted", "()I"⟩, 19), (⟨"java/lang/Throwable", "fillInStackTrace", "(I)Ljava/lang/Throwable;"⟩, 6), (⟨"Stairflow", "findWays", "()V"⟩, 19), (⟨"Stairflow", "measureDistances", "()V"⟩, 19), (⟨"Stairflow", "reach", "(III)V"⟩, 19), (⟨"Stairflow", "offerDoor", "(III)V"⟩, 19), (⟨"Stairflow", "requirePlace", "(I)V"⟩, 19), (⟨"Stairflow", "requireDoor", "(I)V"⟩, 19)]
theorem lw_r1 : ∀ q ∈ lw_privs_1, lw_okq q := List.forall_mem_cons.mpr ⟨lw_p0, List.forall_mem_cons.mpr ⟨lw_p1, List.forall_mem_cons.mpr ⟨lw_p2, List.forall_mem_cons.mpr ⟨lw_p3, List.forall_mem_cons.mpr ⟨lw_p4, List.forall_mem_cons.mpr ⟨lw_p5, List.forall_mem_cons.mpr ⟨lw_p6, List.forall_mem_cons.mpr ⟨lw_p7, List.forall_mem_cons.mpr ⟨lw_p8, List.forall_mem_cons.mpr ⟨lw_p9, List.forall_mem_cons.mpr ⟨lw_p10, List.forall_mem_cons.mpr ⟨lw_p11, List.forall_mem_cons.mpr ⟨lw_p12, List.forall_mem_cons.mpr ⟨lw_p13, List.forall_mem_cons.mpr ⟨lw_p14, List.forall_mem_cons.mpr ⟨lw_p15, fun _ h => absurd h List.not_mem_nil⟩⟩⟩⟩⟩⟩⟩⟩⟩⟩⟩⟩⟩⟩⟩⟩
theorem lw_p16 : lw_okq (⟨"Stairflow", "isDoor", "(I)Z"⟩, 19) := ⟨⟨by decide +kernel, by decide +kernel⟩, List.mem_of_getElem? (i := 12) (by decide +kernel), List.mem_of_getElem? (i := 307) (by decide +kernel), List.mem_of_getElem? (i := 308) (by decide +kernel)⟩
theorem lw_p17 : lw_okq (⟨"Stairflow", "boundAt", "(I)I"⟩, 19) := ⟨⟨by decide +kernel, by decide +kernel⟩, List.mem_of_getElem? (i := 12) (by decide +kernel), List.mem_of_getElem? (i := 403) (by decide +kernel), List.mem_of_getElem? (i := 404) (by decide +kernel)⟩
theorem lw_p18 : lw_okq (⟨"Stairflow", "peopleFrom", "(I)I"⟩, 19) := ⟨⟨by decide +kernel, by decide +kernel⟩, List.mem_of_getElem? (i := 12) (by decide +kernel), List.mem_of_getElem? (i := 407) (by decide +kernel), List.mem_of_getElem? (i := 408) (by decide +kernel)⟩
theorem lw_p19 : lw_okq (⟨"Stairflow", "flowInward", "(I)I"⟩, 19) := ⟨⟨by decide +kernel, by decide +kernel⟩, List.mem_of_getElem? (i := 12) (by decide +kernel), List.mem_of_getElem? (i := 411) (by decide +kernel), List.mem_of_getElem? (i := 412) (by decide +kernel)⟩
theorem lw_p20 : lw_okq (⟨"StairflowModel", "goesWell", "(I)Z"⟩, 19) := ⟨⟨by decide +kernel, by decide +kernel⟩, List.mem_of_getElem? (i := 418) (by decide +kernel), List.mem_of_getElem? (i := 493) (by decide +kernel), List.mem_of_getElem? (i := 494) (by decide +kernel)⟩
theorem lw_p21 : lw_okq (⟨"StairflowModel", "isPlace", "(I)Z"⟩, 19) := ⟨⟨by decide +kernel, by decide +kernel⟩, List.mem_of_getElem? (i := 418) (by decide +kernel), List.mem_of_getElem? (i := 501) (by decide +kernel), List.mem_of_getElem? (i := 502) (by decide +kernel)⟩
theorem lw_p22 : lw_okq (⟨"StairflowModel", "isDoor", "(I)Z"⟩, 19) := ⟨⟨by decide +kernel, by decide +kernel⟩, List.mem_of_getElem? (i := 418) (by decide +kernel), List.mem_of_getElem? (i := 509) (by decide +kernel), List.mem_of_getElem? (i := 510) (by decide +kernel)⟩
theorem lw_p23 : lw_okq (⟨"StairflowModel", "go", "()I"⟩, 19) := ⟨⟨by decide +kernel, by decide +kernel⟩, List.mem_of_getElem? (i := 418) (by decide +kernel), List.mem_of_getElem? (i := 533) (by decide +kernel), List.mem_of_getElem? (i := 534) (by decide +kernel)⟩
theorem lw_p24 : lw_okq (⟨"StairflowModel", "decide", "()V"⟩, 19) := ⟨⟨by decide +kernel, by decide +kernel⟩, List.mem_of_getElem? (i := 418) (by decide +kernel), List.mem_of_getElem? (i := 537) (by decide +kernel), List.mem_of_getElem? (i := 538) (by decide +kernel)⟩
theorem lw_p25 : lw_okq (⟨"StairflowModel", "wish", "()V"⟩, 19) := ⟨⟨by decide +kernel, by decide +kernel⟩, List.mem_of_getElem? (i := 418) (by decide +kernel), List.mem_of_getElem? (i := 541) (by decide +kernel), List.mem_of_getElem? (i := 542) (by decide +kernel)⟩
theorem lw_p26 : lw_okq (⟨"StairflowModel", "measure", "()V"⟩, 19) := ⟨⟨by decide +kernel, by decide +kernel⟩, List.mem_of_getElem? (i := 418) (by decide +kernel), List.mem_of_getElem? (i := 545) (by decide +kernel), List.mem_of_getElem? (i := 546) (by decide +kernel)⟩
theorem lw_p27 : lw_okq (⟨"StairflowModel", "reach", "(IIII)V"⟩, 19) := ⟨⟨by decide +kernel, by decide +kernel⟩, List.mem_of_getElem? (i := 418) (by decide +kernel), List.mem_of_getElem? (i := 549) (by decide +kernel), List.mem_of_getElem? (i := 550) (by decide +kernel)⟩
theorem lw_p28 : lw_okq (⟨"StairflowModel", "doorOf", "(I)I"⟩, 19) := ⟨⟨by decide +kernel, by decide +kernel⟩, List.mem_of_getElem? (i := 418) (by decide +kernel), List.mem_of_getElem? (i := 553) (by decide +kernel), List.mem_of_getElem? (i := 554) (by decide +kernel)⟩
theorem lw_p29 : lw_okq (⟨"StairflowModel", "beyond", "(II)I"⟩, 19) := ⟨⟨by decide +kernel, by decide +kernel⟩, List.mem_of_getElem? (i := 418) (by decide +kernel), List.mem_of_getElem? (i := 557) (by decide +kernel), List.mem_of_getElem? (i := 558) (by decide +kernel)⟩
theorem lw_p30 : lw_okq (⟨"StairflowModel", "grant", "(I)V"⟩, 19) := ⟨⟨by decide +kernel, by decide +kernel⟩, List.mem_of_getElem? (i := 418) (by decide +kernel), List.mem_of_getElem? (i := 561) (by decide +kernel), List.mem_of_getElem? (i := 562) (by decide +kernel)⟩
theorem lw_p31 : lw_okq (⟨"StairflowModel", "insideNow", "()I"⟩, 19) := ⟨⟨by decide +kernel, by decide +kernel⟩, List.mem_of_getElem? (i := 418) (by decide +kernel), List.mem_of_getElem? (i := 565) (by decide +kernel), List.mem_of_getElem? (i := 566) (by decide +kernel)⟩
def lw_privs_2 : List (MethodName × Nat) := [(⟨"Stairflow", "isDoor", "(I)Z"⟩, 19), (⟨"Stairflow", "boundAt", "(I)I"⟩, 19), (⟨"Stairflow", "peopleFrom", "(I)I"⟩, 19), (⟨"Stairflow", "flowInward", "(I)I"⟩, 19), (⟨"StairflowModel", "goesWell", "(I)Z"⟩, 19), (⟨"StairflowModel", "isPlace", "(I)Z"⟩, 19), (⟨"StairflowModel", "isDoor", "(I)Z"⟩, 19), (⟨"StairflowModel", "go", "()I"⟩, 19), (⟨"StairflowModel", "decide", "()V"⟩, 19), (⟨"StairflowModel", "wish", "()V"⟩, 19), (⟨"StairflowModel", "measure", "()V"⟩, 19), (⟨"StairflowModel", "reach", "(IIII)V"⟩, 19), (⟨"StairflowModel", "doorOf", "(I)I"⟩, 19), (⟨"StairflowModel", "beyond", "(II)I"⟩, 19), (⟨"StairflowModel", "grant", "(I)V"⟩, 19), (⟨"StairflowModel", "insideNow", "()I"⟩, 19)]
theorem lw_r2 : ∀ q ∈ lw_privs_2, lw_okq q := List.forall_mem_cons.mpr ⟨lw_p16, List.forall_mem_cons.mpr ⟨lw_p17, List.forall_mem_cons.mpr ⟨lw_p18, List.forall_mem_cons.mpr ⟨lw_p19, List.forall_mem_cons.mpr ⟨lw_p20, List.forall_mem_cons.mpr ⟨lw_p21, List.forall_mem_cons.mpr ⟨lw_p22, List.forall_mem_cons.mpr ⟨lw_p23, List.forall_mem_cons.mpr ⟨lw_p24, List.forall_mem_cons.mpr ⟨lw_p25, List.forall_mem_cons.mpr ⟨lw_p26, List.forall_mem_cons.mpr ⟨lw_p27, List.forall_mem_cons.mpr ⟨lw_p28, List.forall_mem_cons.mpr ⟨lw_p29, List.forall_mem_cons.mpr ⟨lw_p30, List.forall_mem_cons.mpr ⟨lw_p31, fun _ h => absurd h List.not_mem_nil⟩⟩⟩⟩⟩⟩⟩⟩⟩⟩⟩⟩⟩⟩⟩⟩
theorem lw_p32 : lw_okq (⟨"StairflowModel", "trappedNow", "()I"⟩, 19) := ⟨⟨by decide +kernel, by decide +kernel⟩, List.mem_of_getElem? (i := 418) (by decide +kernel), List.mem_of_getElem? (i := 609) (by decide +kernel), List.mem_of_getElem? (i := 610) (by decide +kernel)⟩
def lw_privs_3 : List (MethodName × Nat) := [(⟨"StairflowModel", "trappedNow", "()I"⟩, 19)]
theorem lw_r3 : ∀ q ∈ lw_privs_3, lw_okq q := List.forall_mem_cons.mpr ⟨lw_p32, fun _ h => absurd h List.not_mem_nil⟩
def lw_privs : List (MethodName × Nat) := lw_privs_1 ++ (lw_privs_2 ++ (lw_privs_3))
def lw_tbl : List Cond := k2_sels lw_privs ++ tables_1
theorem lw_privs_ok : ∀ q ∈ lw_privs, lw_okq q := by
  show ∀ q ∈ lw_privs_1 ++ (lw_privs_2 ++ (lw_privs_3)), lw_okq q
  exact List.forall_mem_append.mpr ⟨lw_r1, List.forall_mem_append.mpr ⟨lw_r2, lw_r3⟩⟩
-- ===== end of PART A; then your names; then what follows =====
end
section
/-! ===== BEGIN words of one list among another's, by their places ===== -/
theorem goodIn_r {big : List Cond} (ws : List Cond) (ps : List Nat) (hp : ws = ps.filterMap (fun i => big[i]?)) (h : ws.all goodWord = true) : GoodIn big ws := by
  intro w hw
  have h1 := List.all_eq_true.mp h w hw
  rw [hp] at hw
  obtain ⟨i, -, hi⟩ := List.mem_filterMap.mp hw
  have hm : w ∈ big := by first | exact List.mem_of_getElem? hi | exact List.getElem?_mem hi
  exact ⟨hm, good_of_word h1⟩
theorem goodIn_app {big a b : List Cond} (ha : GoodIn big a) (hb : GoodIn big b) : GoodIn big (a ++ b) := fun w h => (List.mem_append.mp h).elim (ha w) (hb w)
theorem goodIn_ca {big a b : List Cond} {c : Cond} (ha : GoodIn big (c :: a)) (hb : GoodIn big b) : GoodIn big (c :: (a ++ b)) := fun w h => (List.mem_cons.mp h).elim (fun e => ha w (List.mem_cons.mpr (Or.inl e))) (fun h => (List.mem_append.mp h).elim (fun h => ha w (List.mem_cons.mpr (Or.inr h))) (hb w))
theorem goodIn_sub {big ws : List Cond} (hm : ∀ w ∈ ws, w ∈ big) (h : ws.all goodWord = true) : GoodIn big ws := fun w hw => ⟨hm w hw, good_of_word (List.all_eq_true.mp h w hw)⟩
/-! ===== END ===== -/

/-! ===== BEGIN exceptions that leave a method, and their catching by the caller (launches without stack traces) ===== -/
section VXA
/-! The laws vx_back, vx_callV, vx_callS, vx_callSW, vx_throw0, vx_throwS follow proofs of the library, with one case more: JvmDerived/Free/Laws.lean (Back.of_free), Shelf42/LK1.lean (callV, callS), Shelf/KitTraced.lean (throwNew0V, throwNewS). -/
/-- where a method has thrown q: the class by its name, the cell, what was written, the world -/
def vx_T (XC : String → State → State → Prop) (st : State) (q : Addr) (t : State) (mc ms : Nat) (free : Addr → Prop) : Prop :=
  ∃ (E : String) (ce : Cell) (L : List Loc), XC E st t ∧ t.heap[q]? = some ce ∧ ce.vm = .none ∧ st.vm.findClass E = some ce.cls ∧ st.WarmedH t.vm ∧ st.sameButNew ({ t with vm := st.vm } : State) L mc ms ∧ ∀ z ∈ L, free z.base
def vx_Q (Qc : Array Value → State → Outcome → State → Prop) (XC : String → State → State → Prop) (mc ms : Nat) (free : Addr → Prop) : Array Value → State → Outcome → State → Prop := fun a st o t =>
  (Qc a st o t ∧ ∃ L, FrameEnd st o t L mc ms ∧ ∀ q ∈ L, free q.base) ∨ ∃ q, o = .threw q ∧ vx_T XC st q t mc ms free
/-- a callee that returns or throws -/
def vx_Met (l : Launch) (y : MethodName) (ws : List Cond) (rm : Room) (Pc : Array Value → State → Prop) (Qc : Array Value → State → Outcome → State → Prop) (XC : String → State → State → Prop) (mc ms : Nat) (free : Addr → Prop) : Prop :=
  MetFree l y (headSpec ws rm) Pc (fun _ _ _ _ _ => True) (vx_Q Qc XC mc ms free)
def vx_Post (XC : String → State → State → Prop) (mc ms : Nat) (free : Addr → Prop) : Pt → Array Value → Addr → Pt → Prop := fun A a q B =>
  ∃ (g : JFrame) (mk : MethodId) (t : State) (L : List Loc) (E : String) (ce : Cell), B.U.heap = t.heap ∧ B.U.vm = t.vm ∧ XC E (A.U.calling g mk a) t ∧ t.heap[q]? = some ce ∧ ce.vm = .none ∧ A.U.vm.findClass E = some ce.cls ∧ B.locs = A.locs ++ L ∧ (∀ z ∈ L, free z.base) ∧ B.cells = A.cells + mc ∧ B.slots = A.slots + ms
def vx_Back (l : Launch) (R : Room) (p : Program) (e : Env) (below : List Frame) (s : State) (sargs : Array Value) (y : MethodName) (len W9 : Nat)
    (Pre : Pt → Array Value → Prop) (Post : Pt → Array Value → Option Value → Pt → Prop) (PostX : Pt → Array Value → Addr → Pt → Prop) : Prop :=
  ∀ (m : MethodId) (meth : Method) (c : Code) (A : Pt) (g : JFrame) (ig : Instr) (mk : MethodId) (a : Array Value),
    Stand p l e R s m sargs below meth c A.U A.locs A.cells A.slots → g.method = m → g.locals.size = c.maxLocals → decode c.code g.pc = .ok (ig, len) →
    2 * g.monitorRoom + (g.stack.map fun v => v.category).sum ≤ W9 → A.U.methodNamed? y = some mk → Pre A a →
    (∃ (v : Option Value) (B : Pt), Stand p l e R s m sargs below meth c B.U B.locs B.cells B.slots ∧ Post A a v B ∧
      Steps p.tables e below (doInvoke e (A.U.setTop g) [] mk a).1 (B.U.setTop { g with pc := g.pc + len, stack := v.toList ++ g.stack })) ∨
    (∃ (q : Addr) (B : Pt), Stand p l e R s m sargs below meth c B.U B.locs B.cells B.slots ∧ PostX A a q B ∧
      Steps p.tables e below (doInvoke e (A.U.setTop g) [] mk a).1 ((B.U.setTop g).pushFrame (.throwing q)))
section Payer
variable {l : Launch} {R : Room} {p : Program} {e : Env} {below : List Frame} {s : State} {sargs : Array Value} {y : MethodName} {len W9 : Nat}
theorem vx_back {ws : List Cond} {rm : Room} {Pc : Array Value → State → Prop} {Qc : Array Value → State → Outcome → State → Prop} {XC : String → State → State → Prop} {mc ms : Nat} {free : Addr → Prop} {bytes : ByteArray} {maxL : Nat} {ret : Option FieldType}
    (hM : vx_Met l y ws rm Pc Qc XC mc ms free) (hblind : FrameBlind Pc) (hrc : rm.cells = mc) (hrs : rm.slots = ms)
    (hframes : rm.frames + 1 ≤ R.frames) (hlocals : W9 + (maxL + 11) + rm.locals ≤ R.locals)
    (hws : ∀ w ∈ ws, ∀ a' U, s.WarmedH U.vm → w.before a' U = true) (hcode : Cond.code y bytes maxL ret ∈ ws) (hinit : ∀ a' U, s.WarmedH U.vm → (Cond.initialized y.cls).before a' U = true) :
    vx_Back l R p e below s sargs y len W9 (PreOf R mc ms Pc) (PostOf Qc mc ms free) (vx_Post XC mc ms free) := by
  intro m meth c A g ig mk a X hg hsize hdg hW hn hp
  have h1 : (headSpec ws rm).pre.before a A.U = true := atoms_intro fun w hw => hws w hw _ _ X.warmed
  have h2 : (Cond.code y bytes maxL ret).before a A.U = true := hws _ hcode _ _ X.warmed
  have h3 : (Cond.initialized y.cls).before a A.U = true := hinit _ _ X.warmed
  have h4 : A.cells + (headSpec ws rm).room.cells ≤ R.cells := by rw [show (headSpec ws rm).room.cells = mc from hrc]; exact hp.1
  have h5 : A.slots + (headSpec ws rm).room.slots ≤ R.slots := by rw [show (headSpec ws rm).room.slots = ms from hrs]; exact hp.2.1
  have hPc : Pc a (A.U.calling g mk a) := hblind _ _ _ _ hp.2.2
  obtain ⟨U, Ls, c0, s0⟩ := A
  dsimp only [Pt.U, Pt.locs, Pt.cells, Pt.slots] at h1 h2 h3 h4 h5 X hn hPc ⊢
  obtain ⟨methY, cY, hmY, hcY, -, hlY, -, -, -, -⟩ := Cond.code_spec hn h2
  obtain ⟨kY, hkY, -⟩ := className_of_methodNamed hn
  have hinitY : kY.init = .initialized := Cond.initialized_spec (findClass_of_methodNamed hn) hkY h3
  have h : At U g.method c below := by rw [hg]; exact X.here
  have hlocals9 : W9 + (maxL + 11) + (headSpec ws rm).room.locals ≤ R.locals := hlocals
  have happ : (headSpec ws rm).appliesLoose y e.platform (U.calling g mk a) = true :=
    Spec.appliesLoose_calling (g := g) h hdg hn hkY hinitY
      (X.room_calling (g := g) (R' := (headSpec ws rm).room) hsize hmY hcY hframes (by rw [hlY]; omega) h4 h5) h1
  obtain ⟨mid, hmid⟩ := h.above
  have hfr : (U.setTop g).frames = (.java g :: mid) ++ below := by rw [State.frames_setTop' g h.top, hmid]; rfl
  obtain ⟨o, s₂, hsteps, -, hend, hq⟩ := Steps.callFree hM p X.admits X.cas X.clock (acts := []) hfr happ hPc trivial
  have hq' : vx_Q Qc XC mc ms free a (U.calling g mk a) o s₂ := hq
  rw [State.frames_setTop' g h.top] at hend
  obtain ⟨g₀, hg0⟩ := Option.isSome_iff_exists.mp h.top
  obtain ⟨r, hr⟩ := State.topJava?_eq_some.mp hg0
  have hr' : (({ U with heap := s₂.heap, slotsUsed := s₂.slotsUsed } : State).setVm s₂.vm).frames = .java g₀ :: r := hr
  rcases hq' with ⟨hqc, L, hfe, hL⟩ | ⟨q, rfl, E, ce, L, hx, hce, hcv, hcl, hW₂, hsm, hL⟩
  · obtain ⟨⟨v, rfl⟩, hW₂, e2, q2, q3, q4, q5, q6⟩ := id hfe
    have e3 : s₂ = ({ (U.calling g mk a).setFrames s₂.frames with heap := s₂.heap, slotsUsed := s₂.slotsUsed } : State).setVm s₂.vm := by
      have : s₂ = ({ s₂ with vm := (U.calling g mk a).vm } : State).setVm s₂.vm := rfl
      rw [e2] at this
      exact this
    obtain ⟨c₂, i₂, len₂, hc₂, hd₂, hf₂⟩ := hend
    have hW' : U.WarmedH s₂.vm := hW₂
    have hcc : c₂ = c := by
      have h1 : s₂.code? g.method = U.code? g.method := by
        rw [State.code?_eq, State.code?_eq, hW'.alike.method?]
      exact Option.some.inj (hc₂.symm.trans (h1.trans h.code))
    subst hcc
    have hlen : len₂ = len := by rw [hdg] at hd₂; cases hd₂; rfl
    subst hlen
    have hs₂ : s₂ = (({ U with heap := s₂.heap, slotsUsed := s₂.slotsUsed } : State).setVm s₂.vm).setTop { g with pc := g.pc + len₂, stack := v.toList ++ g.stack } := by
      refine e3.trans ?_
      rw [hf₂, State.calling_eq h.top, State.setFrames_setFrames, State.setTop_of_frames _ hr', hr]
      rfl
    have hsame : U.sameButNew ({ U with heap := s₂.heap, slotsUsed := s₂.slotsUsed } : State) L mc ms := by
      refine ⟨?_, q2, q3, q4, q5, q6⟩
      obtain ⟨t, ht, -⟩ := State.frames_cons hr
      show ({ U with heap := s₂.heap, slotsUsed := s₂.slotsUsed } : State) = { U.setFrames U.frames with heap := s₂.heap, slotsUsed := s₂.slotsUsed }
      rw [State.setFrames_self ht]
    subst hg
    refine Or.inl ⟨v, ⟨(({ U with heap := s₂.heap, slotsUsed := s₂.slotsUsed } : State).setVm s₂.vm), Ls ++ L, c0 + mc, s0 + ms⟩,
      ⟨X.admits, X.cas, X.clock, X.frames, X.room, X.hears, X.method, X.code, (X.here.setHeapUsed s₂.heap s₂.slotsUsed).setVm hW'.alike, X.tail, State.WarmedH.trans X.warmed hW', X.limits, X.bytes, X.same.trans (hsame.setVm s.vm)⟩,
      ⟨g, mk, s₂, L, rfl, rfl, hqc, rfl, hL, rfl, rfl⟩, ?_⟩
    show Steps p.tables e below _ ((({ U with heap := s₂.heap, slotsUsed := s₂.slotsUsed } : State).setVm s₂.vm).setTop { g with pc := g.pc + len₂, stack := v.toList ++ g.stack })
    rw [← hs₂]
    exact hsteps
  · obtain ⟨e2, q2, q3, q4, q5, q6⟩ := id hsm
    have e3 : s₂ = ({ (U.calling g mk a).setFrames s₂.frames with heap := s₂.heap, slotsUsed := s₂.slotsUsed } : State).setVm s₂.vm := by
      have : s₂ = ({ s₂ with vm := (U.calling g mk a).vm } : State).setVm s₂.vm := rfl
      rw [e2] at this
      exact this
    have hf₂ : s₂.frames = .throwing q :: .java g :: U.frames.tail := hend
    have hW' : U.WarmedH s₂.vm := hW₂
    have hs₂ : s₂ = ((({ U with heap := s₂.heap, slotsUsed := s₂.slotsUsed } : State).setVm s₂.vm).setTop g).pushFrame (.throwing q) := by
      refine e3.trans ?_
      rw [hf₂, State.calling_eq h.top, State.setFrames_setFrames, State.pushFrame, State.frames_setTop _ hr', State.setTop_of_frames _ hr', State.setFrames_setFrames, hr]
      rfl
    have hsame : U.sameButNew ({ U with heap := s₂.heap, slotsUsed := s₂.slotsUsed } : State) L mc ms := by
      refine ⟨?_, q2, q3, q4, q5, q6⟩
      obtain ⟨t, ht, -⟩ := State.frames_cons hr
      show ({ U with heap := s₂.heap, slotsUsed := s₂.slotsUsed } : State) = { U.setFrames U.frames with heap := s₂.heap, slotsUsed := s₂.slotsUsed }
      rw [State.setFrames_self ht]
    subst hg
    refine Or.inr ⟨q, ⟨(({ U with heap := s₂.heap, slotsUsed := s₂.slotsUsed } : State).setVm s₂.vm), Ls ++ L, c0 + mc, s0 + ms⟩,
      ⟨X.admits, X.cas, X.clock, X.frames, X.room, X.hears, X.method, X.code, (X.here.setHeapUsed s₂.heap s₂.slotsUsed).setVm hW'.alike, X.tail, State.WarmedH.trans X.warmed hW', X.limits, X.bytes, X.same.trans (hsame.setVm s.vm)⟩,
      ⟨g, mk, s₂, L, E, ce, rfl, rfl, hx, hce, hcv, hcl, rfl, hL, rfl, rfl⟩, ?_⟩
    show Steps p.tables e below _ (((({ U with heap := s₂.heap, slotsUsed := s₂.slotsUsed } : State).setVm s₂.vm).setTop g).pushFrame (.throwing q))
    rw [← hs₂]
    exact hsteps
end Payer
section Calls
variable {p : Program} {l : Launch} {e : Env} {R : Room} {s : State} {m : MethodId} {args : Array Value} {below : List Frame} {meth : Method} {c : Code} {T : State} {locs : List Loc} {cells slots : Nat}
theorem vx_callV (X : Stand p l e R s m args below meth c T locs cells slots) (hexec : p.tables.exec = Jvm.exec) {own C : String} {index : Nat} {y : MethodName} {bytes : ByteArray} {maxL : Nat} {ret : Option FieldType}
    (hown : s.vm.findClass own = some m.cls) (hlink : (Cond.methodLink own index y).before args s = true) (hinst : (Cond.instanceMethod y).before args s = true) (hsel : (Cond.selects C y y).before args s = true)
    (hcode : (Cond.code y bytes maxL ret).before args s = true) (hy : y.cls ≠ "java/lang/invoke/MethodHandle" ∧ y.cls ≠ "java/lang/invoke/VarHandle")
    {W9 : Nat} {Pre : Pt → Array Value → Prop} {Post : Pt → Array Value → Option Value → Pt → Prop} {PostX : Pt → Array Value → Addr → Pt → Prop} (hK : vx_Back l R p e below s args y 3 W9 Pre Post PostX)
    {b : Addr} {cellB : Cell} (hcell : T.heap[b]? = some cellB) (hobj : cellB.vm.isStatics = false) (hcls : s.vm.findClass C = some cellB.cls)
    {g : JFrame} (hg : g.method = m) (hsize : g.locals.size = c.maxLocals) {argsL rest : List Value} (hlen : ∀ sig, parseMethodDescriptor y.desc = some sig → argsL.length = sig.parameters.length)
    (hstack : g.stack = argsL.reverse ++ .ref b :: rest) (hW : 2 * g.monitorRoom + (rest.map fun v => v.category).sum ≤ W9) (hdg : decode c.code g.pc = .ok (.invokevirtual index, 3))
    (hpre : ∀ vm₁, s.WarmedH vm₁ → Pre ⟨T.setVm vm₁, locs, cells, slots⟩ (Value.ref b :: argsL).toArray) :
    (∃ (v : Option Value) (vm₁ : Vm) (B : Pt), s.WarmedH vm₁ ∧ Stand p l e R s m args below meth c B.U B.locs B.cells B.slots ∧ Post ⟨T.setVm vm₁, locs, cells, slots⟩ (Value.ref b :: argsL).toArray v B ∧
      ∀ target, Steps p.tables e below (B.U.setTop { g with pc := g.pc + 3, stack := v.toList ++ rest }) target → Steps p.tables e below (T.setTop g) target) ∨
    (∃ (q : Addr) (vm₁ : Vm) (B : Pt), s.WarmedH vm₁ ∧ Stand p l e R s m args below meth c B.U B.locs B.cells B.slots ∧ PostX ⟨T.setVm vm₁, locs, cells, slots⟩ (Value.ref b :: argsL).toArray q B ∧
      Steps p.tables e below (T.setTop g) ((B.U.setTop { g with stack := rest }).pushFrame (.throwing q))) := by
  obtain ⟨mk, methM, hnamed, hmethM, hstM, habM⟩ := Cond.instanceMethod_spec hinst
  obtain ⟨methM', cM, hmethM', -, -, -, -, -, -, hsigM⟩ := Cond.code_spec hnamed hcode
  cases hmethM.symm.trans hmethM'
  obtain ⟨c2, r2, m2, q1, q2, q3, q4, kP, hkP, hkPi⟩ := Cond.selects_spec hsel
  cases hcls.symm.trans q1
  cases (State.methodFound?_of_named hnamed hy).symm.trans q2
  cases hnamed.symm.trans q3
  have hselP : selectMethod e.platform s.vm cellB.cls mk = .method mk := by rw [Launch.admits_selectMethod X.admits]; exact q4
  obtain ⟨vm₁, X₁, hstep₁⟩ := X.invokevirtual hexec hown hlink hnamed hmethM hstM hkP hkPi hy (a := b) (cell := cellB) hcell
    (fun z h => by rw [h] at hobj; cases hobj) hselP hmethM habM hkP hkPi (g := g) hg (argsL := argsL) (rest := rest) (hlen _ hsigM) hstack hdg
  rcases hK m meth c ⟨T.setVm vm₁, locs, cells, slots⟩ { g with stack := rest } (.invokevirtual index) mk (Value.ref b :: argsL).toArray X₁ hg hsize hdg hW (X₁.named hnamed) (hpre vm₁ X₁.warmed) with ⟨v, B, X', hpost, hsteps⟩ | ⟨q, B, X', hpost, hsteps⟩
  · exact Or.inl ⟨v, vm₁, B, X₁.warmed, X', hpost, fun target h => hstep₁ _ fun acts => by rw [doInvoke_state]; exact hsteps.trans h⟩
  · exact Or.inr ⟨q, vm₁, B, X₁.warmed, X', hpost, hstep₁ _ fun acts => by rw [doInvoke_state]; exact hsteps⟩
theorem vx_callS (X : Stand p l e R s m args below meth c T locs cells slots) (hexec : p.tables.exec = Jvm.exec) {own : String} {index : Nat} {y : MethodName} {bytes : ByteArray} {maxL : Nat} {ret : Option FieldType}
    (hown : s.vm.findClass own = some m.cls) (hlink : (Cond.methodLink own index y).before args s = true) (hstat : (Cond.static y).before args s = true) (hinit : (Cond.initialized y.cls).before args s = true)
    (hcode : (Cond.code y bytes maxL ret).before args s = true) (hy : y.cls ≠ "java/lang/invoke/MethodHandle" ∧ y.cls ≠ "java/lang/invoke/VarHandle")
    {W9 : Nat} {Pre : Pt → Array Value → Prop} {Post : Pt → Array Value → Option Value → Pt → Prop} {PostX : Pt → Array Value → Addr → Pt → Prop} (hK : vx_Back l R p e below s args y 3 W9 Pre Post PostX)
    {g : JFrame} (hg : g.method = m) (hsize : g.locals.size = c.maxLocals) {argsL rest : List Value} (hlen : ∀ sig, parseMethodDescriptor y.desc = some sig → argsL.length = sig.parameters.length)
    (hstack : g.stack = argsL.reverse ++ rest) (hW : 2 * g.monitorRoom + (rest.map fun v => v.category).sum ≤ W9) (hdg : decode c.code g.pc = .ok (.invokestatic index, 3))
    (hpre : ∀ vm₁, s.WarmedH vm₁ → Pre ⟨T.setVm vm₁, locs, cells, slots⟩ argsL.toArray) :
    (∃ (v : Option Value) (vm₁ : Vm) (B : Pt), s.WarmedH vm₁ ∧ Stand p l e R s m args below meth c B.U B.locs B.cells B.slots ∧ Post ⟨T.setVm vm₁, locs, cells, slots⟩ argsL.toArray v B ∧
      ∀ target, Steps p.tables e below (B.U.setTop { g with pc := g.pc + 3, stack := v.toList ++ rest }) target → Steps p.tables e below (T.setTop g) target) ∨
    (∃ (q : Addr) (vm₁ : Vm) (B : Pt), s.WarmedH vm₁ ∧ Stand p l e R s m args below meth c B.U B.locs B.cells B.slots ∧ PostX ⟨T.setVm vm₁, locs, cells, slots⟩ argsL.toArray q B ∧
      Steps p.tables e below (T.setTop g) ((B.U.setTop { g with stack := rest }).pushFrame (.throwing q))) := by
  obtain ⟨mk, hnamed⟩ := Cond.code_named hcode
  obtain ⟨methM, cM, hmethM, -, -, -, -, -, -, hsigM⟩ := Cond.code_spec hnamed hcode
  have hstatic : methM.isStatic = true := Cond.static_spec hnamed hmethM hstat
  obtain ⟨kP, hkP, -⟩ := className_of_methodNamed hnamed
  have hinitP : kP.init = .initialized := Cond.initialized_spec (findClass_of_methodNamed hnamed) hkP hinit
  obtain ⟨vm₁, X₁, hstep₁⟩ := X.invokestatic hexec hown hlink hnamed hmethM hstatic hkP hinitP hy (g := g) hg (argsL := argsL) (rest := rest) (hlen _ hsigM) hstack hdg
  rcases hK m meth c ⟨T.setVm vm₁, locs, cells, slots⟩ { g with stack := rest } (.invokestatic index) mk argsL.toArray X₁ hg hsize hdg hW (X₁.named hnamed) (hpre vm₁ X₁.warmed) with ⟨v, B, X', hpost, hsteps⟩ | ⟨q, B, X', hpost, hsteps⟩
  · exact Or.inl ⟨v, vm₁, B, X₁.warmed, X', hpost, fun target h => hstep₁ _ fun acts => by rw [doInvoke_state]; exact hsteps.trans h⟩
  · exact Or.inr ⟨q, vm₁, B, X₁.warmed, X', hpost, hstep₁ _ fun acts => by rw [doInvoke_state]; exact hsteps⟩
end Calls
theorem vx_cls {s : State} {T : State} {vm₁ : Vm} {E : String} {k : ClassId} (hW : s.WarmedH vm₁) (h : (T.setVm vm₁).vm.findClass E = some k) : s.vm.findClass E = some k := by
  have h1 : vm₁.findClass E = some k := h
  rw [hW.alike.findClass] at h1
  exact h1
/-- the method's frame g, with q thrown over it -/
def vx_W (p : Program) (l : Launch) (e : Env) (R : Room) (s : State) (m : MethodId) (args : Array Value) (below : List Frame) (meth : Method) (c : Code) (H : Heap) (locs : List Loc) (cells slots : Nat) (Q : State → Prop) (g : JFrame) (q : Addr) : Prop :=
  ∀ T : State, T.heap = H → Stand p l e R s m args below meth c T locs cells slots → ∃ t, Steps p.tables e below ((T.setTop g).pushFrame (.throwing q)) t ∧ Q t
def vx_Run (p : Program) (l : Launch) (e : Env) (R : Room) (s : State) (m : MethodId) (args : Array Value) (below : List Frame) (meth : Method) (c : Code) (H : Heap) (locs : List Loc) (cells slots mc ms : Nat) (g : JFrame) (rest : List Value) (Qa : State → Outcome → State → Prop) (XC : String → State → State → Prop) (free : Addr → Prop) : Prop :=
  ∀ T : State, T.heap = H → Stand p l e R s m args below meth c T locs cells slots →
    (∃ (v : Option Value) (st₀ t T' : State) (L : List Loc), st₀.heap = H ∧ Stand p l e R s m args below meth c T' (locs ++ L) (cells + mc) (slots + ms) ∧ (∀ q ∈ L, free q.base) ∧ T'.heap = t.heap ∧ T'.vm = t.vm ∧ Qa st₀ (.returned v) t ∧
      Goes p e below T g T' { g with pc := g.pc + 3, stack := v.toList ++ rest }) ∨
    (∃ (q : Addr) (st₀ t T' : State) (L : List Loc) (E : String) (ce : Cell), st₀.heap = H ∧ Stand p l e R s m args below meth c T' (locs ++ L) (cells + mc) (slots + ms) ∧ (∀ z ∈ L, free z.base) ∧ T'.heap = t.heap ∧ T'.vm = t.vm ∧ XC E st₀ t ∧ t.heap[q]? = some ce ∧ ce.vm = .none ∧ s.vm.findClass E = some ce.cls ∧
      Steps p.tables e below (T.setTop g) ((T'.setTop { g with stack := rest }).pushFrame (.throwing q)))
def vx_X {S : Type} (px : S → Prop) (B : String → S → State → Prop) (A : Nat → Prop) : String → State → State → Prop := fun E st t => ∃ u : S, px u ∧ B E u t ∧ va_F A st t
section Runs
variable {p : Program} {l : Launch} {e : Env} {R : Room} {s : State} {m : MethodId} {args : Array Value} {below : List Frame} {meth : Method} {c : Code} {H : Heap} {locs : List Loc} {cells slots : Nat}
variable {y : MethodName} {bytes cc : ByteArray} {maxL nL mc ms n index : Nat} {ret : Option FieldType} {ws : List Cond} {rm : Room} {Pc : Array Value → State → Prop} {Qc : Array Value → State → Outcome → State → Prop} {XC : String → State → State → Prop} {free : Addr → Prop} {Ts : List Cond} {own C : String} {b : Addr} {As rest : List Value} {g : JFrame}
theorem vx_callBack (cb : CallB R s args own index y bytes maxL ret ws rm mc ms n) (hM : vx_Met l y ws rm Pc Qc XC mc ms free) (hbl : FrameBlind Pc) : vx_Back l R p e below s args y 3 8 (PreOf R mc ms Pc) (PostOf Qc mc ms free) (vx_Post XC mc ms free) := by
  obtain ⟨hrc, hrs, hfr, hlo, hws, hcw, -, hini, -⟩ := cb
  exact vx_back (bytes := bytes) (maxL := maxL) (ret := ret) hM hbl hrc hrs hfr hlo hws hcw (fun a' U hW => word_at hW (Or.inl (by first | rfl | simp [Cond.onTables, Cond.keeps, Cond.steady])) hini)
theorem vx_runV (S : CallFix p m c cc nL s args Ts own) (hM : vx_Met l y ws rm Pc Qc XC mc ms free) (cw : CallW R s args own C index y bytes maxL ret ws rm mc ms n) (hp : PreV s H C b Pc As)
    (hg : g.method = m) (hn : As.length = n) (hsize : g.locals.size = nL) (hstack : g.stack = As.reverse ++ .ref b :: rest) (hW : 2 * g.monitorRoom + (rest.map fun v => v.category).sum ≤ 8) (hdg : decode cc g.pc = .ok (.invokevirtual index, 3)) (hf : cells + mc ≤ R.cells ∧ slots + ms ≤ R.slots) :
    vx_Run p l e R s m args below meth c H locs cells slots mc ms g rest (Qc (Value.ref b :: As).toArray) XC free := by
  have hK : vx_Back l R p e below s args y 3 8 (PreOf R mc ms Pc) (PostOf Qc mc ms free) (vx_Post XC mc ms free) := vx_callBack cw.1 hM hp.1
  obtain ⟨⟨-, -, -, -, -, -, hcode, -, hy, hlen, hl⟩, hin, hse⟩ := cw
  obtain ⟨hx, hb, hml, ho, -⟩ := S
  obtain ⟨-, ⟨cellB, hcB, hoB, hclB⟩, hPc⟩ := hp
  intro T hT X
  rcases vx_callV X hx (C := C) (bytes := bytes) (maxL := maxL) (ret := ret) ho hl hin hse hcode hy hK (by rw [hT]; exact hcB) hoB hclB hg (hsize.trans hml.symm) (argsL := As) (rest := rest) (fun sig h => hn.trans (hlen sig h)) hstack hW (by rw [hb]; exact hdg)
    (fun vm₁ hW₁ => ⟨hf.1, hf.2, hPc (T.setVm vm₁) hT hW₁⟩) with ⟨v, vm₁, ⟨U', l2, c2, s2⟩, hW₁, X', ⟨g', mk, t, L, e1, e2, hq, h1, hL, h2, h3⟩, st⟩ | ⟨q, vm₁, ⟨U', l2, c2, s2⟩, hW₁, X', ⟨g', mk, t, L, E, ce, e1, e2, hq, hce, hcv, hcl, h1, hL, h2, h3⟩, st⟩
  · dsimp only [Pt.U, Pt.locs, Pt.cells, Pt.slots] at X' e1 e2 h1 h2 h3 st
    subst h1; subst h2; subst h3
    exact Or.inl ⟨v, (T.setVm vm₁).calling g' mk (Value.ref b :: As).toArray, t, U', L, hT, X', hL, e1, e2, hq, st⟩
  · dsimp only [Pt.U, Pt.locs, Pt.cells, Pt.slots] at X' e1 e2 h1 h2 h3 st hcl
    subst h1; subst h2; subst h3
    exact Or.inr ⟨q, (T.setVm vm₁).calling g' mk (Value.ref b :: As).toArray, t, U', L, E, ce, hT, X', hL, e1, e2, hq, hce, hcv, vx_cls hW₁ hcl, st⟩
theorem vx_runS (S : CallFix p m c cc nL s args Ts own) (hM : vx_Met l y ws rm Pc Qc XC mc ms free) (cw : CallB R s args own index y bytes maxL ret ws rm mc ms n ∧ (Cond.static y).before args s = true) (hp : PreS s H Pc As)
    (hg : g.method = m) (hn : As.length = n) (hsize : g.locals.size = nL) (hstack : g.stack = As.reverse ++ rest) (hW : 2 * g.monitorRoom + (rest.map fun v => v.category).sum ≤ 8) (hdg : decode cc g.pc = .ok (.invokestatic index, 3)) (hf : cells + mc ≤ R.cells ∧ slots + ms ≤ R.slots) :
    vx_Run p l e R s m args below meth c H locs cells slots mc ms g rest (Qc As.toArray) XC free := by
  have hK : vx_Back l R p e below s args y 3 8 (PreOf R mc ms Pc) (PostOf Qc mc ms free) (vx_Post XC mc ms free) := vx_callBack cw.1 hM hp.1
  obtain ⟨⟨-, -, -, -, -, -, hcode, hini, hy, hlen, hl⟩, hstt⟩ := cw
  obtain ⟨hx, hb, hml, ho, -⟩ := S
  intro T hT X
  rcases vx_callS X hx (bytes := bytes) (maxL := maxL) (ret := ret) ho hl hstt hini hcode hy hK hg (hsize.trans hml.symm) (argsL := As) (rest := rest) (fun sig h => hn.trans (hlen sig h)) hstack hW (by rw [hb]; exact hdg)
    (fun vm₁ hW₁ => ⟨hf.1, hf.2, hp.2 (T.setVm vm₁) hT hW₁⟩) with ⟨v, vm₁, ⟨U', l2, c2, s2⟩, hW₁, X', ⟨g', mk, t, L, e1, e2, hq, h1, hL, h2, h3⟩, st⟩ | ⟨q, vm₁, ⟨U', l2, c2, s2⟩, hW₁, X', ⟨g', mk, t, L, E, ce, e1, e2, hq, hce, hcv, hcl, h1, hL, h2, h3⟩, st⟩
  · dsimp only [Pt.U, Pt.locs, Pt.cells, Pt.slots] at X' e1 e2 h1 h2 h3 st
    subst h1; subst h2; subst h3
    exact Or.inl ⟨v, (T.setVm vm₁).calling g' mk As.toArray, t, U', L, hT, X', hL, e1, e2, hq, st⟩
  · dsimp only [Pt.U, Pt.locs, Pt.cells, Pt.slots] at X' e1 e2 h1 h2 h3 st hcl
    subst h1; subst h2; subst h3
    exact Or.inr ⟨q, (T.setVm vm₁).calling g' mk As.toArray, t, U', L, E, ce, hT, X', hL, e1, e2, hq, hce, hcv, vx_cls hW₁ hcl, st⟩
end Runs
section Rows
variable {p : Program} {l : Launch} {e : Env} {R : Room} {s : State} {m : MethodId} {args : Array Value} {below : List Frame} {meth : Method} {c : Code} {H : Heap} {locs : List Loc} {cells slots : Nat} {Q : State → Prop}
variable {mc ms : Nat} {free : Addr → Prop} {A0 A1 : Nat → Prop} {H0 : Heap} {a : Array Value} {pc : Nat} {ls : Array Slot} {st0 rest : List Value}
theorem vx_keep {st₀ t T' : State} {L : List Loc} (h0 : st₀.heap = H) (e1 : T'.heap = t.heap) (hS : va_S A0 H0 H locs) (hA : ∀ q, q < H.size → A1 q → A0 q) (hf : ∀ q, free q → A0 q) (hL : ∀ q ∈ L, free q.base) (hF : va_F A1 st₀ t) :
    H.size ≤ T'.heap.size ∧ (∀ q : Nat, q < H.size → ¬ A1 q → T'.heap[q]? = H[q]?) ∧ va_S A0 H0 T'.heap (locs ++ L) := by
  obtain ⟨hz, hk⟩ := hF
  rw [h0] at hz hk
  exact ⟨by rw [e1]; exact hz, fun q h1 h2 => by rw [e1]; exact hk q h1 h2,
    ⟨Nat.le_trans hS.1 (by rw [e1]; exact hz), fun q h1 h2 => by rw [e1, hk q (Nat.lt_of_lt_of_le h1 hS.1) (fun z => h2 (hA q (Nat.lt_of_lt_of_le h1 hS.1) z))]; exact hS.2.1 q h1 h2, fun q hq => by
      rcases List.mem_append.mp hq with h | h
      · exact hS.2.2 q h
      · exact hf _ (hL q h)⟩⟩
theorem vx_calli {S SX : Type} {post : Int32 → S → Prop} {px : SX → Prop} {B : S → State → Prop} {BX : String → SX → State → Prop} {AX : Nat → Prop} (hr : vx_Run p l e R s m args below meth c H locs cells slots mc ms (F0 m pc ls st0) rest (va_Qi post B A1 a) (vx_X px BX AX) free) (hS : va_S A0 H0 H locs) (hA : ∀ q, q < H.size → A1 q → A0 q) (hf : ∀ q, free q → A0 q) (hAX : ∀ q, q < H.size → AX q → A0 q)
    (kx : ∀ (E : String) (ce : Cell) (q9 : Addr) (u : SX) (t : State) (H1 : Heap) (locs1 : List Loc), t.heap = H1 → s.vm.Alike t.vm → px u → BX E u t → H.size ≤ H1.size → (∀ q : Nat, q < H.size → ¬ AX q → H1[q]? = H[q]?) → va_S A0 H0 H1 locs1 → H1[q9]? = some ce → ce.vm = .none → s.vm.findClass E = some ce.cls → vx_W p l e R s m args below meth c H1 locs1 (cells + mc) (slots + ms) Q (F0 m pc ls rest) q9)
    (kk : ∀ (r : Int32) (u : S) (t : State) (H1 : Heap) (locs1 : List Loc), t.heap = H1 → s.vm.Alike t.vm → post r u → B u t → H.size ≤ H1.size → (∀ q : Nat, q < H.size → ¬ A1 q → H1[q]? = H[q]?) → va_S A0 H0 H1 locs1 → W p l e R s m args below meth c H1 locs1 (cells + mc) (slots + ms) Q (F0 m (pc + 3) ls (.int r :: rest))) : W p l e R s m args below meth c H locs cells slots Q (F0 m pc ls st0) := by
  intro T hT X
  rcases hr T hT X with ⟨v, st₀, t, T', L, h0, X', hL, e1, e2, ⟨⟨r, u, hv, hp, hb⟩, hF⟩, st⟩ | ⟨q, st₀, t, T', L, E, ce, h0, X', hL, e1, e2, ⟨u, hp, hb, hF⟩, hce, hcv, hcl, st⟩
  · cases hv
    obtain ⟨k1, k2, k3⟩ := vx_keep h0 e1 hS hA hf hL hF
    obtain ⟨t2, a1, b1⟩ := kk r u t T'.heap (locs ++ L) e1.symm (by rw [← e2]; exact X'.warmed.alike) hp hb k1 k2 k3 T' rfl X'
    exact ⟨t2, st t2 a1, b1⟩
  · obtain ⟨k1, k2, k3⟩ := vx_keep h0 e1 hS hAX hf hL hF
    obtain ⟨t2, a1, b1⟩ := kx E ce q u t T'.heap (locs ++ L) e1.symm (by rw [← e2]; exact X'.warmed.alike) hp hb k1 k2 k3 (by rw [e1]; exact hce) hcv hcl T' rfl X'
    exact ⟨t2, st.trans a1, b1⟩
theorem vx_calll {S SX : Type} {post : Int64 → S → Prop} {px : SX → Prop} {B : S → State → Prop} {BX : String → SX → State → Prop} {AX : Nat → Prop} (hr : vx_Run p l e R s m args below meth c H locs cells slots mc ms (F0 m pc ls st0) rest (va_Ql post B A1 a) (vx_X px BX AX) free) (hS : va_S A0 H0 H locs) (hA : ∀ q, q < H.size → A1 q → A0 q) (hf : ∀ q, free q → A0 q) (hAX : ∀ q, q < H.size → AX q → A0 q)
    (kx : ∀ (E : String) (ce : Cell) (q9 : Addr) (u : SX) (t : State) (H1 : Heap) (locs1 : List Loc), t.heap = H1 → s.vm.Alike t.vm → px u → BX E u t → H.size ≤ H1.size → (∀ q : Nat, q < H.size → ¬ AX q → H1[q]? = H[q]?) → va_S A0 H0 H1 locs1 → H1[q9]? = some ce → ce.vm = .none → s.vm.findClass E = some ce.cls → vx_W p l e R s m args below meth c H1 locs1 (cells + mc) (slots + ms) Q (F0 m pc ls rest) q9)
    (kk : ∀ (r : Int64) (u : S) (t : State) (H1 : Heap) (locs1 : List Loc), t.heap = H1 → s.vm.Alike t.vm → post r u → B u t → H.size ≤ H1.size → (∀ q : Nat, q < H.size → ¬ A1 q → H1[q]? = H[q]?) → va_S A0 H0 H1 locs1 → W p l e R s m args below meth c H1 locs1 (cells + mc) (slots + ms) Q (F0 m (pc + 3) ls (.long r :: rest))) : W p l e R s m args below meth c H locs cells slots Q (F0 m pc ls st0) := by
  intro T hT X
  rcases hr T hT X with ⟨v, st₀, t, T', L, h0, X', hL, e1, e2, ⟨⟨r, u, hv, hp, hb⟩, hF⟩, st⟩ | ⟨q, st₀, t, T', L, E, ce, h0, X', hL, e1, e2, ⟨u, hp, hb, hF⟩, hce, hcv, hcl, st⟩
  · cases hv
    obtain ⟨k1, k2, k3⟩ := vx_keep h0 e1 hS hA hf hL hF
    obtain ⟨t2, a1, b1⟩ := kk r u t T'.heap (locs ++ L) e1.symm (by rw [← e2]; exact X'.warmed.alike) hp hb k1 k2 k3 T' rfl X'
    exact ⟨t2, st t2 a1, b1⟩
  · obtain ⟨k1, k2, k3⟩ := vx_keep h0 e1 hS hAX hf hL hF
    obtain ⟨t2, a1, b1⟩ := kx E ce q u t T'.heap (locs ++ L) e1.symm (by rw [← e2]; exact X'.warmed.alike) hp hb k1 k2 k3 (by rw [e1]; exact hce) hcv hcl T' rfl X'
    exact ⟨t2, st.trans a1, b1⟩
theorem vx_callf {S SX : Type} {post : UInt32 → S → Prop} {px : SX → Prop} {B : S → State → Prop} {BX : String → SX → State → Prop} {AX : Nat → Prop} (hr : vx_Run p l e R s m args below meth c H locs cells slots mc ms (F0 m pc ls st0) rest (va_Qf post B A1 a) (vx_X px BX AX) free) (hS : va_S A0 H0 H locs) (hA : ∀ q, q < H.size → A1 q → A0 q) (hf : ∀ q, free q → A0 q) (hAX : ∀ q, q < H.size → AX q → A0 q)
    (kx : ∀ (E : String) (ce : Cell) (q9 : Addr) (u : SX) (t : State) (H1 : Heap) (locs1 : List Loc), t.heap = H1 → s.vm.Alike t.vm → px u → BX E u t → H.size ≤ H1.size → (∀ q : Nat, q < H.size → ¬ AX q → H1[q]? = H[q]?) → va_S A0 H0 H1 locs1 → H1[q9]? = some ce → ce.vm = .none → s.vm.findClass E = some ce.cls → vx_W p l e R s m args below meth c H1 locs1 (cells + mc) (slots + ms) Q (F0 m pc ls rest) q9)
    (kk : ∀ (r : UInt32) (u : S) (t : State) (H1 : Heap) (locs1 : List Loc), t.heap = H1 → s.vm.Alike t.vm → post r u → B u t → H.size ≤ H1.size → (∀ q : Nat, q < H.size → ¬ A1 q → H1[q]? = H[q]?) → va_S A0 H0 H1 locs1 → W p l e R s m args below meth c H1 locs1 (cells + mc) (slots + ms) Q (F0 m (pc + 3) ls (.float r :: rest))) : W p l e R s m args below meth c H locs cells slots Q (F0 m pc ls st0) := by
  intro T hT X
  rcases hr T hT X with ⟨v, st₀, t, T', L, h0, X', hL, e1, e2, ⟨⟨r, u, hv, hp, hb⟩, hF⟩, st⟩ | ⟨q, st₀, t, T', L, E, ce, h0, X', hL, e1, e2, ⟨u, hp, hb, hF⟩, hce, hcv, hcl, st⟩
  · cases hv
    obtain ⟨k1, k2, k3⟩ := vx_keep h0 e1 hS hA hf hL hF
    obtain ⟨t2, a1, b1⟩ := kk r u t T'.heap (locs ++ L) e1.symm (by rw [← e2]; exact X'.warmed.alike) hp hb k1 k2 k3 T' rfl X'
    exact ⟨t2, st t2 a1, b1⟩
  · obtain ⟨k1, k2, k3⟩ := vx_keep h0 e1 hS hAX hf hL hF
    obtain ⟨t2, a1, b1⟩ := kx E ce q u t T'.heap (locs ++ L) e1.symm (by rw [← e2]; exact X'.warmed.alike) hp hb k1 k2 k3 (by rw [e1]; exact hce) hcv hcl T' rfl X'
    exact ⟨t2, st.trans a1, b1⟩
theorem vx_calld {S SX : Type} {post : UInt64 → S → Prop} {px : SX → Prop} {B : S → State → Prop} {BX : String → SX → State → Prop} {AX : Nat → Prop} (hr : vx_Run p l e R s m args below meth c H locs cells slots mc ms (F0 m pc ls st0) rest (va_Qd post B A1 a) (vx_X px BX AX) free) (hS : va_S A0 H0 H locs) (hA : ∀ q, q < H.size → A1 q → A0 q) (hf : ∀ q, free q → A0 q) (hAX : ∀ q, q < H.size → AX q → A0 q)
    (kx : ∀ (E : String) (ce : Cell) (q9 : Addr) (u : SX) (t : State) (H1 : Heap) (locs1 : List Loc), t.heap = H1 → s.vm.Alike t.vm → px u → BX E u t → H.size ≤ H1.size → (∀ q : Nat, q < H.size → ¬ AX q → H1[q]? = H[q]?) → va_S A0 H0 H1 locs1 → H1[q9]? = some ce → ce.vm = .none → s.vm.findClass E = some ce.cls → vx_W p l e R s m args below meth c H1 locs1 (cells + mc) (slots + ms) Q (F0 m pc ls rest) q9)
    (kk : ∀ (r : UInt64) (u : S) (t : State) (H1 : Heap) (locs1 : List Loc), t.heap = H1 → s.vm.Alike t.vm → post r u → B u t → H.size ≤ H1.size → (∀ q : Nat, q < H.size → ¬ A1 q → H1[q]? = H[q]?) → va_S A0 H0 H1 locs1 → W p l e R s m args below meth c H1 locs1 (cells + mc) (slots + ms) Q (F0 m (pc + 3) ls (.double r :: rest))) : W p l e R s m args below meth c H locs cells slots Q (F0 m pc ls st0) := by
  intro T hT X
  rcases hr T hT X with ⟨v, st₀, t, T', L, h0, X', hL, e1, e2, ⟨⟨r, u, hv, hp, hb⟩, hF⟩, st⟩ | ⟨q, st₀, t, T', L, E, ce, h0, X', hL, e1, e2, ⟨u, hp, hb, hF⟩, hce, hcv, hcl, st⟩
  · cases hv
    obtain ⟨k1, k2, k3⟩ := vx_keep h0 e1 hS hA hf hL hF
    obtain ⟨t2, a1, b1⟩ := kk r u t T'.heap (locs ++ L) e1.symm (by rw [← e2]; exact X'.warmed.alike) hp hb k1 k2 k3 T' rfl X'
    exact ⟨t2, st t2 a1, b1⟩
  · obtain ⟨k1, k2, k3⟩ := vx_keep h0 e1 hS hAX hf hL hF
    obtain ⟨t2, a1, b1⟩ := kx E ce q u t T'.heap (locs ++ L) e1.symm (by rw [← e2]; exact X'.warmed.alike) hp hb k1 k2 k3 (by rw [e1]; exact hce) hcv hcl T' rfl X'
    exact ⟨t2, st.trans a1, b1⟩
theorem vx_callv {S SX : Type} {post : S → Prop} {px : SX → Prop} {B : S → State → Prop} {BX : String → SX → State → Prop} {AX : Nat → Prop} (hr : vx_Run p l e R s m args below meth c H locs cells slots mc ms (F0 m pc ls st0) rest (va_Qv post B A1 a) (vx_X px BX AX) free) (hS : va_S A0 H0 H locs) (hA : ∀ q, q < H.size → A1 q → A0 q) (hf : ∀ q, free q → A0 q) (hAX : ∀ q, q < H.size → AX q → A0 q)
    (kx : ∀ (E : String) (ce : Cell) (q9 : Addr) (u : SX) (t : State) (H1 : Heap) (locs1 : List Loc), t.heap = H1 → s.vm.Alike t.vm → px u → BX E u t → H.size ≤ H1.size → (∀ q : Nat, q < H.size → ¬ AX q → H1[q]? = H[q]?) → va_S A0 H0 H1 locs1 → H1[q9]? = some ce → ce.vm = .none → s.vm.findClass E = some ce.cls → vx_W p l e R s m args below meth c H1 locs1 (cells + mc) (slots + ms) Q (F0 m pc ls rest) q9)
    (kk : ∀ (u : S) (t : State) (H1 : Heap) (locs1 : List Loc), t.heap = H1 → s.vm.Alike t.vm → post u → B u t → H.size ≤ H1.size → (∀ q : Nat, q < H.size → ¬ A1 q → H1[q]? = H[q]?) → va_S A0 H0 H1 locs1 → W p l e R s m args below meth c H1 locs1 (cells + mc) (slots + ms) Q (F0 m (pc + 3) ls (rest))) : W p l e R s m args below meth c H locs cells slots Q (F0 m pc ls st0) := by
  intro T hT X
  rcases hr T hT X with ⟨v, st₀, t, T', L, h0, X', hL, e1, e2, ⟨⟨u, hv, hp, hb⟩, hF⟩, st⟩ | ⟨q, st₀, t, T', L, E, ce, h0, X', hL, e1, e2, ⟨u, hp, hb, hF⟩, hce, hcv, hcl, st⟩
  · cases hv
    obtain ⟨k1, k2, k3⟩ := vx_keep h0 e1 hS hA hf hL hF
    obtain ⟨t2, a1, b1⟩ := kk u t T'.heap (locs ++ L) e1.symm (by rw [← e2]; exact X'.warmed.alike) hp hb k1 k2 k3 T' rfl X'
    exact ⟨t2, st t2 a1, b1⟩
  · obtain ⟨k1, k2, k3⟩ := vx_keep h0 e1 hS hAX hf hL hF
    obtain ⟨t2, a1, b1⟩ := kx E ce q u t T'.heap (locs ++ L) e1.symm (by rw [← e2]; exact X'.warmed.alike) hp hb k1 k2 k3 (by rw [e1]; exact hce) hcv hcl T' rfl X'
    exact ⟨t2, st.trans a1, b1⟩
/-- caught by the row x of this method's table; the rows ahead don't take it -/
theorem vx_catch {own name : String} {E : String} {ce : Cell} {q : Addr} (hown : s.vm.findClass own = some m.cls) (pre : List ExceptionTableEntry) (x : ExceptionTableEntry) (suf : List ExceptionTableEntry) (hsplit : c.exceptionTable.toList = pre ++ x :: suf)
    (hpass : ∀ z ∈ pre, covers z pc = false ∨ (z.catchType ≠ 0 ∧ ∃ nm : String, (Cond.classLink own z.catchType nm).before args s = true ∧ va_Nc E nm s)) (hx : covers x pc = true) (h0 : x.catchType ≠ 0)
    (hlink : (Cond.classLink own x.catchType name).before args s = true) (hcast : (Cond.castable E name).before args s = true) (hcell : H[q]? = some ce) (hv : ce.vm = .none) (hcl : s.vm.findClass E = some ce.cls)
    (kk : W p l e R s m args below meth c H locs cells slots Q (F0 m x.handlerPc ls [.ref q])) : vx_W p l e R s m args below meth c H locs cells slots Q (F0 m pc ls rest) q := by
  intro T hT X
  have hpl : e.platform.magicAccessors = ({} : Platform).magicAccessors := by rw [X.admits.platform]
  obtain ⟨c3, c4, hc3, hc4, hasg⟩ := Cond.castable_spec hcast
  cases Option.some.inj (hc3.symm.trans hcl)
  obtain ⟨c5, hc5, hcl5⟩ := Cond.classLink_spec hown hlink e.platform hpl
  cases Option.some.inj (hc4.symm.trans hc5)
  obtain ⟨vm', X', st⟩ := X.thenCaughtThrough q (g := F0 m pc ls rest) rfl (Steps.refl _) (by rw [hT]; exact hcell) (by rw [hv]; rfl) (by obtain ⟨k9, h9, -⟩ := Vm.findClass_spec hcl; exact ⟨k9, h9⟩) pre x suf hsplit
    (fun z hz => by
      rcases hpass z hz with h | ⟨hz0, nm, hl1, hn1⟩
      · exact Or.inl h
      · obtain ⟨c6, hc6, hcl6⟩ := Cond.classLink_spec hown hl1 e.platform hpl
        obtain ⟨a8, b8, h1, h2, h3⟩ := hn1
        cases Option.some.inj (h1.symm.trans hcl)
        cases Option.some.inj (h2.symm.trans hc6)
        exact Or.inr ⟨hz0, _, hcl6, h3⟩) hx (Or.inr ⟨h0, c4, hcl5, hasg⟩)
  obtain ⟨t, a1, b1⟩ := kk (T.setVm vm') hT X'
  exact ⟨t, st.trans a1, b1⟩
end Rows
section Ends
variable {p : Program} {l : Launch} {e : Env} {R : Room} {s : State} {m : MethodId} {args : Array Value} {below : List Frame} {meth : Method} {c : Code} {H : Heap} {locs : List Loc} {cells slots : Nat} {Q : State → Prop}
variable {mc ms : Nat} {free : Addr → Prop} {A0 A1 : Nat → Prop} {H0 : Heap} {a : Array Value} {ls : Array Slot} {st0 rest : List Value}
variable {Qc : Array Value → State → Outcome → State → Prop} {XC : String → State → State → Prop}
/-- what a body that may throw owes at its end -/
def vx_MQ (below : List Frame) (Qc : Array Value → State → Outcome → State → Prop) (XC : String → State → State → Prop) (a : Array Value) (s : State) (mc ms : Nat) (free : Addr → Prop) : State → Prop := fun t =>
  ∃ o, t.status = .running ∧ Ended t below o ∧ vx_Q Qc XC mc ms free a s o t
theorem vx_ret {g : JFrame} {mc ms : Nat} (k : W p l e R s m args below meth c H locs cells slots (MQ below Qc args s mc ms free) g) : W p l e R s m args below meth c H locs cells slots (vx_MQ below Qc XC args s mc ms free) g := by
  intro T hT X
  obtain ⟨t, a1, o, b1, b2, b3, b4⟩ := k T hT X
  exact ⟨t, a1, o, b1, b2, Or.inl ⟨b3, b4⟩⟩
/-- not caught here: it goes on to the caller -/
theorem vx_widen {g : JFrame} {q : Addr} {k n : Nat} (h1 : cells ≤ k) (h2 : slots ≤ n) (kk : vx_W p l e R s m args below meth c H locs k n Q g q) : vx_W p l e R s m args below meth c H locs cells slots Q g q := fun T hT X => kk T hT (stand_widen X h1 h2)
theorem vx_out {pc : Nat} {E : String} {ce : Cell} {q : Addr} {mc ms : Nat} (hout : ∀ x ∈ c.exceptionTable.toList, covers x pc = false) (hlocks : meth.locks = false) (hcell : H[q]? = some ce) (hv : ce.vm = .none) (hcl : s.vm.findClass E = some ce.cls)
    (hx : ∀ t : State, t.heap = H → s.vm.Alike t.vm → XC E s t) (hf : ∀ z ∈ locs, free z.base) (hc : cells ≤ mc) (hs : slots ≤ ms) :
    vx_W p l e R s m args below meth c H locs cells slots (vx_MQ below Qc XC args s mc ms free) (F0 m pc ls rest) q := by
  intro T hT X
  obtain ⟨st1, hrun, hend, hW, hsm⟩ := X.leaveThrown q (g := F0 m pc ls rest) rfl rfl rfl hout hlocks
  have hcell9 : (T.setFrames (.throwing q :: below)).heap[q]? = some ce := by
    show T.heap[q]? = some ce
    rw [hT]; exact hcell
  exact ⟨_, st1, .threw q, hrun, hend, Or.inr ⟨q, rfl, E, ce, locs, hx _ hT hW.alike, hcell9, hv, hcl, hW, hsm.mono hc hs, hf⟩⟩
theorem vx_frame {U : State} {k n : Nat} (h : s.sameButNew ({ U with vm := s.vm } : State) locs k n) : s.heap.size ≤ U.heap.size ∧ ∀ q : Nat, q < s.heap.size → (∀ z ∈ locs, z.base ≠ q) → U.heap[q]? = s.heap[q]? := by
  obtain ⟨-, h2, -, -, -, h6⟩ := h
  refine ⟨h2, fun q hq hz => ?_⟩
  obtain ⟨c9, e1, e2, e3, e4⟩ := h6 q _ (Array.getElem?_eq_getElem hq)
  have hs : c9.slots = (s.heap[q]).slots := Array.ext_getElem? fun i => e4 i fun hm => hz _ hm rfl
  have h9 : c9 = s.heap[q] := by
    rw [hs] at e2
    exact e2
  have e5 : U.heap[q]? = some c9 := e1
  rw [e5, h9, Array.getElem?_eq_getElem hq]
/-- the words of a throw but the four that speak of the heap -/
def vx_no (w : Cond) : Bool := decide (w ≠ .isRef (.static Bundle.tN "UNASSIGNED_STACK" Bundle.steD)) && decide (w ≠ .isRef (.static Bundle.tN "SUPPRESSED_SENTINEL" Bundle.listD)) && decide (w ≠ .laysStatic Bundle.tN "UNASSIGNED_STACK" Bundle.steD) && decide (w ≠ .laysStatic Bundle.tN "SUPPRESSED_SENTINEL" Bundle.listD)
def vx_at0 (own : String) (ic : Nat) (X : String) (names : List String) : List Cond := (Bundle.ownAtoms0 own ic X names).filter vx_no
def vx_atS (own : String) (ic : Nat) (X : String) (names : List String) : List Cond := (Bundle.ownAtoms own ic X names).filter vx_no
/-- a word that the tables alone decide, or a good one -/
def vx_ot (w : Cond) : Bool := w.onTables || goodWord w
theorem vx_ot_at {args a' : Array Value} {s U : State} {w : Cond} (hW : s.WarmedH U.vm) (hvm : s.vm = U.vm) (hg : vx_ot w = true) (h : w.before args s = true) : w.before a' U = true := by
  simp only [vx_ot, Bool.or_eq_true] at hg
  rcases hg with hg | hg
  · exact va_tabs hg hvm h
  · exact word_at hW (good_of_word hg) h
/-- a list's words: the good ones out of the method's own list, the others by premises of their own -/
theorem vx_hat {args : Array Value} {s : State} {L B : List Cond} (h1 : ∀ w ∈ L.filter goodWord, w.before args s = true) (h2 : ∀ w ∈ L.filter (fun w => !goodWord w), w ∈ B) (h3 : ∀ w ∈ B, w.before args s = true) : ∀ w ∈ L, w.before args s = true := by
  intro w hw
  by_cases g : goodWord w = true
  · exact h1 w (List.mem_filter.mpr ⟨hw, g⟩)
  · refine h3 w (h2 w (List.mem_filter.mpr ⟨hw, ?_⟩))
    show (!goodWord w) = true
    cases hgw : goodWord w
    · rfl
    · exact absurd hgw g
theorem vx_c {args : Array Value} {s : State} {w : Cond} {B : List Cond} (h : w.before args s = true) (t : ∀ w ∈ B, w.before args s = true) : ∀ w' ∈ w :: B, w'.before args s = true := fun w' h' => (List.mem_cons.mp h').elim (fun e => by rw [e]; exact h) (t w')
theorem vx_n {args : Array Value} {s : State} : ∀ w ∈ ([] : List Cond), w.before args s = true := fun _ h => nomatch h
theorem vx_own {args : Array Value} {s : State} {L : List Cond} (h1 : ∀ w ∈ L.filter vx_no, w.before args s = true)
    (hU : (Cond.isRef (.static Bundle.tN "UNASSIGNED_STACK" Bundle.steD)).before args s = true) (hN : (Cond.isRef (.static Bundle.tN "SUPPRESSED_SENTINEL" Bundle.listD)).before args s = true)
    (lU : (Cond.laysStatic Bundle.tN "UNASSIGNED_STACK" Bundle.steD).before args s = true) (lN : (Cond.laysStatic Bundle.tN "SUPPRESSED_SENTINEL" Bundle.listD).before args s = true) : ∀ w ∈ L, w.before args s = true := by
  intro w hw
  by_cases e1 : w = .isRef (.static Bundle.tN "UNASSIGNED_STACK" Bundle.steD)
  · rw [e1]; exact hU
  · by_cases e2 : w = .isRef (.static Bundle.tN "SUPPRESSED_SENTINEL" Bundle.listD)
    · rw [e2]; exact hN
    · by_cases e3 : w = .laysStatic Bundle.tN "UNASSIGNED_STACK" Bundle.steD
      · rw [e3]; exact lU
      · by_cases e4 : w = .laysStatic Bundle.tN "SUPPRESSED_SENTINEL" Bundle.listD
        · rw [e4]; exact lN
        · exact h1 w (List.mem_filter.mpr ⟨hw, by unfold vx_no; rw [decide_eq_true e1, decide_eq_true e2, decide_eq_true e3, decide_eq_true e4]; rfl⟩)
/-- where a static field lies, its class's statics cell in H -/
def vx_L (C n d : String) (A : Nat → Prop) (U : State) (H : Heap) : Prop := ∃ (c : ClassId) (k : Class) (i : Nat) (f : Field) (a : Nat) (cell : Cell), U.vm.findClass C = some c ∧ U.fieldFound? C n d = some (c, k, i, f) ∧ f.isStatic = true ∧ k.statics = some a ∧ H[a]? = some cell ∧ cell.vm.isStatics = true ∧ cell.cls = c ∧ f.slot < cell.slots.size ∧ k.staticTypes[f.slot]? = some f.type ∧ ¬ A a
theorem vx_L.moved {C n d : String} {A : Nat → Prop} {u U : State} {H : Heap} (hvm : u.vm.Alike U.vm) (h : vx_L C n d A u H) : vx_L C n d A U H := by
  obtain ⟨c, k, i, f, a, cell, h1, h2, h3, h4, h5, h6, h7, h8, h9, h10⟩ := h
  obtain ⟨k', hi', he⟩ := State.fieldFound?_setVm hvm h2
  exact ⟨c, k', i, f, a, cell, by rw [hvm.findClass]; exact h1, hi', h3, by rw [he]; exact h4, h5, h6, h7, h8, by rw [he]; exact h9, h10⟩
theorem vx_L.kept {C n d : String} {A : Nat → Prop} {U : State} {H H1 : Heap} (h : vx_L C n d A U H) (hq : ∀ a : Nat, a < H.size → ¬ A a → H1[a]? = H[a]?) : vx_L C n d A U H1 := by
  obtain ⟨c, k, i, f, a, cell, h1, h2, h3, h4, h5, h6, h7, h8, h9, h10⟩ := h
  exact ⟨c, k, i, f, a, cell, h1, h2, h3, h4, by rw [hq a (Array.getElem?_eq_some_iff.mp h5).1 h10]; exact h5, h6, h7, h8, h9, h10⟩
theorem vx_L.narrow {C n d : String} {A B : Nat → Prop} {U : State} {H : Heap} (h : vx_L C n d A U H) (hAB : ∀ q, B q → A q) : vx_L C n d B U H := by
  obtain ⟨c, k, i, f, a, cell, h1, h2, h3, h4, h5, h6, h7, h8, h9, h10⟩ := h
  exact ⟨c, k, i, f, a, cell, h1, h2, h3, h4, h5, h6, h7, h8, h9, fun z => h10 (hAB _ z)⟩
theorem vx_L.word {C n d : String} {A : Nat → Prop} {s : State} {args : Array Value} (h : vx_L C n d A s s.heap) : (Cond.laysStatic C n d).before args s = true := by
  obtain ⟨c, k, i, f, a, cell, h1, h2, h3, h4, h5, h6, h7, h8, h9, -⟩ := h
  show (Cond.laysStatic C n d).holds args s none s [] = true
  exact Cond.laysStatic_of h1 h2 h3 h4 h5 h6 h7 h8 h9
/-- .. and what it holds: null or some reference -/
def vx_Zq (C n d : String) (A : Nat → Prop) (U : State) (H : Heap) : Prop := va_Zq C n d A U H ∧ vx_L C n d A U H
theorem vx_Zq.moved {C n d : String} {A : Nat → Prop} {u U : State} {H : Heap} (hvm : u.vm.Alike U.vm) (h : vx_Zq C n d A u H) : vx_Zq C n d A U H := ⟨va_Zq.moved hvm h.1, vx_L.moved hvm h.2⟩
theorem vx_Zq.kept {C n d : String} {A : Nat → Prop} {U : State} {H H1 : Heap} (h : vx_Zq C n d A U H) (hq : ∀ a : Nat, a < H.size → ¬ A a → H1[a]? = H[a]?) : vx_Zq C n d A U H1 := ⟨va_Zq.kept h.1 hq, vx_L.kept h.2 hq⟩
theorem vx_Zq.narrow {C n d : String} {A B : Nat → Prop} {U : State} {H : Heap} (h : vx_Zq C n d A U H) (hAB : ∀ q, B q → A q) : vx_Zq C n d B U H := ⟨va_Zq.narrow h.1 hAB, vx_L.narrow h.2 hAB⟩
theorem vx_Zqof {args : Array Value} {s : State} {C n d : String} {A : Nat → Prop} (hl : (Cond.laysStatic C n d).before args s = true) (hini : (Cond.initialized C).before args s = true) (h : (Cond.isRef (.static C n d)).before args s = true) (hA : ∀ a : Nat, a < s.heap.size → ¬ A a) : vx_Zq C n d A s s.heap := by
  refine ⟨va_Zqof hl hini h hA, ?_⟩
  obtain ⟨c, k, i, f, a, cell, h1, h2, h3, h4, h5, h6, h7, h8, h9⟩ := Cond.laysStatic_spec hl
  exact ⟨c, k, i, f, a, cell, h1, h2, h3, h4, h5, h6, h7, h8, h9, hA a (Array.getElem?_eq_some_iff.mp h5).1⟩
theorem vx_isRef {C n d : String} {v : Value} {A : Nat → Prop} {s : State} {args : Array Value} (h : va_Z C n d v A s s.heap) (hv : v.isRef = true) : (Cond.isRef (.static C n d)).before args s = true := by
  obtain ⟨cf, kf, fi, f, a, cell, h1, h2, h3, h4, h5, h6, h7, -⟩ := h
  have he : (Term.static C n d).eval args s none [] s = some v := by
    simp [Term.eval, State.fieldNamed?, h1, h2, h4, h5, h6, h7]
  simp only [Cond.before, Cond.holds, Cond.value, he]
  cases v <;> simp_all [Value.isRef]
theorem vx_isRefq {C n d : String} {A : Nat → Prop} {s : State} {args : Array Value} (h : va_Zq C n d A s s.heap) : (Cond.isRef (.static C n d)).before args s = true := by
  rcases h with h | ⟨t, h⟩
  · exact vx_isRef h rfl
  · exact vx_isRef h rfl
/-- the same frame, seen from here: as if the method were called anew in this heap -/
theorem vx_rebase {T : State} (X : Stand p l e R s m args below meth c T locs cells slots) {R' : Room} (hf : R'.frames ≤ R.frames) (hl : R'.locals ≤ R.locals) (hc : cells + R'.cells ≤ R.cells) (hs : slots + R'.slots ≤ R.slots) :
    Stand p l e R' ((T.setVm s.vm).setFrames (.invoking m args :: below)) m args below meth c T [] 0 0 := by
  have htop : (T.setVm s.vm).topJava?.isSome := X.here.top
  have hF : ((T.setVm s.vm).setFrames (.invoking m args :: below)).frames = .invoking m args :: below := State.frames_setFrames _ (State.cur_lt_of_top htop)
  obtain ⟨g₀, hg0⟩ := Option.isSome_iff_exists.mp htop
  obtain ⟨r, hr⟩ := State.topJava?_eq_some.mp hg0
  have hl9 : e.platform.stackLimits (T.setVm s.vm).me = e.platform.stackLimits s.me := X.limits
  have hb9 : (T.setVm s.vm).me.stackBytes = s.me.stackBytes := X.bytes
  refine ⟨X.admits, X.cas, X.clock, hF, ?_, X.hears, X.method, X.code, X.here, X.tail, X.warmed, ?_, ?_, ?_⟩
  · have h := X.room
    have hU : ((T.setVm s.vm).setFrames (.invoking m args :: below)).localsInUse = s.localsInUse := by
      rw [State.localsInUse_invoking hF (meth := meth) (c := c) X.method X.code, State.localsInUse_invoking X.frames X.method X.code]
    simp only [State.hasRoom, Bool.and_eq_true, decide_eq_true_eq] at h ⊢
    obtain ⟨⟨⟨⟨h1, h2, h3, h4, h5, h6⟩, h7⟩, h8⟩, h9⟩ := h
    rw [X.frames, List.length_cons] at h2 h3
    have q1 := X.heapSize
    have q2 := X.used
    simp only [hF, hU, List.length_cons, State.stackLimits_setFrames, State.stackBytes_setFrames, hl9, hb9]
    refine ⟨⟨⟨⟨by omega, by omega, by omega, by omega, by omega, h6⟩, ?_⟩, ?_⟩, X.book⟩
    · show T.heap.size + R'.cells ≤ e.platform.maxCells
      omega
    · show T.slotsUsed + R'.slots ≤ e.platform.maxSlots
      omega
  · rw [State.stackLimits_setFrames]; rfl
  · rw [State.stackBytes_setFrames]; rfl
  · refine ⟨?_, Nat.le_refl _, Nat.le_refl _, ?_, ?_, fun a c9 h9 => ⟨c9, h9, rfl, rfl, fun _ _ => rfl⟩⟩
    · obtain ⟨t, ht, -⟩ := State.frames_cons hr
      show T.setVm s.vm = { ((T.setVm s.vm).setFrames (.invoking m args :: below)).setFrames (T.setVm s.vm).frames with heap := T.heap, slotsUsed := T.slotsUsed }
      rw [State.setFrames_setFrames, State.setFrames_self ht]
      rfl
    · show T.slotsUsed = T.slotsUsed + ((T.heap.toList.drop T.heap.size).map (·.slots.size)).sum
      rw [List.drop_eq_nil_of_le (Nat.le_of_eq Array.length_toList)]
      rfl
    · show ((T.heap.toList.drop T.heap.size).map (·.slots.size)).sum ≤ 0
      rw [List.drop_eq_nil_of_le (Nat.le_of_eq Array.length_toList)]
      exact Nat.le_refl _
/-- 'throw new E()': new; dup; invokespecial; athrow -/
theorem vx_throw0 {cc : ByteArray} {pc : Nat} (hexec : p.tables.exec = Jvm.exec) (hb : c.code = cc) (hl : l.stackTraces = false) {own cls : String} {names : List String} {ik ic mc ms : Nat} {A : Nat → Prop}
    (hown : s.vm.findClass own = some m.cls) (hcls : Bundle.fit cls = true) (hnames : ∀ n ∈ names, Bundle.fit n = true)
    (hk : (Cond.classLink own ik cls).before args s = true) (hini : (Cond.initialized cls).before args s = true) (hat : ∀ w ∈ vx_at0 own ic cls names, w.before args s = true)
    (hgood : ∀ w ∈ Cond.classLink own ik cls :: Cond.initialized cls :: vx_at0 own ic cls names, vx_ot w = true)
    (hU : vx_Zq Bundle.tN "UNASSIGNED_STACK" Bundle.steD A s s.heap) (hN : vx_Zq Bundle.tN "SUPPRESSED_SENTINEL" Bundle.listD A s s.heap) (hS : va_S A s.heap H locs) (hsize : ls.size = c.maxLocals)
    (d0 : decode cc pc = .ok (.new ik, 3)) (d3 : decode cc (pc + 3) = .ok (.dup, 1)) (d4 : decode cc (pc + 4) = .ok (.invokespecial ic, 3)) (d7 : decode cc (pc + 7) = .ok (.athrow, 1))
    (hout : ∀ x ∈ c.exceptionTable.toList, covers x (pc + 7) = false)
    (hRframes : names.length + 3 < R.frames) (hRlocals : (rest.map fun v => v.category).sum + (13 * (names.length + 1) + 42) ≤ R.locals) (hRcells : cells + 1 ≤ R.cells) (hRslots : slots + 6 ≤ R.slots) (hlocks : meth.locks = false)
    (hx : ∀ t : State, s.vm.Alike t.vm → H.size ≤ t.heap.size → (∀ q : Nat, q < H.size → t.heap[q]? = H[q]?) → XC cls s t)
    (hf : ∀ z ∈ locs, free z.base) (hc : cells + 1 ≤ mc) (hs : slots + 6 ≤ ms) :
    W p l e R s m args below meth c H locs cells slots (vx_MQ below Qc XC args s mc ms free) (F0 m pc ls rest) := by
  intro T hT X
  have htr : e.platform.stackTraces = false := (show e.platform.stackTraces = l.stackTraces by rw [X.admits.platform]).trans hl
  have Y := vx_rebase X (R' := { frames := R.frames, locals := R.locals, cells := 1, slots := 6 }) (Nat.le_refl _) (Nat.le_refl _) hRcells hRslots
  obtain ⟨s', hA⟩ : ∃ z, z = (T.setVm s.vm).setFrames (.invoking m args :: below) := ⟨_, rfl⟩
  rw [← hA] at Y
  have hvm : s'.vm = s.vm := by rw [hA]; rfl
  have hhp : s'.heap = H := by rw [hA]; exact hT
  have hW0 : s.WarmedH s'.vm := by rw [hvm]; exact State.WarmedH.refl s
  have hat' : ∀ w ∈ vx_at0 own ic cls names, w.before args s' = true := fun w hw => vx_ot_at hW0 hvm.symm (hgood w (List.mem_cons_of_mem _ (List.mem_cons_of_mem _ hw))) (hat w hw)
  have hk' : (Cond.classLink own ik cls).before args s' = true := vx_ot_at hW0 hvm.symm (hgood _ List.mem_cons_self) hk
  have hini' : (Cond.initialized cls).before args s' = true := vx_ot_at hW0 hvm.symm (hgood _ (List.mem_cons_of_mem _ List.mem_cons_self)) hini
  have hU' : vx_Zq Bundle.tN "UNASSIGNED_STACK" Bundle.steD A s' s'.heap := by rw [hhp]; exact vx_Zq.moved hW0.alike (hU.kept hS.2.1)
  have hN' : vx_Zq Bundle.tN "SUPPRESSED_SENTINEL" Bundle.listD A s' s'.heap := by rw [hhp]; exact vx_Zq.moved hW0.alike (hN.kept hS.2.1)
  have h : ∀ w ∈ Bundle.ownAtoms0 own ic cls names, w.before args s' = true := vx_own hat' (vx_isRefq hU'.1) (vx_isRefq hN'.1) hU'.2.word hN'.2.word
  have hown' : s'.vm.findClass own = some m.cls := by rw [hvm]; exact hown
  have hins : (Cond.instantiable cls 6).before args s' = true := h _ (by simp [Bundle.ownAtoms0])
  obtain ⟨vm₁, cX, kX, hfX, hkX, -, -, X₁, st1⟩ := Y.newCold hexec (own := own) (C := cls) (index := ik) (n := 6) hown' hk' hins hini'
    (g := F0 m pc ls rest) rfl (by rw [hb]; exact d0) (Nat.le_refl _) (Nat.le_refl _)
  generalize hT1 : (T.setVm vm₁).pushCell { cls := cX, slots := kX.instanceTypes.map defaultValue, vm := .none } = T1 at X₁ st1
  have hcat : (Value.ref T.heap.size).category = 1 := rfl
  have hcellA : T1.heap[T.heap.size]? = some (freshCell cX kX) := by rw [← hT1]; exact State.heap_pushCell_size _ _
  have d3' : decode c.code (pc + 3) = .ok (.dup, 1) := by rw [hb]; exact d3
  obtain ⟨U, hsteps, hrun, hend, hW, hsame, ce, hce, hO⟩ := X₁.ctorThrow0 hexec htr (own := own) (cls := cls) (names := names) (ic := ic) hown' hcls hnames h (fun x hx => nomatch hx) hfX hkX hcellA (by rw [hhp, hT]; exact Nat.le_refl _)
    (g := { method := m, pc := pc + 4, locals := ls, stack := .ref T.heap.size :: .ref T.heap.size :: rest, locked := none }) rfl hsize rfl rfl (rest := rest) rfl
    (by rw [hb]; exact d4) (by rw [hb]; exact d7) hout hRframes (by simp only [List.map_cons, List.sum_cons, hcat]; omega) hlocks
  obtain ⟨f1, f2⟩ := vx_frame hsame
  rw [hhp] at f1 f2
  have hWs : s.WarmedH U.vm := State.WarmedH.trans hW0 hW
  have hcl : s.vm.findClass cls = some ce.cls := by
    have h9 := hO.cls
    rw [hvm] at h9
    exact h9
  have hall : s.sameButNew ({ U with vm := s.vm } : State) locs mc ms := by
    subst hA
    obtain ⟨e1, e2⟩ := hsame
    rw [State.setFrames_setFrames] at e1
    have h2 : (T.setVm s.vm).sameButNew ({ U with vm := s.vm } : State) [] (0 + 1) (0 + 6) := ⟨e1, e2⟩
    have h3 := X.same.trans h2
    rw [List.append_nil] at h3
    exact h3.mono hc hs
  refine ⟨U, ?_, .threw T.heap.size, hrun, hend, Or.inr ⟨T.heap.size, rfl, cls, ce, locs, hx U hWs.alike f1 (fun q hq => f2 q hq (fun z hz => nomatch hz)), hce, hO.vm, hcl, hWs, hall, hf⟩⟩
  refine st1 _ ?_
  show Steps p.tables e below (T1.setTop { method := m, pc := pc + 3, locals := ls, stack := .ref T.heap.size :: rest, locked := none }) _
  jvm_step X₁.here [X₁.here.top, hexec, d3', Value.category]
  exact hsteps
/-- 'throw new E("text")': new; dup; ldc; invokespecial; athrow -/
theorem vx_throwS {cc : ByteArray} {pc : Nat} (hexec : p.tables.exec = Jvm.exec) (hb : c.code = cc) (hl : l.stackTraces = false) {own cls text : String} {names : List String} {ik is ic mc ms sa : Nat} {A : Nat → Prop}
    (hown : s.vm.findClass own = some m.cls) (hcls : Bundle.fit cls = true) (hnames : ∀ n ∈ names, Bundle.fit n = true)
    (hk : (Cond.classLink own ik cls).before args s = true) (hini : (Cond.initialized cls).before args s = true) (hstr : vk_R own is text sa s) (hat : ∀ w ∈ vx_atS own ic cls names, w.before args s = true)
    (hgood : ∀ w ∈ Cond.classLink own ik cls :: Cond.initialized cls :: vx_atS own ic cls names, vx_ot w = true)
    (hU : vx_Zq Bundle.tN "UNASSIGNED_STACK" Bundle.steD A s s.heap) (hN : vx_Zq Bundle.tN "SUPPRESSED_SENTINEL" Bundle.listD A s s.heap) (hS : va_S A s.heap H locs) (hsize : ls.size = c.maxLocals)
    (d0 : decode cc pc = .ok (.new ik, 3)) (d3 : decode cc (pc + 3) = .ok (.dup, 1)) (d4 : decode cc (pc + 4) = .ok (.ldc is, 2)) (d6 : decode cc (pc + 6) = .ok (.invokespecial ic, 3)) (d9 : decode cc (pc + 9) = .ok (.athrow, 1))
    (hout : ∀ x ∈ c.exceptionTable.toList, covers x (pc + 9) = false)
    (hRframes : names.length + 3 < R.frames) (hRlocals : (rest.map fun v => v.category).sum + (13 * (names.length + 1) + 43) ≤ R.locals) (hRcells : cells + 1 ≤ R.cells) (hRslots : slots + 6 ≤ R.slots) (hlocks : meth.locks = false)
    (hx : ∀ t : State, s.vm.Alike t.vm → H.size ≤ t.heap.size → (∀ q : Nat, q < H.size → t.heap[q]? = H[q]?) → XC cls s t)
    (hf : ∀ z ∈ locs, free z.base) (hc : cells + 1 ≤ mc) (hs : slots + 6 ≤ ms) :
    W p l e R s m args below meth c H locs cells slots (vx_MQ below Qc XC args s mc ms free) (F0 m pc ls rest) := by
  intro T hT X
  have htr : e.platform.stackTraces = false := (show e.platform.stackTraces = l.stackTraces by rw [X.admits.platform]).trans hl
  have Y := vx_rebase X (R' := { frames := R.frames, locals := R.locals, cells := 1, slots := 6 }) (Nat.le_refl _) (Nat.le_refl _) hRcells hRslots
  obtain ⟨s', hA⟩ : ∃ z, z = (T.setVm s.vm).setFrames (.invoking m args :: below) := ⟨_, rfl⟩
  rw [← hA] at Y
  have hvm : s'.vm = s.vm := by rw [hA]; rfl
  have hhp : s'.heap = H := by rw [hA]; exact hT
  have hW0 : s.WarmedH s'.vm := by rw [hvm]; exact State.WarmedH.refl s
  have hat' : ∀ w ∈ vx_atS own ic cls names, w.before args s' = true := fun w hw => vx_ot_at hW0 hvm.symm (hgood w (List.mem_cons_of_mem _ (List.mem_cons_of_mem _ hw))) (hat w hw)
  have hk' : (Cond.classLink own ik cls).before args s' = true := vx_ot_at hW0 hvm.symm (hgood _ List.mem_cons_self) hk
  have hini' : (Cond.initialized cls).before args s' = true := vx_ot_at hW0 hvm.symm (hgood _ (List.mem_cons_of_mem _ List.mem_cons_self)) hini
  have hU' : vx_Zq Bundle.tN "UNASSIGNED_STACK" Bundle.steD A s' s'.heap := by rw [hhp]; exact vx_Zq.moved hW0.alike (hU.kept hS.2.1)
  have hN' : vx_Zq Bundle.tN "SUPPRESSED_SENTINEL" Bundle.listD A s' s'.heap := by rw [hhp]; exact vx_Zq.moved hW0.alike (hN.kept hS.2.1)
  have h : ∀ w ∈ Bundle.ownAtoms own ic cls names, w.before args s' = true := vx_own hat' (vx_isRefq hU'.1) (vx_isRefq hN'.1) hU'.2.word hN'.2.word
  have hown' : s'.vm.findClass own = some m.cls := by rw [hvm]; exact hown
  have hins : (Cond.instantiable cls 6).before args s' = true := h _ (by simp [Bundle.ownAtoms])
  obtain ⟨vm₁, cX, kX, hfX, hkX, -, -, X₁, st1⟩ := Y.newCold hexec (own := own) (C := cls) (index := ik) (n := 6) hown' hk' hins hini'
    (g := F0 m pc ls rest) rfl (by rw [hb]; exact d0) (Nat.le_refl _) (Nat.le_refl _)
  generalize hT1 : (T.setVm vm₁).pushCell { cls := cX, slots := kX.instanceTypes.map defaultValue, vm := .none } = T1 at X₁ st1
  have hcat : (Value.ref T.heap.size).category = 1 := rfl
  have hcellA : T1.heap[T.heap.size]? = some (freshCell cX kX) := by rw [← hT1]; exact State.heap_pushCell_size _ _
  have d3' : decode c.code (pc + 3) = .ok (.dup, 1) := by rw [hb]; exact d3
  have d4' : decode c.code (pc + 4) = .ok (.ldc is, 2) := by rw [hb]; exact d4
  have hstr' : vk_R own is text sa s' := vk_R.warm hW0 hstr
  obtain ⟨U, hsteps, hrun, hend, hW, hsame, ce, hce, hO⟩ := X₁.ctorThrowS hexec htr (own := own) (cls := cls) (names := names) (ic := ic) hown' hcls hnames h (fun x hx => nomatch hx) hfX hkX hcellA (by rw [hhp, hT]; exact Nat.le_refl _) (msg := .ref sa) rfl
    (g := { method := m, pc := pc + 6, locals := ls, stack := .ref sa :: .ref T.heap.size :: .ref T.heap.size :: rest, locked := none }) rfl hsize rfl rfl (rest := rest) rfl
    (by rw [hb]; exact d6) (by rw [hb]; exact d9) hout hRframes (by simp only [List.map_cons, List.sum_cons, hcat]; omega) hlocks
  obtain ⟨f1, f2⟩ := vx_frame hsame
  rw [hhp] at f1 f2
  have hWs : s.WarmedH U.vm := State.WarmedH.trans hW0 hW
  have hcl : s.vm.findClass cls = some ce.cls := by
    have h9 := hO.cls
    rw [hvm] at h9
    exact h9
  have hall : s.sameButNew ({ U with vm := s.vm } : State) locs mc ms := by
    subst hA
    obtain ⟨e1, e2⟩ := hsame
    rw [State.setFrames_setFrames] at e1
    have h2 : (T.setVm s.vm).sameButNew ({ U with vm := s.vm } : State) [] (0 + 1) (0 + 6) := ⟨e1, e2⟩
    have h3 := X.same.trans h2
    rw [List.append_nil] at h3
    exact h3.mono hc hs
  refine ⟨U, ?_, .threw T.heap.size, hrun, hend, Or.inr ⟨T.heap.size, rfl, cls, ce, locs, hx U hWs.alike f1 (fun q hq => f2 q hq (fun z hz => nomatch hz)), hce, hO.vm, hcl, hWs, hall, hf⟩⟩
  refine st1 _ ?_
  show Steps p.tables e below (T1.setTop { method := m, pc := pc + 3, locals := ls, stack := .ref T.heap.size :: rest, locked := none }) _
  jvm_step X₁.here [X₁.here.top, hexec, d3', Value.category]
  exact X₁.ldcString hexec (own := own) (text := text) (index := is) (a := sa) hown' hstr'.1 hstr'.2
    (g := { method := m, pc := pc + 4, locals := ls, stack := .ref T.heap.size :: .ref T.heap.size :: rest, locked := none }) rfl d4' _ hsteps
/-- 'throw new E("text")', the text by a wide index -/
theorem vx_throwSW {cc : ByteArray} {pc : Nat} (hexec : p.tables.exec = Jvm.exec) (hb : c.code = cc) (hl : l.stackTraces = false) {own cls text : String} {names : List String} {ik is ic mc ms sa : Nat} {A : Nat → Prop}
    (hown : s.vm.findClass own = some m.cls) (hcls : Bundle.fit cls = true) (hnames : ∀ n ∈ names, Bundle.fit n = true)
    (hk : (Cond.classLink own ik cls).before args s = true) (hini : (Cond.initialized cls).before args s = true) (hstr : vk_R own is text sa s) (hat : ∀ w ∈ vx_atS own ic cls names, w.before args s = true)
    (hgood : ∀ w ∈ Cond.classLink own ik cls :: Cond.initialized cls :: vx_atS own ic cls names, vx_ot w = true)
    (hU : vx_Zq Bundle.tN "UNASSIGNED_STACK" Bundle.steD A s s.heap) (hN : vx_Zq Bundle.tN "SUPPRESSED_SENTINEL" Bundle.listD A s s.heap) (hS : va_S A s.heap H locs) (hsize : ls.size = c.maxLocals)
    (d0 : decode cc pc = .ok (.new ik, 3)) (d3 : decode cc (pc + 3) = .ok (.dup, 1)) (d4 : decode cc (pc + 4) = .ok (.ldc_w is, 3)) (d7 : decode cc (pc + 7) = .ok (.invokespecial ic, 3)) (d10 : decode cc (pc + 10) = .ok (.athrow, 1))
    (hout : ∀ x ∈ c.exceptionTable.toList, covers x (pc + 10) = false)
    (hRframes : names.length + 3 < R.frames) (hRlocals : (rest.map fun v => v.category).sum + (13 * (names.length + 1) + 43) ≤ R.locals) (hRcells : cells + 1 ≤ R.cells) (hRslots : slots + 6 ≤ R.slots) (hlocks : meth.locks = false)
    (hx : ∀ t : State, s.vm.Alike t.vm → H.size ≤ t.heap.size → (∀ q : Nat, q < H.size → t.heap[q]? = H[q]?) → XC cls s t)
    (hf : ∀ z ∈ locs, free z.base) (hc : cells + 1 ≤ mc) (hs : slots + 6 ≤ ms) :
    W p l e R s m args below meth c H locs cells slots (vx_MQ below Qc XC args s mc ms free) (F0 m pc ls rest) := by
  intro T hT X
  have htr : e.platform.stackTraces = false := (show e.platform.stackTraces = l.stackTraces by rw [X.admits.platform]).trans hl
  have Y := vx_rebase X (R' := { frames := R.frames, locals := R.locals, cells := 1, slots := 6 }) (Nat.le_refl _) (Nat.le_refl _) hRcells hRslots
  obtain ⟨s', hA⟩ : ∃ z, z = (T.setVm s.vm).setFrames (.invoking m args :: below) := ⟨_, rfl⟩
  rw [← hA] at Y
  have hvm : s'.vm = s.vm := by rw [hA]; rfl
  have hhp : s'.heap = H := by rw [hA]; exact hT
  have hW0 : s.WarmedH s'.vm := by rw [hvm]; exact State.WarmedH.refl s
  have hat' : ∀ w ∈ vx_atS own ic cls names, w.before args s' = true := fun w hw => vx_ot_at hW0 hvm.symm (hgood w (List.mem_cons_of_mem _ (List.mem_cons_of_mem _ hw))) (hat w hw)
  have hk' : (Cond.classLink own ik cls).before args s' = true := vx_ot_at hW0 hvm.symm (hgood _ List.mem_cons_self) hk
  have hini' : (Cond.initialized cls).before args s' = true := vx_ot_at hW0 hvm.symm (hgood _ (List.mem_cons_of_mem _ List.mem_cons_self)) hini
  have hU' : vx_Zq Bundle.tN "UNASSIGNED_STACK" Bundle.steD A s' s'.heap := by rw [hhp]; exact vx_Zq.moved hW0.alike (hU.kept hS.2.1)
  have hN' : vx_Zq Bundle.tN "SUPPRESSED_SENTINEL" Bundle.listD A s' s'.heap := by rw [hhp]; exact vx_Zq.moved hW0.alike (hN.kept hS.2.1)
  have h : ∀ w ∈ Bundle.ownAtoms own ic cls names, w.before args s' = true := vx_own hat' (vx_isRefq hU'.1) (vx_isRefq hN'.1) hU'.2.word hN'.2.word
  have hown' : s'.vm.findClass own = some m.cls := by rw [hvm]; exact hown
  have hins : (Cond.instantiable cls 6).before args s' = true := h _ (by simp [Bundle.ownAtoms])
  obtain ⟨vm₁, cX, kX, hfX, hkX, -, -, X₁, st1⟩ := Y.newCold hexec (own := own) (C := cls) (index := ik) (n := 6) hown' hk' hins hini'
    (g := F0 m pc ls rest) rfl (by rw [hb]; exact d0) (Nat.le_refl _) (Nat.le_refl _)
  generalize hT1 : (T.setVm vm₁).pushCell { cls := cX, slots := kX.instanceTypes.map defaultValue, vm := .none } = T1 at X₁ st1
  have hcat : (Value.ref T.heap.size).category = 1 := rfl
  have hcellA : T1.heap[T.heap.size]? = some (freshCell cX kX) := by rw [← hT1]; exact State.heap_pushCell_size _ _
  have d3' : decode c.code (pc + 3) = .ok (.dup, 1) := by rw [hb]; exact d3
  have d4' : decode c.code (pc + 4) = .ok (.ldc_w is, 3) := by rw [hb]; exact d4
  have hstr' : vk_R own is text sa s' := vk_R.warm hW0 hstr
  obtain ⟨U, hsteps, hrun, hend, hW, hsame, ce, hce, hO⟩ := X₁.ctorThrowS hexec htr (own := own) (cls := cls) (names := names) (ic := ic) hown' hcls hnames h (fun x hx => nomatch hx) hfX hkX hcellA (by rw [hhp, hT]; exact Nat.le_refl _) (msg := .ref sa) rfl
    (g := { method := m, pc := pc + 7, locals := ls, stack := .ref sa :: .ref T.heap.size :: .ref T.heap.size :: rest, locked := none }) rfl hsize rfl rfl (rest := rest) rfl
    (by rw [hb]; exact d7) (by rw [hb]; exact d10) hout hRframes (by simp only [List.map_cons, List.sum_cons, hcat]; omega) hlocks
  obtain ⟨f1, f2⟩ := vx_frame hsame
  rw [hhp] at f1 f2
  have hWs : s.WarmedH U.vm := State.WarmedH.trans hW0 hW
  have hcl : s.vm.findClass cls = some ce.cls := by
    have h9 := hO.cls
    rw [hvm] at h9
    exact h9
  have hall : s.sameButNew ({ U with vm := s.vm } : State) locs mc ms := by
    subst hA
    obtain ⟨e1, e2⟩ := hsame
    rw [State.setFrames_setFrames] at e1
    have h2 : (T.setVm s.vm).sameButNew ({ U with vm := s.vm } : State) [] (0 + 1) (0 + 6) := ⟨e1, e2⟩
    have h3 := X.same.trans h2
    rw [List.append_nil] at h3
    exact h3.mono hc hs
  refine ⟨U, ?_, .threw T.heap.size, hrun, hend, Or.inr ⟨T.heap.size, rfl, cls, ce, locs, hx U hWs.alike f1 (fun q hq => f2 q hq (fun z hz => nomatch hz)), hce, hO.vm, hcl, hWs, hall, hf⟩⟩
  refine st1 _ ?_
  show Steps p.tables e below (T1.setTop { method := m, pc := pc + 3, locals := ls, stack := .ref T.heap.size :: rest, locked := none }) _
  jvm_step X₁.here [X₁.here.top, hexec, d3', Value.category]
  exact X₁.ldcStringW hexec (own := own) (text := text) (index := is) (a := sa) hown' hstr'.1 hstr'.2
    (g := { method := m, pc := pc + 4, locals := ls, stack := .ref T.heap.size :: .ref T.heap.size :: rest, locked := none }) rfl d4' _ hsteps
end Ends
section Bodies
variable {l : Launch}
theorem vx_ofW {y : MethodName} {ws ws' : List Cond} {rm : Room} {Pc : Array Value → State → Prop} {Qc : Array Value → State → Outcome → State → Prop} {XC : String → State → State → Prop} {mc ms : Nat} {free : Addr → Prop} {cc : ByteArray} {maxL : Nat} {ret : Option FieldType}
    (hy : plainName y.cls = true) (hw : ws = Cond.code y cc maxL ret :: ws')
    (body : ∀ p e s m args below meth c s₁, BodyLoose p l y (headSpec ws rm) cc maxL ret e s m args below meth c s₁ → c.maxLocals = maxL → (∀ x ∈ c.exceptionTable.toList, False) → Pc args s →
      W p l e (headSpec ws rm).room s m args below meth c s.heap [] 0 0 (vx_MQ below Qc XC args s mc ms free) (entryFrame m args maxL)) : vx_Met l y ws rm Pc Qc XC mc ms free := by
  refine MetFree.of_bodyS (code := cc) (maxLocals := maxL) (ret := ret) hy ?_ ?_
  · intro args s m h hn
    obtain ⟨meth, c, h1, h2, h3, h4, h5, h6, -, -⟩ := Cond.code_spec hn (atoms_spec (ws := ws) h _ (by rw [hw]; exact List.mem_cons_self))
    exact ⟨meth, c, h1, h2, h3, h4, h5, h6⟩
  · intro p e s m args below meth c s₁ B hml hP _
    have hh0 : s₁.heap = s.heap := by rw [B.state]; rfl
    have ht : ∀ x ∈ c.exceptionTable.toList, False := by
      obtain ⟨meth9, c9, h1, h2, -, -, -, -, h7, -⟩ := Cond.code_spec B.named (atoms_spec (ws := ws) B.pre _ (by rw [hw]; exact List.mem_cons_self))
      cases Option.some.inj (h1.symm.trans B.method)
      cases Option.some.inj (h2.symm.trans (Stand.of_body B).code)
      intro x hx
      rw [Array.isEmpty_iff.mp h7] at hx
      cases hx
    obtain ⟨t, a1, o, b1, b2, b3⟩ := body p e s m args below meth c s₁ B hml ht hP s₁ hh0 (Stand.of_body B)
    exact ⟨t, o, a1, b1, b2, b3⟩
/-- the table of a body with handlers -/
theorem vx_table {p : Program} {x y : MethodName} {S : Spec} {cc bytes : ByteArray} {maxL maxL' : Nat} {ret ret' : Option FieldType} {e : Env} {s s₁ : State} {m : MethodId} {args : Array Value} {below : List Frame} {meth : Method} {c : Code} {hh : List (Nat × Nat × Nat × Nat)}
    (B : BodyLoose p l y S cc maxL ret e s m args below meth c s₁) (h : (Cond.codeWith y bytes maxL' ret' hh).before args s = true) : c.exceptionTable.toList = tableOf hh := by
  obtain ⟨m9, meth9, c9, hn9, h1, h2, -, -, h6, -⟩ := Cond.codeWith_spec h
  cases Option.some.inj (hn9.symm.trans B.named)
  cases Option.some.inj (h1.symm.trans B.method)
  cases Option.some.inj (h2.symm.trans (Stand.of_body B).code)
  rw [← h6, table_eq]
end Bodies
end VXA
/-! ===== END ===== -/
/-! ===== BEGIN a static call of a method with an exception table ===== -/
section VXS
variable {p : Program} {l : Launch} {e : Env} {R : Room} {s : State} {m : MethodId} {args : Array Value} {below : List Frame} {meth : Method} {c : Code} {T : State} {H : Heap} {locs : List Loc} {cells slots : Nat}
abbrev vx_CSW (R : Room) (s : State) (args : Array Value) (own : String) (index : Nat) (y : MethodName) (bytes : ByteArray) (maxL : Nat) (ret : Option FieldType) (hh : List (Nat × Nat × Nat × Nat)) (ws : List Cond) (rm : Room) (mc ms n : Nat) : Prop :=
  (rm.cells = mc ∧ rm.slots = ms ∧ rm.frames + 1 ≤ R.frames ∧ 8 + (maxL + 11) + rm.locals ≤ R.locals ∧ (∀ w ∈ ws, ∀ (a' : Array Value) (U : State), s.WarmedH U.vm → w.before a' U = true) ∧ Cond.codeWith y bytes maxL ret hh ∈ ws) ∧
  (Cond.codeWith y bytes maxL ret hh).before args s = true ∧ (Cond.initialized y.cls).before args s = true ∧ (y.cls ≠ "java/lang/invoke/MethodHandle" ∧ y.cls ≠ "java/lang/invoke/VarHandle") ∧
  (∀ sig, parseMethodDescriptor y.desc = some sig → n = sig.parameters.length) ∧ (Cond.methodLink own index y).before args s = true ∧ (Cond.static y).before args s = true
theorem vx_cwSW {own : String} {index maxL mc ms : Nat} {y : MethodName} {bytes : ByteArray} {ret : Option FieldType} {hh : List (Nat × Nat × Nat × Nat)} {Ts ws ws' : List Cond} {rm : Room} (n : Nat) (ht : ∀ w ∈ Ts, w.before args s = true) (hT : GoodIn Ts (va_wsS own index y ws)) (hw : ws = Cond.codeWith y bytes maxL ret hh :: ws') (hrc : rm.cells = mc) (hrs : rm.slots = ms)
    (hd : y.cls ≠ "java/lang/invoke/MethodHandle" ∧ y.cls ≠ "java/lang/invoke/VarHandle" ∧ (parseMethodDescriptor y.desc).map (fun d => d.parameters.length) = some n) (hR : rm.frames + 1 ≤ R.frames ∧ 8 + (maxL + 11) + rm.locals ≤ R.locals) :
    vx_CSW R s args own index y bytes maxL ret hh ws rm mc ms n := by
  have ok : ∀ w ∈ va_wsS own index y ws, w.before args s = true := fun w h => ht w (hT w h).1
  have hG : GoodIn Ts ws := fun w h => hT w (by unfold va_wsS; exact List.mem_append_right _ h)
  have hc : Cond.codeWith y bytes maxL ret hh ∈ ws := by rw [hw]; exact List.mem_cons_self
  refine ⟨⟨hrc, hrs, hR.1, hR.2, pay_in ht hG, hc⟩, ht _ (hG _ hc).1, ok _ (by simp [va_wsS]), ⟨hd.1, hd.2.1⟩, fun sig h => ?_, ok _ (by simp [va_wsS]), ok _ (by simp [va_wsS])⟩
  have h2 := hd.2.2
  rw [h] at h2
  exact (Option.some.inj h2).symm
theorem vx_callSW (X : Stand p l e R s m args below meth c T locs cells slots) (hexec : p.tables.exec = Jvm.exec) {own : String} {index : Nat} {y : MethodName} {bytes : ByteArray} {maxL : Nat} {ret : Option FieldType} {hh : List (Nat × Nat × Nat × Nat)}
    (hown : s.vm.findClass own = some m.cls) (hlink : (Cond.methodLink own index y).before args s = true) (hstat : (Cond.static y).before args s = true) (hinit : (Cond.initialized y.cls).before args s = true)
    (hcode : (Cond.codeWith y bytes maxL ret hh).before args s = true) (hy : y.cls ≠ "java/lang/invoke/MethodHandle" ∧ y.cls ≠ "java/lang/invoke/VarHandle")
    {W9 : Nat} {Pre : Pt → Array Value → Prop} {Post : Pt → Array Value → Option Value → Pt → Prop} (hK : Back l R p e below s args y 3 W9 Pre Post)
    {g : JFrame} (hg : g.method = m) (hsize : g.locals.size = c.maxLocals) {argsL rest : List Value} (hlen : ∀ sig, parseMethodDescriptor y.desc = some sig → argsL.length = sig.parameters.length)
    (hstack : g.stack = argsL.reverse ++ rest) (hW : 2 * g.monitorRoom + (rest.map fun v => v.category).sum ≤ W9) (hdg : decode c.code g.pc = .ok (.invokestatic index, 3))
    (hpre : ∀ vm₁, s.WarmedH vm₁ → Pre ⟨T.setVm vm₁, locs, cells, slots⟩ argsL.toArray) :
    ∃ (v : Option Value) (vm₁ : Vm) (B : Pt), s.WarmedH vm₁ ∧ Stand p l e R s m args below meth c B.U B.locs B.cells B.slots ∧ Post ⟨T.setVm vm₁, locs, cells, slots⟩ argsL.toArray v B ∧
      ∀ target, Steps p.tables e below (B.U.setTop { g with pc := g.pc + 3, stack := v.toList ++ rest }) target → Steps p.tables e below (T.setTop g) target := by
  obtain ⟨mk, methM, cM, hnamed, hmethM, -, -, -, -, -, -, hsigM⟩ := Cond.codeWith_spec hcode
  have hstatic : methM.isStatic = true := Cond.static_spec hnamed hmethM hstat
  obtain ⟨kP, hkP, -⟩ := className_of_methodNamed hnamed
  have hinitP : kP.init = .initialized := Cond.initialized_spec (findClass_of_methodNamed hnamed) hkP hinit
  obtain ⟨vm₁, X₁, hstep₁⟩ := X.invokestatic hexec hown hlink hnamed hmethM hstatic hkP hinitP hy (g := g) hg (argsL := argsL) (rest := rest) (hlen _ hsigM) hstack hdg
  obtain ⟨v, B, X', hpost, hsteps⟩ := hK m meth c ⟨T.setVm vm₁, locs, cells, slots⟩ { g with stack := rest } (.invokestatic index) mk argsL.toArray X₁ hg hsize hdg hW (X₁.named hnamed) (hpre vm₁ X₁.warmed)
  exact ⟨v, vm₁, B, X₁.warmed, X', hpost, fun target h => hstep₁ _ fun acts => by rw [doInvoke_state]; exact hsteps.trans h⟩
theorem vx_runSW {y : MethodName} {bytes cc : ByteArray} {maxL nL mc ms n index : Nat} {ret : Option FieldType} {hh : List (Nat × Nat × Nat × Nat)} {ws : List Cond} {rm : Room} {Pc : Array Value → State → Prop} {Qc : Array Value → State → Outcome → State → Prop} {free : Addr → Prop} {Ts : List Cond} {own : String} {As rest : List Value} {g : JFrame}
    (S : CallFix p m c cc nL s args Ts own) (hM : Met l y ws rm Pc Qc mc ms free) (cw : vx_CSW R s args own index y bytes maxL ret hh ws rm mc ms n) (hp : PreS s H Pc As)
    (hg : g.method = m) (hn : As.length = n) (hsize : g.locals.size = nL) (hstack : g.stack = As.reverse ++ rest) (hW : 2 * g.monitorRoom + (rest.map fun v => v.category).sum ≤ 8) (hdg : decode cc g.pc = .ok (.invokestatic index, 3)) (hf : cells + mc ≤ R.cells ∧ slots + ms ≤ R.slots) :
    va_Run p l e R s m args below meth c H locs cells slots mc ms g rest (Qc As.toArray) (free) := by
  obtain ⟨⟨hrc, hrs, hfr, hlo, hws, hcw⟩, hcode, hini, hy, hlen, hl, hstt⟩ := cw
  have hK : Back l R p e below s args y 3 8 (PreOf R mc ms Pc) (PostOf Qc mc ms free) := va_backW (hh := hh) (bytes := bytes) (maxL := maxL) (ret := ret) hM hp.1 hrc hrs hfr hlo hws hcw (fun a' U hW => word_at hW (Or.inl (by first | rfl | simp [Cond.onTables, Cond.keeps, Cond.steady])) hini)
  obtain ⟨hx, hb, hml, ho, -⟩ := S
  intro T hT X
  obtain ⟨v, vm₁, ⟨U', l2, c2, s2⟩, hW₁, X', ⟨g', mk, t, L, e1, e2, hq, h1, hL, h2, h3⟩, st⟩ := vx_callSW X hx (hh := hh) (bytes := bytes) (maxL := maxL) (ret := ret) ho hl hstt hini hcode hy hK hg (hsize.trans hml.symm) (argsL := As) (rest := rest) (fun sig h => hn.trans (hlen sig h)) hstack hW (by rw [hb]; exact hdg)
    (fun vm₁ hW₁ => ⟨hf.1, hf.2, hp.2 (T.setVm vm₁) hT hW₁⟩)
  dsimp only [Pt.U, Pt.locs, Pt.cells, Pt.slots] at X' e1 e2 h1 h2 h3 st
  subst h1; subst h2; subst h3
  exact ⟨v, (T.setVm vm₁).calling g' mk As.toArray, t, U', L, hT, X', hL, e1, e2, hq, st⟩
/-- not caught here, past rows that name other classes: it goes on to the caller -/
theorem vx_outP {p : Program} {l : Launch} {e : Env} {R : Room} {s : State} {m : MethodId} {args : Array Value} {below : List Frame} {meth : Method} {c : Code} {H : Heap} {locs : List Loc} {cells slots : Nat} {free : Addr → Prop} {ls : Array Slot} {rest : List Value} {Qc : Array Value → State → Outcome → State → Prop} {XC : String → State → State → Prop}
    {pc : Nat} {own E : String} {ce : Cell} {q : Addr} {mc ms : Nat} (hown : s.vm.findClass own = some m.cls) (hlocks : meth.locks = false)
    (hpass : ∀ z ∈ c.exceptionTable.toList, covers z pc = false ∨ (z.catchType ≠ 0 ∧ ∃ nm : String, (Cond.classLink own z.catchType nm).before args s = true ∧ va_Nc E nm s)) (hcell : H[q]? = some ce) (hv : ce.vm = .none) (hcl : s.vm.findClass E = some ce.cls)
    (hx : ∀ t : State, t.heap = H → s.vm.Alike t.vm → XC E s t) (hf : ∀ z ∈ locs, free z.base) (hc : cells ≤ mc) (hs : slots ≤ ms) :
    vx_W p l e R s m args below meth c H locs cells slots (vx_MQ below Qc XC args s mc ms free) (F0 m pc ls rest) q := by
  intro T hT X
  have hpl : e.platform.magicAccessors = ({} : Platform).magicAccessors := by rw [X.admits.platform]
  obtain ⟨vm', hW', X', st⟩ := X.outThrough hlocks q (g := F0 m pc ls rest) rfl rfl rfl (cell := ce) (by rw [hT]; exact hcell) (by rw [hv]; rfl)
    (by obtain ⟨k9, h9, -⟩ := Vm.findClass_spec hcl; exact ⟨k9, h9⟩) (fun z hz => by
      rcases hpass z hz with h | ⟨hz0, nm, hl1, hn1⟩
      · exact Or.inl h
      · obtain ⟨c6, hc6, hcl6⟩ := Cond.classLink_spec hown hl1 e.platform hpl
        obtain ⟨a8, b8, h1, h2, h3⟩ := hn1
        cases Option.some.inj (h1.symm.trans hcl)
        cases Option.some.inj (h2.symm.trans hc6)
        exact Or.inr ⟨hz0, _, hcl6, h3⟩)
  obtain ⟨g₀, hfr⟩ := X'.frames_eq
  have hcell9 : ((T.setVm vm').setFrames (.throwing q :: below)).heap[q]? = some ce := by
    show T.heap[q]? = some ce
    rw [hT]; exact hcell
  have hend : Ended ((T.setVm vm').setFrames (.throwing q :: below)) below (.threw q) := State.frames_setFrames _ (State.cur_lt_of_frames hfr)
  refine ⟨(T.setVm vm').setFrames (.throwing q :: below), ?_, .threw q, X'.here.running, hend, Or.inr ⟨q, rfl, E, ce, locs, hx _ hT (X'.ends _).1.alike, hcell9, hv, hcl, (X'.ends _).1, (X'.ends _).2.mono hc hs, hf⟩⟩
  rw [X.pushThrowing_eq]
  exact st
/-- a thing of a world lies in the heap -/
theorem vx_lt {D : va_G} {cl : List vw_C} {ws : va_W} {H1 : Heap} (h : va_P D cl ws H1) {k : Nat} {q : Nat × va_E} (hk : ws[k]? = some q) : q.1 < H1.size := (h k q hk).lt
end VXS
/-! ===== END ===== -/
/-! ===== BEGIN methods with a table of their own: called by a name, returning or throwing ===== -/
section VXH
/-! vx_backW, vx_callVX, vx_callSX, vx_callVW, vx_runVW, vx_runVX, vx_runSX, vx_ofWH follow the same proofs as their sisters above (Free/Laws.lean, Shelf42/LK1.lean); vx_outP calls Shelf42/NT130.lean (outThrough). -/
section
variable {l : Launch} {R : Room} {p : Program} {e : Env} {below : List Frame} {s : State} {sargs : Array Value} {y : MethodName} {len W9 : Nat}
theorem vx_backW {ws : List Cond} {rm : Room} {Pc : Array Value → State → Prop} {Qc : Array Value → State → Outcome → State → Prop} {XC : String → State → State → Prop} {mc ms : Nat} {free : Addr → Prop} {bytes : ByteArray} {maxL : Nat} {ret : Option FieldType} {hh : List (Nat × Nat × Nat × Nat)}
    (hM : vx_Met l y ws rm Pc Qc XC mc ms free) (hblind : FrameBlind Pc) (hrc : rm.cells = mc) (hrs : rm.slots = ms)
    (hframes : rm.frames + 1 ≤ R.frames) (hlocals : W9 + (maxL + 11) + rm.locals ≤ R.locals)
    (hws : ∀ w ∈ ws, ∀ a' U, s.WarmedH U.vm → w.before a' U = true) (hcode : Cond.codeWith y bytes maxL ret hh ∈ ws) (hinit : ∀ a' U, s.WarmedH U.vm → (Cond.initialized y.cls).before a' U = true) :
    vx_Back l R p e below s sargs y len W9 (PreOf R mc ms Pc) (PostOf Qc mc ms free) (vx_Post XC mc ms free) := by
  intro m meth c A g ig mk a X hg hsize hdg hW hn hp
  have h1 : (headSpec ws rm).pre.before a A.U = true := atoms_intro fun w hw => hws w hw _ _ X.warmed
  have h2 : (Cond.codeWith y bytes maxL ret hh).before a A.U = true := hws _ hcode _ _ X.warmed
  have h3 : (Cond.initialized y.cls).before a A.U = true := hinit _ _ X.warmed
  have h4 : A.cells + (headSpec ws rm).room.cells ≤ R.cells := by rw [show (headSpec ws rm).room.cells = mc from hrc]; exact hp.1
  have h5 : A.slots + (headSpec ws rm).room.slots ≤ R.slots := by rw [show (headSpec ws rm).room.slots = ms from hrs]; exact hp.2.1
  have hPc : Pc a (A.U.calling g mk a) := hblind _ _ _ _ hp.2.2
  obtain ⟨U, Ls, c0, s0⟩ := A
  dsimp only [Pt.U, Pt.locs, Pt.cells, Pt.slots] at h1 h2 h3 h4 h5 X hn hPc ⊢
  obtain ⟨m9, methY, cY, hn9, hmY, hcY, -, hlY, -⟩ := Cond.codeWith_spec h2
  cases Option.some.inj (hn9.symm.trans hn)
  obtain ⟨kY, hkY, -⟩ := className_of_methodNamed hn
  have hinitY : kY.init = .initialized := Cond.initialized_spec (findClass_of_methodNamed hn) hkY h3
  have h : At U g.method c below := by rw [hg]; exact X.here
  have hlocals9 : W9 + (maxL + 11) + (headSpec ws rm).room.locals ≤ R.locals := hlocals
  have happ : (headSpec ws rm).appliesLoose y e.platform (U.calling g mk a) = true :=
    Spec.appliesLoose_calling (g := g) h hdg hn hkY hinitY
      (X.room_calling (g := g) (R' := (headSpec ws rm).room) hsize hmY hcY hframes (by rw [hlY]; omega) h4 h5) h1
  obtain ⟨mid, hmid⟩ := h.above
  have hfr : (U.setTop g).frames = (.java g :: mid) ++ below := by rw [State.frames_setTop' g h.top, hmid]; rfl
  obtain ⟨o, s₂, hsteps, -, hend, hq⟩ := Steps.callFree hM p X.admits X.cas X.clock (acts := []) hfr happ hPc trivial
  have hq' : vx_Q Qc XC mc ms free a (U.calling g mk a) o s₂ := hq
  rw [State.frames_setTop' g h.top] at hend
  obtain ⟨g₀, hg0⟩ := Option.isSome_iff_exists.mp h.top
  obtain ⟨r, hr⟩ := State.topJava?_eq_some.mp hg0
  have hr' : (({ U with heap := s₂.heap, slotsUsed := s₂.slotsUsed } : State).setVm s₂.vm).frames = .java g₀ :: r := hr
  rcases hq' with ⟨hqc, L, hfe, hL⟩ | ⟨q, rfl, E, ce, L, hx, hce, hcv, hcl, hW₂, hsm, hL⟩
  · obtain ⟨⟨v, rfl⟩, hW₂, e2, q2, q3, q4, q5, q6⟩ := id hfe
    have e3 : s₂ = ({ (U.calling g mk a).setFrames s₂.frames with heap := s₂.heap, slotsUsed := s₂.slotsUsed } : State).setVm s₂.vm := by
      have : s₂ = ({ s₂ with vm := (U.calling g mk a).vm } : State).setVm s₂.vm := rfl
      rw [e2] at this
      exact this
    obtain ⟨c₂, i₂, len₂, hc₂, hd₂, hf₂⟩ := hend
    have hW' : U.WarmedH s₂.vm := hW₂
    have hcc : c₂ = c := by
      have h1 : s₂.code? g.method = U.code? g.method := by
        rw [State.code?_eq, State.code?_eq, hW'.alike.method?]
      exact Option.some.inj (hc₂.symm.trans (h1.trans h.code))
    subst hcc
    have hlen : len₂ = len := by rw [hdg] at hd₂; cases hd₂; rfl
    subst hlen
    have hs₂ : s₂ = (({ U with heap := s₂.heap, slotsUsed := s₂.slotsUsed } : State).setVm s₂.vm).setTop { g with pc := g.pc + len₂, stack := v.toList ++ g.stack } := by
      refine e3.trans ?_
      rw [hf₂, State.calling_eq h.top, State.setFrames_setFrames, State.setTop_of_frames _ hr', hr]
      rfl
    have hsame : U.sameButNew ({ U with heap := s₂.heap, slotsUsed := s₂.slotsUsed } : State) L mc ms := by
      refine ⟨?_, q2, q3, q4, q5, q6⟩
      obtain ⟨t, ht, -⟩ := State.frames_cons hr
      show ({ U with heap := s₂.heap, slotsUsed := s₂.slotsUsed } : State) = { U.setFrames U.frames with heap := s₂.heap, slotsUsed := s₂.slotsUsed }
      rw [State.setFrames_self ht]
    subst hg
    refine Or.inl ⟨v, ⟨(({ U with heap := s₂.heap, slotsUsed := s₂.slotsUsed } : State).setVm s₂.vm), Ls ++ L, c0 + mc, s0 + ms⟩,
      ⟨X.admits, X.cas, X.clock, X.frames, X.room, X.hears, X.method, X.code, (X.here.setHeapUsed s₂.heap s₂.slotsUsed).setVm hW'.alike, X.tail, State.WarmedH.trans X.warmed hW', X.limits, X.bytes, X.same.trans (hsame.setVm s.vm)⟩,
      ⟨g, mk, s₂, L, rfl, rfl, hqc, rfl, hL, rfl, rfl⟩, ?_⟩
    show Steps p.tables e below _ ((({ U with heap := s₂.heap, slotsUsed := s₂.slotsUsed } : State).setVm s₂.vm).setTop { g with pc := g.pc + len₂, stack := v.toList ++ g.stack })
    rw [← hs₂]
    exact hsteps
  · obtain ⟨e2, q2, q3, q4, q5, q6⟩ := id hsm
    have e3 : s₂ = ({ (U.calling g mk a).setFrames s₂.frames with heap := s₂.heap, slotsUsed := s₂.slotsUsed } : State).setVm s₂.vm := by
      have : s₂ = ({ s₂ with vm := (U.calling g mk a).vm } : State).setVm s₂.vm := rfl
      rw [e2] at this
      exact this
    have hf₂ : s₂.frames = .throwing q :: .java g :: U.frames.tail := hend
    have hW' : U.WarmedH s₂.vm := hW₂
    have hs₂ : s₂ = ((({ U with heap := s₂.heap, slotsUsed := s₂.slotsUsed } : State).setVm s₂.vm).setTop g).pushFrame (.throwing q) := by
      refine e3.trans ?_
      rw [hf₂, State.calling_eq h.top, State.setFrames_setFrames, State.pushFrame, State.frames_setTop _ hr', State.setTop_of_frames _ hr', State.setFrames_setFrames, hr]
      rfl
    have hsame : U.sameButNew ({ U with heap := s₂.heap, slotsUsed := s₂.slotsUsed } : State) L mc ms := by
      refine ⟨?_, q2, q3, q4, q5, q6⟩
      obtain ⟨t, ht, -⟩ := State.frames_cons hr
      show ({ U with heap := s₂.heap, slotsUsed := s₂.slotsUsed } : State) = { U.setFrames U.frames with heap := s₂.heap, slotsUsed := s₂.slotsUsed }
      rw [State.setFrames_self ht]
    subst hg
    refine Or.inr ⟨q, ⟨(({ U with heap := s₂.heap, slotsUsed := s₂.slotsUsed } : State).setVm s₂.vm), Ls ++ L, c0 + mc, s0 + ms⟩,
      ⟨X.admits, X.cas, X.clock, X.frames, X.room, X.hears, X.method, X.code, (X.here.setHeapUsed s₂.heap s₂.slotsUsed).setVm hW'.alike, X.tail, State.WarmedH.trans X.warmed hW', X.limits, X.bytes, X.same.trans (hsame.setVm s.vm)⟩,
      ⟨g, mk, s₂, L, E, ce, rfl, rfl, hx, hce, hcv, hcl, rfl, hL, rfl, rfl⟩, ?_⟩
    show Steps p.tables e below _ (((({ U with heap := s₂.heap, slotsUsed := s₂.slotsUsed } : State).setVm s₂.vm).setTop g).pushFrame (.throwing q))
    rw [← hs₂]
    exact hsteps
end
variable {p : Program} {l : Launch} {e : Env} {R : Room} {s : State} {m : MethodId} {args : Array Value} {below : List Frame} {meth : Method} {c : Code} {T : State} {H : Heap} {locs : List Loc} {cells slots : Nat}
theorem vx_callVX (X : Stand p l e R s m args below meth c T locs cells slots) (hexec : p.tables.exec = Jvm.exec) {own C : String} {index : Nat} {y : MethodName} {bytes : ByteArray} {maxL : Nat} {ret : Option FieldType} {hh : List (Nat × Nat × Nat × Nat)}
    (hown : s.vm.findClass own = some m.cls) (hlink : (Cond.methodLink own index y).before args s = true) (hinst : (Cond.instanceMethod y).before args s = true) (hsel : (Cond.selects C y y).before args s = true)
    (hcode : (Cond.codeWith y bytes maxL ret hh).before args s = true) (hy : y.cls ≠ "java/lang/invoke/MethodHandle" ∧ y.cls ≠ "java/lang/invoke/VarHandle")
    {W9 : Nat} {Pre : Pt → Array Value → Prop} {Post : Pt → Array Value → Option Value → Pt → Prop} {PostX : Pt → Array Value → Addr → Pt → Prop} (hK : vx_Back l R p e below s args y 3 W9 Pre Post PostX)
    {b : Addr} {cellB : Cell} (hcell : T.heap[b]? = some cellB) (hobj : cellB.vm.isStatics = false) (hcls : s.vm.findClass C = some cellB.cls)
    {g : JFrame} (hg : g.method = m) (hsize : g.locals.size = c.maxLocals) {argsL rest : List Value} (hlen : ∀ sig, parseMethodDescriptor y.desc = some sig → argsL.length = sig.parameters.length)
    (hstack : g.stack = argsL.reverse ++ .ref b :: rest) (hW : 2 * g.monitorRoom + (rest.map fun v => v.category).sum ≤ W9) (hdg : decode c.code g.pc = .ok (.invokevirtual index, 3))
    (hpre : ∀ vm₁, s.WarmedH vm₁ → Pre ⟨T.setVm vm₁, locs, cells, slots⟩ (Value.ref b :: argsL).toArray) :
    (∃ (v : Option Value) (vm₁ : Vm) (B : Pt), s.WarmedH vm₁ ∧ Stand p l e R s m args below meth c B.U B.locs B.cells B.slots ∧ Post ⟨T.setVm vm₁, locs, cells, slots⟩ (Value.ref b :: argsL).toArray v B ∧
      ∀ target, Steps p.tables e below (B.U.setTop { g with pc := g.pc + 3, stack := v.toList ++ rest }) target → Steps p.tables e below (T.setTop g) target) ∨
    (∃ (q : Addr) (vm₁ : Vm) (B : Pt), s.WarmedH vm₁ ∧ Stand p l e R s m args below meth c B.U B.locs B.cells B.slots ∧ PostX ⟨T.setVm vm₁, locs, cells, slots⟩ (Value.ref b :: argsL).toArray q B ∧
      Steps p.tables e below (T.setTop g) ((B.U.setTop { g with stack := rest }).pushFrame (.throwing q))) := by
  obtain ⟨mk, methM, hnamed, hmethM, hstM, habM⟩ := Cond.instanceMethod_spec hinst
  obtain ⟨m8, methM', cM, hn8, hmethM', -, -, -, -, -, -, hsigM⟩ := Cond.codeWith_spec hcode
  cases Option.some.inj (hn8.symm.trans hnamed)
  cases hmethM.symm.trans hmethM'
  obtain ⟨c2, r2, m2, q1, q2, q3, q4, kP, hkP, hkPi⟩ := Cond.selects_spec hsel
  cases hcls.symm.trans q1
  cases (State.methodFound?_of_named hnamed hy).symm.trans q2
  cases hnamed.symm.trans q3
  have hselP : selectMethod e.platform s.vm cellB.cls mk = .method mk := by rw [Launch.admits_selectMethod X.admits]; exact q4
  obtain ⟨vm₁, X₁, hstep₁⟩ := X.invokevirtual hexec hown hlink hnamed hmethM hstM hkP hkPi hy (a := b) (cell := cellB) hcell
    (fun z h => by rw [h] at hobj; cases hobj) hselP hmethM habM hkP hkPi (g := g) hg (argsL := argsL) (rest := rest) (hlen _ hsigM) hstack hdg
  rcases hK m meth c ⟨T.setVm vm₁, locs, cells, slots⟩ { g with stack := rest } (.invokevirtual index) mk (Value.ref b :: argsL).toArray X₁ hg hsize hdg hW (X₁.named hnamed) (hpre vm₁ X₁.warmed) with ⟨v, B, X', hpost, hsteps⟩ | ⟨q, B, X', hpost, hsteps⟩
  · exact Or.inl ⟨v, vm₁, B, X₁.warmed, X', hpost, fun target h => hstep₁ _ fun acts => by rw [doInvoke_state]; exact hsteps.trans h⟩
  · exact Or.inr ⟨q, vm₁, B, X₁.warmed, X', hpost, hstep₁ _ fun acts => by rw [doInvoke_state]; exact hsteps⟩
theorem vx_callSX (X : Stand p l e R s m args below meth c T locs cells slots) (hexec : p.tables.exec = Jvm.exec) {own : String} {index : Nat} {y : MethodName} {bytes : ByteArray} {maxL : Nat} {ret : Option FieldType} {hh : List (Nat × Nat × Nat × Nat)}
    (hown : s.vm.findClass own = some m.cls) (hlink : (Cond.methodLink own index y).before args s = true) (hstat : (Cond.static y).before args s = true) (hinit : (Cond.initialized y.cls).before args s = true)
    (hcode : (Cond.codeWith y bytes maxL ret hh).before args s = true) (hy : y.cls ≠ "java/lang/invoke/MethodHandle" ∧ y.cls ≠ "java/lang/invoke/VarHandle")
    {W9 : Nat} {Pre : Pt → Array Value → Prop} {Post : Pt → Array Value → Option Value → Pt → Prop} {PostX : Pt → Array Value → Addr → Pt → Prop} (hK : vx_Back l R p e below s args y 3 W9 Pre Post PostX)
    {g : JFrame} (hg : g.method = m) (hsize : g.locals.size = c.maxLocals) {argsL rest : List Value} (hlen : ∀ sig, parseMethodDescriptor y.desc = some sig → argsL.length = sig.parameters.length)
    (hstack : g.stack = argsL.reverse ++ rest) (hW : 2 * g.monitorRoom + (rest.map fun v => v.category).sum ≤ W9) (hdg : decode c.code g.pc = .ok (.invokestatic index, 3))
    (hpre : ∀ vm₁, s.WarmedH vm₁ → Pre ⟨T.setVm vm₁, locs, cells, slots⟩ argsL.toArray) :
    (∃ (v : Option Value) (vm₁ : Vm) (B : Pt), s.WarmedH vm₁ ∧ Stand p l e R s m args below meth c B.U B.locs B.cells B.slots ∧ Post ⟨T.setVm vm₁, locs, cells, slots⟩ argsL.toArray v B ∧
      ∀ target, Steps p.tables e below (B.U.setTop { g with pc := g.pc + 3, stack := v.toList ++ rest }) target → Steps p.tables e below (T.setTop g) target) ∨
    (∃ (q : Addr) (vm₁ : Vm) (B : Pt), s.WarmedH vm₁ ∧ Stand p l e R s m args below meth c B.U B.locs B.cells B.slots ∧ PostX ⟨T.setVm vm₁, locs, cells, slots⟩ argsL.toArray q B ∧
      Steps p.tables e below (T.setTop g) ((B.U.setTop { g with stack := rest }).pushFrame (.throwing q))) := by
  obtain ⟨mk, methM, cM, hnamed, hmethM, -, -, -, -, -, -, hsigM⟩ := Cond.codeWith_spec hcode
  have hstatic : methM.isStatic = true := Cond.static_spec hnamed hmethM hstat
  obtain ⟨kP, hkP, -⟩ := className_of_methodNamed hnamed
  have hinitP : kP.init = .initialized := Cond.initialized_spec (findClass_of_methodNamed hnamed) hkP hinit
  obtain ⟨vm₁, X₁, hstep₁⟩ := X.invokestatic hexec hown hlink hnamed hmethM hstatic hkP hinitP hy (g := g) hg (argsL := argsL) (rest := rest) (hlen _ hsigM) hstack hdg
  rcases hK m meth c ⟨T.setVm vm₁, locs, cells, slots⟩ { g with stack := rest } (.invokestatic index) mk argsL.toArray X₁ hg hsize hdg hW (X₁.named hnamed) (hpre vm₁ X₁.warmed) with ⟨v, B, X', hpost, hsteps⟩ | ⟨q, B, X', hpost, hsteps⟩
  · exact Or.inl ⟨v, vm₁, B, X₁.warmed, X', hpost, fun target h => hstep₁ _ fun acts => by rw [doInvoke_state]; exact hsteps.trans h⟩
  · exact Or.inr ⟨q, vm₁, B, X₁.warmed, X', hpost, hstep₁ _ fun acts => by rw [doInvoke_state]; exact hsteps⟩
theorem vx_callVW (X : Stand p l e R s m args below meth c T locs cells slots) (hexec : p.tables.exec = Jvm.exec) {own C : String} {index : Nat} {y : MethodName} {bytes : ByteArray} {maxL : Nat} {ret : Option FieldType} {hh : List (Nat × Nat × Nat × Nat)}
    (hown : s.vm.findClass own = some m.cls) (hlink : (Cond.methodLink own index y).before args s = true) (hinst : (Cond.instanceMethod y).before args s = true) (hsel : (Cond.selects C y y).before args s = true)
    (hcode : (Cond.codeWith y bytes maxL ret hh).before args s = true) (hy : y.cls ≠ "java/lang/invoke/MethodHandle" ∧ y.cls ≠ "java/lang/invoke/VarHandle")
    {W9 : Nat} {Pre : Pt → Array Value → Prop} {Post : Pt → Array Value → Option Value → Pt → Prop} (hK : Back l R p e below s args y 3 W9 Pre Post)
    {b : Addr} {cellB : Cell} (hcell : T.heap[b]? = some cellB) (hobj : cellB.vm.isStatics = false) (hcls : s.vm.findClass C = some cellB.cls)
    {g : JFrame} (hg : g.method = m) (hsize : g.locals.size = c.maxLocals) {argsL rest : List Value} (hlen : ∀ sig, parseMethodDescriptor y.desc = some sig → argsL.length = sig.parameters.length)
    (hstack : g.stack = argsL.reverse ++ .ref b :: rest) (hW : 2 * g.monitorRoom + (rest.map fun v => v.category).sum ≤ W9) (hdg : decode c.code g.pc = .ok (.invokevirtual index, 3))
    (hpre : ∀ vm₁, s.WarmedH vm₁ → Pre ⟨T.setVm vm₁, locs, cells, slots⟩ (Value.ref b :: argsL).toArray) :
    ∃ (v : Option Value) (vm₁ : Vm) (B : Pt), s.WarmedH vm₁ ∧ Stand p l e R s m args below meth c B.U B.locs B.cells B.slots ∧ Post ⟨T.setVm vm₁, locs, cells, slots⟩ (Value.ref b :: argsL).toArray v B ∧
      ∀ target, Steps p.tables e below (B.U.setTop { g with pc := g.pc + 3, stack := v.toList ++ rest }) target → Steps p.tables e below (T.setTop g) target := by
  obtain ⟨mk, methM, hnamed, hmethM, hstM, habM⟩ := Cond.instanceMethod_spec hinst
  obtain ⟨m8, methM', cM, hn8, hmethM', -, -, -, -, -, -, hsigM⟩ := Cond.codeWith_spec hcode
  cases Option.some.inj (hn8.symm.trans hnamed)
  cases hmethM.symm.trans hmethM'
  obtain ⟨c2, r2, m2, q1, q2, q3, q4, kP, hkP, hkPi⟩ := Cond.selects_spec hsel
  cases hcls.symm.trans q1
  cases (State.methodFound?_of_named hnamed hy).symm.trans q2
  cases hnamed.symm.trans q3
  have hselP : selectMethod e.platform s.vm cellB.cls mk = .method mk := by rw [Launch.admits_selectMethod X.admits]; exact q4
  obtain ⟨vm₁, X₁, hstep₁⟩ := X.invokevirtual hexec hown hlink hnamed hmethM hstM hkP hkPi hy (a := b) (cell := cellB) hcell
    (fun z h => by rw [h] at hobj; cases hobj) hselP hmethM habM hkP hkPi (g := g) hg (argsL := argsL) (rest := rest) (hlen _ hsigM) hstack hdg
  obtain ⟨v, B, X', hpost, hsteps⟩ := hK m meth c ⟨T.setVm vm₁, locs, cells, slots⟩ { g with stack := rest } (.invokevirtual index) mk (Value.ref b :: argsL).toArray X₁ hg hsize hdg hW (X₁.named hnamed) (hpre vm₁ X₁.warmed)
  exact ⟨v, vm₁, B, X₁.warmed, X', hpost, fun target h => hstep₁ _ fun acts => by rw [doInvoke_state]; exact hsteps.trans h⟩
abbrev vx_CVW (R : Room) (s : State) (args : Array Value) (own C : String) (index : Nat) (y : MethodName) (bytes : ByteArray) (maxL : Nat) (ret : Option FieldType) (hh : List (Nat × Nat × Nat × Nat)) (ws : List Cond) (rm : Room) (mc ms n : Nat) : Prop :=
  (rm.cells = mc ∧ rm.slots = ms ∧ rm.frames + 1 ≤ R.frames ∧ 8 + (maxL + 11) + rm.locals ≤ R.locals ∧ (∀ w ∈ ws, ∀ (a' : Array Value) (U : State), s.WarmedH U.vm → w.before a' U = true) ∧ Cond.codeWith y bytes maxL ret hh ∈ ws) ∧
  (Cond.codeWith y bytes maxL ret hh).before args s = true ∧ (Cond.initialized y.cls).before args s = true ∧ (y.cls ≠ "java/lang/invoke/MethodHandle" ∧ y.cls ≠ "java/lang/invoke/VarHandle") ∧
  (∀ sig, parseMethodDescriptor y.desc = some sig → n = sig.parameters.length) ∧ (Cond.methodLink own index y).before args s = true ∧ (Cond.instanceMethod y).before args s = true ∧ (Cond.selects C y y).before args s = true
theorem vx_cwVW {own C : String} {index maxL mc ms : Nat} {y : MethodName} {bytes : ByteArray} {ret : Option FieldType} {hh : List (Nat × Nat × Nat × Nat)} {Ts ws ws' : List Cond} {rm : Room} (n : Nat) (ht : ∀ w ∈ Ts, w.before args s = true) (hT : GoodIn Ts (wsV own index C y ws)) (hw : ws = Cond.codeWith y bytes maxL ret hh :: ws') (hrc : rm.cells = mc) (hrs : rm.slots = ms)
    (hd : y.cls = C ∧ y.cls ≠ "java/lang/invoke/MethodHandle" ∧ y.cls ≠ "java/lang/invoke/VarHandle" ∧ (parseMethodDescriptor y.desc).map (fun d => d.parameters.length) = some n) (hR : rm.frames + 1 ≤ R.frames ∧ 8 + (maxL + 11) + rm.locals ≤ R.locals) :
    vx_CVW R s args own C index y bytes maxL ret hh ws rm mc ms n := by
  obtain ⟨hC, hd⟩ := hd
  subst hC
  have ok : ∀ w ∈ wsV own index y.cls y ws, w.before args s = true := fun w h => ht w (hT w h).1
  have hG : GoodIn Ts ws := fun w h => hT w (by unfold wsV; exact List.mem_append_right _ h)
  have hc : Cond.codeWith y bytes maxL ret hh ∈ ws := by rw [hw]; exact List.mem_cons_self
  refine ⟨⟨hrc, hrs, hR.1, hR.2, pay_in ht hG, hc⟩, ht _ (hG _ hc).1, ok _ (by simp [wsV]), ⟨hd.1, hd.2.1⟩, fun sig h => ?_, ok _ (by simp [wsV]), ok _ (by simp [wsV]), ok _ (by simp [wsV])⟩
  have h2 := hd.2.2
  rw [h] at h2
  exact (Option.some.inj h2).symm
theorem vx_runVW {y : MethodName} {bytes cc : ByteArray} {maxL nL mc ms n index : Nat} {ret : Option FieldType} {hh : List (Nat × Nat × Nat × Nat)} {ws : List Cond} {rm : Room} {Pc : Array Value → State → Prop} {Qc : Array Value → State → Outcome → State → Prop} {free : Addr → Prop} {Ts : List Cond} {own C : String} {b : Addr} {As rest : List Value} {g : JFrame}
    (S : CallFix p m c cc nL s args Ts own) (hM : Met l y ws rm Pc Qc mc ms free) (cw : vx_CVW R s args own C index y bytes maxL ret hh ws rm mc ms n) (hp : PreV s H C b Pc As)
    (hg : g.method = m) (hn : As.length = n) (hsize : g.locals.size = nL) (hstack : g.stack = As.reverse ++ .ref b :: rest) (hW : 2 * g.monitorRoom + (rest.map fun v => v.category).sum ≤ 8) (hdg : decode cc g.pc = .ok (.invokevirtual index, 3)) (hf : cells + mc ≤ R.cells ∧ slots + ms ≤ R.slots) :
    va_Run p l e R s m args below meth c H locs cells slots mc ms g rest (Qc (Value.ref b :: As).toArray) free := by
  obtain ⟨⟨hrc, hrs, hfr, hlo, hws, hcw⟩, hcode, hini, hy, hlen, hl, hin, hse⟩ := cw
  have hK : Back l R p e below s args y 3 8 (PreOf R mc ms Pc) (PostOf Qc mc ms free) := va_backW (hh := hh) (bytes := bytes) (maxL := maxL) (ret := ret) hM hp.1 hrc hrs hfr hlo hws hcw (fun a' U hW => word_at hW (Or.inl (by first | rfl | simp [Cond.onTables, Cond.keeps, Cond.steady])) hini)
  obtain ⟨hx, hb, hml, ho, -⟩ := S
  obtain ⟨-, ⟨cellB, hcB, hoB, hclB⟩, hPc⟩ := hp
  intro T hT X
  obtain ⟨v, vm₁, ⟨U', l2, c2, s2⟩, hW₁, X', ⟨g', mk, t, L, e1, e2, hq, h1, hL, h2, h3⟩, st⟩ := vx_callVW X hx (C := C) (hh := hh) (bytes := bytes) (maxL := maxL) (ret := ret) ho hl hin hse hcode hy hK (by rw [hT]; exact hcB) hoB hclB hg (hsize.trans hml.symm) (argsL := As) (rest := rest) (fun sig h => hn.trans (hlen sig h)) hstack hW (by rw [hb]; exact hdg)
    (fun vm₁ hW₁ => ⟨hf.1, hf.2, hPc (T.setVm vm₁) hT hW₁⟩)
  dsimp only [Pt.U, Pt.locs, Pt.cells, Pt.slots] at X' e1 e2 h1 h2 h3 st
  subst h1; subst h2; subst h3
  exact ⟨v, (T.setVm vm₁).calling g' mk (Value.ref b :: As).toArray, t, U', L, hT, X', hL, e1, e2, hq, st⟩
section
variable {y : MethodName} {bytes cc : ByteArray} {maxL nL mc ms n index : Nat} {ret : Option FieldType} {ws : List Cond} {rm : Room} {Pc : Array Value → State → Prop} {Qc : Array Value → State → Outcome → State → Prop} {XC : String → State → State → Prop} {free : Addr → Prop} {Ts : List Cond} {own C : String} {b : Addr} {As rest : List Value} {g : JFrame}
theorem vx_runVX {hh : List (Nat × Nat × Nat × Nat)} (S : CallFix p m c cc nL s args Ts own) (hM : vx_Met l y ws rm Pc Qc XC mc ms free) (cw : vx_CVW R s args own C index y bytes maxL ret hh ws rm mc ms n) (hp : PreV s H C b Pc As)
    (hg : g.method = m) (hn : As.length = n) (hsize : g.locals.size = nL) (hstack : g.stack = As.reverse ++ .ref b :: rest) (hW : 2 * g.monitorRoom + (rest.map fun v => v.category).sum ≤ 8) (hdg : decode cc g.pc = .ok (.invokevirtual index, 3)) (hf : cells + mc ≤ R.cells ∧ slots + ms ≤ R.slots) :
    vx_Run p l e R s m args below meth c H locs cells slots mc ms g rest (Qc (Value.ref b :: As).toArray) XC free := by
  obtain ⟨⟨hrc, hrs, hfr, hlo, hws, hcw⟩, hcode, hini, hy, hlen, hl, hin, hse⟩ := cw
  have hK : vx_Back l R p e below s args y 3 8 (PreOf R mc ms Pc) (PostOf Qc mc ms free) (vx_Post XC mc ms free) := vx_backW (hh := hh) (bytes := bytes) (maxL := maxL) (ret := ret) hM hp.1 hrc hrs hfr hlo hws hcw (fun a' U hW => word_at hW (Or.inl (by first | rfl | simp [Cond.onTables, Cond.keeps, Cond.steady])) hini)
  obtain ⟨hx, hb, hml, ho, -⟩ := S
  obtain ⟨-, ⟨cellB, hcB, hoB, hclB⟩, hPc⟩ := hp
  intro T hT X
  rcases vx_callVX X hx (C := C) (hh := hh) (bytes := bytes) (maxL := maxL) (ret := ret) ho hl hin hse hcode hy hK (by rw [hT]; exact hcB) hoB hclB hg (hsize.trans hml.symm) (argsL := As) (rest := rest) (fun sig h => hn.trans (hlen sig h)) hstack hW (by rw [hb]; exact hdg)
    (fun vm₁ hW₁ => ⟨hf.1, hf.2, hPc (T.setVm vm₁) hT hW₁⟩) with ⟨v, vm₁, ⟨U', l2, c2, s2⟩, hW₁, X', ⟨g', mk, t, L, e1, e2, hq, h1, hL, h2, h3⟩, st⟩ | ⟨q, vm₁, ⟨U', l2, c2, s2⟩, hW₁, X', ⟨g', mk, t, L, E, ce, e1, e2, hq, hce, hcv, hcl, h1, hL, h2, h3⟩, st⟩
  · dsimp only [Pt.U, Pt.locs, Pt.cells, Pt.slots] at X' e1 e2 h1 h2 h3 st
    subst h1; subst h2; subst h3
    exact Or.inl ⟨v, (T.setVm vm₁).calling g' mk (Value.ref b :: As).toArray, t, U', L, hT, X', hL, e1, e2, hq, st⟩
  · dsimp only [Pt.U, Pt.locs, Pt.cells, Pt.slots] at X' e1 e2 h1 h2 h3 st hcl
    subst h1; subst h2; subst h3
    exact Or.inr ⟨q, (T.setVm vm₁).calling g' mk (Value.ref b :: As).toArray, t, U', L, E, ce, hT, X', hL, e1, e2, hq, hce, hcv, vx_cls hW₁ hcl, st⟩
theorem vx_runSX {hh : List (Nat × Nat × Nat × Nat)} (S : CallFix p m c cc nL s args Ts own) (hM : vx_Met l y ws rm Pc Qc XC mc ms free) (cw : vx_CSW R s args own index y bytes maxL ret hh ws rm mc ms n) (hp : PreS s H Pc As)
    (hg : g.method = m) (hn : As.length = n) (hsize : g.locals.size = nL) (hstack : g.stack = As.reverse ++ rest) (hW : 2 * g.monitorRoom + (rest.map fun v => v.category).sum ≤ 8) (hdg : decode cc g.pc = .ok (.invokestatic index, 3)) (hf : cells + mc ≤ R.cells ∧ slots + ms ≤ R.slots) :
    vx_Run p l e R s m args below meth c H locs cells slots mc ms g rest (Qc As.toArray) XC free := by
  obtain ⟨⟨hrc, hrs, hfr, hlo, hws, hcw⟩, hcode, hini, hy, hlen, hl, hstt⟩ := cw
  have hK : vx_Back l R p e below s args y 3 8 (PreOf R mc ms Pc) (PostOf Qc mc ms free) (vx_Post XC mc ms free) := vx_backW (hh := hh) (bytes := bytes) (maxL := maxL) (ret := ret) hM hp.1 hrc hrs hfr hlo hws hcw (fun a' U hW => word_at hW (Or.inl (by first | rfl | simp [Cond.onTables, Cond.keeps, Cond.steady])) hini)
  obtain ⟨hx, hb, hml, ho, -⟩ := S
  intro T hT X
  rcases vx_callSX X hx (hh := hh) (bytes := bytes) (maxL := maxL) (ret := ret) ho hl hstt hini hcode hy hK hg (hsize.trans hml.symm) (argsL := As) (rest := rest) (fun sig h => hn.trans (hlen sig h)) hstack hW (by rw [hb]; exact hdg)
    (fun vm₁ hW₁ => ⟨hf.1, hf.2, hp.2 (T.setVm vm₁) hT hW₁⟩) with ⟨v, vm₁, ⟨U', l2, c2, s2⟩, hW₁, X', ⟨g', mk, t, L, e1, e2, hq, h1, hL, h2, h3⟩, st⟩ | ⟨q, vm₁, ⟨U', l2, c2, s2⟩, hW₁, X', ⟨g', mk, t, L, E, ce, e1, e2, hq, hce, hcv, hcl, h1, hL, h2, h3⟩, st⟩
  · dsimp only [Pt.U, Pt.locs, Pt.cells, Pt.slots] at X' e1 e2 h1 h2 h3 st
    subst h1; subst h2; subst h3
    exact Or.inl ⟨v, (T.setVm vm₁).calling g' mk As.toArray, t, U', L, hT, X', hL, e1, e2, hq, st⟩
  · dsimp only [Pt.U, Pt.locs, Pt.cells, Pt.slots] at X' e1 e2 h1 h2 h3 st hcl
    subst h1; subst h2; subst h3
    exact Or.inr ⟨q, (T.setVm vm₁).calling g' mk As.toArray, t, U', L, E, ce, hT, X', hL, e1, e2, hq, hce, hcv, vx_cls hW₁ hcl, st⟩
end
end VXH
theorem vx_ofWH {l : Launch} {y : MethodName} {ws ws' : List Cond} {rm : Room} {Pc : Array Value → State → Prop} {Qc : Array Value → State → Outcome → State → Prop} {XC : String → State → State → Prop} {mc ms : Nat} {free : Addr → Prop} {cc : ByteArray} {maxL : Nat} {ret : Option FieldType} {hh : List (Nat × Nat × Nat × Nat)}
    (hy : plainName y.cls = true) (hw : ws = Cond.codeWith y cc maxL ret hh :: ws')
    (body : ∀ p e s m args below meth c s₁, BodyLoose p l y (headSpec ws rm) cc maxL ret e s m args below meth c s₁ → c.maxLocals = maxL → Pc args s →
      W p l e (headSpec ws rm).room s m args below meth c s.heap [] 0 0 (vx_MQ below Qc XC args s mc ms free) (entryFrame m args maxL)) : vx_Met l y ws rm Pc Qc XC mc ms free := by
  refine MetFree.of_bodyS (code := cc) (maxLocals := maxL) (ret := ret) hy ?_ ?_
  · intro args s m h hn
    obtain ⟨m9, meth, c, hn9, h1, h2, h3, h4, -, h5, h6, -⟩ := Cond.codeWith_spec (atoms_spec (ws := ws) h _ (by rw [hw]; exact List.mem_cons_self))
    cases hn.symm.trans hn9
    exact ⟨meth, c, h1, h2, h3, h4, h5, h6⟩
  · intro p e s m args below meth c s₁ B hml hP _
    have hh0 : s₁.heap = s.heap := by rw [B.state]; rfl
    obtain ⟨t, a1, o, b1, b2, b3⟩ := body p e s m args below meth c s₁ B hml hP s₁ hh0 (Stand.of_body B)
    exact ⟨t, o, a1, b1, b2, b3⟩
/-! ===== END ===== -/
end
section
/-! NoSuchElementException's own constructor calls its superclass by another index than the kit's chain of constructors has: its words, the two that differ exchanged. -/
def gNS : String := "java/util/NoSuchElementException"
def gRE : String := "java/lang/RuntimeException"
def gNSnames : List String := [gRE, "java/lang/Exception"]
def gNSall : List Cond := Bundle.passSAtoms gNS gRE 13 prog_13_method_4_code ++ (Bundle.ownAtoms "Stairflow" 187 gNS gNSnames).filter (fun w => decide (w ≠ .code (Bundle.initS gNS) Bundle.six 2 none) && decide (w ≠ .methodLink gNS 7 (Bundle.initS gRE)))
def gNSat : List Cond := gNSall.filter vx_no
end
section
/-! ===== BEGIN printed: names, fields, word lists, decode rows ===== -/
def RX0 : String := "Stairflow"
def TX0 : u_T := fun k => match k with
  | 0 => ("Stairflow", "placeCount", "I", false)
  | 1 => ("Stairflow", "roomOf", "[I", true)
  | 2 => ("Stairflow", "peopleAt", "[I", true)
  | 3 => ("Stairflow", "releaseOf", "[I", true)
  | 4 => ("Stairflow", "distanceOf", "[I", true)
  | 5 => ("Stairflow", "doorOf", "[I", true)
  | 6 => ("Stairflow", "doorCount", "I", false)
  | 7 => ("Stairflow", "oneEnd", "[I", true)
  | 8 => ("Stairflow", "otherEnd", "[I", true)
  | 9 => ("Stairflow", "flowOf", "[I", true)
  | 10 => ("Stairflow", "shareOf", "[I", true)
  | 11 => ("Stairflow", "isOpen", "[Z", true)
  | 12 => ("Stairflow", "passedBy", "[I", true)
  | 13 => ("Stairflow", "sourceOf", "[I", true)
  | 14 => ("Stairflow", "targetOf", "[I", true)
  | 15 => ("Stairflow", "grantedTo", "[I", true)
  | 16 => ("Stairflow", "timeNow", "I", false)
  | 17 => ("Stairflow", "latestTime", "I", false)
  | _ => ("Stairflow", "waitedSum", "I", false)
def tyX0 : Nat → FieldType := fun k => match k with
  | 0 => .int
  | 1 => .array .int
  | 2 => .array .int
  | 3 => .array .int
  | 4 => .array .int
  | 5 => .array .int
  | 6 => .int
  | 7 => .array .int
  | 8 => .array .int
  | 9 => .array .int
  | 10 => .array .int
  | 11 => .array .boolean
  | 12 => .array .int
  | 13 => .array .int
  | 14 => .array .int
  | 15 => .array .int
  | 16 => .int
  | 17 => .int
  | _ => .int
abbrev wsX00 : List Cond := u_ws RX0 TX0 19
theorem nmX0 : ∀ a, a < 19 → ∀ b, b < 19 → a ≠ b → (TX0 a).2.1 ≠ (TX0 b).2.1 := by decide +kernel
theorem tyX0_ok : ∀ k, k < 19 → parseFieldDescriptor (TX0 k).2.2.1 = some (tyX0 k) := by decide +kernel
abbrev cX0_init : ByteArray := prog_1_method_1_code
def yX0_init : MethodName := ⟨RX0, "<init>", "()V"⟩
abbrev cX0_addPlace : ByteArray := prog_1_method_2_code
def yX0_addPlace : MethodName := ⟨RX0, "addPlace", "(I)I"⟩
abbrev cX0_addDoor : ByteArray := prog_1_method_3_code
def yX0_addDoor : MethodName := ⟨RX0, "addDoor", "(IIII)I"⟩
abbrev cX0_setDoor : ByteArray := prog_1_method_4_code
def yX0_setDoor : MethodName := ⟨RX0, "setDoor", "(IZ)Z"⟩
abbrev cX0_come : ByteArray := prog_1_method_5_code
def yX0_come : MethodName := ⟨RX0, "come", "(II)I"⟩
abbrev cX0_setRelease : ByteArray := prog_1_method_6_code
def yX0_setRelease : MethodName := ⟨RX0, "setRelease", "(II)I"⟩
abbrev cX0_places : ByteArray := prog_1_method_7_code
def yX0_places : MethodName := ⟨RX0, "places", "()I"⟩
abbrev cX0_doors : ByteArray := prog_1_method_8_code
def yX0_doors : MethodName := ⟨RX0, "doors", "()I"⟩
abbrev cX0_step : ByteArray := prog_1_method_9_code
def yX0_step : MethodName := ⟨RX0, "step", "(I)I"⟩
abbrev cX0_clear : ByteArray := prog_1_method_10_code
def yX0_clear : MethodName := ⟨RX0, "clear", "()I"⟩
abbrev cX0_now : ByteArray := prog_1_method_11_code
def yX0_now : MethodName := ⟨RX0, "now", "()I"⟩
abbrev cX0_people : ByteArray := prog_1_method_12_code
def yX0_people : MethodName := ⟨RX0, "people", "(I)I"⟩
abbrev cX0_inside : ByteArray := prog_1_method_13_code
def yX0_inside : MethodName := ⟨RX0, "inside", "()I"⟩
abbrev cX0_latest : ByteArray := prog_1_method_14_code
def yX0_latest : MethodName := ⟨RX0, "latest", "()I"⟩
abbrev cX0_passed : ByteArray := prog_1_method_15_code
def yX0_passed : MethodName := ⟨RX0, "passed", "(I)I"⟩
abbrev cX0_waited : ByteArray := prog_1_method_16_code
def yX0_waited : MethodName := ⟨RX0, "waited", "()I"⟩
abbrev cX0_distance : ByteArray := prog_1_method_17_code
def yX0_distance : MethodName := ⟨RX0, "distance", "(I)I"⟩
abbrev cX0_door : ByteArray := prog_1_method_18_code
def yX0_door : MethodName := ⟨RX0, "door", "(I)I"⟩
abbrev cX0_trapped : ByteArray := prog_1_method_19_code
def yX0_trapped : MethodName := ⟨RX0, "trapped", "()I"⟩
abbrev cX0_wouldMove : ByteArray := prog_1_method_20_code
def yX0_wouldMove : MethodName := ⟨RX0, "wouldMove", "(I)I"⟩
abbrev cX0_bound : ByteArray := prog_1_method_21_code
def yX0_bound : MethodName := ⟨RX0, "bound", "()I"⟩
abbrev cX0_boundAt : ByteArray := prog_1_method_22_code
def yX0_boundAt : MethodName := ⟨RX0, "boundAt", "(I)I"⟩
abbrev cX0_peopleFrom : ByteArray := prog_1_method_23_code
def yX0_peopleFrom : MethodName := ⟨RX0, "peopleFrom", "(I)I"⟩
abbrev cX0_flowInward : ByteArray := prog_1_method_24_code
def yX0_flowInward : MethodName := ⟨RX0, "flowInward", "(I)I"⟩
abbrev cX0_passOneStep : ByteArray := prog_1_method_25_code
def yX0_passOneStep : MethodName := ⟨RX0, "passOneStep", "()I"⟩
abbrev cX0_grantAll : ByteArray := prog_1_method_26_code
def yX0_grantAll : MethodName := ⟨RX0, "grantAll", "()V"⟩
abbrev cX0_grantAt : ByteArray := prog_1_method_27_code
def yX0_grantAt : MethodName := ⟨RX0, "grantAt", "(I)V"⟩
abbrev cX0_grantRound : ByteArray := prog_1_method_28_code
def yX0_grantRound : MethodName := ⟨RX0, "grantRound", "(II)I"⟩
abbrev cX0_wishBy : ByteArray := prog_1_method_29_code
def yX0_wishBy : MethodName := ⟨RX0, "wishBy", "(I)I"⟩
abbrev cX0_moveGranted : ByteArray := prog_1_method_30_code
def yX0_moveGranted : MethodName := ⟨RX0, "moveGranted", "()I"⟩
abbrev cX0_roomLeft : ByteArray := prog_1_method_31_code
def yX0_roomLeft : MethodName := ⟨RX0, "roomLeft", "(I)I"⟩
abbrev cX0_areAllReleased : ByteArray := prog_1_method_32_code
def yX0_areAllReleased : MethodName := ⟨RX0, "areAllReleased", "()Z"⟩
abbrev cX0_findWays : ByteArray := prog_1_method_33_code
def yX0_findWays : MethodName := ⟨RX0, "findWays", "()V"⟩
abbrev cX0_measureDistances : ByteArray := prog_1_method_34_code
def yX0_measureDistances : MethodName := ⟨RX0, "measureDistances", "()V"⟩
abbrev cX0_reach : ByteArray := prog_1_method_35_code
def yX0_reach : MethodName := ⟨RX0, "reach", "(III)V"⟩
abbrev cX0_offerDoor : ByteArray := prog_1_method_36_code
def yX0_offerDoor : MethodName := ⟨RX0, "offerDoor", "(III)V"⟩
abbrev cX0_isPlace : ByteArray := prog_1_method_37_code
def yX0_isPlace : MethodName := ⟨RX0, "isPlace", "(I)Z"⟩
abbrev cX0_isDoor : ByteArray := prog_1_method_38_code
def yX0_isDoor : MethodName := ⟨RX0, "isDoor", "(I)Z"⟩
abbrev cX0_isBetween : ByteArray := prog_1_method_39_code
def yX0_isBetween : MethodName := ⟨RX0, "isBetween", "(III)Z"⟩
abbrev cX0_requirePlace : ByteArray := prog_1_method_40_code
def yX0_requirePlace : MethodName := ⟨RX0, "requirePlace", "(I)V"⟩
abbrev cX0_requireDoor : ByteArray := prog_1_method_41_code
def yX0_requireDoor : MethodName := ⟨RX0, "requireDoor", "(I)V"⟩
abbrev cX0_requireArgument : ByteArray := prog_1_method_42_code
def yX0_requireArgument : MethodName := ⟨RX0, "requireArgument", "(Z)V"⟩
abbrev cX0_requireState : ByteArray := prog_1_method_43_code
def yX0_requireState : MethodName := ⟨RX0, "requireState", "(Z)V"⟩
abbrev cX0_requireElement : ByteArray := prog_1_method_44_code
def yX0_requireElement : MethodName := ⟨RX0, "requireElement", "(Z)V"⟩
def RX1 : String := "StairflowModel"
def TX1 : u_T := fun k => match k with
  | 0 => ("StairflowModel", "thrown", "I", false)
  | 1 => ("StairflowModel", "places", "I", false)
  | 2 => ("StairflowModel", "rooms", "[I", true)
  | 3 => ("StairflowModel", "people", "[I", true)
  | 4 => ("StairflowModel", "releases", "[I", true)
  | 5 => ("StairflowModel", "doors", "I", false)
  | 6 => ("StairflowModel", "ones", "[I", true)
  | 7 => ("StairflowModel", "others", "[I", true)
  | 8 => ("StairflowModel", "flows", "[I", true)
  | 9 => ("StairflowModel", "shares", "[I", true)
  | 10 => ("StairflowModel", "isOpen", "[Z", true)
  | 11 => ("StairflowModel", "passed", "[I", true)
  | 12 => ("StairflowModel", "time", "I", false)
  | 13 => ("StairflowModel", "lastOut", "I", false)
  | 14 => ("StairflowModel", "waited", "I", false)
  | 15 => ("StairflowModel", "far", "[I", true)
  | 16 => ("StairflowModel", "wishes", "[I", true)
  | 17 => ("StairflowModel", "grants", "[I", true)
  | _ => ("StairflowModel", "goals", "[I", true)
def tyX1 : Nat → FieldType := fun k => match k with
  | 0 => .int
  | 1 => .int
  | 2 => .array .int
  | 3 => .array .int
  | 4 => .array .int
  | 5 => .int
  | 6 => .array .int
  | 7 => .array .int
  | 8 => .array .int
  | 9 => .array .int
  | 10 => .array .boolean
  | 11 => .array .int
  | 12 => .int
  | 13 => .int
  | 14 => .int
  | 15 => .array .int
  | 16 => .array .int
  | 17 => .array .int
  | _ => .array .int
abbrev wsX10 : List Cond := u_ws RX1 TX1 19
theorem nmX1 : ∀ a, a < 19 → ∀ b, b < 19 → a ≠ b → (TX1 a).2.1 ≠ (TX1 b).2.1 := by decide +kernel
theorem tyX1_ok : ∀ k, k < 19 → parseFieldDescriptor (TX1 k).2.2.1 = some (tyX1 k) := by decide +kernel
abbrev cX1_init : ByteArray := prog_3_method_1_code
def yX1_init : MethodName := ⟨RX1, "<init>", "()V"⟩
abbrev cX1_thrown : ByteArray := prog_3_method_2_code
def yX1_thrown : MethodName := ⟨RX1, "thrown", "()I"⟩
abbrev cX1_goesWell : ByteArray := prog_3_method_3_code
def yX1_goesWell : MethodName := ⟨RX1, "goesWell", "(I)Z"⟩
abbrev cX1_in : ByteArray := prog_3_method_4_code
def yX1_in : MethodName := ⟨RX1, "in", "(III)Z"⟩
abbrev cX1_isPlace : ByteArray := prog_3_method_5_code
def yX1_isPlace : MethodName := ⟨RX1, "isPlace", "(I)Z"⟩
abbrev cX1_isDoor : ByteArray := prog_3_method_6_code
def yX1_isDoor : MethodName := ⟨RX1, "isDoor", "(I)Z"⟩
abbrev cX1_addPlace : ByteArray := prog_3_method_7_code
def yX1_addPlace : MethodName := ⟨RX1, "addPlace", "(I)I"⟩
abbrev cX1_addDoor : ByteArray := prog_3_method_8_code
def yX1_addDoor : MethodName := ⟨RX1, "addDoor", "(IIII)I"⟩
abbrev cX1_setDoor : ByteArray := prog_3_method_9_code
def yX1_setDoor : MethodName := ⟨RX1, "setDoor", "(IZ)Z"⟩
abbrev cX1_come : ByteArray := prog_3_method_10_code
def yX1_come : MethodName := ⟨RX1, "come", "(II)I"⟩
abbrev cX1_setRelease : ByteArray := prog_3_method_11_code
def yX1_setRelease : MethodName := ⟨RX1, "setRelease", "(II)I"⟩
abbrev cX1_places : ByteArray := prog_3_method_12_code
def yX1_places : MethodName := ⟨RX1, "places", "()I"⟩
abbrev cX1_doors : ByteArray := prog_3_method_13_code
def yX1_doors : MethodName := ⟨RX1, "doors", "()I"⟩
abbrev cX1_measure : ByteArray := prog_3_method_14_code
def yX1_measure : MethodName := ⟨RX1, "measure", "()V"⟩
abbrev cX1_reach : ByteArray := prog_3_method_15_code
def yX1_reach : MethodName := ⟨RX1, "reach", "(IIII)V"⟩
abbrev cX1_beyond : ByteArray := prog_3_method_16_code
def yX1_beyond : MethodName := ⟨RX1, "beyond", "(II)I"⟩
abbrev cX1_doorOf : ByteArray := prog_3_method_17_code
def yX1_doorOf : MethodName := ⟨RX1, "doorOf", "(I)I"⟩
abbrev cX1_wish : ByteArray := prog_3_method_18_code
def yX1_wish : MethodName := ⟨RX1, "wish", "()V"⟩
abbrev cX1_grant : ByteArray := prog_3_method_19_code
def yX1_grant : MethodName := ⟨RX1, "grant", "(I)V"⟩
abbrev cX1_decide : ByteArray := prog_3_method_20_code
def yX1_decide : MethodName := ⟨RX1, "decide", "()V"⟩
abbrev cX1_insideNow : ByteArray := prog_3_method_21_code
def yX1_insideNow : MethodName := ⟨RX1, "insideNow", "()I"⟩
abbrev cX1_go : ByteArray := prog_3_method_22_code
def yX1_go : MethodName := ⟨RX1, "go", "()I"⟩
abbrev cX1_step : ByteArray := prog_3_method_23_code
def yX1_step : MethodName := ⟨RX1, "step", "(I)I"⟩
abbrev cX1_clear : ByteArray := prog_3_method_24_code
def yX1_clear : MethodName := ⟨RX1, "clear", "()I"⟩
abbrev cX1_now : ByteArray := prog_3_method_25_code
def yX1_now : MethodName := ⟨RX1, "now", "()I"⟩
abbrev cX1_people : ByteArray := prog_3_method_26_code
def yX1_people : MethodName := ⟨RX1, "people", "(I)I"⟩
abbrev cX1_inside : ByteArray := prog_3_method_27_code
def yX1_inside : MethodName := ⟨RX1, "inside", "()I"⟩
abbrev cX1_latest : ByteArray := prog_3_method_28_code
def yX1_latest : MethodName := ⟨RX1, "latest", "()I"⟩
abbrev cX1_passed : ByteArray := prog_3_method_29_code
def yX1_passed : MethodName := ⟨RX1, "passed", "(I)I"⟩
abbrev cX1_waited : ByteArray := prog_3_method_30_code
def yX1_waited : MethodName := ⟨RX1, "waited", "()I"⟩
abbrev cX1_distance : ByteArray := prog_3_method_31_code
def yX1_distance : MethodName := ⟨RX1, "distance", "(I)I"⟩
abbrev cX1_door : ByteArray := prog_3_method_32_code
def yX1_door : MethodName := ⟨RX1, "door", "(I)I"⟩
abbrev cX1_trappedNow : ByteArray := prog_3_method_33_code
def yX1_trappedNow : MethodName := ⟨RX1, "trappedNow", "()I"⟩
abbrev cX1_trapped : ByteArray := prog_3_method_34_code
def yX1_trapped : MethodName := ⟨RX1, "trapped", "()I"⟩
abbrev cX1_wouldMove : ByteArray := prog_3_method_35_code
def yX1_wouldMove : MethodName := ⟨RX1, "wouldMove", "(I)I"⟩
abbrev cX1_bound : ByteArray := prog_3_method_36_code
def yX1_bound : MethodName := ⟨RX1, "bound", "()I"⟩
def RJx145de : String := "java/io/Serializable"
def TJx145de : u_T := fun k => match k with
  | _ => ("", "", "", false)
def tyJx145de : Nat → FieldType := fun k => match k with
  | _ => .int
abbrev wsJx145de0 : List Cond := u_ws RJx145de TJx145de 0
theorem nmJx145de : ∀ a, a < 0 → ∀ b, b < 0 → a ≠ b → (TJx145de a).2.1 ≠ (TJx145de b).2.1 := by decide +kernel
theorem tyJx145de_ok : ∀ k, k < 0 → parseFieldDescriptor (TJx145de k).2.2.1 = some (tyJx145de k) := by decide +kernel
def RJ9 : String := "java/lang/Math"
def TJ9 : u_T := fun k => match k with
  | _ => ("", "", "", false)
def tyJ9 : Nat → FieldType := fun k => match k with
  | _ => .int
abbrev wsJ90 : List Cond := u_ws RJ9 TJ9 0
theorem nmJ9 : ∀ a, a < 0 → ∀ b, b < 0 → a ≠ b → (TJ9 a).2.1 ≠ (TJ9 b).2.1 := by decide +kernel
theorem tyJ9_ok : ∀ k, k < 0 → parseFieldDescriptor (TJ9 k).2.2.1 = some (tyJ9 k) := by decide +kernel
abbrev cJ9_max_7cf53 : ByteArray := prog_9_method_65_code
def yJ9_max_7cf53 : MethodName := ⟨RJ9, "max", "(II)I"⟩
abbrev cJ9_min_7cf53 : ByteArray := prog_9_method_69_code
def yJ9_min_7cf53 : MethodName := ⟨RJ9, "min", "(II)I"⟩
def RJ0 : String := "java/lang/String"
def TJ0 : u_T := fun k => match k with
  | _ => ("", "", "", false)
def tyJ0 : Nat → FieldType := fun k => match k with
  | _ => .int
abbrev wsJ00 : List Cond := u_ws RJ0 TJ0 0
theorem nmJ0 : ∀ a, a < 0 → ∀ b, b < 0 → a ≠ b → (TJ0 a).2.1 ≠ (TJ0 b).2.1 := by decide +kernel
theorem tyJ0_ok : ∀ k, k < 0 → parseFieldDescriptor (TJ0 k).2.2.1 = some (tyJ0 k) := by decide +kernel
def RL : String := "StairflowLaw"
abbrev cL_addPlace : ByteArray := method_3_code
def yL_addPlace : MethodName := ⟨RL, "addPlace", "(LStairflow;I[J)I"⟩
abbrev cL_addDoor : ByteArray := method_4_code
def yL_addDoor : MethodName := ⟨RL, "addDoor", "(LStairflow;IIII[J)I"⟩
abbrev cL_setDoor : ByteArray := method_5_code
def yL_setDoor : MethodName := ⟨RL, "setDoor", "(LStairflow;IZ[J)I"⟩
abbrev cL_come : ByteArray := method_6_code
def yL_come : MethodName := ⟨RL, "come", "(LStairflow;II[J)I"⟩
abbrev cL_setRelease : ByteArray := method_7_code
def yL_setRelease : MethodName := ⟨RL, "setRelease", "(LStairflow;II[J)I"⟩
abbrev cL_step : ByteArray := method_8_code
def yL_step : MethodName := ⟨RL, "step", "(LStairflow;I[J)I"⟩
abbrev cL_people : ByteArray := method_9_code
def yL_people : MethodName := ⟨RL, "people", "(LStairflow;I[J)I"⟩
abbrev cL_latest : ByteArray := method_10_code
def yL_latest : MethodName := ⟨RL, "latest", "(LStairflow;[J)I"⟩
abbrev cL_passed : ByteArray := method_11_code
def yL_passed : MethodName := ⟨RL, "passed", "(LStairflow;I[J)I"⟩
abbrev cL_distance : ByteArray := method_12_code
def yL_distance : MethodName := ⟨RL, "distance", "(LStairflow;I[J)I"⟩
abbrev cL_door : ByteArray := method_13_code
def yL_door : MethodName := ⟨RL, "door", "(LStairflow;I[J)I"⟩
abbrev cL_wouldMove : ByteArray := method_14_code
def yL_wouldMove : MethodName := ⟨RL, "wouldMove", "(LStairflow;I[J)I"⟩
abbrev cL_bound : ByteArray := method_15_code
def yL_bound : MethodName := ⟨RL, "bound", "(LStairflow;[J)I"⟩
abbrev cL_law : ByteArray := code
def yL_law : MethodName := ⟨RL, "law", "([I)Z"⟩
def wsX0_init : List Cond := .code yX0_init cX0_init 1 none :: ([.methodLink RX0 1 objectInit, .instanceMethod objectInit, .code objectInit ⟨#[0xb1]⟩ 1 none, .arrayClass .int, .fieldLink RX0 9 "Stairflow" "roomOf" "[I", .fieldLink RX0 13 "Stairflow" "peopleAt" "[I", .fieldLink RX0 16 "Stairflow" "releaseOf" "[I", .fieldLink RX0 19 "Stairflow" "distanceOf" "[I", .fieldLink RX0 22 "Stairflow" "doorOf" "[I", .fieldLink RX0 25 "Stairflow" "oneEnd" "[I", .fieldLink RX0 28 "Stairflow" "otherEnd" "[I", .fieldLink RX0 31 "Stairflow" "flowOf" "[I", .fieldLink RX0 34 "Stairflow" "shareOf" "[I", .arrayClass .boolean, .fieldLink RX0 37 "Stairflow" "isOpen" "[Z", .fieldLink RX0 41 "Stairflow" "passedBy" "[I", .fieldLink RX0 44 "Stairflow" "sourceOf" "[I", .fieldLink RX0 47 "Stairflow" "targetOf" "[I", .fieldLink RX0 50 "Stairflow" "grantedTo" "[I", .fieldLink RX0 53 "Stairflow" "placeCount" "I", .fieldLink RX0 57 "Stairflow" "latestTime" "I"] ++ wsX00)
def wsX0_isBetween : List Cond := .code yX0_isBetween cX0_isBetween 3 (some .boolean) :: ([])
def wsX0_requireArgument : List Cond := .code yX0_requireArgument cX0_requireArgument 1 none :: ([.classLink RX0 173 "java/lang/IllegalArgumentException", .initialized "java/lang/IllegalArgumentException"] ++ (vx_atS RX0 177 "java/lang/IllegalArgumentException" ["java/lang/RuntimeException", "java/lang/Exception"]).filter goodWord)
def wsX0_requireState : List Cond := .code yX0_requireState cX0_requireState 1 none :: ([.classLink RX0 178 "java/lang/IllegalStateException", .initialized "java/lang/IllegalStateException"] ++ (vx_atS RX0 182 "java/lang/IllegalStateException" ["java/lang/RuntimeException", "java/lang/Exception"]).filter goodWord)
def wsX0_reach : List Cond := .code yX0_reach cX0_reach 4 none :: ([.fieldLink RX0 19 "Stairflow" "distanceOf" "[I"] ++ wsX00)
def wsX0_measureDistances : List Cond := .code yX0_measureDistances cX0_measureDistances 3 none :: ([.fieldLink RX0 19 "Stairflow" "distanceOf" "[I", .fieldLink RX0 53 "Stairflow" "placeCount" "I", .fieldLink RX0 78 "Stairflow" "doorCount" "I", .fieldLink RX0 37 "Stairflow" "isOpen" "[Z", .fieldLink RX0 25 "Stairflow" "oneEnd" "[I", .fieldLink RX0 28 "Stairflow" "otherEnd" "[I", .methodLink RX0 161 yX0_reach, .instanceMethod yX0_reach, .selects RX0 yX0_reach yX0_reach, .initialized RX0, .code yX0_reach cX0_reach 4 none] ++ wsX00)
def wsX0_offerDoor : List Cond := .code yX0_offerDoor cX0_offerDoor 5 none :: ([.fieldLink RX0 37 "Stairflow" "isOpen" "[Z", .fieldLink RX0 19 "Stairflow" "distanceOf" "[I", .fieldLink RX0 22 "Stairflow" "doorOf" "[I", .fieldLink RX0 44 "Stairflow" "sourceOf" "[I", .fieldLink RX0 47 "Stairflow" "targetOf" "[I"] ++ wsX00)
def wsX0_findWays : List Cond := .code yX0_findWays cX0_findWays 2 none :: ([.fieldLink RX0 53 "Stairflow" "placeCount" "I", .fieldLink RX0 22 "Stairflow" "doorOf" "[I", .fieldLink RX0 78 "Stairflow" "doorCount" "I", .fieldLink RX0 44 "Stairflow" "sourceOf" "[I", .fieldLink RX0 47 "Stairflow" "targetOf" "[I", .fieldLink RX0 25 "Stairflow" "oneEnd" "[I", .fieldLink RX0 28 "Stairflow" "otherEnd" "[I", .methodLink RX0 154 yX0_measureDistances, .instanceMethod yX0_measureDistances, .selects RX0 yX0_measureDistances yX0_measureDistances, .initialized RX0, .code yX0_measureDistances cX0_measureDistances 3 none, .fieldLink RX0 19 "Stairflow" "distanceOf" "[I", .fieldLink RX0 37 "Stairflow" "isOpen" "[Z", .methodLink RX0 161 yX0_reach, .instanceMethod yX0_reach, .selects RX0 yX0_reach yX0_reach, .code yX0_reach cX0_reach 4 none, .methodLink RX0 157 yX0_offerDoor, .instanceMethod yX0_offerDoor, .selects RX0 yX0_offerDoor yX0_offerDoor, .code yX0_offerDoor cX0_offerDoor 5 none] ++ wsX00)
def wsX0_addPlace_r1 : List Cond := [Cond.fieldLink RX0 53 "Stairflow" "placeCount" "I", Cond.fieldLink RX0 9 "Stairflow" "roomOf" "[I", Cond.methodLink RX0 60 yX0_isBetween, Cond.static yX0_isBetween, Cond.initialized RX0, Cond.code yX0_isBetween cX0_isBetween 3 (some .boolean), Cond.methodLink RX0 64 yX0_requireArgument, Cond.static yX0_requireArgument, Cond.code yX0_requireArgument cX0_requireArgument 1 none, Cond.classLink RX0 173 "java/lang/IllegalArgumentException", Cond.initialized "java/lang/IllegalArgumentException", Cond.methodLink RX0 68 yX0_requireState, Cond.static yX0_requireState, Cond.code yX0_requireState cX0_requireState 1 none, Cond.classLink RX0 178 "java/lang/IllegalStateException", Cond.initialized "java/lang/IllegalStateException", Cond.methodLink RX0 71 yX0_findWays, Cond.instanceMethod yX0_findWays, Cond.selects RX0 yX0_findWays yX0_findWays, Cond.code yX0_findWays cX0_findWays 2 none, Cond.fieldLink RX0 22 "Stairflow" "doorOf" "[I", Cond.fieldLink RX0 78 "Stairflow" "doorCount" "I", Cond.fieldLink RX0 44 "Stairflow" "sourceOf" "[I", Cond.fieldLink RX0 47 "Stairflow" "targetOf" "[I"]
def wsX0_addPlace_r2 : List Cond := [Cond.fieldLink RX0 25 "Stairflow" "oneEnd" "[I", Cond.fieldLink RX0 28 "Stairflow" "otherEnd" "[I", Cond.methodLink RX0 154 yX0_measureDistances, Cond.instanceMethod yX0_measureDistances, Cond.selects RX0 yX0_measureDistances yX0_measureDistances, Cond.code yX0_measureDistances cX0_measureDistances 3 none, Cond.fieldLink RX0 19 "Stairflow" "distanceOf" "[I", Cond.fieldLink RX0 37 "Stairflow" "isOpen" "[Z", Cond.methodLink RX0 161 yX0_reach, Cond.instanceMethod yX0_reach, Cond.selects RX0 yX0_reach yX0_reach, Cond.code yX0_reach cX0_reach 4 none, Cond.methodLink RX0 157 yX0_offerDoor, Cond.instanceMethod yX0_offerDoor, Cond.selects RX0 yX0_offerDoor yX0_offerDoor, Cond.code yX0_offerDoor cX0_offerDoor 5 none]
def wsX0_addPlace : List Cond := .code yX0_addPlace cX0_addPlace 3 (some .int) :: ((wsX0_addPlace_r1 ++ wsX0_addPlace_r2) ++ wsX00 ++ (vx_atS RX0 177 "java/lang/IllegalArgumentException" ["java/lang/RuntimeException", "java/lang/Exception"]).filter goodWord ++ (vx_atS RX0 182 "java/lang/IllegalStateException" ["java/lang/RuntimeException", "java/lang/Exception"]).filter goodWord)
def wsX0_isPlace : List Cond := .code yX0_isPlace cX0_isPlace 2 (some .boolean) :: ([.fieldLink RX0 53 "Stairflow" "placeCount" "I"] ++ wsX00)
def wsX0_requirePlace : List Cond := .code yX0_requirePlace cX0_requirePlace 2 none :: ([.classLink RX0 164 "java/lang/IndexOutOfBoundsException", .initialized "java/lang/IndexOutOfBoundsException", .methodLink RX0 148 yX0_isPlace, .instanceMethod yX0_isPlace, .selects RX0 yX0_isPlace yX0_isPlace, .initialized RX0, .code yX0_isPlace cX0_isPlace 2 (some .boolean), .fieldLink RX0 53 "Stairflow" "placeCount" "I"] ++ wsX00 ++ (vx_atS RX0 168 "java/lang/IndexOutOfBoundsException" ["java/lang/RuntimeException", "java/lang/Exception"]).filter goodWord)
def wsX0_addDoor_r1 : List Cond := [Cond.fieldLink RX0 78 "Stairflow" "doorCount" "I", Cond.fieldLink RX0 25 "Stairflow" "oneEnd" "[I", Cond.fieldLink RX0 28 "Stairflow" "otherEnd" "[I", Cond.fieldLink RX0 31 "Stairflow" "flowOf" "[I", Cond.fieldLink RX0 34 "Stairflow" "shareOf" "[I", Cond.fieldLink RX0 37 "Stairflow" "isOpen" "[Z", Cond.methodLink RX0 74 yX0_requirePlace, Cond.instanceMethod yX0_requirePlace, Cond.selects RX0 yX0_requirePlace yX0_requirePlace, Cond.initialized RX0, Cond.code yX0_requirePlace cX0_requirePlace 2 none, Cond.classLink RX0 164 "java/lang/IndexOutOfBoundsException", Cond.initialized "java/lang/IndexOutOfBoundsException", Cond.methodLink RX0 148 yX0_isPlace, Cond.instanceMethod yX0_isPlace, Cond.selects RX0 yX0_isPlace yX0_isPlace, Cond.code yX0_isPlace cX0_isPlace 2 (some .boolean), Cond.fieldLink RX0 53 "Stairflow" "placeCount" "I", Cond.methodLink RX0 60 yX0_isBetween, Cond.static yX0_isBetween, Cond.code yX0_isBetween cX0_isBetween 3 (some .boolean), Cond.methodLink RX0 64 yX0_requireArgument, Cond.static yX0_requireArgument, Cond.code yX0_requireArgument cX0_requireArgument 1 none]
def wsX0_addDoor_r2 : List Cond := [Cond.classLink RX0 173 "java/lang/IllegalArgumentException", Cond.initialized "java/lang/IllegalArgumentException", Cond.methodLink RX0 68 yX0_requireState, Cond.static yX0_requireState, Cond.code yX0_requireState cX0_requireState 1 none, Cond.classLink RX0 178 "java/lang/IllegalStateException", Cond.initialized "java/lang/IllegalStateException", Cond.methodLink RX0 71 yX0_findWays, Cond.instanceMethod yX0_findWays, Cond.selects RX0 yX0_findWays yX0_findWays, Cond.code yX0_findWays cX0_findWays 2 none, Cond.fieldLink RX0 22 "Stairflow" "doorOf" "[I", Cond.fieldLink RX0 44 "Stairflow" "sourceOf" "[I", Cond.fieldLink RX0 47 "Stairflow" "targetOf" "[I", Cond.methodLink RX0 154 yX0_measureDistances, Cond.instanceMethod yX0_measureDistances, Cond.selects RX0 yX0_measureDistances yX0_measureDistances, Cond.code yX0_measureDistances cX0_measureDistances 3 none, Cond.fieldLink RX0 19 "Stairflow" "distanceOf" "[I", Cond.methodLink RX0 161 yX0_reach, Cond.instanceMethod yX0_reach, Cond.selects RX0 yX0_reach yX0_reach, Cond.code yX0_reach cX0_reach 4 none, Cond.methodLink RX0 157 yX0_offerDoor]
def wsX0_addDoor_r3 : List Cond := [Cond.instanceMethod yX0_offerDoor, Cond.selects RX0 yX0_offerDoor yX0_offerDoor, Cond.code yX0_offerDoor cX0_offerDoor 5 none]
def wsX0_addDoor : List Cond := .code yX0_addDoor cX0_addDoor 6 (some .int) :: ((wsX0_addDoor_r1 ++ (wsX0_addDoor_r2 ++ wsX0_addDoor_r3)) ++ wsX00 ++ (vx_atS RX0 168 "java/lang/IndexOutOfBoundsException" ["java/lang/RuntimeException", "java/lang/Exception"]).filter goodWord ++ (vx_atS RX0 177 "java/lang/IllegalArgumentException" ["java/lang/RuntimeException", "java/lang/Exception"]).filter goodWord ++ (vx_atS RX0 182 "java/lang/IllegalStateException" ["java/lang/RuntimeException", "java/lang/Exception"]).filter goodWord)
def wsX0_isDoor : List Cond := .code yX0_isDoor cX0_isDoor 2 (some .boolean) :: ([.fieldLink RX0 78 "Stairflow" "doorCount" "I"] ++ wsX00)
def wsX0_requireDoor : List Cond := .code yX0_requireDoor cX0_requireDoor 2 none :: ([.classLink RX0 164 "java/lang/IndexOutOfBoundsException", .initialized "java/lang/IndexOutOfBoundsException", .methodLink RX0 108 yX0_isDoor, .instanceMethod yX0_isDoor, .selects RX0 yX0_isDoor yX0_isDoor, .initialized RX0, .code yX0_isDoor cX0_isDoor 2 (some .boolean), .fieldLink RX0 78 "Stairflow" "doorCount" "I"] ++ wsX00 ++ (vx_atS RX0 168 "java/lang/IndexOutOfBoundsException" ["java/lang/RuntimeException", "java/lang/Exception"]).filter goodWord)
def wsX0_setDoor_r1 : List Cond := [Cond.fieldLink RX0 37 "Stairflow" "isOpen" "[Z", Cond.methodLink RX0 81 yX0_requireDoor, Cond.instanceMethod yX0_requireDoor, Cond.selects RX0 yX0_requireDoor yX0_requireDoor, Cond.initialized RX0, Cond.code yX0_requireDoor cX0_requireDoor 2 none, Cond.classLink RX0 164 "java/lang/IndexOutOfBoundsException", Cond.initialized "java/lang/IndexOutOfBoundsException", Cond.methodLink RX0 108 yX0_isDoor, Cond.instanceMethod yX0_isDoor, Cond.selects RX0 yX0_isDoor yX0_isDoor, Cond.code yX0_isDoor cX0_isDoor 2 (some .boolean), Cond.fieldLink RX0 78 "Stairflow" "doorCount" "I", Cond.methodLink RX0 71 yX0_findWays, Cond.instanceMethod yX0_findWays, Cond.selects RX0 yX0_findWays yX0_findWays, Cond.code yX0_findWays cX0_findWays 2 none, Cond.fieldLink RX0 53 "Stairflow" "placeCount" "I", Cond.fieldLink RX0 22 "Stairflow" "doorOf" "[I", Cond.fieldLink RX0 44 "Stairflow" "sourceOf" "[I", Cond.fieldLink RX0 47 "Stairflow" "targetOf" "[I", Cond.fieldLink RX0 25 "Stairflow" "oneEnd" "[I", Cond.fieldLink RX0 28 "Stairflow" "otherEnd" "[I", Cond.methodLink RX0 154 yX0_measureDistances]
def wsX0_setDoor_r2 : List Cond := [Cond.instanceMethod yX0_measureDistances, Cond.selects RX0 yX0_measureDistances yX0_measureDistances, Cond.code yX0_measureDistances cX0_measureDistances 3 none, Cond.fieldLink RX0 19 "Stairflow" "distanceOf" "[I", Cond.methodLink RX0 161 yX0_reach, Cond.instanceMethod yX0_reach, Cond.selects RX0 yX0_reach yX0_reach, Cond.code yX0_reach cX0_reach 4 none, Cond.methodLink RX0 157 yX0_offerDoor, Cond.instanceMethod yX0_offerDoor, Cond.selects RX0 yX0_offerDoor yX0_offerDoor, Cond.code yX0_offerDoor cX0_offerDoor 5 none]
def wsX0_setDoor : List Cond := .code yX0_setDoor cX0_setDoor 4 (some .boolean) :: ((wsX0_setDoor_r1 ++ wsX0_setDoor_r2) ++ wsX00 ++ (vx_atS RX0 168 "java/lang/IndexOutOfBoundsException" ["java/lang/RuntimeException", "java/lang/Exception"]).filter goodWord)
def wsX0_roomLeft : List Cond := .code yX0_roomLeft cX0_roomLeft 2 (some .int) :: ([.constant RX0 153 (2147483647), .fieldLink RX0 9 "Stairflow" "roomOf" "[I", .fieldLink RX0 13 "Stairflow" "peopleAt" "[I"] ++ wsX00)
def wsX0_come_r1 : List Cond := [Cond.fieldLink RX0 13 "Stairflow" "peopleAt" "[I", Cond.methodLink RX0 74 yX0_requirePlace, Cond.instanceMethod yX0_requirePlace, Cond.selects RX0 yX0_requirePlace yX0_requirePlace, Cond.initialized RX0, Cond.code yX0_requirePlace cX0_requirePlace 2 none, Cond.classLink RX0 164 "java/lang/IndexOutOfBoundsException", Cond.initialized "java/lang/IndexOutOfBoundsException", Cond.methodLink RX0 148 yX0_isPlace, Cond.instanceMethod yX0_isPlace, Cond.selects RX0 yX0_isPlace yX0_isPlace, Cond.code yX0_isPlace cX0_isPlace 2 (some .boolean), Cond.fieldLink RX0 53 "Stairflow" "placeCount" "I", Cond.methodLink RX0 60 yX0_isBetween, Cond.static yX0_isBetween, Cond.code yX0_isBetween cX0_isBetween 3 (some .boolean), Cond.methodLink RX0 64 yX0_requireArgument, Cond.static yX0_requireArgument, Cond.code yX0_requireArgument cX0_requireArgument 1 none, Cond.classLink RX0 173 "java/lang/IllegalArgumentException", Cond.initialized "java/lang/IllegalArgumentException", Cond.methodLink RX0 84 yX0_roomLeft, Cond.instanceMethod yX0_roomLeft, Cond.selects RX0 yX0_roomLeft yX0_roomLeft]
def wsX0_come_r2 : List Cond := [Cond.code yX0_roomLeft cX0_roomLeft 2 (some .int), Cond.constant RX0 153 (2147483647), Cond.fieldLink RX0 9 "Stairflow" "roomOf" "[I", Cond.methodLink RX0 68 yX0_requireState, Cond.static yX0_requireState, Cond.code yX0_requireState cX0_requireState 1 none, Cond.classLink RX0 178 "java/lang/IllegalStateException", Cond.initialized "java/lang/IllegalStateException"]
def wsX0_come : List Cond := .code yX0_come cX0_come 3 (some .int) :: ((wsX0_come_r1 ++ wsX0_come_r2) ++ wsX00 ++ (vx_atS RX0 168 "java/lang/IndexOutOfBoundsException" ["java/lang/RuntimeException", "java/lang/Exception"]).filter goodWord ++ (vx_atS RX0 177 "java/lang/IllegalArgumentException" ["java/lang/RuntimeException", "java/lang/Exception"]).filter goodWord ++ (vx_atS RX0 182 "java/lang/IllegalStateException" ["java/lang/RuntimeException", "java/lang/Exception"]).filter goodWord)
def wsX0_setRelease : List Cond := .code yX0_setRelease cX0_setRelease 4 (some .int) :: ([.fieldLink RX0 16 "Stairflow" "releaseOf" "[I", .methodLink RX0 74 yX0_requirePlace, .instanceMethod yX0_requirePlace, .selects RX0 yX0_requirePlace yX0_requirePlace, .initialized RX0, .code yX0_requirePlace cX0_requirePlace 2 none, .classLink RX0 164 "java/lang/IndexOutOfBoundsException", .initialized "java/lang/IndexOutOfBoundsException", .methodLink RX0 148 yX0_isPlace, .instanceMethod yX0_isPlace, .selects RX0 yX0_isPlace yX0_isPlace, .code yX0_isPlace cX0_isPlace 2 (some .boolean), .fieldLink RX0 53 "Stairflow" "placeCount" "I", .methodLink RX0 60 yX0_isBetween, .static yX0_isBetween, .code yX0_isBetween cX0_isBetween 3 (some .boolean), .methodLink RX0 64 yX0_requireArgument, .static yX0_requireArgument, .code yX0_requireArgument cX0_requireArgument 1 none, .classLink RX0 173 "java/lang/IllegalArgumentException", .initialized "java/lang/IllegalArgumentException"] ++ wsX00 ++ (vx_atS RX0 168 "java/lang/IndexOutOfBoundsException" ["java/lang/RuntimeException", "java/lang/Exception"]).filter goodWord ++ (vx_atS RX0 177 "java/lang/IllegalArgumentException" ["java/lang/RuntimeException", "java/lang/Exception"]).filter goodWord)
def wsX0_places : List Cond := .code yX0_places cX0_places 1 (some .int) :: ([.fieldLink RX0 53 "Stairflow" "placeCount" "I"] ++ wsX00)
def wsX0_doors : List Cond := .code yX0_doors cX0_doors 1 (some .int) :: ([.fieldLink RX0 78 "Stairflow" "doorCount" "I"] ++ wsX00)
def wsX0_wishBy : List Cond := .code yX0_wishBy cX0_wishBy 3 (some .int) :: ([.fieldLink RX0 44 "Stairflow" "sourceOf" "[I", .fieldLink RX0 16 "Stairflow" "releaseOf" "[I", .fieldLink RX0 99 "Stairflow" "timeNow" "I", .fieldLink RX0 13 "Stairflow" "peopleAt" "[I", .fieldLink RX0 31 "Stairflow" "flowOf" "[I", .methodLink RX0 145 Lib.Math.min.name, .static Lib.Math.min.name, .initialized "java/lang/Math", .code Lib.Math.min.name Lib.Math.min.code 2 (some .int), .methodLink RX0 148 yX0_isPlace, .instanceMethod yX0_isPlace, .selects RX0 yX0_isPlace yX0_isPlace, .initialized RX0, .code yX0_isPlace cX0_isPlace 2 (some .boolean), .fieldLink RX0 53 "Stairflow" "placeCount" "I"] ++ wsX00)
def wsX0_grantRound : List Cond := .code yX0_grantRound cX0_grantRound 7 (some .int) :: ([.fieldLink RX0 78 "Stairflow" "doorCount" "I", .fieldLink RX0 47 "Stairflow" "targetOf" "[I", .fieldLink RX0 50 "Stairflow" "grantedTo" "[I", .fieldLink RX0 34 "Stairflow" "shareOf" "[I", .methodLink RX0 145 Lib.Math.min.name, .static Lib.Math.min.name, .initialized "java/lang/Math", .code Lib.Math.min.name Lib.Math.min.code 2 (some .int), .methodLink RX0 142 yX0_wishBy, .instanceMethod yX0_wishBy, .selects RX0 yX0_wishBy yX0_wishBy, .initialized RX0, .code yX0_wishBy cX0_wishBy 3 (some .int), .fieldLink RX0 44 "Stairflow" "sourceOf" "[I", .fieldLink RX0 16 "Stairflow" "releaseOf" "[I", .fieldLink RX0 99 "Stairflow" "timeNow" "I", .fieldLink RX0 13 "Stairflow" "peopleAt" "[I", .fieldLink RX0 31 "Stairflow" "flowOf" "[I", .methodLink RX0 148 yX0_isPlace, .instanceMethod yX0_isPlace, .selects RX0 yX0_isPlace yX0_isPlace, .code yX0_isPlace cX0_isPlace 2 (some .boolean), .fieldLink RX0 53 "Stairflow" "placeCount" "I"] ++ wsX00)
def wsX0_grantAt_r1 : List Cond := [Cond.methodLink RX0 84 yX0_roomLeft, Cond.instanceMethod yX0_roomLeft, Cond.selects RX0 yX0_roomLeft yX0_roomLeft, Cond.initialized RX0, Cond.code yX0_roomLeft cX0_roomLeft 2 (some .int), Cond.constant RX0 153 (2147483647), Cond.fieldLink RX0 9 "Stairflow" "roomOf" "[I", Cond.fieldLink RX0 13 "Stairflow" "peopleAt" "[I", Cond.methodLink RX0 139 yX0_grantRound, Cond.instanceMethod yX0_grantRound, Cond.selects RX0 yX0_grantRound yX0_grantRound, Cond.code yX0_grantRound cX0_grantRound 7 (some .int), Cond.fieldLink RX0 78 "Stairflow" "doorCount" "I", Cond.fieldLink RX0 47 "Stairflow" "targetOf" "[I", Cond.fieldLink RX0 50 "Stairflow" "grantedTo" "[I", Cond.fieldLink RX0 34 "Stairflow" "shareOf" "[I", Cond.methodLink RX0 145 Lib.Math.min.name, Cond.static Lib.Math.min.name, Cond.initialized "java/lang/Math", Cond.code Lib.Math.min.name Lib.Math.min.code 2 (some .int), Cond.methodLink RX0 142 yX0_wishBy, Cond.instanceMethod yX0_wishBy, Cond.selects RX0 yX0_wishBy yX0_wishBy, Cond.code yX0_wishBy cX0_wishBy 3 (some .int)]
def wsX0_grantAt_r2 : List Cond := [Cond.fieldLink RX0 44 "Stairflow" "sourceOf" "[I", Cond.fieldLink RX0 16 "Stairflow" "releaseOf" "[I", Cond.fieldLink RX0 99 "Stairflow" "timeNow" "I", Cond.fieldLink RX0 31 "Stairflow" "flowOf" "[I", Cond.methodLink RX0 148 yX0_isPlace, Cond.instanceMethod yX0_isPlace, Cond.selects RX0 yX0_isPlace yX0_isPlace, Cond.code yX0_isPlace cX0_isPlace 2 (some .boolean), Cond.fieldLink RX0 53 "Stairflow" "placeCount" "I"]
def wsX0_grantAt : List Cond := .code yX0_grantAt cX0_grantAt 5 none :: ((wsX0_grantAt_r1 ++ wsX0_grantAt_r2) ++ wsX00)
def wsX0_grantAll_r1 : List Cond := [Cond.fieldLink RX0 78 "Stairflow" "doorCount" "I", Cond.fieldLink RX0 50 "Stairflow" "grantedTo" "[I", Cond.fieldLink RX0 53 "Stairflow" "placeCount" "I", Cond.methodLink RX0 136 yX0_grantAt, Cond.instanceMethod yX0_grantAt, Cond.selects RX0 yX0_grantAt yX0_grantAt, Cond.initialized RX0, Cond.code yX0_grantAt cX0_grantAt 5 none, Cond.methodLink RX0 84 yX0_roomLeft, Cond.instanceMethod yX0_roomLeft, Cond.selects RX0 yX0_roomLeft yX0_roomLeft, Cond.code yX0_roomLeft cX0_roomLeft 2 (some .int), Cond.constant RX0 153 (2147483647), Cond.fieldLink RX0 9 "Stairflow" "roomOf" "[I", Cond.fieldLink RX0 13 "Stairflow" "peopleAt" "[I", Cond.methodLink RX0 139 yX0_grantRound, Cond.instanceMethod yX0_grantRound, Cond.selects RX0 yX0_grantRound yX0_grantRound, Cond.code yX0_grantRound cX0_grantRound 7 (some .int), Cond.fieldLink RX0 47 "Stairflow" "targetOf" "[I", Cond.fieldLink RX0 34 "Stairflow" "shareOf" "[I", Cond.methodLink RX0 145 Lib.Math.min.name, Cond.static Lib.Math.min.name, Cond.initialized "java/lang/Math"]
def wsX0_grantAll_r2 : List Cond := [Cond.code Lib.Math.min.name Lib.Math.min.code 2 (some .int), Cond.methodLink RX0 142 yX0_wishBy, Cond.instanceMethod yX0_wishBy, Cond.selects RX0 yX0_wishBy yX0_wishBy, Cond.code yX0_wishBy cX0_wishBy 3 (some .int), Cond.fieldLink RX0 44 "Stairflow" "sourceOf" "[I", Cond.fieldLink RX0 16 "Stairflow" "releaseOf" "[I", Cond.fieldLink RX0 99 "Stairflow" "timeNow" "I", Cond.fieldLink RX0 31 "Stairflow" "flowOf" "[I", Cond.methodLink RX0 148 yX0_isPlace, Cond.instanceMethod yX0_isPlace, Cond.selects RX0 yX0_isPlace yX0_isPlace, Cond.code yX0_isPlace cX0_isPlace 2 (some .boolean)]
def wsX0_grantAll : List Cond := .code yX0_grantAll cX0_grantAll 2 none :: ((wsX0_grantAll_r1 ++ wsX0_grantAll_r2) ++ wsX00)
def wsX0_moveGranted : List Cond := .code yX0_moveGranted cX0_moveGranted 5 (some .int) :: ([.fieldLink RX0 78 "Stairflow" "doorCount" "I", .fieldLink RX0 44 "Stairflow" "sourceOf" "[I", .fieldLink RX0 47 "Stairflow" "targetOf" "[I", .fieldLink RX0 13 "Stairflow" "peopleAt" "[I", .fieldLink RX0 50 "Stairflow" "grantedTo" "[I", .fieldLink RX0 41 "Stairflow" "passedBy" "[I", .methodLink RX0 148 yX0_isPlace, .instanceMethod yX0_isPlace, .selects RX0 yX0_isPlace yX0_isPlace, .initialized RX0, .code yX0_isPlace cX0_isPlace 2 (some .boolean), .fieldLink RX0 53 "Stairflow" "placeCount" "I"] ++ wsX00)
def wsX0_inside : List Cond := .code yX0_inside cX0_inside 3 (some .int) :: ([.fieldLink RX0 53 "Stairflow" "placeCount" "I", .fieldLink RX0 13 "Stairflow" "peopleAt" "[I"] ++ wsX00)
def wsX0_passOneStep_r1 : List Cond := [Cond.fieldLink RX0 13 "Stairflow" "peopleAt" "[I", Cond.fieldLink RX0 99 "Stairflow" "timeNow" "I", Cond.fieldLink RX0 57 "Stairflow" "latestTime" "I", Cond.fieldLink RX0 105 "Stairflow" "waitedSum" "I", Cond.methodLink RX0 112 yX0_grantAll, Cond.instanceMethod yX0_grantAll, Cond.selects RX0 yX0_grantAll yX0_grantAll, Cond.initialized RX0, Cond.code yX0_grantAll cX0_grantAll 2 none, Cond.fieldLink RX0 78 "Stairflow" "doorCount" "I", Cond.fieldLink RX0 50 "Stairflow" "grantedTo" "[I", Cond.fieldLink RX0 53 "Stairflow" "placeCount" "I", Cond.methodLink RX0 136 yX0_grantAt, Cond.instanceMethod yX0_grantAt, Cond.selects RX0 yX0_grantAt yX0_grantAt, Cond.code yX0_grantAt cX0_grantAt 5 none, Cond.methodLink RX0 84 yX0_roomLeft, Cond.instanceMethod yX0_roomLeft, Cond.selects RX0 yX0_roomLeft yX0_roomLeft, Cond.code yX0_roomLeft cX0_roomLeft 2 (some .int), Cond.constant RX0 153 (2147483647), Cond.fieldLink RX0 9 "Stairflow" "roomOf" "[I", Cond.methodLink RX0 139 yX0_grantRound, Cond.instanceMethod yX0_grantRound]
def wsX0_passOneStep_r2 : List Cond := [Cond.selects RX0 yX0_grantRound yX0_grantRound, Cond.code yX0_grantRound cX0_grantRound 7 (some .int), Cond.fieldLink RX0 47 "Stairflow" "targetOf" "[I", Cond.fieldLink RX0 34 "Stairflow" "shareOf" "[I", Cond.methodLink RX0 145 Lib.Math.min.name, Cond.static Lib.Math.min.name, Cond.initialized "java/lang/Math", Cond.code Lib.Math.min.name Lib.Math.min.code 2 (some .int), Cond.methodLink RX0 142 yX0_wishBy, Cond.instanceMethod yX0_wishBy, Cond.selects RX0 yX0_wishBy yX0_wishBy, Cond.code yX0_wishBy cX0_wishBy 3 (some .int), Cond.fieldLink RX0 44 "Stairflow" "sourceOf" "[I", Cond.fieldLink RX0 16 "Stairflow" "releaseOf" "[I", Cond.fieldLink RX0 31 "Stairflow" "flowOf" "[I", Cond.methodLink RX0 148 yX0_isPlace, Cond.instanceMethod yX0_isPlace, Cond.selects RX0 yX0_isPlace yX0_isPlace, Cond.code yX0_isPlace cX0_isPlace 2 (some .boolean), Cond.methodLink RX0 133 yX0_moveGranted, Cond.instanceMethod yX0_moveGranted, Cond.selects RX0 yX0_moveGranted yX0_moveGranted, Cond.code yX0_moveGranted cX0_moveGranted 5 (some .int), Cond.fieldLink RX0 41 "Stairflow" "passedBy" "[I"]
def wsX0_passOneStep_r3 : List Cond := [Cond.methodLink RX0 92 yX0_inside, Cond.instanceMethod yX0_inside, Cond.selects RX0 yX0_inside yX0_inside, Cond.code yX0_inside cX0_inside 3 (some .int)]
def wsX0_passOneStep : List Cond := .code yX0_passOneStep cX0_passOneStep 3 (some .int) :: ((wsX0_passOneStep_r1 ++ (wsX0_passOneStep_r2 ++ wsX0_passOneStep_r3)) ++ wsX00)
def wsX0_step_r1 : List Cond := [Cond.fieldLink RX0 13 "Stairflow" "peopleAt" "[I", Cond.methodLink RX0 60 yX0_isBetween, Cond.static yX0_isBetween, Cond.initialized RX0, Cond.code yX0_isBetween cX0_isBetween 3 (some .boolean), Cond.methodLink RX0 64 yX0_requireArgument, Cond.static yX0_requireArgument, Cond.code yX0_requireArgument cX0_requireArgument 1 none, Cond.classLink RX0 173 "java/lang/IllegalArgumentException", Cond.initialized "java/lang/IllegalArgumentException", Cond.methodLink RX0 88 yX0_passOneStep, Cond.instanceMethod yX0_passOneStep, Cond.selects RX0 yX0_passOneStep yX0_passOneStep, Cond.code yX0_passOneStep cX0_passOneStep 3 (some .int), Cond.fieldLink RX0 99 "Stairflow" "timeNow" "I", Cond.fieldLink RX0 57 "Stairflow" "latestTime" "I", Cond.fieldLink RX0 105 "Stairflow" "waitedSum" "I", Cond.methodLink RX0 112 yX0_grantAll, Cond.instanceMethod yX0_grantAll, Cond.selects RX0 yX0_grantAll yX0_grantAll, Cond.code yX0_grantAll cX0_grantAll 2 none, Cond.fieldLink RX0 78 "Stairflow" "doorCount" "I", Cond.fieldLink RX0 50 "Stairflow" "grantedTo" "[I", Cond.fieldLink RX0 53 "Stairflow" "placeCount" "I"]
def wsX0_step_r2 : List Cond := [Cond.methodLink RX0 136 yX0_grantAt, Cond.instanceMethod yX0_grantAt, Cond.selects RX0 yX0_grantAt yX0_grantAt, Cond.code yX0_grantAt cX0_grantAt 5 none, Cond.methodLink RX0 84 yX0_roomLeft, Cond.instanceMethod yX0_roomLeft, Cond.selects RX0 yX0_roomLeft yX0_roomLeft, Cond.code yX0_roomLeft cX0_roomLeft 2 (some .int), Cond.constant RX0 153 (2147483647), Cond.fieldLink RX0 9 "Stairflow" "roomOf" "[I", Cond.methodLink RX0 139 yX0_grantRound, Cond.instanceMethod yX0_grantRound, Cond.selects RX0 yX0_grantRound yX0_grantRound, Cond.code yX0_grantRound cX0_grantRound 7 (some .int), Cond.fieldLink RX0 47 "Stairflow" "targetOf" "[I", Cond.fieldLink RX0 34 "Stairflow" "shareOf" "[I", Cond.methodLink RX0 145 Lib.Math.min.name, Cond.static Lib.Math.min.name, Cond.initialized "java/lang/Math", Cond.code Lib.Math.min.name Lib.Math.min.code 2 (some .int), Cond.methodLink RX0 142 yX0_wishBy, Cond.instanceMethod yX0_wishBy, Cond.selects RX0 yX0_wishBy yX0_wishBy, Cond.code yX0_wishBy cX0_wishBy 3 (some .int)]
def wsX0_step_r3 : List Cond := [Cond.fieldLink RX0 44 "Stairflow" "sourceOf" "[I", Cond.fieldLink RX0 16 "Stairflow" "releaseOf" "[I", Cond.fieldLink RX0 31 "Stairflow" "flowOf" "[I", Cond.methodLink RX0 148 yX0_isPlace, Cond.instanceMethod yX0_isPlace, Cond.selects RX0 yX0_isPlace yX0_isPlace, Cond.code yX0_isPlace cX0_isPlace 2 (some .boolean), Cond.methodLink RX0 133 yX0_moveGranted, Cond.instanceMethod yX0_moveGranted, Cond.selects RX0 yX0_moveGranted yX0_moveGranted, Cond.code yX0_moveGranted cX0_moveGranted 5 (some .int), Cond.fieldLink RX0 41 "Stairflow" "passedBy" "[I", Cond.methodLink RX0 92 yX0_inside, Cond.instanceMethod yX0_inside, Cond.selects RX0 yX0_inside yX0_inside, Cond.code yX0_inside cX0_inside 3 (some .int)]
def wsX0_step : List Cond := .code yX0_step cX0_step 4 (some .int) :: ((wsX0_step_r1 ++ (wsX0_step_r2 ++ wsX0_step_r3)) ++ wsX00 ++ (vx_atS RX0 177 "java/lang/IllegalArgumentException" ["java/lang/RuntimeException", "java/lang/Exception"]).filter goodWord)
def wsX0_areAllReleased : List Cond := .code yX0_areAllReleased cX0_areAllReleased 2 (some .boolean) :: ([.fieldLink RX0 53 "Stairflow" "placeCount" "I", .fieldLink RX0 16 "Stairflow" "releaseOf" "[I", .fieldLink RX0 99 "Stairflow" "timeNow" "I"] ++ wsX00)
def wsX0_clear_r1 : List Cond := [Cond.methodLink RX0 92 yX0_inside, Cond.instanceMethod yX0_inside, Cond.selects RX0 yX0_inside yX0_inside, Cond.initialized RX0, Cond.code yX0_inside cX0_inside 3 (some .int), Cond.fieldLink RX0 53 "Stairflow" "placeCount" "I", Cond.fieldLink RX0 13 "Stairflow" "peopleAt" "[I", Cond.methodLink RX0 95 yX0_areAllReleased, Cond.instanceMethod yX0_areAllReleased, Cond.selects RX0 yX0_areAllReleased yX0_areAllReleased, Cond.code yX0_areAllReleased cX0_areAllReleased 2 (some .boolean), Cond.fieldLink RX0 16 "Stairflow" "releaseOf" "[I", Cond.fieldLink RX0 99 "Stairflow" "timeNow" "I", Cond.methodLink RX0 88 yX0_passOneStep, Cond.instanceMethod yX0_passOneStep, Cond.selects RX0 yX0_passOneStep yX0_passOneStep, Cond.code yX0_passOneStep cX0_passOneStep 3 (some .int), Cond.fieldLink RX0 57 "Stairflow" "latestTime" "I", Cond.fieldLink RX0 105 "Stairflow" "waitedSum" "I", Cond.methodLink RX0 112 yX0_grantAll, Cond.instanceMethod yX0_grantAll, Cond.selects RX0 yX0_grantAll yX0_grantAll, Cond.code yX0_grantAll cX0_grantAll 2 none, Cond.fieldLink RX0 78 "Stairflow" "doorCount" "I"]
def wsX0_clear_r2 : List Cond := [Cond.fieldLink RX0 50 "Stairflow" "grantedTo" "[I", Cond.methodLink RX0 136 yX0_grantAt, Cond.instanceMethod yX0_grantAt, Cond.selects RX0 yX0_grantAt yX0_grantAt, Cond.code yX0_grantAt cX0_grantAt 5 none, Cond.methodLink RX0 84 yX0_roomLeft, Cond.instanceMethod yX0_roomLeft, Cond.selects RX0 yX0_roomLeft yX0_roomLeft, Cond.code yX0_roomLeft cX0_roomLeft 2 (some .int), Cond.constant RX0 153 (2147483647), Cond.fieldLink RX0 9 "Stairflow" "roomOf" "[I", Cond.methodLink RX0 139 yX0_grantRound, Cond.instanceMethod yX0_grantRound, Cond.selects RX0 yX0_grantRound yX0_grantRound, Cond.code yX0_grantRound cX0_grantRound 7 (some .int), Cond.fieldLink RX0 47 "Stairflow" "targetOf" "[I", Cond.fieldLink RX0 34 "Stairflow" "shareOf" "[I", Cond.methodLink RX0 145 Lib.Math.min.name, Cond.static Lib.Math.min.name, Cond.initialized "java/lang/Math", Cond.code Lib.Math.min.name Lib.Math.min.code 2 (some .int), Cond.methodLink RX0 142 yX0_wishBy, Cond.instanceMethod yX0_wishBy, Cond.selects RX0 yX0_wishBy yX0_wishBy]
def wsX0_clear_r3 : List Cond := [Cond.code yX0_wishBy cX0_wishBy 3 (some .int), Cond.fieldLink RX0 44 "Stairflow" "sourceOf" "[I", Cond.fieldLink RX0 31 "Stairflow" "flowOf" "[I", Cond.methodLink RX0 148 yX0_isPlace, Cond.instanceMethod yX0_isPlace, Cond.selects RX0 yX0_isPlace yX0_isPlace, Cond.code yX0_isPlace cX0_isPlace 2 (some .boolean), Cond.methodLink RX0 133 yX0_moveGranted, Cond.instanceMethod yX0_moveGranted, Cond.selects RX0 yX0_moveGranted yX0_moveGranted, Cond.code yX0_moveGranted cX0_moveGranted 5 (some .int), Cond.fieldLink RX0 41 "Stairflow" "passedBy" "[I"]
def wsX0_clear : List Cond := .code yX0_clear cX0_clear 5 (some .int) :: ((wsX0_clear_r1 ++ (wsX0_clear_r2 ++ wsX0_clear_r3)) ++ wsX00)
def wsX0_now : List Cond := .code yX0_now cX0_now 1 (some .int) :: ([.fieldLink RX0 99 "Stairflow" "timeNow" "I"] ++ wsX00)
def wsX0_people : List Cond := .code yX0_people cX0_people 2 (some .int) :: ([.fieldLink RX0 13 "Stairflow" "peopleAt" "[I", .methodLink RX0 74 yX0_requirePlace, .instanceMethod yX0_requirePlace, .selects RX0 yX0_requirePlace yX0_requirePlace, .initialized RX0, .code yX0_requirePlace cX0_requirePlace 2 none, .classLink RX0 164 "java/lang/IndexOutOfBoundsException", .initialized "java/lang/IndexOutOfBoundsException", .methodLink RX0 148 yX0_isPlace, .instanceMethod yX0_isPlace, .selects RX0 yX0_isPlace yX0_isPlace, .code yX0_isPlace cX0_isPlace 2 (some .boolean), .fieldLink RX0 53 "Stairflow" "placeCount" "I"] ++ wsX00 ++ (vx_atS RX0 168 "java/lang/IndexOutOfBoundsException" ["java/lang/RuntimeException", "java/lang/Exception"]).filter goodWord)
def wsX0_requireElement : List Cond := .code yX0_requireElement cX0_requireElement 1 none :: ([.classLink RX0 183 "java/util/NoSuchElementException", .initialized "java/util/NoSuchElementException"] ++ (gNSat).filter goodWord)
def wsX0_latest : List Cond := .code yX0_latest cX0_latest 1 (some .int) :: ([.fieldLink RX0 57 "Stairflow" "latestTime" "I", .methodLink RX0 102 yX0_requireElement, .static yX0_requireElement, .initialized RX0, .code yX0_requireElement cX0_requireElement 1 none, .classLink RX0 183 "java/util/NoSuchElementException", .initialized "java/util/NoSuchElementException"] ++ wsX00 ++ (gNSat).filter goodWord)
def wsX0_passed : List Cond := .code yX0_passed cX0_passed 2 (some .int) :: ([.fieldLink RX0 41 "Stairflow" "passedBy" "[I", .methodLink RX0 81 yX0_requireDoor, .instanceMethod yX0_requireDoor, .selects RX0 yX0_requireDoor yX0_requireDoor, .initialized RX0, .code yX0_requireDoor cX0_requireDoor 2 none, .classLink RX0 164 "java/lang/IndexOutOfBoundsException", .initialized "java/lang/IndexOutOfBoundsException", .methodLink RX0 108 yX0_isDoor, .instanceMethod yX0_isDoor, .selects RX0 yX0_isDoor yX0_isDoor, .code yX0_isDoor cX0_isDoor 2 (some .boolean), .fieldLink RX0 78 "Stairflow" "doorCount" "I"] ++ wsX00 ++ (vx_atS RX0 168 "java/lang/IndexOutOfBoundsException" ["java/lang/RuntimeException", "java/lang/Exception"]).filter goodWord)
def wsX0_waited : List Cond := .code yX0_waited cX0_waited 1 (some .int) :: ([.fieldLink RX0 105 "Stairflow" "waitedSum" "I"] ++ wsX00)
def wsX0_distance : List Cond := .code yX0_distance cX0_distance 2 (some .int) :: ([.fieldLink RX0 19 "Stairflow" "distanceOf" "[I", .methodLink RX0 74 yX0_requirePlace, .instanceMethod yX0_requirePlace, .selects RX0 yX0_requirePlace yX0_requirePlace, .initialized RX0, .code yX0_requirePlace cX0_requirePlace 2 none, .classLink RX0 164 "java/lang/IndexOutOfBoundsException", .initialized "java/lang/IndexOutOfBoundsException", .methodLink RX0 148 yX0_isPlace, .instanceMethod yX0_isPlace, .selects RX0 yX0_isPlace yX0_isPlace, .code yX0_isPlace cX0_isPlace 2 (some .boolean), .fieldLink RX0 53 "Stairflow" "placeCount" "I", .methodLink RX0 102 yX0_requireElement, .static yX0_requireElement, .code yX0_requireElement cX0_requireElement 1 none, .classLink RX0 183 "java/util/NoSuchElementException", .initialized "java/util/NoSuchElementException"] ++ wsX00 ++ (vx_atS RX0 168 "java/lang/IndexOutOfBoundsException" ["java/lang/RuntimeException", "java/lang/Exception"]).filter goodWord ++ (gNSat).filter goodWord)
def wsX0_door : List Cond := .code yX0_door cX0_door 2 (some .int) :: ([.fieldLink RX0 22 "Stairflow" "doorOf" "[I", .methodLink RX0 74 yX0_requirePlace, .instanceMethod yX0_requirePlace, .selects RX0 yX0_requirePlace yX0_requirePlace, .initialized RX0, .code yX0_requirePlace cX0_requirePlace 2 none, .classLink RX0 164 "java/lang/IndexOutOfBoundsException", .initialized "java/lang/IndexOutOfBoundsException", .methodLink RX0 148 yX0_isPlace, .instanceMethod yX0_isPlace, .selects RX0 yX0_isPlace yX0_isPlace, .code yX0_isPlace cX0_isPlace 2 (some .boolean), .fieldLink RX0 53 "Stairflow" "placeCount" "I", .methodLink RX0 102 yX0_requireElement, .static yX0_requireElement, .code yX0_requireElement cX0_requireElement 1 none, .classLink RX0 183 "java/util/NoSuchElementException", .initialized "java/util/NoSuchElementException"] ++ wsX00 ++ (vx_atS RX0 168 "java/lang/IndexOutOfBoundsException" ["java/lang/RuntimeException", "java/lang/Exception"]).filter goodWord ++ (gNSat).filter goodWord)
def wsX0_trapped : List Cond := .code yX0_trapped cX0_trapped 3 (some .int) :: ([.fieldLink RX0 53 "Stairflow" "placeCount" "I", .fieldLink RX0 19 "Stairflow" "distanceOf" "[I", .fieldLink RX0 13 "Stairflow" "peopleAt" "[I"] ++ wsX00)
def wsX0_wouldMove_r1 : List Cond := [Cond.fieldLink RX0 22 "Stairflow" "doorOf" "[I", Cond.fieldLink RX0 50 "Stairflow" "grantedTo" "[I", Cond.methodLink RX0 74 yX0_requirePlace, Cond.instanceMethod yX0_requirePlace, Cond.selects RX0 yX0_requirePlace yX0_requirePlace, Cond.initialized RX0, Cond.code yX0_requirePlace cX0_requirePlace 2 none, Cond.classLink RX0 164 "java/lang/IndexOutOfBoundsException", Cond.initialized "java/lang/IndexOutOfBoundsException", Cond.methodLink RX0 148 yX0_isPlace, Cond.instanceMethod yX0_isPlace, Cond.selects RX0 yX0_isPlace yX0_isPlace, Cond.code yX0_isPlace cX0_isPlace 2 (some .boolean), Cond.fieldLink RX0 53 "Stairflow" "placeCount" "I", Cond.methodLink RX0 108 yX0_isDoor, Cond.instanceMethod yX0_isDoor, Cond.selects RX0 yX0_isDoor yX0_isDoor, Cond.code yX0_isDoor cX0_isDoor 2 (some .boolean), Cond.fieldLink RX0 78 "Stairflow" "doorCount" "I", Cond.methodLink RX0 112 yX0_grantAll, Cond.instanceMethod yX0_grantAll, Cond.selects RX0 yX0_grantAll yX0_grantAll, Cond.code yX0_grantAll cX0_grantAll 2 none, Cond.methodLink RX0 136 yX0_grantAt]
def wsX0_wouldMove_r2 : List Cond := [Cond.instanceMethod yX0_grantAt, Cond.selects RX0 yX0_grantAt yX0_grantAt, Cond.code yX0_grantAt cX0_grantAt 5 none, Cond.methodLink RX0 84 yX0_roomLeft, Cond.instanceMethod yX0_roomLeft, Cond.selects RX0 yX0_roomLeft yX0_roomLeft, Cond.code yX0_roomLeft cX0_roomLeft 2 (some .int), Cond.constant RX0 153 (2147483647), Cond.fieldLink RX0 9 "Stairflow" "roomOf" "[I", Cond.fieldLink RX0 13 "Stairflow" "peopleAt" "[I", Cond.methodLink RX0 139 yX0_grantRound, Cond.instanceMethod yX0_grantRound, Cond.selects RX0 yX0_grantRound yX0_grantRound, Cond.code yX0_grantRound cX0_grantRound 7 (some .int), Cond.fieldLink RX0 47 "Stairflow" "targetOf" "[I", Cond.fieldLink RX0 34 "Stairflow" "shareOf" "[I", Cond.methodLink RX0 145 Lib.Math.min.name, Cond.static Lib.Math.min.name, Cond.initialized "java/lang/Math", Cond.code Lib.Math.min.name Lib.Math.min.code 2 (some .int), Cond.methodLink RX0 142 yX0_wishBy, Cond.instanceMethod yX0_wishBy, Cond.selects RX0 yX0_wishBy yX0_wishBy, Cond.code yX0_wishBy cX0_wishBy 3 (some .int)]
def wsX0_wouldMove_r3 : List Cond := [Cond.fieldLink RX0 44 "Stairflow" "sourceOf" "[I", Cond.fieldLink RX0 16 "Stairflow" "releaseOf" "[I", Cond.fieldLink RX0 99 "Stairflow" "timeNow" "I", Cond.fieldLink RX0 31 "Stairflow" "flowOf" "[I"]
def wsX0_wouldMove : List Cond := .code yX0_wouldMove cX0_wouldMove 3 (some .int) :: ((wsX0_wouldMove_r1 ++ (wsX0_wouldMove_r2 ++ wsX0_wouldMove_r3)) ++ wsX00 ++ (vx_atS RX0 168 "java/lang/IndexOutOfBoundsException" ["java/lang/RuntimeException", "java/lang/Exception"]).filter goodWord)
def wsX0_peopleFrom : List Cond := .code yX0_peopleFrom cX0_peopleFrom 4 (some .int) :: ([.fieldLink RX0 53 "Stairflow" "placeCount" "I", .fieldLink RX0 19 "Stairflow" "distanceOf" "[I", .fieldLink RX0 13 "Stairflow" "peopleAt" "[I"] ++ wsX00)
def wsX0_flowInward : List Cond := .code yX0_flowInward cX0_flowInward 7 (some .int) :: ([.fieldLink RX0 78 "Stairflow" "doorCount" "I", .fieldLink RX0 19 "Stairflow" "distanceOf" "[I", .fieldLink RX0 25 "Stairflow" "oneEnd" "[I", .fieldLink RX0 28 "Stairflow" "otherEnd" "[I", .fieldLink RX0 37 "Stairflow" "isOpen" "[Z", .fieldLink RX0 31 "Stairflow" "flowOf" "[I"] ++ wsX00)
def wsX0_boundAt : List Cond := .code yX0_boundAt cX0_boundAt 4 (some .int) :: ([.methodLink RX0 127 yX0_peopleFrom, .instanceMethod yX0_peopleFrom, .selects RX0 yX0_peopleFrom yX0_peopleFrom, .initialized RX0, .code yX0_peopleFrom cX0_peopleFrom 4 (some .int), .fieldLink RX0 53 "Stairflow" "placeCount" "I", .fieldLink RX0 19 "Stairflow" "distanceOf" "[I", .fieldLink RX0 13 "Stairflow" "peopleAt" "[I", .methodLink RX0 130 yX0_flowInward, .instanceMethod yX0_flowInward, .selects RX0 yX0_flowInward yX0_flowInward, .code yX0_flowInward cX0_flowInward 7 (some .int), .fieldLink RX0 78 "Stairflow" "doorCount" "I", .fieldLink RX0 25 "Stairflow" "oneEnd" "[I", .fieldLink RX0 28 "Stairflow" "otherEnd" "[I", .fieldLink RX0 37 "Stairflow" "isOpen" "[Z", .fieldLink RX0 31 "Stairflow" "flowOf" "[I"] ++ wsX00)
def wsX0_bound_r1 : List Cond := [Cond.fieldLink RX0 53 "Stairflow" "placeCount" "I", Cond.methodLink RX0 121 Lib.Math.max.name, Cond.static Lib.Math.max.name, Cond.initialized "java/lang/Math", Cond.code Lib.Math.max.name Lib.Math.max.code 2 (some .int), Cond.methodLink RX0 115 yX0_trapped, Cond.instanceMethod yX0_trapped, Cond.selects RX0 yX0_trapped yX0_trapped, Cond.initialized RX0, Cond.code yX0_trapped cX0_trapped 3 (some .int), Cond.fieldLink RX0 19 "Stairflow" "distanceOf" "[I", Cond.fieldLink RX0 13 "Stairflow" "peopleAt" "[I", Cond.methodLink RX0 68 yX0_requireState, Cond.static yX0_requireState, Cond.code yX0_requireState cX0_requireState 1 none, Cond.classLink RX0 178 "java/lang/IllegalStateException", Cond.initialized "java/lang/IllegalStateException", Cond.methodLink RX0 118 yX0_boundAt, Cond.instanceMethod yX0_boundAt, Cond.selects RX0 yX0_boundAt yX0_boundAt, Cond.code yX0_boundAt cX0_boundAt 4 (some .int), Cond.methodLink RX0 127 yX0_peopleFrom, Cond.instanceMethod yX0_peopleFrom, Cond.selects RX0 yX0_peopleFrom yX0_peopleFrom]
def wsX0_bound_r2 : List Cond := [Cond.code yX0_peopleFrom cX0_peopleFrom 4 (some .int), Cond.methodLink RX0 130 yX0_flowInward, Cond.instanceMethod yX0_flowInward, Cond.selects RX0 yX0_flowInward yX0_flowInward, Cond.code yX0_flowInward cX0_flowInward 7 (some .int), Cond.fieldLink RX0 78 "Stairflow" "doorCount" "I", Cond.fieldLink RX0 25 "Stairflow" "oneEnd" "[I", Cond.fieldLink RX0 28 "Stairflow" "otherEnd" "[I", Cond.fieldLink RX0 37 "Stairflow" "isOpen" "[Z", Cond.fieldLink RX0 31 "Stairflow" "flowOf" "[I"]
def wsX0_bound : List Cond := .code yX0_bound cX0_bound 3 (some .int) :: ((wsX0_bound_r1 ++ wsX0_bound_r2) ++ wsX00 ++ (vx_atS RX0 182 "java/lang/IllegalStateException" ["java/lang/RuntimeException", "java/lang/Exception"]).filter goodWord)
def wsX1_init : List Cond := .code yX1_init cX1_init 1 none :: ([.methodLink RX1 1 objectInit, .instanceMethod objectInit, .code objectInit ⟨#[0xb1]⟩ 1 none, .fieldLink RX1 7 "StairflowModel" "places" "I", .arrayClass .int, .fieldLink RX1 13 "StairflowModel" "rooms" "[I", .fieldLink RX1 17 "StairflowModel" "people" "[I", .fieldLink RX1 20 "StairflowModel" "releases" "[I", .fieldLink RX1 23 "StairflowModel" "ones" "[I", .fieldLink RX1 26 "StairflowModel" "others" "[I", .fieldLink RX1 29 "StairflowModel" "flows" "[I", .fieldLink RX1 32 "StairflowModel" "shares" "[I", .arrayClass .boolean, .fieldLink RX1 35 "StairflowModel" "isOpen" "[Z", .fieldLink RX1 39 "StairflowModel" "passed" "[I", .fieldLink RX1 42 "StairflowModel" "lastOut" "I", .fieldLink RX1 45 "StairflowModel" "far" "[I", .fieldLink RX1 48 "StairflowModel" "wishes" "[I", .fieldLink RX1 51 "StairflowModel" "grants" "[I", .fieldLink RX1 54 "StairflowModel" "goals" "[I"] ++ wsX10)
def wsX1_thrown : List Cond := .code yX1_thrown cX1_thrown 1 (some .int) :: ([.fieldLink RX1 57 "StairflowModel" "thrown" "I"] ++ wsX10)
def wsX1_goesWell : List Cond := .code yX1_goesWell cX1_goesWell 2 (some .boolean) :: ([.fieldLink RX1 57 "StairflowModel" "thrown" "I"] ++ wsX10)
def wsX1_in : List Cond := .code yX1_in cX1_in 3 (some .boolean) :: ([])
def wsX1_isPlace : List Cond := .code yX1_isPlace cX1_isPlace 2 (some .boolean) :: ([.fieldLink RX1 7 "StairflowModel" "places" "I", .methodLink RX1 60 yX1_in, .static yX1_in, .initialized RX1, .code yX1_in cX1_in 3 (some .boolean)] ++ wsX10)
def wsX1_isDoor : List Cond := .code yX1_isDoor cX1_isDoor 2 (some .boolean) :: ([.fieldLink RX1 64 "StairflowModel" "doors" "I", .methodLink RX1 60 yX1_in, .static yX1_in, .initialized RX1, .code yX1_in cX1_in 3 (some .boolean)] ++ wsX10)
def wsX1_addPlace : List Cond := .code yX1_addPlace cX1_addPlace 2 (some .int) :: ([.fieldLink RX1 7 "StairflowModel" "places" "I", .fieldLink RX1 13 "StairflowModel" "rooms" "[I", .methodLink RX1 60 yX1_in, .static yX1_in, .initialized RX1, .code yX1_in cX1_in 3 (some .boolean), .methodLink RX1 67 yX1_goesWell, .instanceMethod yX1_goesWell, .selects RX1 yX1_goesWell yX1_goesWell, .code yX1_goesWell cX1_goesWell 2 (some .boolean), .fieldLink RX1 57 "StairflowModel" "thrown" "I"] ++ wsX10)
def wsX1_addDoor : List Cond := .code yX1_addDoor cX1_addDoor 6 (some .int) :: ([.fieldLink RX1 64 "StairflowModel" "doors" "I", .fieldLink RX1 23 "StairflowModel" "ones" "[I", .fieldLink RX1 26 "StairflowModel" "others" "[I", .fieldLink RX1 29 "StairflowModel" "flows" "[I", .fieldLink RX1 32 "StairflowModel" "shares" "[I", .fieldLink RX1 35 "StairflowModel" "isOpen" "[Z", .methodLink RX1 60 yX1_in, .static yX1_in, .initialized RX1, .code yX1_in cX1_in 3 (some .boolean), .methodLink RX1 71 yX1_isPlace, .instanceMethod yX1_isPlace, .selects RX1 yX1_isPlace yX1_isPlace, .code yX1_isPlace cX1_isPlace 2 (some .boolean), .fieldLink RX1 7 "StairflowModel" "places" "I", .methodLink RX1 67 yX1_goesWell, .instanceMethod yX1_goesWell, .selects RX1 yX1_goesWell yX1_goesWell, .code yX1_goesWell cX1_goesWell 2 (some .boolean), .fieldLink RX1 57 "StairflowModel" "thrown" "I"] ++ wsX10)
def wsX1_setDoor : List Cond := .code yX1_setDoor cX1_setDoor 4 (some .boolean) :: ([.fieldLink RX1 35 "StairflowModel" "isOpen" "[Z", .methodLink RX1 74 yX1_isDoor, .instanceMethod yX1_isDoor, .selects RX1 yX1_isDoor yX1_isDoor, .initialized RX1, .code yX1_isDoor cX1_isDoor 2 (some .boolean), .fieldLink RX1 64 "StairflowModel" "doors" "I", .methodLink RX1 60 yX1_in, .static yX1_in, .code yX1_in cX1_in 3 (some .boolean), .methodLink RX1 67 yX1_goesWell, .instanceMethod yX1_goesWell, .selects RX1 yX1_goesWell yX1_goesWell, .code yX1_goesWell cX1_goesWell 2 (some .boolean), .fieldLink RX1 57 "StairflowModel" "thrown" "I"] ++ wsX10)
def wsX1_come : List Cond := .code yX1_come cX1_come 5 (some .int) :: ([.fieldLink RX1 17 "StairflowModel" "people" "[I", .fieldLink RX1 13 "StairflowModel" "rooms" "[I", .methodLink RX1 60 yX1_in, .static yX1_in, .initialized RX1, .code yX1_in cX1_in 3 (some .boolean), .methodLink RX1 71 yX1_isPlace, .instanceMethod yX1_isPlace, .selects RX1 yX1_isPlace yX1_isPlace, .code yX1_isPlace cX1_isPlace 2 (some .boolean), .fieldLink RX1 7 "StairflowModel" "places" "I", .methodLink RX1 67 yX1_goesWell, .instanceMethod yX1_goesWell, .selects RX1 yX1_goesWell yX1_goesWell, .code yX1_goesWell cX1_goesWell 2 (some .boolean), .fieldLink RX1 57 "StairflowModel" "thrown" "I"] ++ wsX10)
def wsX1_setRelease : List Cond := .code yX1_setRelease cX1_setRelease 4 (some .int) :: ([.fieldLink RX1 20 "StairflowModel" "releases" "[I", .methodLink RX1 71 yX1_isPlace, .instanceMethod yX1_isPlace, .selects RX1 yX1_isPlace yX1_isPlace, .initialized RX1, .code yX1_isPlace cX1_isPlace 2 (some .boolean), .fieldLink RX1 7 "StairflowModel" "places" "I", .methodLink RX1 60 yX1_in, .static yX1_in, .code yX1_in cX1_in 3 (some .boolean), .methodLink RX1 67 yX1_goesWell, .instanceMethod yX1_goesWell, .selects RX1 yX1_goesWell yX1_goesWell, .code yX1_goesWell cX1_goesWell 2 (some .boolean), .fieldLink RX1 57 "StairflowModel" "thrown" "I"] ++ wsX10)
def wsX1_places : List Cond := .code yX1_places cX1_places 1 (some .int) :: ([.fieldLink RX1 57 "StairflowModel" "thrown" "I", .fieldLink RX1 7 "StairflowModel" "places" "I"] ++ wsX10)
def wsX1_doors : List Cond := .code yX1_doors cX1_doors 1 (some .int) :: ([.fieldLink RX1 57 "StairflowModel" "thrown" "I", .fieldLink RX1 64 "StairflowModel" "doors" "I"] ++ wsX10)
def wsX1_reach : List Cond := .code yX1_reach cX1_reach 5 none :: ([.fieldLink RX1 35 "StairflowModel" "isOpen" "[Z", .fieldLink RX1 45 "StairflowModel" "far" "[I"] ++ wsX10)
def wsX1_measure : List Cond := .code yX1_measure cX1_measure 3 none :: ([.fieldLink RX1 7 "StairflowModel" "places" "I", .fieldLink RX1 45 "StairflowModel" "far" "[I", .fieldLink RX1 64 "StairflowModel" "doors" "I", .fieldLink RX1 23 "StairflowModel" "ones" "[I", .fieldLink RX1 26 "StairflowModel" "others" "[I", .methodLink RX1 77 yX1_reach, .instanceMethod yX1_reach, .selects RX1 yX1_reach yX1_reach, .initialized RX1, .code yX1_reach cX1_reach 5 none, .fieldLink RX1 35 "StairflowModel" "isOpen" "[Z"] ++ wsX10)
def wsX1_beyond : List Cond := .code yX1_beyond cX1_beyond 3 (some .int) :: ([.fieldLink RX1 23 "StairflowModel" "ones" "[I", .fieldLink RX1 26 "StairflowModel" "others" "[I"] ++ wsX10)
def wsX1_doorOf : List Cond := .code yX1_doorOf cX1_doorOf 4 (some .int) :: ([.fieldLink RX1 64 "StairflowModel" "doors" "I", .fieldLink RX1 45 "StairflowModel" "far" "[I", .fieldLink RX1 35 "StairflowModel" "isOpen" "[Z", .methodLink RX1 81 yX1_beyond, .instanceMethod yX1_beyond, .selects RX1 yX1_beyond yX1_beyond, .initialized RX1, .code yX1_beyond cX1_beyond 3 (some .int), .fieldLink RX1 23 "StairflowModel" "ones" "[I", .fieldLink RX1 26 "StairflowModel" "others" "[I"] ++ wsX10)
def wsX1_wish_r1 : List Cond := [Cond.fieldLink RX1 64 "StairflowModel" "doors" "I", Cond.fieldLink RX1 48 "StairflowModel" "wishes" "[I", Cond.fieldLink RX1 51 "StairflowModel" "grants" "[I", Cond.fieldLink RX1 54 "StairflowModel" "goals" "[I", Cond.fieldLink RX1 7 "StairflowModel" "places" "I", Cond.fieldLink RX1 20 "StairflowModel" "releases" "[I", Cond.fieldLink RX1 92 "StairflowModel" "time" "I", Cond.fieldLink RX1 17 "StairflowModel" "people" "[I", Cond.fieldLink RX1 29 "StairflowModel" "flows" "[I", Cond.methodLink RX1 85 yX1_measure, Cond.instanceMethod yX1_measure, Cond.selects RX1 yX1_measure yX1_measure, Cond.initialized RX1, Cond.code yX1_measure cX1_measure 3 none, Cond.fieldLink RX1 45 "StairflowModel" "far" "[I", Cond.fieldLink RX1 23 "StairflowModel" "ones" "[I", Cond.fieldLink RX1 26 "StairflowModel" "others" "[I", Cond.methodLink RX1 77 yX1_reach, Cond.instanceMethod yX1_reach, Cond.selects RX1 yX1_reach yX1_reach, Cond.code yX1_reach cX1_reach 5 none, Cond.fieldLink RX1 35 "StairflowModel" "isOpen" "[Z", Cond.methodLink RX1 88 yX1_doorOf, Cond.instanceMethod yX1_doorOf]
def wsX1_wish_r2 : List Cond := [Cond.selects RX1 yX1_doorOf yX1_doorOf, Cond.code yX1_doorOf cX1_doorOf 4 (some .int), Cond.methodLink RX1 81 yX1_beyond, Cond.instanceMethod yX1_beyond, Cond.selects RX1 yX1_beyond yX1_beyond, Cond.code yX1_beyond cX1_beyond 3 (some .int)]
def wsX1_wish : List Cond := .code yX1_wish cX1_wish 3 none :: ((wsX1_wish_r1 ++ wsX1_wish_r2) ++ wsX10)
def wsX1_grant : List Cond := .code yX1_grant cX1_grant 7 none :: ([.fieldLink RX1 13 "StairflowModel" "rooms" "[I", .fieldLink RX1 17 "StairflowModel" "people" "[I", .fieldLink RX1 64 "StairflowModel" "doors" "I", .fieldLink RX1 54 "StairflowModel" "goals" "[I", .fieldLink RX1 48 "StairflowModel" "wishes" "[I", .fieldLink RX1 51 "StairflowModel" "grants" "[I", .fieldLink RX1 32 "StairflowModel" "shares" "[I"] ++ wsX10)
def wsX1_decide_r1 : List Cond := [Cond.fieldLink RX1 7 "StairflowModel" "places" "I", Cond.methodLink RX1 95 yX1_wish, Cond.instanceMethod yX1_wish, Cond.selects RX1 yX1_wish yX1_wish, Cond.initialized RX1, Cond.code yX1_wish cX1_wish 3 none, Cond.fieldLink RX1 64 "StairflowModel" "doors" "I", Cond.fieldLink RX1 48 "StairflowModel" "wishes" "[I", Cond.fieldLink RX1 51 "StairflowModel" "grants" "[I", Cond.fieldLink RX1 54 "StairflowModel" "goals" "[I", Cond.fieldLink RX1 20 "StairflowModel" "releases" "[I", Cond.fieldLink RX1 92 "StairflowModel" "time" "I", Cond.fieldLink RX1 17 "StairflowModel" "people" "[I", Cond.fieldLink RX1 29 "StairflowModel" "flows" "[I", Cond.methodLink RX1 85 yX1_measure, Cond.instanceMethod yX1_measure, Cond.selects RX1 yX1_measure yX1_measure, Cond.code yX1_measure cX1_measure 3 none, Cond.fieldLink RX1 45 "StairflowModel" "far" "[I", Cond.fieldLink RX1 23 "StairflowModel" "ones" "[I", Cond.fieldLink RX1 26 "StairflowModel" "others" "[I", Cond.methodLink RX1 77 yX1_reach, Cond.instanceMethod yX1_reach, Cond.selects RX1 yX1_reach yX1_reach]
def wsX1_decide_r2 : List Cond := [Cond.code yX1_reach cX1_reach 5 none, Cond.fieldLink RX1 35 "StairflowModel" "isOpen" "[Z", Cond.methodLink RX1 88 yX1_doorOf, Cond.instanceMethod yX1_doorOf, Cond.selects RX1 yX1_doorOf yX1_doorOf, Cond.code yX1_doorOf cX1_doorOf 4 (some .int), Cond.methodLink RX1 81 yX1_beyond, Cond.instanceMethod yX1_beyond, Cond.selects RX1 yX1_beyond yX1_beyond, Cond.code yX1_beyond cX1_beyond 3 (some .int), Cond.methodLink RX1 98 yX1_grant, Cond.instanceMethod yX1_grant, Cond.selects RX1 yX1_grant yX1_grant, Cond.code yX1_grant cX1_grant 7 none, Cond.fieldLink RX1 13 "StairflowModel" "rooms" "[I", Cond.fieldLink RX1 32 "StairflowModel" "shares" "[I"]
def wsX1_decide : List Cond := .code yX1_decide cX1_decide 2 none :: ((wsX1_decide_r1 ++ wsX1_decide_r2) ++ wsX10)
def wsX1_insideNow : List Cond := .code yX1_insideNow cX1_insideNow 3 (some .int) :: ([.fieldLink RX1 7 "StairflowModel" "places" "I", .fieldLink RX1 17 "StairflowModel" "people" "[I"] ++ wsX10)
def wsX1_go_r1 : List Cond := [Cond.fieldLink RX1 64 "StairflowModel" "doors" "I", Cond.fieldLink RX1 51 "StairflowModel" "grants" "[I", Cond.fieldLink RX1 17 "StairflowModel" "people" "[I", Cond.fieldLink RX1 54 "StairflowModel" "goals" "[I", Cond.fieldLink RX1 39 "StairflowModel" "passed" "[I", Cond.fieldLink RX1 92 "StairflowModel" "time" "I", Cond.fieldLink RX1 42 "StairflowModel" "lastOut" "I", Cond.fieldLink RX1 105 "StairflowModel" "waited" "I", Cond.methodLink RX1 102 yX1_decide, Cond.instanceMethod yX1_decide, Cond.selects RX1 yX1_decide yX1_decide, Cond.initialized RX1, Cond.code yX1_decide cX1_decide 2 none, Cond.fieldLink RX1 7 "StairflowModel" "places" "I", Cond.methodLink RX1 95 yX1_wish, Cond.instanceMethod yX1_wish, Cond.selects RX1 yX1_wish yX1_wish, Cond.code yX1_wish cX1_wish 3 none, Cond.fieldLink RX1 48 "StairflowModel" "wishes" "[I", Cond.fieldLink RX1 20 "StairflowModel" "releases" "[I", Cond.fieldLink RX1 29 "StairflowModel" "flows" "[I", Cond.methodLink RX1 85 yX1_measure, Cond.instanceMethod yX1_measure, Cond.selects RX1 yX1_measure yX1_measure]
def wsX1_go_r2 : List Cond := [Cond.code yX1_measure cX1_measure 3 none, Cond.fieldLink RX1 45 "StairflowModel" "far" "[I", Cond.fieldLink RX1 23 "StairflowModel" "ones" "[I", Cond.fieldLink RX1 26 "StairflowModel" "others" "[I", Cond.methodLink RX1 77 yX1_reach, Cond.instanceMethod yX1_reach, Cond.selects RX1 yX1_reach yX1_reach, Cond.code yX1_reach cX1_reach 5 none, Cond.fieldLink RX1 35 "StairflowModel" "isOpen" "[Z", Cond.methodLink RX1 88 yX1_doorOf, Cond.instanceMethod yX1_doorOf, Cond.selects RX1 yX1_doorOf yX1_doorOf, Cond.code yX1_doorOf cX1_doorOf 4 (some .int), Cond.methodLink RX1 81 yX1_beyond, Cond.instanceMethod yX1_beyond, Cond.selects RX1 yX1_beyond yX1_beyond, Cond.code yX1_beyond cX1_beyond 3 (some .int), Cond.methodLink RX1 98 yX1_grant, Cond.instanceMethod yX1_grant, Cond.selects RX1 yX1_grant yX1_grant, Cond.code yX1_grant cX1_grant 7 none, Cond.fieldLink RX1 13 "StairflowModel" "rooms" "[I", Cond.fieldLink RX1 32 "StairflowModel" "shares" "[I", Cond.methodLink RX1 108 yX1_insideNow]
def wsX1_go_r3 : List Cond := [Cond.instanceMethod yX1_insideNow, Cond.selects RX1 yX1_insideNow yX1_insideNow, Cond.code yX1_insideNow cX1_insideNow 3 (some .int)]
def wsX1_go : List Cond := .code yX1_go cX1_go 3 (some .int) :: ((wsX1_go_r1 ++ (wsX1_go_r2 ++ wsX1_go_r3)) ++ wsX10)
def wsX1_step_r1 : List Cond := [Cond.fieldLink RX1 17 "StairflowModel" "people" "[I", Cond.methodLink RX1 60 yX1_in, Cond.static yX1_in, Cond.initialized RX1, Cond.code yX1_in cX1_in 3 (some .boolean), Cond.methodLink RX1 67 yX1_goesWell, Cond.instanceMethod yX1_goesWell, Cond.selects RX1 yX1_goesWell yX1_goesWell, Cond.code yX1_goesWell cX1_goesWell 2 (some .boolean), Cond.fieldLink RX1 57 "StairflowModel" "thrown" "I", Cond.methodLink RX1 112 yX1_go, Cond.instanceMethod yX1_go, Cond.selects RX1 yX1_go yX1_go, Cond.code yX1_go cX1_go 3 (some .int), Cond.fieldLink RX1 64 "StairflowModel" "doors" "I", Cond.fieldLink RX1 51 "StairflowModel" "grants" "[I", Cond.fieldLink RX1 54 "StairflowModel" "goals" "[I", Cond.fieldLink RX1 39 "StairflowModel" "passed" "[I", Cond.fieldLink RX1 92 "StairflowModel" "time" "I", Cond.fieldLink RX1 42 "StairflowModel" "lastOut" "I", Cond.fieldLink RX1 105 "StairflowModel" "waited" "I", Cond.methodLink RX1 102 yX1_decide, Cond.instanceMethod yX1_decide, Cond.selects RX1 yX1_decide yX1_decide]
def wsX1_step_r2 : List Cond := [Cond.code yX1_decide cX1_decide 2 none, Cond.fieldLink RX1 7 "StairflowModel" "places" "I", Cond.methodLink RX1 95 yX1_wish, Cond.instanceMethod yX1_wish, Cond.selects RX1 yX1_wish yX1_wish, Cond.code yX1_wish cX1_wish 3 none, Cond.fieldLink RX1 48 "StairflowModel" "wishes" "[I", Cond.fieldLink RX1 20 "StairflowModel" "releases" "[I", Cond.fieldLink RX1 29 "StairflowModel" "flows" "[I", Cond.methodLink RX1 85 yX1_measure, Cond.instanceMethod yX1_measure, Cond.selects RX1 yX1_measure yX1_measure, Cond.code yX1_measure cX1_measure 3 none, Cond.fieldLink RX1 45 "StairflowModel" "far" "[I", Cond.fieldLink RX1 23 "StairflowModel" "ones" "[I", Cond.fieldLink RX1 26 "StairflowModel" "others" "[I", Cond.methodLink RX1 77 yX1_reach, Cond.instanceMethod yX1_reach, Cond.selects RX1 yX1_reach yX1_reach, Cond.code yX1_reach cX1_reach 5 none, Cond.fieldLink RX1 35 "StairflowModel" "isOpen" "[Z", Cond.methodLink RX1 88 yX1_doorOf, Cond.instanceMethod yX1_doorOf, Cond.selects RX1 yX1_doorOf yX1_doorOf]
def wsX1_step_r3 : List Cond := [Cond.code yX1_doorOf cX1_doorOf 4 (some .int), Cond.methodLink RX1 81 yX1_beyond, Cond.instanceMethod yX1_beyond, Cond.selects RX1 yX1_beyond yX1_beyond, Cond.code yX1_beyond cX1_beyond 3 (some .int), Cond.methodLink RX1 98 yX1_grant, Cond.instanceMethod yX1_grant, Cond.selects RX1 yX1_grant yX1_grant, Cond.code yX1_grant cX1_grant 7 none, Cond.fieldLink RX1 13 "StairflowModel" "rooms" "[I", Cond.fieldLink RX1 32 "StairflowModel" "shares" "[I", Cond.methodLink RX1 108 yX1_insideNow, Cond.instanceMethod yX1_insideNow, Cond.selects RX1 yX1_insideNow yX1_insideNow, Cond.code yX1_insideNow cX1_insideNow 3 (some .int)]
def wsX1_step : List Cond := .code yX1_step cX1_step 5 (some .int) :: ((wsX1_step_r1 ++ (wsX1_step_r2 ++ wsX1_step_r3)) ++ wsX10)
def wsX1_clear_r1 : List Cond := [Cond.fieldLink RX1 57 "StairflowModel" "thrown" "I", Cond.fieldLink RX1 7 "StairflowModel" "places" "I", Cond.fieldLink RX1 20 "StairflowModel" "releases" "[I", Cond.fieldLink RX1 92 "StairflowModel" "time" "I", Cond.methodLink RX1 108 yX1_insideNow, Cond.instanceMethod yX1_insideNow, Cond.selects RX1 yX1_insideNow yX1_insideNow, Cond.initialized RX1, Cond.code yX1_insideNow cX1_insideNow 3 (some .int), Cond.fieldLink RX1 17 "StairflowModel" "people" "[I", Cond.methodLink RX1 112 yX1_go, Cond.instanceMethod yX1_go, Cond.selects RX1 yX1_go yX1_go, Cond.code yX1_go cX1_go 3 (some .int), Cond.fieldLink RX1 64 "StairflowModel" "doors" "I", Cond.fieldLink RX1 51 "StairflowModel" "grants" "[I", Cond.fieldLink RX1 54 "StairflowModel" "goals" "[I", Cond.fieldLink RX1 39 "StairflowModel" "passed" "[I", Cond.fieldLink RX1 42 "StairflowModel" "lastOut" "I", Cond.fieldLink RX1 105 "StairflowModel" "waited" "I", Cond.methodLink RX1 102 yX1_decide, Cond.instanceMethod yX1_decide, Cond.selects RX1 yX1_decide yX1_decide, Cond.code yX1_decide cX1_decide 2 none]
def wsX1_clear_r2 : List Cond := [Cond.methodLink RX1 95 yX1_wish, Cond.instanceMethod yX1_wish, Cond.selects RX1 yX1_wish yX1_wish, Cond.code yX1_wish cX1_wish 3 none, Cond.fieldLink RX1 48 "StairflowModel" "wishes" "[I", Cond.fieldLink RX1 29 "StairflowModel" "flows" "[I", Cond.methodLink RX1 85 yX1_measure, Cond.instanceMethod yX1_measure, Cond.selects RX1 yX1_measure yX1_measure, Cond.code yX1_measure cX1_measure 3 none, Cond.fieldLink RX1 45 "StairflowModel" "far" "[I", Cond.fieldLink RX1 23 "StairflowModel" "ones" "[I", Cond.fieldLink RX1 26 "StairflowModel" "others" "[I", Cond.methodLink RX1 77 yX1_reach, Cond.instanceMethod yX1_reach, Cond.selects RX1 yX1_reach yX1_reach, Cond.code yX1_reach cX1_reach 5 none, Cond.fieldLink RX1 35 "StairflowModel" "isOpen" "[Z", Cond.methodLink RX1 88 yX1_doorOf, Cond.instanceMethod yX1_doorOf, Cond.selects RX1 yX1_doorOf yX1_doorOf, Cond.code yX1_doorOf cX1_doorOf 4 (some .int), Cond.methodLink RX1 81 yX1_beyond, Cond.instanceMethod yX1_beyond]
def wsX1_clear_r3 : List Cond := [Cond.selects RX1 yX1_beyond yX1_beyond, Cond.code yX1_beyond cX1_beyond 3 (some .int), Cond.methodLink RX1 98 yX1_grant, Cond.instanceMethod yX1_grant, Cond.selects RX1 yX1_grant yX1_grant, Cond.code yX1_grant cX1_grant 7 none, Cond.fieldLink RX1 13 "StairflowModel" "rooms" "[I", Cond.fieldLink RX1 32 "StairflowModel" "shares" "[I"]
def wsX1_clear : List Cond := .code yX1_clear cX1_clear 5 (some .int) :: ((wsX1_clear_r1 ++ (wsX1_clear_r2 ++ wsX1_clear_r3)) ++ wsX10)
def wsX1_now : List Cond := .code yX1_now cX1_now 1 (some .int) :: ([.fieldLink RX1 57 "StairflowModel" "thrown" "I", .fieldLink RX1 92 "StairflowModel" "time" "I"] ++ wsX10)
def wsX1_people : List Cond := .code yX1_people cX1_people 2 (some .int) :: ([.fieldLink RX1 17 "StairflowModel" "people" "[I", .methodLink RX1 71 yX1_isPlace, .instanceMethod yX1_isPlace, .selects RX1 yX1_isPlace yX1_isPlace, .initialized RX1, .code yX1_isPlace cX1_isPlace 2 (some .boolean), .fieldLink RX1 7 "StairflowModel" "places" "I", .methodLink RX1 60 yX1_in, .static yX1_in, .code yX1_in cX1_in 3 (some .boolean), .methodLink RX1 67 yX1_goesWell, .instanceMethod yX1_goesWell, .selects RX1 yX1_goesWell yX1_goesWell, .code yX1_goesWell cX1_goesWell 2 (some .boolean), .fieldLink RX1 57 "StairflowModel" "thrown" "I"] ++ wsX10)
def wsX1_inside : List Cond := .code yX1_inside cX1_inside 1 (some .int) :: ([.fieldLink RX1 57 "StairflowModel" "thrown" "I", .methodLink RX1 108 yX1_insideNow, .instanceMethod yX1_insideNow, .selects RX1 yX1_insideNow yX1_insideNow, .initialized RX1, .code yX1_insideNow cX1_insideNow 3 (some .int), .fieldLink RX1 7 "StairflowModel" "places" "I", .fieldLink RX1 17 "StairflowModel" "people" "[I"] ++ wsX10)
def wsX1_latest : List Cond := .code yX1_latest cX1_latest 1 (some .int) :: ([.fieldLink RX1 42 "StairflowModel" "lastOut" "I", .methodLink RX1 67 yX1_goesWell, .instanceMethod yX1_goesWell, .selects RX1 yX1_goesWell yX1_goesWell, .initialized RX1, .code yX1_goesWell cX1_goesWell 2 (some .boolean), .fieldLink RX1 57 "StairflowModel" "thrown" "I"] ++ wsX10)
def wsX1_passed : List Cond := .code yX1_passed cX1_passed 2 (some .int) :: ([.fieldLink RX1 39 "StairflowModel" "passed" "[I", .methodLink RX1 74 yX1_isDoor, .instanceMethod yX1_isDoor, .selects RX1 yX1_isDoor yX1_isDoor, .initialized RX1, .code yX1_isDoor cX1_isDoor 2 (some .boolean), .fieldLink RX1 64 "StairflowModel" "doors" "I", .methodLink RX1 60 yX1_in, .static yX1_in, .code yX1_in cX1_in 3 (some .boolean), .methodLink RX1 67 yX1_goesWell, .instanceMethod yX1_goesWell, .selects RX1 yX1_goesWell yX1_goesWell, .code yX1_goesWell cX1_goesWell 2 (some .boolean), .fieldLink RX1 57 "StairflowModel" "thrown" "I"] ++ wsX10)
def wsX1_waited : List Cond := .code yX1_waited cX1_waited 1 (some .int) :: ([.fieldLink RX1 57 "StairflowModel" "thrown" "I", .fieldLink RX1 105 "StairflowModel" "waited" "I"] ++ wsX10)
def wsX1_distance_r1 : List Cond := [Cond.fieldLink RX1 45 "StairflowModel" "far" "[I", Cond.methodLink RX1 85 yX1_measure, Cond.instanceMethod yX1_measure, Cond.selects RX1 yX1_measure yX1_measure, Cond.initialized RX1, Cond.code yX1_measure cX1_measure 3 none, Cond.fieldLink RX1 7 "StairflowModel" "places" "I", Cond.fieldLink RX1 64 "StairflowModel" "doors" "I", Cond.fieldLink RX1 23 "StairflowModel" "ones" "[I", Cond.fieldLink RX1 26 "StairflowModel" "others" "[I", Cond.methodLink RX1 77 yX1_reach, Cond.instanceMethod yX1_reach, Cond.selects RX1 yX1_reach yX1_reach, Cond.code yX1_reach cX1_reach 5 none, Cond.fieldLink RX1 35 "StairflowModel" "isOpen" "[Z", Cond.methodLink RX1 71 yX1_isPlace, Cond.instanceMethod yX1_isPlace, Cond.selects RX1 yX1_isPlace yX1_isPlace, Cond.code yX1_isPlace cX1_isPlace 2 (some .boolean), Cond.methodLink RX1 60 yX1_in, Cond.static yX1_in, Cond.code yX1_in cX1_in 3 (some .boolean), Cond.methodLink RX1 67 yX1_goesWell, Cond.instanceMethod yX1_goesWell]
def wsX1_distance_r2 : List Cond := [Cond.selects RX1 yX1_goesWell yX1_goesWell, Cond.code yX1_goesWell cX1_goesWell 2 (some .boolean), Cond.fieldLink RX1 57 "StairflowModel" "thrown" "I"]
def wsX1_distance : List Cond := .code yX1_distance cX1_distance 2 (some .int) :: ((wsX1_distance_r1 ++ wsX1_distance_r2) ++ wsX10)
def wsX1_door_r1 : List Cond := [Cond.methodLink RX1 85 yX1_measure, Cond.instanceMethod yX1_measure, Cond.selects RX1 yX1_measure yX1_measure, Cond.initialized RX1, Cond.code yX1_measure cX1_measure 3 none, Cond.fieldLink RX1 7 "StairflowModel" "places" "I", Cond.fieldLink RX1 45 "StairflowModel" "far" "[I", Cond.fieldLink RX1 64 "StairflowModel" "doors" "I", Cond.fieldLink RX1 23 "StairflowModel" "ones" "[I", Cond.fieldLink RX1 26 "StairflowModel" "others" "[I", Cond.methodLink RX1 77 yX1_reach, Cond.instanceMethod yX1_reach, Cond.selects RX1 yX1_reach yX1_reach, Cond.code yX1_reach cX1_reach 5 none, Cond.fieldLink RX1 35 "StairflowModel" "isOpen" "[Z", Cond.methodLink RX1 71 yX1_isPlace, Cond.instanceMethod yX1_isPlace, Cond.selects RX1 yX1_isPlace yX1_isPlace, Cond.code yX1_isPlace cX1_isPlace 2 (some .boolean), Cond.methodLink RX1 60 yX1_in, Cond.static yX1_in, Cond.code yX1_in cX1_in 3 (some .boolean), Cond.methodLink RX1 88 yX1_doorOf, Cond.instanceMethod yX1_doorOf]
def wsX1_door_r2 : List Cond := [Cond.selects RX1 yX1_doorOf yX1_doorOf, Cond.code yX1_doorOf cX1_doorOf 4 (some .int), Cond.methodLink RX1 81 yX1_beyond, Cond.instanceMethod yX1_beyond, Cond.selects RX1 yX1_beyond yX1_beyond, Cond.code yX1_beyond cX1_beyond 3 (some .int), Cond.methodLink RX1 67 yX1_goesWell, Cond.instanceMethod yX1_goesWell, Cond.selects RX1 yX1_goesWell yX1_goesWell, Cond.code yX1_goesWell cX1_goesWell 2 (some .boolean), Cond.fieldLink RX1 57 "StairflowModel" "thrown" "I"]
def wsX1_door : List Cond := .code yX1_door cX1_door 3 (some .int) :: ((wsX1_door_r1 ++ wsX1_door_r2) ++ wsX10)
def wsX1_trappedNow : List Cond := .code yX1_trappedNow cX1_trappedNow 3 (some .int) :: ([.fieldLink RX1 7 "StairflowModel" "places" "I", .fieldLink RX1 45 "StairflowModel" "far" "[I", .fieldLink RX1 17 "StairflowModel" "people" "[I", .methodLink RX1 85 yX1_measure, .instanceMethod yX1_measure, .selects RX1 yX1_measure yX1_measure, .initialized RX1, .code yX1_measure cX1_measure 3 none, .fieldLink RX1 64 "StairflowModel" "doors" "I", .fieldLink RX1 23 "StairflowModel" "ones" "[I", .fieldLink RX1 26 "StairflowModel" "others" "[I", .methodLink RX1 77 yX1_reach, .instanceMethod yX1_reach, .selects RX1 yX1_reach yX1_reach, .code yX1_reach cX1_reach 5 none, .fieldLink RX1 35 "StairflowModel" "isOpen" "[Z"] ++ wsX10)
def wsX1_trapped : List Cond := .code yX1_trapped cX1_trapped 1 (some .int) :: ([.fieldLink RX1 57 "StairflowModel" "thrown" "I", .methodLink RX1 115 yX1_trappedNow, .instanceMethod yX1_trappedNow, .selects RX1 yX1_trappedNow yX1_trappedNow, .initialized RX1, .code yX1_trappedNow cX1_trappedNow 3 (some .int), .fieldLink RX1 7 "StairflowModel" "places" "I", .fieldLink RX1 45 "StairflowModel" "far" "[I", .fieldLink RX1 17 "StairflowModel" "people" "[I", .methodLink RX1 85 yX1_measure, .instanceMethod yX1_measure, .selects RX1 yX1_measure yX1_measure, .code yX1_measure cX1_measure 3 none, .fieldLink RX1 64 "StairflowModel" "doors" "I", .fieldLink RX1 23 "StairflowModel" "ones" "[I", .fieldLink RX1 26 "StairflowModel" "others" "[I", .methodLink RX1 77 yX1_reach, .instanceMethod yX1_reach, .selects RX1 yX1_reach yX1_reach, .code yX1_reach cX1_reach 5 none, .fieldLink RX1 35 "StairflowModel" "isOpen" "[Z"] ++ wsX10)
def wsX1_wouldMove_r1 : List Cond := [Cond.fieldLink RX1 51 "StairflowModel" "grants" "[I", Cond.methodLink RX1 71 yX1_isPlace, Cond.instanceMethod yX1_isPlace, Cond.selects RX1 yX1_isPlace yX1_isPlace, Cond.initialized RX1, Cond.code yX1_isPlace cX1_isPlace 2 (some .boolean), Cond.fieldLink RX1 7 "StairflowModel" "places" "I", Cond.methodLink RX1 60 yX1_in, Cond.static yX1_in, Cond.code yX1_in cX1_in 3 (some .boolean), Cond.methodLink RX1 67 yX1_goesWell, Cond.instanceMethod yX1_goesWell, Cond.selects RX1 yX1_goesWell yX1_goesWell, Cond.code yX1_goesWell cX1_goesWell 2 (some .boolean), Cond.fieldLink RX1 57 "StairflowModel" "thrown" "I", Cond.methodLink RX1 102 yX1_decide, Cond.instanceMethod yX1_decide, Cond.selects RX1 yX1_decide yX1_decide, Cond.code yX1_decide cX1_decide 2 none, Cond.methodLink RX1 95 yX1_wish, Cond.instanceMethod yX1_wish, Cond.selects RX1 yX1_wish yX1_wish, Cond.code yX1_wish cX1_wish 3 none, Cond.fieldLink RX1 64 "StairflowModel" "doors" "I"]
def wsX1_wouldMove_r2 : List Cond := [Cond.fieldLink RX1 48 "StairflowModel" "wishes" "[I", Cond.fieldLink RX1 54 "StairflowModel" "goals" "[I", Cond.fieldLink RX1 20 "StairflowModel" "releases" "[I", Cond.fieldLink RX1 92 "StairflowModel" "time" "I", Cond.fieldLink RX1 17 "StairflowModel" "people" "[I", Cond.fieldLink RX1 29 "StairflowModel" "flows" "[I", Cond.methodLink RX1 85 yX1_measure, Cond.instanceMethod yX1_measure, Cond.selects RX1 yX1_measure yX1_measure, Cond.code yX1_measure cX1_measure 3 none, Cond.fieldLink RX1 45 "StairflowModel" "far" "[I", Cond.fieldLink RX1 23 "StairflowModel" "ones" "[I", Cond.fieldLink RX1 26 "StairflowModel" "others" "[I", Cond.methodLink RX1 77 yX1_reach, Cond.instanceMethod yX1_reach, Cond.selects RX1 yX1_reach yX1_reach, Cond.code yX1_reach cX1_reach 5 none, Cond.fieldLink RX1 35 "StairflowModel" "isOpen" "[Z", Cond.methodLink RX1 88 yX1_doorOf, Cond.instanceMethod yX1_doorOf, Cond.selects RX1 yX1_doorOf yX1_doorOf, Cond.code yX1_doorOf cX1_doorOf 4 (some .int), Cond.methodLink RX1 81 yX1_beyond, Cond.instanceMethod yX1_beyond]
def wsX1_wouldMove_r3 : List Cond := [Cond.selects RX1 yX1_beyond yX1_beyond, Cond.code yX1_beyond cX1_beyond 3 (some .int), Cond.methodLink RX1 98 yX1_grant, Cond.instanceMethod yX1_grant, Cond.selects RX1 yX1_grant yX1_grant, Cond.code yX1_grant cX1_grant 7 none, Cond.fieldLink RX1 13 "StairflowModel" "rooms" "[I", Cond.fieldLink RX1 32 "StairflowModel" "shares" "[I"]
def wsX1_wouldMove : List Cond := .code yX1_wouldMove cX1_wouldMove 3 (some .int) :: ((wsX1_wouldMove_r1 ++ (wsX1_wouldMove_r2 ++ wsX1_wouldMove_r3)) ++ wsX10)
def wsX1_bound_r1 : List Cond := [Cond.fieldLink RX1 7 "StairflowModel" "places" "I", Cond.fieldLink RX1 45 "StairflowModel" "far" "[I", Cond.fieldLink RX1 17 "StairflowModel" "people" "[I", Cond.fieldLink RX1 64 "StairflowModel" "doors" "I", Cond.fieldLink RX1 23 "StairflowModel" "ones" "[I", Cond.fieldLink RX1 26 "StairflowModel" "others" "[I", Cond.fieldLink RX1 35 "StairflowModel" "isOpen" "[Z", Cond.fieldLink RX1 29 "StairflowModel" "flows" "[I", Cond.methodLink RX1 115 yX1_trappedNow, Cond.instanceMethod yX1_trappedNow, Cond.selects RX1 yX1_trappedNow yX1_trappedNow, Cond.initialized RX1, Cond.code yX1_trappedNow cX1_trappedNow 3 (some .int), Cond.methodLink RX1 85 yX1_measure, Cond.instanceMethod yX1_measure, Cond.selects RX1 yX1_measure yX1_measure, Cond.code yX1_measure cX1_measure 3 none, Cond.methodLink RX1 77 yX1_reach, Cond.instanceMethod yX1_reach, Cond.selects RX1 yX1_reach yX1_reach, Cond.code yX1_reach cX1_reach 5 none, Cond.methodLink RX1 67 yX1_goesWell, Cond.instanceMethod yX1_goesWell, Cond.selects RX1 yX1_goesWell yX1_goesWell]
def wsX1_bound_r2 : List Cond := [Cond.code yX1_goesWell cX1_goesWell 2 (some .boolean), Cond.fieldLink RX1 57 "StairflowModel" "thrown" "I"]
def wsX1_bound : List Cond := .code yX1_bound cX1_bound 8 (some .int) :: ((wsX1_bound_r1 ++ wsX1_bound_r2) ++ wsX10)
def wsJ9_max_7cf53 : List Cond := .code yJ9_max_7cf53 cJ9_max_7cf53 2 (some .int) :: ([])
def wsJ9_min_7cf53 : List Cond := .code yJ9_min_7cf53 cJ9_min_7cf53 2 (some .int) :: ([])
def wsL_addPlace_r1 : List Cond := [Cond.classLink RL 13 "java/lang/IllegalArgumentException", Cond.classLink RL 15 "java/lang/IllegalStateException", Cond.methodLink RL 7 yX0_addPlace, Cond.instanceMethod yX0_addPlace, Cond.selects RX0 yX0_addPlace yX0_addPlace, Cond.initialized RX0, Cond.code yX0_addPlace cX0_addPlace 3 (some .int), Cond.fieldLink RX0 53 "Stairflow" "placeCount" "I", Cond.fieldLink RX0 9 "Stairflow" "roomOf" "[I", Cond.methodLink RX0 60 yX0_isBetween, Cond.static yX0_isBetween, Cond.code yX0_isBetween cX0_isBetween 3 (some .boolean), Cond.methodLink RX0 64 yX0_requireArgument, Cond.static yX0_requireArgument, Cond.code yX0_requireArgument cX0_requireArgument 1 none, Cond.classLink RX0 173 "java/lang/IllegalArgumentException", Cond.initialized "java/lang/IllegalArgumentException", Cond.methodLink RX0 68 yX0_requireState, Cond.static yX0_requireState, Cond.code yX0_requireState cX0_requireState 1 none, Cond.classLink RX0 178 "java/lang/IllegalStateException", Cond.initialized "java/lang/IllegalStateException", Cond.methodLink RX0 71 yX0_findWays, Cond.instanceMethod yX0_findWays]
def wsL_addPlace_r2 : List Cond := [Cond.selects RX0 yX0_findWays yX0_findWays, Cond.code yX0_findWays cX0_findWays 2 none, Cond.fieldLink RX0 22 "Stairflow" "doorOf" "[I", Cond.fieldLink RX0 78 "Stairflow" "doorCount" "I", Cond.fieldLink RX0 44 "Stairflow" "sourceOf" "[I", Cond.fieldLink RX0 47 "Stairflow" "targetOf" "[I", Cond.fieldLink RX0 25 "Stairflow" "oneEnd" "[I", Cond.fieldLink RX0 28 "Stairflow" "otherEnd" "[I", Cond.methodLink RX0 154 yX0_measureDistances, Cond.instanceMethod yX0_measureDistances, Cond.selects RX0 yX0_measureDistances yX0_measureDistances, Cond.code yX0_measureDistances cX0_measureDistances 3 none, Cond.fieldLink RX0 19 "Stairflow" "distanceOf" "[I", Cond.fieldLink RX0 37 "Stairflow" "isOpen" "[Z", Cond.methodLink RX0 161 yX0_reach, Cond.instanceMethod yX0_reach, Cond.selects RX0 yX0_reach yX0_reach, Cond.code yX0_reach cX0_reach 4 none, Cond.methodLink RX0 157 yX0_offerDoor, Cond.instanceMethod yX0_offerDoor, Cond.selects RX0 yX0_offerDoor yX0_offerDoor, Cond.code yX0_offerDoor cX0_offerDoor 5 none]
def wsL_addPlace : List Cond := .codeWith yL_addPlace cL_addPlace 4 (some .int) [(0, 9, 12, 13), (0, 9, 15, 15)] :: ((wsL_addPlace_r1 ++ wsL_addPlace_r2) ++ wsX00 ++ (vx_atS RX0 177 "java/lang/IllegalArgumentException" ["java/lang/RuntimeException", "java/lang/Exception"]).filter goodWord ++ (vx_atS RX0 182 "java/lang/IllegalStateException" ["java/lang/RuntimeException", "java/lang/Exception"]).filter goodWord)
def wsL_addDoor_r1 : List Cond := [Cond.classLink RL 21 "java/lang/IndexOutOfBoundsException", Cond.classLink RL 13 "java/lang/IllegalArgumentException", Cond.classLink RL 15 "java/lang/IllegalStateException", Cond.methodLink RL 17 yX0_addDoor, Cond.instanceMethod yX0_addDoor, Cond.selects RX0 yX0_addDoor yX0_addDoor, Cond.initialized RX0, Cond.code yX0_addDoor cX0_addDoor 6 (some .int), Cond.fieldLink RX0 78 "Stairflow" "doorCount" "I", Cond.fieldLink RX0 25 "Stairflow" "oneEnd" "[I", Cond.fieldLink RX0 28 "Stairflow" "otherEnd" "[I", Cond.fieldLink RX0 31 "Stairflow" "flowOf" "[I", Cond.fieldLink RX0 34 "Stairflow" "shareOf" "[I", Cond.fieldLink RX0 37 "Stairflow" "isOpen" "[Z", Cond.methodLink RX0 74 yX0_requirePlace, Cond.instanceMethod yX0_requirePlace, Cond.selects RX0 yX0_requirePlace yX0_requirePlace, Cond.code yX0_requirePlace cX0_requirePlace 2 none, Cond.classLink RX0 164 "java/lang/IndexOutOfBoundsException", Cond.initialized "java/lang/IndexOutOfBoundsException", Cond.methodLink RX0 148 yX0_isPlace, Cond.instanceMethod yX0_isPlace, Cond.selects RX0 yX0_isPlace yX0_isPlace, Cond.code yX0_isPlace cX0_isPlace 2 (some .boolean)]
def wsL_addDoor_r2 : List Cond := [Cond.fieldLink RX0 53 "Stairflow" "placeCount" "I", Cond.methodLink RX0 60 yX0_isBetween, Cond.static yX0_isBetween, Cond.code yX0_isBetween cX0_isBetween 3 (some .boolean), Cond.methodLink RX0 64 yX0_requireArgument, Cond.static yX0_requireArgument, Cond.code yX0_requireArgument cX0_requireArgument 1 none, Cond.classLink RX0 173 "java/lang/IllegalArgumentException", Cond.initialized "java/lang/IllegalArgumentException", Cond.methodLink RX0 68 yX0_requireState, Cond.static yX0_requireState, Cond.code yX0_requireState cX0_requireState 1 none, Cond.classLink RX0 178 "java/lang/IllegalStateException", Cond.initialized "java/lang/IllegalStateException", Cond.methodLink RX0 71 yX0_findWays, Cond.instanceMethod yX0_findWays, Cond.selects RX0 yX0_findWays yX0_findWays, Cond.code yX0_findWays cX0_findWays 2 none, Cond.fieldLink RX0 22 "Stairflow" "doorOf" "[I", Cond.fieldLink RX0 44 "Stairflow" "sourceOf" "[I", Cond.fieldLink RX0 47 "Stairflow" "targetOf" "[I", Cond.methodLink RX0 154 yX0_measureDistances, Cond.instanceMethod yX0_measureDistances, Cond.selects RX0 yX0_measureDistances yX0_measureDistances]
def wsL_addDoor_r3 : List Cond := [Cond.code yX0_measureDistances cX0_measureDistances 3 none, Cond.fieldLink RX0 19 "Stairflow" "distanceOf" "[I", Cond.methodLink RX0 161 yX0_reach, Cond.instanceMethod yX0_reach, Cond.selects RX0 yX0_reach yX0_reach, Cond.code yX0_reach cX0_reach 4 none, Cond.methodLink RX0 157 yX0_offerDoor, Cond.instanceMethod yX0_offerDoor, Cond.selects RX0 yX0_offerDoor yX0_offerDoor, Cond.code yX0_offerDoor cX0_offerDoor 5 none]
def wsL_addDoor : List Cond := .codeWith yL_addDoor cL_addDoor 7 (some .int) [(0, 14, 17, 21), (0, 14, 21, 13), (0, 14, 25, 15)] :: ((wsL_addDoor_r1 ++ (wsL_addDoor_r2 ++ wsL_addDoor_r3)) ++ wsX00 ++ (vx_atS RX0 168 "java/lang/IndexOutOfBoundsException" ["java/lang/RuntimeException", "java/lang/Exception"]).filter goodWord ++ (vx_atS RX0 177 "java/lang/IllegalArgumentException" ["java/lang/RuntimeException", "java/lang/Exception"]).filter goodWord ++ (vx_atS RX0 182 "java/lang/IllegalStateException" ["java/lang/RuntimeException", "java/lang/Exception"]).filter goodWord)
def wsL_setDoor_r1 : List Cond := [Cond.classLink RL 21 "java/lang/IndexOutOfBoundsException", Cond.methodLink RL 23 yX0_setDoor, Cond.instanceMethod yX0_setDoor, Cond.selects RX0 yX0_setDoor yX0_setDoor, Cond.initialized RX0, Cond.code yX0_setDoor cX0_setDoor 4 (some .boolean), Cond.fieldLink RX0 37 "Stairflow" "isOpen" "[Z", Cond.methodLink RX0 81 yX0_requireDoor, Cond.instanceMethod yX0_requireDoor, Cond.selects RX0 yX0_requireDoor yX0_requireDoor, Cond.code yX0_requireDoor cX0_requireDoor 2 none, Cond.classLink RX0 164 "java/lang/IndexOutOfBoundsException", Cond.initialized "java/lang/IndexOutOfBoundsException", Cond.methodLink RX0 108 yX0_isDoor, Cond.instanceMethod yX0_isDoor, Cond.selects RX0 yX0_isDoor yX0_isDoor, Cond.code yX0_isDoor cX0_isDoor 2 (some .boolean), Cond.fieldLink RX0 78 "Stairflow" "doorCount" "I", Cond.methodLink RX0 71 yX0_findWays, Cond.instanceMethod yX0_findWays, Cond.selects RX0 yX0_findWays yX0_findWays, Cond.code yX0_findWays cX0_findWays 2 none, Cond.fieldLink RX0 53 "Stairflow" "placeCount" "I", Cond.fieldLink RX0 22 "Stairflow" "doorOf" "[I"]
def wsL_setDoor_r2 : List Cond := [Cond.fieldLink RX0 44 "Stairflow" "sourceOf" "[I", Cond.fieldLink RX0 47 "Stairflow" "targetOf" "[I", Cond.fieldLink RX0 25 "Stairflow" "oneEnd" "[I", Cond.fieldLink RX0 28 "Stairflow" "otherEnd" "[I", Cond.methodLink RX0 154 yX0_measureDistances, Cond.instanceMethod yX0_measureDistances, Cond.selects RX0 yX0_measureDistances yX0_measureDistances, Cond.code yX0_measureDistances cX0_measureDistances 3 none, Cond.fieldLink RX0 19 "Stairflow" "distanceOf" "[I", Cond.methodLink RX0 161 yX0_reach, Cond.instanceMethod yX0_reach, Cond.selects RX0 yX0_reach yX0_reach, Cond.code yX0_reach cX0_reach 4 none, Cond.methodLink RX0 157 yX0_offerDoor, Cond.instanceMethod yX0_offerDoor, Cond.selects RX0 yX0_offerDoor yX0_offerDoor, Cond.code yX0_offerDoor cX0_offerDoor 5 none]
def wsL_setDoor : List Cond := .codeWith yL_setDoor cL_setDoor 5 (some .int) [(0, 17, 20, 21)] :: ((wsL_setDoor_r1 ++ wsL_setDoor_r2) ++ wsX00 ++ (vx_atS RX0 168 "java/lang/IndexOutOfBoundsException" ["java/lang/RuntimeException", "java/lang/Exception"]).filter goodWord)
def wsL_come_r1 : List Cond := [Cond.classLink RL 21 "java/lang/IndexOutOfBoundsException", Cond.classLink RL 13 "java/lang/IllegalArgumentException", Cond.classLink RL 15 "java/lang/IllegalStateException", Cond.methodLink RL 27 yX0_come, Cond.instanceMethod yX0_come, Cond.selects RX0 yX0_come yX0_come, Cond.initialized RX0, Cond.code yX0_come cX0_come 3 (some .int), Cond.fieldLink RX0 13 "Stairflow" "peopleAt" "[I", Cond.methodLink RX0 74 yX0_requirePlace, Cond.instanceMethod yX0_requirePlace, Cond.selects RX0 yX0_requirePlace yX0_requirePlace, Cond.code yX0_requirePlace cX0_requirePlace 2 none, Cond.classLink RX0 164 "java/lang/IndexOutOfBoundsException", Cond.initialized "java/lang/IndexOutOfBoundsException", Cond.methodLink RX0 148 yX0_isPlace, Cond.instanceMethod yX0_isPlace, Cond.selects RX0 yX0_isPlace yX0_isPlace, Cond.code yX0_isPlace cX0_isPlace 2 (some .boolean), Cond.fieldLink RX0 53 "Stairflow" "placeCount" "I", Cond.methodLink RX0 60 yX0_isBetween, Cond.static yX0_isBetween, Cond.code yX0_isBetween cX0_isBetween 3 (some .boolean), Cond.methodLink RX0 64 yX0_requireArgument]
def wsL_come_r2 : List Cond := [Cond.static yX0_requireArgument, Cond.code yX0_requireArgument cX0_requireArgument 1 none, Cond.classLink RX0 173 "java/lang/IllegalArgumentException", Cond.initialized "java/lang/IllegalArgumentException", Cond.methodLink RX0 84 yX0_roomLeft, Cond.instanceMethod yX0_roomLeft, Cond.selects RX0 yX0_roomLeft yX0_roomLeft, Cond.code yX0_roomLeft cX0_roomLeft 2 (some .int), Cond.constant RX0 153 (2147483647), Cond.fieldLink RX0 9 "Stairflow" "roomOf" "[I", Cond.methodLink RX0 68 yX0_requireState, Cond.static yX0_requireState, Cond.code yX0_requireState cX0_requireState 1 none, Cond.classLink RX0 178 "java/lang/IllegalStateException", Cond.initialized "java/lang/IllegalStateException"]
def wsL_come : List Cond := .codeWith yL_come cL_come 5 (some .int) [(0, 10, 13, 21), (0, 10, 17, 13), (0, 10, 21, 15)] :: ((wsL_come_r1 ++ wsL_come_r2) ++ wsX00 ++ (vx_atS RX0 168 "java/lang/IndexOutOfBoundsException" ["java/lang/RuntimeException", "java/lang/Exception"]).filter goodWord ++ (vx_atS RX0 177 "java/lang/IllegalArgumentException" ["java/lang/RuntimeException", "java/lang/Exception"]).filter goodWord ++ (vx_atS RX0 182 "java/lang/IllegalStateException" ["java/lang/RuntimeException", "java/lang/Exception"]).filter goodWord)
def wsL_setRelease_r1 : List Cond := [Cond.classLink RL 21 "java/lang/IndexOutOfBoundsException", Cond.classLink RL 13 "java/lang/IllegalArgumentException", Cond.methodLink RL 31 yX0_setRelease, Cond.instanceMethod yX0_setRelease, Cond.selects RX0 yX0_setRelease yX0_setRelease, Cond.initialized RX0, Cond.code yX0_setRelease cX0_setRelease 4 (some .int), Cond.fieldLink RX0 16 "Stairflow" "releaseOf" "[I", Cond.methodLink RX0 74 yX0_requirePlace, Cond.instanceMethod yX0_requirePlace, Cond.selects RX0 yX0_requirePlace yX0_requirePlace, Cond.code yX0_requirePlace cX0_requirePlace 2 none, Cond.classLink RX0 164 "java/lang/IndexOutOfBoundsException", Cond.initialized "java/lang/IndexOutOfBoundsException", Cond.methodLink RX0 148 yX0_isPlace, Cond.instanceMethod yX0_isPlace, Cond.selects RX0 yX0_isPlace yX0_isPlace, Cond.code yX0_isPlace cX0_isPlace 2 (some .boolean), Cond.fieldLink RX0 53 "Stairflow" "placeCount" "I", Cond.methodLink RX0 60 yX0_isBetween, Cond.static yX0_isBetween, Cond.code yX0_isBetween cX0_isBetween 3 (some .boolean), Cond.methodLink RX0 64 yX0_requireArgument, Cond.static yX0_requireArgument]
def wsL_setRelease_r2 : List Cond := [Cond.code yX0_requireArgument cX0_requireArgument 1 none, Cond.classLink RX0 173 "java/lang/IllegalArgumentException", Cond.initialized "java/lang/IllegalArgumentException"]
def wsL_setRelease : List Cond := .codeWith yL_setRelease cL_setRelease 5 (some .int) [(0, 10, 13, 21), (0, 10, 17, 13)] :: ((wsL_setRelease_r1 ++ wsL_setRelease_r2) ++ wsX00 ++ (vx_atS RX0 168 "java/lang/IndexOutOfBoundsException" ["java/lang/RuntimeException", "java/lang/Exception"]).filter goodWord ++ (vx_atS RX0 177 "java/lang/IllegalArgumentException" ["java/lang/RuntimeException", "java/lang/Exception"]).filter goodWord)
def wsL_step_r1 : List Cond := [Cond.classLink RL 13 "java/lang/IllegalArgumentException", Cond.methodLink RL 34 yX0_step, Cond.instanceMethod yX0_step, Cond.selects RX0 yX0_step yX0_step, Cond.initialized RX0, Cond.code yX0_step cX0_step 4 (some .int), Cond.fieldLink RX0 13 "Stairflow" "peopleAt" "[I", Cond.methodLink RX0 60 yX0_isBetween, Cond.static yX0_isBetween, Cond.code yX0_isBetween cX0_isBetween 3 (some .boolean), Cond.methodLink RX0 64 yX0_requireArgument, Cond.static yX0_requireArgument, Cond.code yX0_requireArgument cX0_requireArgument 1 none, Cond.classLink RX0 173 "java/lang/IllegalArgumentException", Cond.initialized "java/lang/IllegalArgumentException", Cond.methodLink RX0 88 yX0_passOneStep, Cond.instanceMethod yX0_passOneStep, Cond.selects RX0 yX0_passOneStep yX0_passOneStep, Cond.code yX0_passOneStep cX0_passOneStep 3 (some .int), Cond.fieldLink RX0 99 "Stairflow" "timeNow" "I", Cond.fieldLink RX0 57 "Stairflow" "latestTime" "I", Cond.fieldLink RX0 105 "Stairflow" "waitedSum" "I", Cond.methodLink RX0 112 yX0_grantAll, Cond.instanceMethod yX0_grantAll]
def wsL_step_r2 : List Cond := [Cond.selects RX0 yX0_grantAll yX0_grantAll, Cond.code yX0_grantAll cX0_grantAll 2 none, Cond.fieldLink RX0 78 "Stairflow" "doorCount" "I", Cond.fieldLink RX0 50 "Stairflow" "grantedTo" "[I", Cond.fieldLink RX0 53 "Stairflow" "placeCount" "I", Cond.methodLink RX0 136 yX0_grantAt, Cond.instanceMethod yX0_grantAt, Cond.selects RX0 yX0_grantAt yX0_grantAt, Cond.code yX0_grantAt cX0_grantAt 5 none, Cond.methodLink RX0 84 yX0_roomLeft, Cond.instanceMethod yX0_roomLeft, Cond.selects RX0 yX0_roomLeft yX0_roomLeft, Cond.code yX0_roomLeft cX0_roomLeft 2 (some .int), Cond.constant RX0 153 (2147483647), Cond.fieldLink RX0 9 "Stairflow" "roomOf" "[I", Cond.methodLink RX0 139 yX0_grantRound, Cond.instanceMethod yX0_grantRound, Cond.selects RX0 yX0_grantRound yX0_grantRound, Cond.code yX0_grantRound cX0_grantRound 7 (some .int), Cond.fieldLink RX0 47 "Stairflow" "targetOf" "[I", Cond.fieldLink RX0 34 "Stairflow" "shareOf" "[I", Cond.methodLink RX0 145 Lib.Math.min.name, Cond.static Lib.Math.min.name, Cond.initialized "java/lang/Math"]
def wsL_step_r3 : List Cond := [Cond.code Lib.Math.min.name Lib.Math.min.code 2 (some .int), Cond.methodLink RX0 142 yX0_wishBy, Cond.instanceMethod yX0_wishBy, Cond.selects RX0 yX0_wishBy yX0_wishBy, Cond.code yX0_wishBy cX0_wishBy 3 (some .int), Cond.fieldLink RX0 44 "Stairflow" "sourceOf" "[I", Cond.fieldLink RX0 16 "Stairflow" "releaseOf" "[I", Cond.fieldLink RX0 31 "Stairflow" "flowOf" "[I", Cond.methodLink RX0 148 yX0_isPlace, Cond.instanceMethod yX0_isPlace, Cond.selects RX0 yX0_isPlace yX0_isPlace, Cond.code yX0_isPlace cX0_isPlace 2 (some .boolean), Cond.methodLink RX0 133 yX0_moveGranted, Cond.instanceMethod yX0_moveGranted, Cond.selects RX0 yX0_moveGranted yX0_moveGranted, Cond.code yX0_moveGranted cX0_moveGranted 5 (some .int), Cond.fieldLink RX0 41 "Stairflow" "passedBy" "[I", Cond.methodLink RX0 92 yX0_inside, Cond.instanceMethod yX0_inside, Cond.selects RX0 yX0_inside yX0_inside, Cond.code yX0_inside cX0_inside 3 (some .int)]
def wsL_step : List Cond := .codeWith yL_step cL_step 4 (some .int) [(0, 9, 12, 13)] :: ((wsL_step_r1 ++ (wsL_step_r2 ++ wsL_step_r3)) ++ wsX00 ++ (vx_atS RX0 177 "java/lang/IllegalArgumentException" ["java/lang/RuntimeException", "java/lang/Exception"]).filter goodWord)
def wsL_people : List Cond := .codeWith yL_people cL_people 4 (some .int) [(0, 9, 12, 21)] :: ([.classLink RL 21 "java/lang/IndexOutOfBoundsException", .methodLink RL 37 yX0_people, .instanceMethod yX0_people, .selects RX0 yX0_people yX0_people, .initialized RX0, .code yX0_people cX0_people 2 (some .int), .fieldLink RX0 13 "Stairflow" "peopleAt" "[I", .methodLink RX0 74 yX0_requirePlace, .instanceMethod yX0_requirePlace, .selects RX0 yX0_requirePlace yX0_requirePlace, .code yX0_requirePlace cX0_requirePlace 2 none, .classLink RX0 164 "java/lang/IndexOutOfBoundsException", .initialized "java/lang/IndexOutOfBoundsException", .methodLink RX0 148 yX0_isPlace, .instanceMethod yX0_isPlace, .selects RX0 yX0_isPlace yX0_isPlace, .code yX0_isPlace cX0_isPlace 2 (some .boolean), .fieldLink RX0 53 "Stairflow" "placeCount" "I"] ++ wsX00 ++ (vx_atS RX0 168 "java/lang/IndexOutOfBoundsException" ["java/lang/RuntimeException", "java/lang/Exception"]).filter goodWord)
def wsL_latest : List Cond := .codeWith yL_latest cL_latest 3 (some .int) [(0, 8, 11, 44)] :: ([.classLink RL 44 "java/util/NoSuchElementException", .methodLink RL 40 yX0_latest, .instanceMethod yX0_latest, .selects RX0 yX0_latest yX0_latest, .initialized RX0, .code yX0_latest cX0_latest 1 (some .int), .fieldLink RX0 57 "Stairflow" "latestTime" "I", .methodLink RX0 102 yX0_requireElement, .static yX0_requireElement, .code yX0_requireElement cX0_requireElement 1 none, .classLink RX0 183 "java/util/NoSuchElementException", .initialized "java/util/NoSuchElementException"] ++ wsX00 ++ (gNSat).filter goodWord)
def wsL_passed : List Cond := .codeWith yL_passed cL_passed 4 (some .int) [(0, 9, 12, 21)] :: ([.classLink RL 21 "java/lang/IndexOutOfBoundsException", .methodLink RL 46 yX0_passed, .instanceMethod yX0_passed, .selects RX0 yX0_passed yX0_passed, .initialized RX0, .code yX0_passed cX0_passed 2 (some .int), .fieldLink RX0 41 "Stairflow" "passedBy" "[I", .methodLink RX0 81 yX0_requireDoor, .instanceMethod yX0_requireDoor, .selects RX0 yX0_requireDoor yX0_requireDoor, .code yX0_requireDoor cX0_requireDoor 2 none, .classLink RX0 164 "java/lang/IndexOutOfBoundsException", .initialized "java/lang/IndexOutOfBoundsException", .methodLink RX0 108 yX0_isDoor, .instanceMethod yX0_isDoor, .selects RX0 yX0_isDoor yX0_isDoor, .code yX0_isDoor cX0_isDoor 2 (some .boolean), .fieldLink RX0 78 "Stairflow" "doorCount" "I"] ++ wsX00 ++ (vx_atS RX0 168 "java/lang/IndexOutOfBoundsException" ["java/lang/RuntimeException", "java/lang/Exception"]).filter goodWord)
def wsL_distance : List Cond := .codeWith yL_distance cL_distance 4 (some .int) [(0, 9, 12, 21), (0, 9, 15, 44)] :: ([.classLink RL 21 "java/lang/IndexOutOfBoundsException", .classLink RL 44 "java/util/NoSuchElementException", .methodLink RL 49 yX0_distance, .instanceMethod yX0_distance, .selects RX0 yX0_distance yX0_distance, .initialized RX0, .code yX0_distance cX0_distance 2 (some .int), .fieldLink RX0 19 "Stairflow" "distanceOf" "[I", .methodLink RX0 74 yX0_requirePlace, .instanceMethod yX0_requirePlace, .selects RX0 yX0_requirePlace yX0_requirePlace, .code yX0_requirePlace cX0_requirePlace 2 none, .classLink RX0 164 "java/lang/IndexOutOfBoundsException", .initialized "java/lang/IndexOutOfBoundsException", .methodLink RX0 148 yX0_isPlace, .instanceMethod yX0_isPlace, .selects RX0 yX0_isPlace yX0_isPlace, .code yX0_isPlace cX0_isPlace 2 (some .boolean), .fieldLink RX0 53 "Stairflow" "placeCount" "I", .methodLink RX0 102 yX0_requireElement, .static yX0_requireElement, .code yX0_requireElement cX0_requireElement 1 none, .classLink RX0 183 "java/util/NoSuchElementException", .initialized "java/util/NoSuchElementException"] ++ wsX00 ++ (vx_atS RX0 168 "java/lang/IndexOutOfBoundsException" ["java/lang/RuntimeException", "java/lang/Exception"]).filter goodWord ++ (gNSat).filter goodWord)
def wsL_door : List Cond := .codeWith yL_door cL_door 4 (some .int) [(0, 9, 12, 21), (0, 9, 15, 44)] :: ([.classLink RL 21 "java/lang/IndexOutOfBoundsException", .classLink RL 44 "java/util/NoSuchElementException", .methodLink RL 52 yX0_door, .instanceMethod yX0_door, .selects RX0 yX0_door yX0_door, .initialized RX0, .code yX0_door cX0_door 2 (some .int), .fieldLink RX0 22 "Stairflow" "doorOf" "[I", .methodLink RX0 74 yX0_requirePlace, .instanceMethod yX0_requirePlace, .selects RX0 yX0_requirePlace yX0_requirePlace, .code yX0_requirePlace cX0_requirePlace 2 none, .classLink RX0 164 "java/lang/IndexOutOfBoundsException", .initialized "java/lang/IndexOutOfBoundsException", .methodLink RX0 148 yX0_isPlace, .instanceMethod yX0_isPlace, .selects RX0 yX0_isPlace yX0_isPlace, .code yX0_isPlace cX0_isPlace 2 (some .boolean), .fieldLink RX0 53 "Stairflow" "placeCount" "I", .methodLink RX0 102 yX0_requireElement, .static yX0_requireElement, .code yX0_requireElement cX0_requireElement 1 none, .classLink RX0 183 "java/util/NoSuchElementException", .initialized "java/util/NoSuchElementException"] ++ wsX00 ++ (vx_atS RX0 168 "java/lang/IndexOutOfBoundsException" ["java/lang/RuntimeException", "java/lang/Exception"]).filter goodWord ++ (gNSat).filter goodWord)
def wsL_wouldMove_r1 : List Cond := [Cond.classLink RL 21 "java/lang/IndexOutOfBoundsException", Cond.methodLink RL 55 yX0_wouldMove, Cond.instanceMethod yX0_wouldMove, Cond.selects RX0 yX0_wouldMove yX0_wouldMove, Cond.initialized RX0, Cond.code yX0_wouldMove cX0_wouldMove 3 (some .int), Cond.fieldLink RX0 22 "Stairflow" "doorOf" "[I", Cond.fieldLink RX0 50 "Stairflow" "grantedTo" "[I", Cond.methodLink RX0 74 yX0_requirePlace, Cond.instanceMethod yX0_requirePlace, Cond.selects RX0 yX0_requirePlace yX0_requirePlace, Cond.code yX0_requirePlace cX0_requirePlace 2 none, Cond.classLink RX0 164 "java/lang/IndexOutOfBoundsException", Cond.initialized "java/lang/IndexOutOfBoundsException", Cond.methodLink RX0 148 yX0_isPlace, Cond.instanceMethod yX0_isPlace, Cond.selects RX0 yX0_isPlace yX0_isPlace, Cond.code yX0_isPlace cX0_isPlace 2 (some .boolean), Cond.fieldLink RX0 53 "Stairflow" "placeCount" "I", Cond.methodLink RX0 108 yX0_isDoor, Cond.instanceMethod yX0_isDoor, Cond.selects RX0 yX0_isDoor yX0_isDoor, Cond.code yX0_isDoor cX0_isDoor 2 (some .boolean), Cond.fieldLink RX0 78 "Stairflow" "doorCount" "I"]
def wsL_wouldMove_r2 : List Cond := [Cond.methodLink RX0 112 yX0_grantAll, Cond.instanceMethod yX0_grantAll, Cond.selects RX0 yX0_grantAll yX0_grantAll, Cond.code yX0_grantAll cX0_grantAll 2 none, Cond.methodLink RX0 136 yX0_grantAt, Cond.instanceMethod yX0_grantAt, Cond.selects RX0 yX0_grantAt yX0_grantAt, Cond.code yX0_grantAt cX0_grantAt 5 none, Cond.methodLink RX0 84 yX0_roomLeft, Cond.instanceMethod yX0_roomLeft, Cond.selects RX0 yX0_roomLeft yX0_roomLeft, Cond.code yX0_roomLeft cX0_roomLeft 2 (some .int), Cond.constant RX0 153 (2147483647), Cond.fieldLink RX0 9 "Stairflow" "roomOf" "[I", Cond.fieldLink RX0 13 "Stairflow" "peopleAt" "[I", Cond.methodLink RX0 139 yX0_grantRound, Cond.instanceMethod yX0_grantRound, Cond.selects RX0 yX0_grantRound yX0_grantRound, Cond.code yX0_grantRound cX0_grantRound 7 (some .int), Cond.fieldLink RX0 47 "Stairflow" "targetOf" "[I", Cond.fieldLink RX0 34 "Stairflow" "shareOf" "[I", Cond.methodLink RX0 145 Lib.Math.min.name, Cond.static Lib.Math.min.name, Cond.initialized "java/lang/Math"]
def wsL_wouldMove_r3 : List Cond := [Cond.code Lib.Math.min.name Lib.Math.min.code 2 (some .int), Cond.methodLink RX0 142 yX0_wishBy, Cond.instanceMethod yX0_wishBy, Cond.selects RX0 yX0_wishBy yX0_wishBy, Cond.code yX0_wishBy cX0_wishBy 3 (some .int), Cond.fieldLink RX0 44 "Stairflow" "sourceOf" "[I", Cond.fieldLink RX0 16 "Stairflow" "releaseOf" "[I", Cond.fieldLink RX0 99 "Stairflow" "timeNow" "I", Cond.fieldLink RX0 31 "Stairflow" "flowOf" "[I"]
def wsL_wouldMove : List Cond := .codeWith yL_wouldMove cL_wouldMove 4 (some .int) [(0, 9, 12, 21)] :: ((wsL_wouldMove_r1 ++ (wsL_wouldMove_r2 ++ wsL_wouldMove_r3)) ++ wsX00 ++ (vx_atS RX0 168 "java/lang/IndexOutOfBoundsException" ["java/lang/RuntimeException", "java/lang/Exception"]).filter goodWord)
def wsL_bound_r1 : List Cond := [Cond.classLink RL 15 "java/lang/IllegalStateException", Cond.methodLink RL 58 yX0_bound, Cond.instanceMethod yX0_bound, Cond.selects RX0 yX0_bound yX0_bound, Cond.initialized RX0, Cond.code yX0_bound cX0_bound 3 (some .int), Cond.fieldLink RX0 53 "Stairflow" "placeCount" "I", Cond.methodLink RX0 121 Lib.Math.max.name, Cond.static Lib.Math.max.name, Cond.initialized "java/lang/Math", Cond.code Lib.Math.max.name Lib.Math.max.code 2 (some .int), Cond.methodLink RX0 115 yX0_trapped, Cond.instanceMethod yX0_trapped, Cond.selects RX0 yX0_trapped yX0_trapped, Cond.code yX0_trapped cX0_trapped 3 (some .int), Cond.fieldLink RX0 19 "Stairflow" "distanceOf" "[I", Cond.fieldLink RX0 13 "Stairflow" "peopleAt" "[I", Cond.methodLink RX0 68 yX0_requireState, Cond.static yX0_requireState, Cond.code yX0_requireState cX0_requireState 1 none, Cond.classLink RX0 178 "java/lang/IllegalStateException", Cond.initialized "java/lang/IllegalStateException", Cond.methodLink RX0 118 yX0_boundAt, Cond.instanceMethod yX0_boundAt]
def wsL_bound_r2 : List Cond := [Cond.selects RX0 yX0_boundAt yX0_boundAt, Cond.code yX0_boundAt cX0_boundAt 4 (some .int), Cond.methodLink RX0 127 yX0_peopleFrom, Cond.instanceMethod yX0_peopleFrom, Cond.selects RX0 yX0_peopleFrom yX0_peopleFrom, Cond.code yX0_peopleFrom cX0_peopleFrom 4 (some .int), Cond.methodLink RX0 130 yX0_flowInward, Cond.instanceMethod yX0_flowInward, Cond.selects RX0 yX0_flowInward yX0_flowInward, Cond.code yX0_flowInward cX0_flowInward 7 (some .int), Cond.fieldLink RX0 78 "Stairflow" "doorCount" "I", Cond.fieldLink RX0 25 "Stairflow" "oneEnd" "[I", Cond.fieldLink RX0 28 "Stairflow" "otherEnd" "[I", Cond.fieldLink RX0 37 "Stairflow" "isOpen" "[Z", Cond.fieldLink RX0 31 "Stairflow" "flowOf" "[I"]
def wsL_bound : List Cond := .codeWith yL_bound cL_bound 3 (some .int) [(0, 8, 11, 15)] :: ((wsL_bound_r1 ++ wsL_bound_r2) ++ wsX00 ++ (vx_atS RX0 182 "java/lang/IllegalStateException" ["java/lang/RuntimeException", "java/lang/Exception"]).filter goodWord)
def wsL_law0_r1 : List Cond := [Cond.classLink RL 8 RX0, Cond.instantiable RX0 19, Cond.initialized RX0, Cond.classLink RL 62 RX1, Cond.instantiable RX1 19, Cond.initialized RX1, Cond.arrayClass .long, Cond.methodLink RL 61 yX0_init, Cond.instanceMethod yX0_init, Cond.code yX0_init cX0_init 1 none, Cond.methodLink RX0 1 objectInit, Cond.instanceMethod objectInit, Cond.code objectInit ⟨#[0xb1]⟩ 1 none, Cond.arrayClass .int, Cond.fieldLink RX0 9 "Stairflow" "roomOf" "[I", Cond.fieldLink RX0 13 "Stairflow" "peopleAt" "[I", Cond.fieldLink RX0 16 "Stairflow" "releaseOf" "[I", Cond.fieldLink RX0 19 "Stairflow" "distanceOf" "[I", Cond.fieldLink RX0 22 "Stairflow" "doorOf" "[I", Cond.fieldLink RX0 25 "Stairflow" "oneEnd" "[I", Cond.fieldLink RX0 28 "Stairflow" "otherEnd" "[I", Cond.fieldLink RX0 31 "Stairflow" "flowOf" "[I", Cond.fieldLink RX0 34 "Stairflow" "shareOf" "[I", Cond.arrayClass .boolean]
def wsL_law0_r2 : List Cond := [Cond.fieldLink RX0 37 "Stairflow" "isOpen" "[Z", Cond.fieldLink RX0 41 "Stairflow" "passedBy" "[I", Cond.fieldLink RX0 44 "Stairflow" "sourceOf" "[I", Cond.fieldLink RX0 47 "Stairflow" "targetOf" "[I", Cond.fieldLink RX0 50 "Stairflow" "grantedTo" "[I", Cond.fieldLink RX0 53 "Stairflow" "placeCount" "I", Cond.fieldLink RX0 57 "Stairflow" "latestTime" "I", Cond.methodLink RL 64 yX1_init, Cond.instanceMethod yX1_init, Cond.code yX1_init cX1_init 1 none, Cond.methodLink RX1 1 objectInit, Cond.fieldLink RX1 7 "StairflowModel" "places" "I", Cond.fieldLink RX1 13 "StairflowModel" "rooms" "[I", Cond.fieldLink RX1 17 "StairflowModel" "people" "[I", Cond.fieldLink RX1 20 "StairflowModel" "releases" "[I", Cond.fieldLink RX1 23 "StairflowModel" "ones" "[I", Cond.fieldLink RX1 26 "StairflowModel" "others" "[I", Cond.fieldLink RX1 29 "StairflowModel" "flows" "[I", Cond.fieldLink RX1 32 "StairflowModel" "shares" "[I", Cond.fieldLink RX1 35 "StairflowModel" "isOpen" "[Z", Cond.fieldLink RX1 39 "StairflowModel" "passed" "[I", Cond.fieldLink RX1 42 "StairflowModel" "lastOut" "I", Cond.fieldLink RX1 45 "StairflowModel" "far" "[I", Cond.fieldLink RX1 48 "StairflowModel" "wishes" "[I"]
def wsL_law0_r3 : List Cond := [Cond.fieldLink RX1 51 "StairflowModel" "grants" "[I", Cond.fieldLink RX1 54 "StairflowModel" "goals" "[I", Cond.methodLink RL 65 yL_addPlace, Cond.static yL_addPlace, Cond.initialized RL, Cond.codeWith yL_addPlace cL_addPlace 4 (some .int) [(0, 9, 12, 13), (0, 9, 15, 15)], Cond.classLink RL 13 "java/lang/IllegalArgumentException", Cond.classLink RL 15 "java/lang/IllegalStateException", Cond.methodLink RL 7 yX0_addPlace, Cond.instanceMethod yX0_addPlace, Cond.selects RX0 yX0_addPlace yX0_addPlace, Cond.code yX0_addPlace cX0_addPlace 3 (some .int), Cond.methodLink RX0 60 yX0_isBetween, Cond.static yX0_isBetween, Cond.code yX0_isBetween cX0_isBetween 3 (some .boolean), Cond.methodLink RX0 64 yX0_requireArgument, Cond.static yX0_requireArgument, Cond.code yX0_requireArgument cX0_requireArgument 1 none, Cond.classLink RX0 173 "java/lang/IllegalArgumentException", Cond.initialized "java/lang/IllegalArgumentException", Cond.methodLink RX0 68 yX0_requireState, Cond.static yX0_requireState, Cond.code yX0_requireState cX0_requireState 1 none, Cond.classLink RX0 178 "java/lang/IllegalStateException"]
def wsL_law0_r4 : List Cond := [Cond.initialized "java/lang/IllegalStateException", Cond.methodLink RX0 71 yX0_findWays, Cond.instanceMethod yX0_findWays, Cond.selects RX0 yX0_findWays yX0_findWays, Cond.code yX0_findWays cX0_findWays 2 none, Cond.fieldLink RX0 78 "Stairflow" "doorCount" "I", Cond.methodLink RX0 154 yX0_measureDistances, Cond.instanceMethod yX0_measureDistances, Cond.selects RX0 yX0_measureDistances yX0_measureDistances, Cond.code yX0_measureDistances cX0_measureDistances 3 none, Cond.methodLink RX0 161 yX0_reach, Cond.instanceMethod yX0_reach, Cond.selects RX0 yX0_reach yX0_reach, Cond.code yX0_reach cX0_reach 4 none, Cond.methodLink RX0 157 yX0_offerDoor, Cond.instanceMethod yX0_offerDoor, Cond.selects RX0 yX0_offerDoor yX0_offerDoor, Cond.code yX0_offerDoor cX0_offerDoor 5 none, Cond.methodLink RL 70 yX1_addPlace, Cond.instanceMethod yX1_addPlace, Cond.selects RX1 yX1_addPlace yX1_addPlace, Cond.code yX1_addPlace cX1_addPlace 2 (some .int), Cond.methodLink RX1 60 yX1_in, Cond.static yX1_in]
def wsL_law0_r5 : List Cond := [Cond.code yX1_in cX1_in 3 (some .boolean), Cond.methodLink RX1 67 yX1_goesWell, Cond.instanceMethod yX1_goesWell, Cond.selects RX1 yX1_goesWell yX1_goesWell, Cond.code yX1_goesWell cX1_goesWell 2 (some .boolean), Cond.fieldLink RX1 57 "StairflowModel" "thrown" "I", Cond.methodLink RL 71 yX1_thrown, Cond.instanceMethod yX1_thrown, Cond.selects RX1 yX1_thrown yX1_thrown, Cond.code yX1_thrown cX1_thrown 1 (some .int), Cond.methodLink RL 74 yL_addDoor, Cond.static yL_addDoor, Cond.codeWith yL_addDoor cL_addDoor 7 (some .int) [(0, 14, 17, 21), (0, 14, 21, 13), (0, 14, 25, 15)], Cond.classLink RL 21 "java/lang/IndexOutOfBoundsException", Cond.methodLink RL 17 yX0_addDoor, Cond.instanceMethod yX0_addDoor, Cond.selects RX0 yX0_addDoor yX0_addDoor, Cond.code yX0_addDoor cX0_addDoor 6 (some .int), Cond.methodLink RX0 74 yX0_requirePlace, Cond.instanceMethod yX0_requirePlace, Cond.selects RX0 yX0_requirePlace yX0_requirePlace, Cond.code yX0_requirePlace cX0_requirePlace 2 none, Cond.classLink RX0 164 "java/lang/IndexOutOfBoundsException", Cond.initialized "java/lang/IndexOutOfBoundsException"]
def wsL_law0_r6 : List Cond := [Cond.methodLink RX0 148 yX0_isPlace, Cond.instanceMethod yX0_isPlace, Cond.selects RX0 yX0_isPlace yX0_isPlace, Cond.code yX0_isPlace cX0_isPlace 2 (some .boolean), Cond.methodLink RL 77 yX1_addDoor, Cond.instanceMethod yX1_addDoor, Cond.selects RX1 yX1_addDoor yX1_addDoor, Cond.code yX1_addDoor cX1_addDoor 6 (some .int), Cond.fieldLink RX1 64 "StairflowModel" "doors" "I", Cond.methodLink RX1 71 yX1_isPlace, Cond.instanceMethod yX1_isPlace, Cond.selects RX1 yX1_isPlace yX1_isPlace, Cond.code yX1_isPlace cX1_isPlace 2 (some .boolean), Cond.methodLink RL 78 yL_setDoor, Cond.static yL_setDoor, Cond.codeWith yL_setDoor cL_setDoor 5 (some .int) [(0, 17, 20, 21)], Cond.methodLink RL 23 yX0_setDoor, Cond.instanceMethod yX0_setDoor, Cond.selects RX0 yX0_setDoor yX0_setDoor, Cond.code yX0_setDoor cX0_setDoor 4 (some .boolean), Cond.methodLink RX0 81 yX0_requireDoor, Cond.instanceMethod yX0_requireDoor, Cond.selects RX0 yX0_requireDoor yX0_requireDoor, Cond.code yX0_requireDoor cX0_requireDoor 2 none]
def wsL_law0_r7 : List Cond := [Cond.methodLink RX0 108 yX0_isDoor, Cond.instanceMethod yX0_isDoor, Cond.selects RX0 yX0_isDoor yX0_isDoor, Cond.code yX0_isDoor cX0_isDoor 2 (some .boolean), Cond.methodLink RL 81 yX1_setDoor, Cond.instanceMethod yX1_setDoor, Cond.selects RX1 yX1_setDoor yX1_setDoor, Cond.code yX1_setDoor cX1_setDoor 4 (some .boolean), Cond.methodLink RX1 74 yX1_isDoor, Cond.instanceMethod yX1_isDoor, Cond.selects RX1 yX1_isDoor yX1_isDoor, Cond.code yX1_isDoor cX1_isDoor 2 (some .boolean), Cond.methodLink RL 82 yL_come, Cond.static yL_come, Cond.codeWith yL_come cL_come 5 (some .int) [(0, 10, 13, 21), (0, 10, 17, 13), (0, 10, 21, 15)], Cond.methodLink RL 27 yX0_come, Cond.instanceMethod yX0_come, Cond.selects RX0 yX0_come yX0_come, Cond.code yX0_come cX0_come 3 (some .int), Cond.methodLink RX0 84 yX0_roomLeft, Cond.instanceMethod yX0_roomLeft, Cond.selects RX0 yX0_roomLeft yX0_roomLeft, Cond.code yX0_roomLeft cX0_roomLeft 2 (some .int), Cond.constant RX0 153 (2147483647)]
def wsL_law0_r8 : List Cond := [Cond.methodLink RL 85 yX1_come, Cond.instanceMethod yX1_come, Cond.selects RX1 yX1_come yX1_come, Cond.code yX1_come cX1_come 5 (some .int), Cond.methodLink RL 86 yL_setRelease, Cond.static yL_setRelease, Cond.codeWith yL_setRelease cL_setRelease 5 (some .int) [(0, 10, 13, 21), (0, 10, 17, 13)], Cond.methodLink RL 31 yX0_setRelease, Cond.instanceMethod yX0_setRelease, Cond.selects RX0 yX0_setRelease yX0_setRelease, Cond.code yX0_setRelease cX0_setRelease 4 (some .int), Cond.methodLink RL 88 yX1_setRelease, Cond.instanceMethod yX1_setRelease, Cond.selects RX1 yX1_setRelease yX1_setRelease, Cond.code yX1_setRelease cX1_setRelease 4 (some .int), Cond.methodLink RL 89 yX0_places, Cond.instanceMethod yX0_places, Cond.selects RX0 yX0_places yX0_places, Cond.code yX0_places cX0_places 1 (some .int), Cond.methodLink RL 92 yX1_places, Cond.instanceMethod yX1_places, Cond.selects RX1 yX1_places yX1_places, Cond.code yX1_places cX1_places 1 (some .int), Cond.methodLink RL 93 yX0_doors]
def wsL_law0_r9 : List Cond := [Cond.instanceMethod yX0_doors, Cond.selects RX0 yX0_doors yX0_doors, Cond.code yX0_doors cX0_doors 1 (some .int), Cond.methodLink RL 96 yX1_doors, Cond.instanceMethod yX1_doors, Cond.selects RX1 yX1_doors yX1_doors, Cond.code yX1_doors cX1_doors 1 (some .int), Cond.methodLink RL 97 yL_step, Cond.static yL_step, Cond.codeWith yL_step cL_step 4 (some .int) [(0, 9, 12, 13)], Cond.methodLink RL 34 yX0_step, Cond.instanceMethod yX0_step, Cond.selects RX0 yX0_step yX0_step, Cond.code yX0_step cX0_step 4 (some .int), Cond.methodLink RX0 88 yX0_passOneStep, Cond.instanceMethod yX0_passOneStep, Cond.selects RX0 yX0_passOneStep yX0_passOneStep, Cond.code yX0_passOneStep cX0_passOneStep 3 (some .int), Cond.fieldLink RX0 99 "Stairflow" "timeNow" "I", Cond.fieldLink RX0 105 "Stairflow" "waitedSum" "I", Cond.methodLink RX0 112 yX0_grantAll, Cond.instanceMethod yX0_grantAll, Cond.selects RX0 yX0_grantAll yX0_grantAll, Cond.code yX0_grantAll cX0_grantAll 2 none]
def wsL_law0_r10 : List Cond := [Cond.methodLink RX0 136 yX0_grantAt, Cond.instanceMethod yX0_grantAt, Cond.selects RX0 yX0_grantAt yX0_grantAt, Cond.code yX0_grantAt cX0_grantAt 5 none, Cond.methodLink RX0 139 yX0_grantRound, Cond.instanceMethod yX0_grantRound, Cond.selects RX0 yX0_grantRound yX0_grantRound, Cond.code yX0_grantRound cX0_grantRound 7 (some .int), Cond.methodLink RX0 145 Lib.Math.min.name, Cond.static Lib.Math.min.name, Cond.initialized "java/lang/Math", Cond.code Lib.Math.min.name Lib.Math.min.code 2 (some .int), Cond.methodLink RX0 142 yX0_wishBy, Cond.instanceMethod yX0_wishBy, Cond.selects RX0 yX0_wishBy yX0_wishBy, Cond.code yX0_wishBy cX0_wishBy 3 (some .int), Cond.methodLink RX0 133 yX0_moveGranted, Cond.instanceMethod yX0_moveGranted, Cond.selects RX0 yX0_moveGranted yX0_moveGranted, Cond.code yX0_moveGranted cX0_moveGranted 5 (some .int), Cond.methodLink RX0 92 yX0_inside, Cond.instanceMethod yX0_inside, Cond.selects RX0 yX0_inside yX0_inside, Cond.code yX0_inside cX0_inside 3 (some .int)]
def wsL_law0_r11 : List Cond := [Cond.methodLink RL 99 yX1_step, Cond.instanceMethod yX1_step, Cond.selects RX1 yX1_step yX1_step, Cond.code yX1_step cX1_step 5 (some .int), Cond.methodLink RX1 112 yX1_go, Cond.instanceMethod yX1_go, Cond.selects RX1 yX1_go yX1_go, Cond.code yX1_go cX1_go 3 (some .int), Cond.fieldLink RX1 92 "StairflowModel" "time" "I", Cond.fieldLink RX1 105 "StairflowModel" "waited" "I", Cond.methodLink RX1 102 yX1_decide, Cond.instanceMethod yX1_decide, Cond.selects RX1 yX1_decide yX1_decide, Cond.code yX1_decide cX1_decide 2 none, Cond.methodLink RX1 95 yX1_wish, Cond.instanceMethod yX1_wish, Cond.selects RX1 yX1_wish yX1_wish, Cond.code yX1_wish cX1_wish 3 none, Cond.methodLink RX1 85 yX1_measure, Cond.instanceMethod yX1_measure, Cond.selects RX1 yX1_measure yX1_measure, Cond.code yX1_measure cX1_measure 3 none, Cond.methodLink RX1 77 yX1_reach, Cond.instanceMethod yX1_reach]
def wsL_law0_r12 : List Cond := [Cond.selects RX1 yX1_reach yX1_reach, Cond.code yX1_reach cX1_reach 5 none, Cond.methodLink RX1 88 yX1_doorOf, Cond.instanceMethod yX1_doorOf, Cond.selects RX1 yX1_doorOf yX1_doorOf, Cond.code yX1_doorOf cX1_doorOf 4 (some .int), Cond.methodLink RX1 81 yX1_beyond, Cond.instanceMethod yX1_beyond, Cond.selects RX1 yX1_beyond yX1_beyond, Cond.code yX1_beyond cX1_beyond 3 (some .int), Cond.methodLink RX1 98 yX1_grant, Cond.instanceMethod yX1_grant, Cond.selects RX1 yX1_grant yX1_grant, Cond.code yX1_grant cX1_grant 7 none, Cond.methodLink RX1 108 yX1_insideNow, Cond.instanceMethod yX1_insideNow, Cond.selects RX1 yX1_insideNow yX1_insideNow, Cond.code yX1_insideNow cX1_insideNow 3 (some .int), Cond.methodLink RL 100 yX0_clear, Cond.instanceMethod yX0_clear, Cond.selects RX0 yX0_clear yX0_clear, Cond.code yX0_clear cX0_clear 5 (some .int), Cond.methodLink RX0 95 yX0_areAllReleased, Cond.instanceMethod yX0_areAllReleased]
def wsL_law0_r13 : List Cond := [Cond.selects RX0 yX0_areAllReleased yX0_areAllReleased, Cond.code yX0_areAllReleased cX0_areAllReleased 2 (some .boolean), Cond.methodLink RL 103 yX1_clear, Cond.instanceMethod yX1_clear, Cond.selects RX1 yX1_clear yX1_clear, Cond.code yX1_clear cX1_clear 5 (some .int), Cond.methodLink RL 104 yX0_now, Cond.instanceMethod yX0_now, Cond.selects RX0 yX0_now yX0_now, Cond.code yX0_now cX0_now 1 (some .int), Cond.methodLink RL 107 yX1_now, Cond.instanceMethod yX1_now, Cond.selects RX1 yX1_now yX1_now, Cond.code yX1_now cX1_now 1 (some .int), Cond.methodLink RL 108 yL_people, Cond.static yL_people, Cond.codeWith yL_people cL_people 4 (some .int) [(0, 9, 12, 21)], Cond.methodLink RL 37 yX0_people, Cond.instanceMethod yX0_people, Cond.selects RX0 yX0_people yX0_people, Cond.code yX0_people cX0_people 2 (some .int), Cond.methodLink RL 110 yX1_people, Cond.instanceMethod yX1_people, Cond.selects RX1 yX1_people yX1_people]
def wsL_law0_r14 : List Cond := [Cond.code yX1_people cX1_people 2 (some .int), Cond.methodLink RL 111 yX0_inside, Cond.methodLink RL 114 yX1_inside, Cond.instanceMethod yX1_inside, Cond.selects RX1 yX1_inside yX1_inside, Cond.code yX1_inside cX1_inside 1 (some .int), Cond.methodLink RL 115 yL_latest, Cond.static yL_latest, Cond.codeWith yL_latest cL_latest 3 (some .int) [(0, 8, 11, 44)], Cond.classLink RL 44 "java/util/NoSuchElementException", Cond.methodLink RL 40 yX0_latest, Cond.instanceMethod yX0_latest, Cond.selects RX0 yX0_latest yX0_latest, Cond.code yX0_latest cX0_latest 1 (some .int), Cond.methodLink RX0 102 yX0_requireElement, Cond.static yX0_requireElement, Cond.code yX0_requireElement cX0_requireElement 1 none, Cond.classLink RX0 183 "java/util/NoSuchElementException", Cond.initialized "java/util/NoSuchElementException", Cond.methodLink RL 118 yX1_latest, Cond.instanceMethod yX1_latest, Cond.selects RX1 yX1_latest yX1_latest, Cond.code yX1_latest cX1_latest 1 (some .int), Cond.methodLink RL 119 yL_passed]
def wsL_law0_r15 : List Cond := [Cond.static yL_passed, Cond.codeWith yL_passed cL_passed 4 (some .int) [(0, 9, 12, 21)], Cond.methodLink RL 46 yX0_passed, Cond.instanceMethod yX0_passed, Cond.selects RX0 yX0_passed yX0_passed, Cond.code yX0_passed cX0_passed 2 (some .int), Cond.methodLink RL 121 yX1_passed, Cond.instanceMethod yX1_passed, Cond.selects RX1 yX1_passed yX1_passed, Cond.code yX1_passed cX1_passed 2 (some .int), Cond.methodLink RL 122 yX0_waited, Cond.instanceMethod yX0_waited, Cond.selects RX0 yX0_waited yX0_waited, Cond.code yX0_waited cX0_waited 1 (some .int), Cond.methodLink RL 125 yX1_waited, Cond.instanceMethod yX1_waited, Cond.selects RX1 yX1_waited yX1_waited, Cond.code yX1_waited cX1_waited 1 (some .int), Cond.methodLink RL 126 yL_distance, Cond.static yL_distance, Cond.codeWith yL_distance cL_distance 4 (some .int) [(0, 9, 12, 21), (0, 9, 15, 44)], Cond.methodLink RL 49 yX0_distance, Cond.instanceMethod yX0_distance, Cond.selects RX0 yX0_distance yX0_distance]
def wsL_law0_r16 : List Cond := [Cond.code yX0_distance cX0_distance 2 (some .int), Cond.methodLink RL 128 yX1_distance, Cond.instanceMethod yX1_distance, Cond.selects RX1 yX1_distance yX1_distance, Cond.code yX1_distance cX1_distance 2 (some .int), Cond.methodLink RL 129 yL_door, Cond.static yL_door, Cond.codeWith yL_door cL_door 4 (some .int) [(0, 9, 12, 21), (0, 9, 15, 44)], Cond.methodLink RL 52 yX0_door, Cond.instanceMethod yX0_door, Cond.selects RX0 yX0_door yX0_door, Cond.code yX0_door cX0_door 2 (some .int), Cond.methodLink RL 131 yX1_door, Cond.instanceMethod yX1_door, Cond.selects RX1 yX1_door yX1_door, Cond.code yX1_door cX1_door 3 (some .int), Cond.methodLink RL 132 yX0_trapped, Cond.instanceMethod yX0_trapped, Cond.selects RX0 yX0_trapped yX0_trapped, Cond.code yX0_trapped cX0_trapped 3 (some .int), Cond.methodLink RL 135 yX1_trapped, Cond.instanceMethod yX1_trapped, Cond.selects RX1 yX1_trapped yX1_trapped, Cond.code yX1_trapped cX1_trapped 1 (some .int)]
def wsL_law0_r17 : List Cond := [Cond.methodLink RX1 115 yX1_trappedNow, Cond.instanceMethod yX1_trappedNow, Cond.selects RX1 yX1_trappedNow yX1_trappedNow, Cond.code yX1_trappedNow cX1_trappedNow 3 (some .int), Cond.methodLink RL 136 yL_wouldMove, Cond.static yL_wouldMove, Cond.codeWith yL_wouldMove cL_wouldMove 4 (some .int) [(0, 9, 12, 21)], Cond.methodLink RL 55 yX0_wouldMove, Cond.instanceMethod yX0_wouldMove, Cond.selects RX0 yX0_wouldMove yX0_wouldMove, Cond.code yX0_wouldMove cX0_wouldMove 3 (some .int), Cond.methodLink RL 138 yX1_wouldMove, Cond.instanceMethod yX1_wouldMove, Cond.selects RX1 yX1_wouldMove yX1_wouldMove, Cond.code yX1_wouldMove cX1_wouldMove 3 (some .int), Cond.methodLink RL 139 yL_bound, Cond.static yL_bound, Cond.codeWith yL_bound cL_bound 3 (some .int) [(0, 8, 11, 15)], Cond.methodLink RL 58 yX0_bound, Cond.instanceMethod yX0_bound, Cond.selects RX0 yX0_bound yX0_bound, Cond.code yX0_bound cX0_bound 3 (some .int), Cond.methodLink RX0 121 Lib.Math.max.name, Cond.static Lib.Math.max.name]
def wsL_law0_r18 : List Cond := [Cond.code Lib.Math.max.name Lib.Math.max.code 2 (some .int), Cond.methodLink RX0 115 yX0_trapped, Cond.methodLink RX0 118 yX0_boundAt, Cond.instanceMethod yX0_boundAt, Cond.selects RX0 yX0_boundAt yX0_boundAt, Cond.code yX0_boundAt cX0_boundAt 4 (some .int), Cond.methodLink RX0 127 yX0_peopleFrom, Cond.instanceMethod yX0_peopleFrom, Cond.selects RX0 yX0_peopleFrom yX0_peopleFrom, Cond.code yX0_peopleFrom cX0_peopleFrom 4 (some .int), Cond.methodLink RX0 130 yX0_flowInward, Cond.instanceMethod yX0_flowInward, Cond.selects RX0 yX0_flowInward yX0_flowInward, Cond.code yX0_flowInward cX0_flowInward 7 (some .int), Cond.methodLink RL 141 yX1_bound, Cond.instanceMethod yX1_bound, Cond.selects RX1 yX1_bound yX1_bound, Cond.code yX1_bound cX1_bound 8 (some .int)]
def wsL_law0 : List Cond := (wsL_law0_r1 ++ (wsL_law0_r2 ++ (wsL_law0_r3 ++ (wsL_law0_r4 ++ (wsL_law0_r5 ++ (wsL_law0_r6 ++ (wsL_law0_r7 ++ (wsL_law0_r8 ++ (wsL_law0_r9 ++ (wsL_law0_r10 ++ (wsL_law0_r11 ++ (wsL_law0_r12 ++ (wsL_law0_r13 ++ (wsL_law0_r14 ++ (wsL_law0_r15 ++ (wsL_law0_r16 ++ (wsL_law0_r17 ++ wsL_law0_r18))))))))))))))))) ++ wsX00 ++ wsX10 ++ ([] : List Cond)
def wsL_law : List Cond := wsL_law0 ++ (vx_atS RX0 177 "java/lang/IllegalArgumentException" ["java/lang/RuntimeException", "java/lang/Exception"]).filter goodWord ++ (vx_atS RX0 182 "java/lang/IllegalStateException" ["java/lang/RuntimeException", "java/lang/Exception"]).filter goodWord ++ (vx_atS RX0 168 "java/lang/IndexOutOfBoundsException" ["java/lang/RuntimeException", "java/lang/Exception"]).filter goodWord ++ (gNSat).filter goodWord
theorem inJx145de : ∀ w ∈ wsJx145de0, w ∈ lw_tbl := by decide +kernel
theorem inJ9 : ∀ w ∈ wsJ90, w ∈ lw_tbl := by decide +kernel
theorem inJ0 : ∀ w ∈ wsJ00, w ∈ lw_tbl := by decide +kernel
set_option maxRecDepth 20000 in
theorem ggX0_addPlace_X0_isBetween : GoodIn wsX0_addPlace wsX0_isBetween := goodIn_r _ [6] (by decide +kernel) (by decide +kernel)
set_option maxRecDepth 20000 in
theorem gX0_addPlace_X0_isBetween : GoodIn wsX0_addPlace (va_wsS RX0 60 yX0_isBetween wsX0_isBetween) := goodIn_app (goodIn_of _ (by decide +kernel)) ggX0_addPlace_X0_isBetween
set_option maxRecDepth 20000 in
theorem ggX0_addPlace_X0_requireArgument : GoodIn wsX0_addPlace wsX0_requireArgument := goodIn_ca (goodIn_r _ [9, 10, 11] (by decide +kernel) (by decide +kernel)) (goodIn_sub (fun _ h => List.mem_cons_of_mem _ (List.mem_append_left _ (List.mem_append_right _ h))) (by decide +kernel))
set_option maxRecDepth 20000 in
theorem gX0_addPlace_X0_requireArgument : GoodIn wsX0_addPlace (va_wsS RX0 64 yX0_requireArgument wsX0_requireArgument) := goodIn_app (goodIn_of _ (by decide +kernel)) ggX0_addPlace_X0_requireArgument
set_option maxRecDepth 20000 in
theorem ggX0_addPlace_X0_requireState : GoodIn wsX0_addPlace wsX0_requireState := goodIn_ca (goodIn_r _ [14, 15, 16] (by decide +kernel) (by decide +kernel)) (goodIn_sub (fun _ h => List.mem_cons_of_mem _ (List.mem_append_right _ h)) (by decide +kernel))
set_option maxRecDepth 20000 in
theorem gX0_addPlace_X0_requireState : GoodIn wsX0_addPlace (va_wsS RX0 68 yX0_requireState wsX0_requireState) := goodIn_app (goodIn_of _ (by decide +kernel)) ggX0_addPlace_X0_requireState
set_option maxRecDepth 20000 in
theorem ggX0_addPlace_X0_findWays : GoodIn wsX0_addPlace wsX0_findWays := goodIn_r _ [20, 1, 21, 22, 23, 24, 25, 26, 27, 28, 29, 5, 30, 31, 32, 33, 34, 35, 36, 37, 38, 39, 40, 41, 42, 43, 44, 45, 46, 47, 48, 49, 50, 51, 52, 53, 54, 55, 56, 57, 58, 59] (by decide +kernel) (by decide +kernel)
set_option maxRecDepth 20000 in
theorem gX0_addPlace_X0_findWays : GoodIn wsX0_addPlace (wsV RX0 71 RX0 yX0_findWays wsX0_findWays) := goodIn_app (goodIn_of _ (by decide +kernel)) ggX0_addPlace_X0_findWays
set_option maxRecDepth 20000 in
theorem ggX0_addDoor_X0_requirePlace : GoodIn wsX0_addDoor wsX0_requirePlace := goodIn_ca (goodIn_r _ [11, 12, 13, 14, 15, 16, 10, 17, 18, 52, 53, 54, 55, 56, 57, 58, 59, 60, 61, 62, 63, 64, 65, 66, 67, 68, 69, 70] (by decide +kernel) (by decide +kernel)) (goodIn_sub (fun _ h => List.mem_cons_of_mem _ (List.mem_append_left _ (List.mem_append_left _ (List.mem_append_right _ h)))) (by decide +kernel))
set_option maxRecDepth 20000 in
theorem gX0_addDoor_X0_requirePlace : GoodIn wsX0_addDoor (wsV RX0 74 RX0 yX0_requirePlace wsX0_requirePlace) := goodIn_app (goodIn_of _ (by decide +kernel)) ggX0_addDoor_X0_requirePlace
set_option maxRecDepth 20000 in
theorem ggX0_addDoor_X0_isBetween : GoodIn wsX0_addDoor wsX0_isBetween := goodIn_r _ [21] (by decide +kernel) (by decide +kernel)
set_option maxRecDepth 20000 in
theorem gX0_addDoor_X0_isBetween : GoodIn wsX0_addDoor (va_wsS RX0 60 yX0_isBetween wsX0_isBetween) := goodIn_app (goodIn_of _ (by decide +kernel)) ggX0_addDoor_X0_isBetween
set_option maxRecDepth 20000 in
theorem ggX0_addDoor_X0_requireArgument : GoodIn wsX0_addDoor wsX0_requireArgument := goodIn_ca (goodIn_r _ [24, 25, 26] (by decide +kernel) (by decide +kernel)) (goodIn_sub (fun _ h => List.mem_cons_of_mem _ (List.mem_append_left _ (List.mem_append_right _ h))) (by decide +kernel))
set_option maxRecDepth 20000 in
theorem gX0_addDoor_X0_requireArgument : GoodIn wsX0_addDoor (va_wsS RX0 64 yX0_requireArgument wsX0_requireArgument) := goodIn_app (goodIn_of _ (by decide +kernel)) ggX0_addDoor_X0_requireArgument
set_option maxRecDepth 20000 in
theorem ggX0_addDoor_X0_requireState : GoodIn wsX0_addDoor wsX0_requireState := goodIn_ca (goodIn_r _ [29, 30, 31] (by decide +kernel) (by decide +kernel)) (goodIn_sub (fun _ h => List.mem_cons_of_mem _ (List.mem_append_right _ h)) (by decide +kernel))
set_option maxRecDepth 20000 in
theorem gX0_addDoor_X0_requireState : GoodIn wsX0_addDoor (va_wsS RX0 68 yX0_requireState wsX0_requireState) := goodIn_app (goodIn_of _ (by decide +kernel)) ggX0_addDoor_X0_requireState
set_option maxRecDepth 20000 in
theorem ggX0_addDoor_X0_findWays : GoodIn wsX0_addDoor wsX0_findWays := goodIn_r _ [35, 18, 36, 1, 37, 38, 2, 3, 39, 40, 41, 10, 42, 43, 6, 44, 45, 46, 47, 48, 49, 50, 51, 52, 53, 54, 55, 56, 57, 58, 59, 60, 61, 62, 63, 64, 65, 66, 67, 68, 69, 70] (by decide +kernel) (by decide +kernel)
set_option maxRecDepth 20000 in
theorem gX0_addDoor_X0_findWays : GoodIn wsX0_addDoor (wsV RX0 71 RX0 yX0_findWays wsX0_findWays) := goodIn_app (goodIn_of _ (by decide +kernel)) ggX0_addDoor_X0_findWays
set_option maxRecDepth 20000 in
theorem ggX0_setDoor_X0_requireDoor : GoodIn wsX0_setDoor wsX0_requireDoor := goodIn_ca (goodIn_r _ [6, 7, 8, 9, 10, 11, 5, 12, 13, 37, 38, 39, 40, 41, 42, 43, 44, 45, 46, 47, 48, 49, 50, 51, 52, 53, 54, 55] (by decide +kernel) (by decide +kernel)) (goodIn_sub (fun _ h => List.mem_cons_of_mem _ (List.mem_append_right _ h)) (by decide +kernel))
set_option maxRecDepth 20000 in
theorem gX0_setDoor_X0_requireDoor : GoodIn wsX0_setDoor (wsV RX0 81 RX0 yX0_requireDoor wsX0_requireDoor) := goodIn_app (goodIn_of _ (by decide +kernel)) ggX0_setDoor_X0_requireDoor
set_option maxRecDepth 20000 in
theorem ggX0_setDoor_X0_findWays : GoodIn wsX0_setDoor wsX0_findWays := goodIn_r _ [17, 18, 19, 13, 20, 21, 22, 23, 24, 25, 26, 5, 27, 28, 1, 29, 30, 31, 32, 33, 34, 35, 36, 37, 38, 39, 40, 41, 42, 43, 44, 45, 46, 47, 48, 49, 50, 51, 52, 53, 54, 55] (by decide +kernel) (by decide +kernel)
set_option maxRecDepth 20000 in
theorem gX0_setDoor_X0_findWays : GoodIn wsX0_setDoor (wsV RX0 71 RX0 yX0_findWays wsX0_findWays) := goodIn_app (goodIn_of _ (by decide +kernel)) ggX0_setDoor_X0_findWays
set_option maxRecDepth 20000 in
theorem ggX0_come_X0_requirePlace : GoodIn wsX0_come wsX0_requirePlace := goodIn_ca (goodIn_r _ [6, 7, 8, 9, 10, 11, 5, 12, 13, 33, 34, 35, 36, 37, 38, 39, 40, 41, 42, 43, 44, 45, 46, 47, 48, 49, 50, 51] (by decide +kernel) (by decide +kernel)) (goodIn_sub (fun _ h => List.mem_cons_of_mem _ (List.mem_append_left _ (List.mem_append_left _ (List.mem_append_right _ h)))) (by decide +kernel))
set_option maxRecDepth 20000 in
theorem gX0_come_X0_requirePlace : GoodIn wsX0_come (wsV RX0 74 RX0 yX0_requirePlace wsX0_requirePlace) := goodIn_app (goodIn_of _ (by decide +kernel)) ggX0_come_X0_requirePlace
set_option maxRecDepth 20000 in
theorem ggX0_come_X0_isBetween : GoodIn wsX0_come wsX0_isBetween := goodIn_r _ [16] (by decide +kernel) (by decide +kernel)
set_option maxRecDepth 20000 in
theorem gX0_come_X0_isBetween : GoodIn wsX0_come (va_wsS RX0 60 yX0_isBetween wsX0_isBetween) := goodIn_app (goodIn_of _ (by decide +kernel)) ggX0_come_X0_isBetween
set_option maxRecDepth 20000 in
theorem ggX0_come_X0_requireArgument : GoodIn wsX0_come wsX0_requireArgument := goodIn_ca (goodIn_r _ [19, 20, 21] (by decide +kernel) (by decide +kernel)) (goodIn_sub (fun _ h => List.mem_cons_of_mem _ (List.mem_append_left _ (List.mem_append_right _ h))) (by decide +kernel))
set_option maxRecDepth 20000 in
theorem gX0_come_X0_requireArgument : GoodIn wsX0_come (va_wsS RX0 64 yX0_requireArgument wsX0_requireArgument) := goodIn_app (goodIn_of _ (by decide +kernel)) ggX0_come_X0_requireArgument
set_option maxRecDepth 20000 in
theorem ggX0_come_X0_roomLeft : GoodIn wsX0_come wsX0_roomLeft := goodIn_r _ [25, 26, 27, 1, 33, 34, 35, 36, 37, 38, 39, 40, 41, 42, 43, 44, 45, 46, 47, 48, 49, 50, 51] (by decide +kernel) (by decide +kernel)
set_option maxRecDepth 20000 in
theorem gX0_come_X0_roomLeft : GoodIn wsX0_come (wsV RX0 84 RX0 yX0_roomLeft wsX0_roomLeft) := goodIn_app (goodIn_of _ (by decide +kernel)) ggX0_come_X0_roomLeft
set_option maxRecDepth 20000 in
theorem ggX0_come_X0_requireState : GoodIn wsX0_come wsX0_requireState := goodIn_ca (goodIn_r _ [30, 31, 32] (by decide +kernel) (by decide +kernel)) (goodIn_sub (fun _ h => List.mem_cons_of_mem _ (List.mem_append_right _ h)) (by decide +kernel))
set_option maxRecDepth 20000 in
theorem gX0_come_X0_requireState : GoodIn wsX0_come (va_wsS RX0 68 yX0_requireState wsX0_requireState) := goodIn_app (goodIn_of _ (by decide +kernel)) ggX0_come_X0_requireState
set_option maxRecDepth 20000 in
theorem ggX0_setRelease_X0_requirePlace : GoodIn wsX0_setRelease wsX0_requirePlace := goodIn_ca (goodIn_r _ [6, 7, 8, 9, 10, 11, 5, 12, 13, 22, 23, 24, 25, 26, 27, 28, 29, 30, 31, 32, 33, 34, 35, 36, 37, 38, 39, 40] (by decide +kernel) (by decide +kernel)) (goodIn_sub (fun _ h => List.mem_cons_of_mem _ (List.mem_append_left _ (List.mem_append_right _ h))) (by decide +kernel))
set_option maxRecDepth 20000 in
theorem gX0_setRelease_X0_requirePlace : GoodIn wsX0_setRelease (wsV RX0 74 RX0 yX0_requirePlace wsX0_requirePlace) := goodIn_app (goodIn_of _ (by decide +kernel)) ggX0_setRelease_X0_requirePlace
set_option maxRecDepth 20000 in
theorem ggX0_setRelease_X0_isBetween : GoodIn wsX0_setRelease wsX0_isBetween := goodIn_r _ [16] (by decide +kernel) (by decide +kernel)
set_option maxRecDepth 20000 in
theorem gX0_setRelease_X0_isBetween : GoodIn wsX0_setRelease (va_wsS RX0 60 yX0_isBetween wsX0_isBetween) := goodIn_app (goodIn_of _ (by decide +kernel)) ggX0_setRelease_X0_isBetween
set_option maxRecDepth 20000 in
theorem ggX0_setRelease_X0_requireArgument : GoodIn wsX0_setRelease wsX0_requireArgument := goodIn_ca (goodIn_r _ [19, 20, 21] (by decide +kernel) (by decide +kernel)) (goodIn_sub (fun _ h => List.mem_cons_of_mem _ (List.mem_append_right _ h)) (by decide +kernel))
set_option maxRecDepth 20000 in
theorem gX0_setRelease_X0_requireArgument : GoodIn wsX0_setRelease (va_wsS RX0 64 yX0_requireArgument wsX0_requireArgument) := goodIn_app (goodIn_of _ (by decide +kernel)) ggX0_setRelease_X0_requireArgument
set_option maxRecDepth 20000 in
theorem ggX0_step_X0_isBetween : GoodIn wsX0_step wsX0_isBetween := goodIn_r _ [5] (by decide +kernel) (by decide +kernel)
set_option maxRecDepth 20000 in
theorem gX0_step_X0_isBetween : GoodIn wsX0_step (va_wsS RX0 60 yX0_isBetween wsX0_isBetween) := goodIn_app (goodIn_of _ (by decide +kernel)) ggX0_step_X0_isBetween
set_option maxRecDepth 20000 in
theorem ggX0_step_X0_requireArgument : GoodIn wsX0_step wsX0_requireArgument := goodIn_ca (goodIn_r _ [8, 9, 10] (by decide +kernel) (by decide +kernel)) (goodIn_sub (fun _ h => List.mem_cons_of_mem _ (List.mem_append_right _ h)) (by decide +kernel))
set_option maxRecDepth 20000 in
theorem gX0_step_X0_requireArgument : GoodIn wsX0_step (va_wsS RX0 64 yX0_requireArgument wsX0_requireArgument) := goodIn_app (goodIn_of _ (by decide +kernel)) ggX0_step_X0_requireArgument
set_option maxRecDepth 20000 in
theorem ggX0_step_X0_passOneStep : GoodIn wsX0_step wsX0_passOneStep := goodIn_r _ [14, 1, 15, 16, 17, 18, 19, 20, 4, 21, 22, 23, 24, 25, 26, 27, 28, 29, 30, 31, 32, 33, 34, 35, 36, 37, 38, 39, 40, 41, 42, 43, 44, 45, 46, 47, 48, 49, 50, 51, 52, 53, 54, 55, 56, 57, 58, 59, 60, 61, 62, 63, 64, 65, 66, 67, 68, 69, 70, 71, 72, 73, 74, 75, 76, 77, 78, 79, 80, 81, 82, 83] (by decide +kernel) (by decide +kernel)
set_option maxRecDepth 20000 in
theorem gX0_step_X0_passOneStep : GoodIn wsX0_step (wsV RX0 88 RX0 yX0_passOneStep wsX0_passOneStep) := goodIn_app (goodIn_of _ (by decide +kernel)) ggX0_step_X0_passOneStep
set_option maxRecDepth 20000 in
theorem ggX0_clear_X0_inside : GoodIn wsX0_clear wsX0_inside := goodIn_r _ [5, 6, 7, 61, 62, 63, 64, 65, 66, 67, 68, 69, 70, 71, 72, 73, 74, 75, 76, 77, 78, 79] (by decide +kernel) (by decide +kernel)
set_option maxRecDepth 20000 in
theorem gX0_clear_X0_inside : GoodIn wsX0_clear (wsV RX0 92 RX0 yX0_inside wsX0_inside) := goodIn_app (goodIn_of _ (by decide +kernel)) ggX0_clear_X0_inside
set_option maxRecDepth 20000 in
theorem ggX0_clear_X0_areAllReleased : GoodIn wsX0_clear wsX0_areAllReleased := goodIn_r _ [11, 6, 12, 13, 61, 62, 63, 64, 65, 66, 67, 68, 69, 70, 71, 72, 73, 74, 75, 76, 77, 78, 79] (by decide +kernel) (by decide +kernel)
set_option maxRecDepth 20000 in
theorem gX0_clear_X0_areAllReleased : GoodIn wsX0_clear (wsV RX0 95 RX0 yX0_areAllReleased wsX0_areAllReleased) := goodIn_app (goodIn_of _ (by decide +kernel)) ggX0_clear_X0_areAllReleased
set_option maxRecDepth 20000 in
theorem ggX0_clear_X0_passOneStep : GoodIn wsX0_clear wsX0_passOneStep := goodIn_r _ [17, 7, 13, 18, 19, 20, 21, 22, 4, 23, 24, 25, 6, 26, 27, 28, 29, 30, 31, 32, 33, 34, 35, 36, 37, 38, 39, 40, 41, 42, 43, 44, 45, 46, 47, 48, 49, 50, 12, 51, 52, 53, 54, 55, 56, 57, 58, 59, 60, 1, 2, 3, 5, 61, 62, 63, 64, 65, 66, 67, 68, 69, 70, 71, 72, 73, 74, 75, 76, 77, 78, 79] (by decide +kernel) (by decide +kernel)
set_option maxRecDepth 20000 in
theorem gX0_clear_X0_passOneStep : GoodIn wsX0_clear (wsV RX0 88 RX0 yX0_passOneStep wsX0_passOneStep) := goodIn_app (goodIn_of _ (by decide +kernel)) ggX0_clear_X0_passOneStep
set_option maxRecDepth 20000 in
theorem ggX0_people_X0_requirePlace : GoodIn wsX0_people wsX0_requirePlace := goodIn_ca (goodIn_r _ [6, 7, 8, 9, 10, 11, 5, 12, 13, 14, 15, 16, 17, 18, 19, 20, 21, 22, 23, 24, 25, 26, 27, 28, 29, 30, 31, 32] (by decide +kernel) (by decide +kernel)) (goodIn_sub (fun _ h => List.mem_cons_of_mem _ (List.mem_append_right _ h)) (by decide +kernel))
set_option maxRecDepth 20000 in
theorem gX0_people_X0_requirePlace : GoodIn wsX0_people (wsV RX0 74 RX0 yX0_requirePlace wsX0_requirePlace) := goodIn_app (goodIn_of _ (by decide +kernel)) ggX0_people_X0_requirePlace
set_option maxRecDepth 20000 in
theorem ggX0_latest_X0_requireElement : GoodIn wsX0_latest wsX0_requireElement := goodIn_ca (goodIn_r _ [5, 6, 7] (by decide +kernel) (by decide +kernel)) (goodIn_sub (fun _ h => List.mem_cons_of_mem _ (List.mem_append_right _ h)) (by decide +kernel))
set_option maxRecDepth 20000 in
theorem gX0_latest_X0_requireElement : GoodIn wsX0_latest (va_wsS RX0 102 yX0_requireElement wsX0_requireElement) := goodIn_app (goodIn_of _ (by decide +kernel)) ggX0_latest_X0_requireElement
set_option maxRecDepth 20000 in
theorem ggX0_passed_X0_requireDoor : GoodIn wsX0_passed wsX0_requireDoor := goodIn_ca (goodIn_r _ [6, 7, 8, 9, 10, 11, 5, 12, 13, 14, 15, 16, 17, 18, 19, 20, 21, 22, 23, 24, 25, 26, 27, 28, 29, 30, 31, 32] (by decide +kernel) (by decide +kernel)) (goodIn_sub (fun _ h => List.mem_cons_of_mem _ (List.mem_append_right _ h)) (by decide +kernel))
set_option maxRecDepth 20000 in
theorem gX0_passed_X0_requireDoor : GoodIn wsX0_passed (wsV RX0 81 RX0 yX0_requireDoor wsX0_requireDoor) := goodIn_app (goodIn_of _ (by decide +kernel)) ggX0_passed_X0_requireDoor
set_option maxRecDepth 20000 in
theorem ggX0_distance_X0_requirePlace : GoodIn wsX0_distance wsX0_requirePlace := goodIn_ca (goodIn_r _ [6, 7, 8, 9, 10, 11, 5, 12, 13, 19, 20, 21, 22, 23, 24, 25, 26, 27, 28, 29, 30, 31, 32, 33, 34, 35, 36, 37] (by decide +kernel) (by decide +kernel)) (goodIn_sub (fun _ h => List.mem_cons_of_mem _ (List.mem_append_left _ (List.mem_append_right _ h))) (by decide +kernel))
set_option maxRecDepth 20000 in
theorem gX0_distance_X0_requirePlace : GoodIn wsX0_distance (wsV RX0 74 RX0 yX0_requirePlace wsX0_requirePlace) := goodIn_app (goodIn_of _ (by decide +kernel)) ggX0_distance_X0_requirePlace
set_option maxRecDepth 20000 in
theorem ggX0_distance_X0_requireElement : GoodIn wsX0_distance wsX0_requireElement := goodIn_ca (goodIn_r _ [16, 17, 18] (by decide +kernel) (by decide +kernel)) (goodIn_sub (fun _ h => List.mem_cons_of_mem _ (List.mem_append_right _ h)) (by decide +kernel))
set_option maxRecDepth 20000 in
theorem gX0_distance_X0_requireElement : GoodIn wsX0_distance (va_wsS RX0 102 yX0_requireElement wsX0_requireElement) := goodIn_app (goodIn_of _ (by decide +kernel)) ggX0_distance_X0_requireElement
set_option maxRecDepth 20000 in
theorem ggX0_door_X0_requirePlace : GoodIn wsX0_door wsX0_requirePlace := goodIn_ca (goodIn_r _ [6, 7, 8, 9, 10, 11, 5, 12, 13, 19, 20, 21, 22, 23, 24, 25, 26, 27, 28, 29, 30, 31, 32, 33, 34, 35, 36, 37] (by decide +kernel) (by decide +kernel)) (goodIn_sub (fun _ h => List.mem_cons_of_mem _ (List.mem_append_left _ (List.mem_append_right _ h))) (by decide +kernel))
set_option maxRecDepth 20000 in
theorem gX0_door_X0_requirePlace : GoodIn wsX0_door (wsV RX0 74 RX0 yX0_requirePlace wsX0_requirePlace) := goodIn_app (goodIn_of _ (by decide +kernel)) ggX0_door_X0_requirePlace
set_option maxRecDepth 20000 in
theorem ggX0_door_X0_requireElement : GoodIn wsX0_door wsX0_requireElement := goodIn_ca (goodIn_r _ [16, 17, 18] (by decide +kernel) (by decide +kernel)) (goodIn_sub (fun _ h => List.mem_cons_of_mem _ (List.mem_append_right _ h)) (by decide +kernel))
set_option maxRecDepth 20000 in
theorem gX0_door_X0_requireElement : GoodIn wsX0_door (va_wsS RX0 102 yX0_requireElement wsX0_requireElement) := goodIn_app (goodIn_of _ (by decide +kernel)) ggX0_door_X0_requireElement
set_option maxRecDepth 20000 in
theorem ggX0_wouldMove_X0_requirePlace : GoodIn wsX0_wouldMove wsX0_requirePlace := goodIn_ca (goodIn_r _ [7, 8, 9, 10, 11, 12, 6, 13, 14, 53, 54, 55, 56, 57, 58, 59, 60, 61, 62, 63, 64, 65, 66, 67, 68, 69, 70, 71] (by decide +kernel) (by decide +kernel)) (goodIn_sub (fun _ h => List.mem_cons_of_mem _ (List.mem_append_right _ h)) (by decide +kernel))
set_option maxRecDepth 20000 in
theorem gX0_wouldMove_X0_requirePlace : GoodIn wsX0_wouldMove (wsV RX0 74 RX0 yX0_requirePlace wsX0_requirePlace) := goodIn_app (goodIn_of _ (by decide +kernel)) ggX0_wouldMove_X0_requirePlace
set_option maxRecDepth 20000 in
theorem ggX0_wouldMove_X0_isDoor : GoodIn wsX0_wouldMove wsX0_isDoor := goodIn_r _ [18, 19, 53, 54, 55, 56, 57, 58, 59, 60, 61, 62, 63, 64, 65, 66, 67, 68, 69, 70, 71] (by decide +kernel) (by decide +kernel)
set_option maxRecDepth 20000 in
theorem gX0_wouldMove_X0_isDoor : GoodIn wsX0_wouldMove (wsV RX0 108 RX0 yX0_isDoor wsX0_isDoor) := goodIn_app (goodIn_of _ (by decide +kernel)) ggX0_wouldMove_X0_isDoor
set_option maxRecDepth 20000 in
theorem ggX0_wouldMove_X0_grantAll : GoodIn wsX0_wouldMove wsX0_grantAll := goodIn_r _ [23, 19, 2, 14, 24, 25, 26, 6, 27, 28, 29, 30, 31, 32, 33, 34, 35, 36, 37, 38, 39, 40, 41, 42, 43, 44, 45, 46, 47, 48, 49, 50, 51, 52, 10, 11, 12, 13, 53, 54, 55, 56, 57, 58, 59, 60, 61, 62, 63, 64, 65, 66, 67, 68, 69, 70, 71] (by decide +kernel) (by decide +kernel)
set_option maxRecDepth 20000 in
theorem gX0_wouldMove_X0_grantAll : GoodIn wsX0_wouldMove (wsV RX0 112 RX0 yX0_grantAll wsX0_grantAll) := goodIn_app (goodIn_of _ (by decide +kernel)) ggX0_wouldMove_X0_grantAll
set_option maxRecDepth 20000 in
theorem ggX0_bound_X0_trapped : GoodIn wsX0_bound wsX0_trapped := goodIn_r _ [10, 1, 11, 12, 35, 36, 37, 38, 39, 40, 41, 42, 43, 44, 45, 46, 47, 48, 49, 50, 51, 52, 53] (by decide +kernel) (by decide +kernel)
set_option maxRecDepth 20000 in
theorem gX0_bound_X0_trapped : GoodIn wsX0_bound (wsV RX0 115 RX0 yX0_trapped wsX0_trapped) := goodIn_app (goodIn_of _ (by decide +kernel)) ggX0_bound_X0_trapped
set_option maxRecDepth 20000 in
theorem ggX0_bound_X0_requireState : GoodIn wsX0_bound wsX0_requireState := goodIn_ca (goodIn_r _ [15, 16, 17] (by decide +kernel) (by decide +kernel)) (goodIn_sub (fun _ h => List.mem_cons_of_mem _ (List.mem_append_right _ h)) (by decide +kernel))
set_option maxRecDepth 20000 in
theorem gX0_bound_X0_requireState : GoodIn wsX0_bound (va_wsS RX0 68 yX0_requireState wsX0_requireState) := goodIn_app (goodIn_of _ (by decide +kernel)) ggX0_bound_X0_requireState
set_option maxRecDepth 20000 in
theorem ggX0_bound_X0_boundAt : GoodIn wsX0_bound wsX0_boundAt := goodIn_r _ [21, 22, 23, 24, 9, 25, 1, 11, 12, 26, 27, 28, 29, 30, 31, 32, 33, 34, 35, 36, 37, 38, 39, 40, 41, 42, 43, 44, 45, 46, 47, 48, 49, 50, 51, 52, 53] (by decide +kernel) (by decide +kernel)
set_option maxRecDepth 20000 in
theorem gX0_bound_X0_boundAt : GoodIn wsX0_bound (wsV RX0 118 RX0 yX0_boundAt wsX0_boundAt) := goodIn_app (goodIn_of _ (by decide +kernel)) ggX0_bound_X0_boundAt
set_option maxRecDepth 20000 in
theorem ggX0_boundAt_X0_peopleFrom : GoodIn wsX0_boundAt wsX0_peopleFrom := goodIn_r _ [5, 6, 7, 8, 18, 19, 20, 21, 22, 23, 24, 25, 26, 27, 28, 29, 30, 31, 32, 33, 34, 35, 36] (by decide +kernel) (by decide +kernel)
set_option maxRecDepth 20000 in
theorem gX0_boundAt_X0_peopleFrom : GoodIn wsX0_boundAt (wsV RX0 127 RX0 yX0_peopleFrom wsX0_peopleFrom) := goodIn_app (goodIn_of _ (by decide +kernel)) ggX0_boundAt_X0_peopleFrom
set_option maxRecDepth 20000 in
theorem ggX0_boundAt_X0_flowInward : GoodIn wsX0_boundAt wsX0_flowInward := goodIn_r _ [12, 13, 7, 14, 15, 16, 17, 18, 19, 20, 21, 22, 23, 24, 25, 26, 27, 28, 29, 30, 31, 32, 33, 34, 35, 36] (by decide +kernel) (by decide +kernel)
set_option maxRecDepth 20000 in
theorem gX0_boundAt_X0_flowInward : GoodIn wsX0_boundAt (wsV RX0 130 RX0 yX0_flowInward wsX0_flowInward) := goodIn_app (goodIn_of _ (by decide +kernel)) ggX0_boundAt_X0_flowInward
set_option maxRecDepth 20000 in
theorem ggX0_passOneStep_X0_grantAll : GoodIn wsX0_passOneStep wsX0_grantAll := goodIn_r _ [9, 10, 11, 12, 13, 14, 15, 8, 16, 17, 18, 19, 20, 21, 22, 1, 23, 24, 25, 26, 27, 28, 29, 30, 31, 32, 33, 34, 35, 36, 37, 38, 2, 39, 40, 41, 42, 43, 53, 54, 55, 56, 57, 58, 59, 60, 61, 62, 63, 64, 65, 66, 67, 68, 69, 70, 71] (by decide +kernel) (by decide +kernel)
set_option maxRecDepth 20000 in
theorem gX0_passOneStep_X0_grantAll : GoodIn wsX0_passOneStep (wsV RX0 112 RX0 yX0_grantAll wsX0_grantAll) := goodIn_app (goodIn_of _ (by decide +kernel)) ggX0_passOneStep_X0_grantAll
set_option maxRecDepth 20000 in
theorem ggX0_passOneStep_X0_moveGranted : GoodIn wsX0_passOneStep wsX0_moveGranted := goodIn_r _ [47, 10, 37, 27, 1, 11, 48, 40, 41, 42, 8, 43, 12, 53, 54, 55, 56, 57, 58, 59, 60, 61, 62, 63, 64, 65, 66, 67, 68, 69, 70, 71] (by decide +kernel) (by decide +kernel)
set_option maxRecDepth 20000 in
theorem gX0_passOneStep_X0_moveGranted : GoodIn wsX0_passOneStep (wsV RX0 133 RX0 yX0_moveGranted wsX0_moveGranted) := goodIn_app (goodIn_of _ (by decide +kernel)) ggX0_passOneStep_X0_moveGranted
set_option maxRecDepth 20000 in
theorem ggX0_passOneStep_X0_inside : GoodIn wsX0_passOneStep wsX0_inside := goodIn_r _ [52, 12, 1, 53, 54, 55, 56, 57, 58, 59, 60, 61, 62, 63, 64, 65, 66, 67, 68, 69, 70, 71] (by decide +kernel) (by decide +kernel)
set_option maxRecDepth 20000 in
theorem gX0_passOneStep_X0_inside : GoodIn wsX0_passOneStep (wsV RX0 92 RX0 yX0_inside wsX0_inside) := goodIn_app (goodIn_of _ (by decide +kernel)) ggX0_passOneStep_X0_inside
set_option maxRecDepth 20000 in
theorem ggX0_grantAll_X0_grantAt : GoodIn wsX0_grantAll wsX0_grantAt := goodIn_r _ [8, 9, 10, 11, 7, 12, 13, 14, 15, 16, 17, 18, 19, 1, 20, 2, 21, 22, 23, 24, 25, 26, 27, 28, 29, 30, 31, 32, 33, 34, 35, 36, 37, 3, 38, 39, 40, 41, 42, 43, 44, 45, 46, 47, 48, 49, 50, 51, 52, 53, 54, 55, 56] (by decide +kernel) (by decide +kernel)
set_option maxRecDepth 20000 in
theorem gX0_grantAll_X0_grantAt : GoodIn wsX0_grantAll (wsV RX0 136 RX0 yX0_grantAt wsX0_grantAt) := goodIn_app (goodIn_of _ (by decide +kernel)) ggX0_grantAll_X0_grantAt
set_option maxRecDepth 20000 in
theorem ggX0_grantAt_X0_roomLeft : GoodIn wsX0_grantAt wsX0_roomLeft := goodIn_r _ [5, 6, 7, 8, 34, 35, 36, 37, 38, 39, 40, 41, 42, 43, 44, 45, 46, 47, 48, 49, 50, 51, 52] (by decide +kernel) (by decide +kernel)
set_option maxRecDepth 20000 in
theorem gX0_grantAt_X0_roomLeft : GoodIn wsX0_grantAt (wsV RX0 84 RX0 yX0_roomLeft wsX0_roomLeft) := goodIn_app (goodIn_of _ (by decide +kernel)) ggX0_grantAt_X0_roomLeft
set_option maxRecDepth 20000 in
theorem ggX0_grantAt_X0_grantRound : GoodIn wsX0_grantAt wsX0_grantRound := goodIn_r _ [12, 13, 14, 15, 16, 17, 18, 19, 20, 21, 22, 23, 4, 24, 25, 26, 27, 8, 28, 29, 30, 31, 32, 33, 34, 35, 36, 37, 38, 39, 40, 41, 42, 43, 44, 45, 46, 47, 48, 49, 50, 51, 52] (by decide +kernel) (by decide +kernel)
set_option maxRecDepth 20000 in
theorem gX0_grantAt_X0_grantRound : GoodIn wsX0_grantAt (wsV RX0 139 RX0 yX0_grantRound wsX0_grantRound) := goodIn_app (goodIn_of _ (by decide +kernel)) ggX0_grantAt_X0_grantRound
set_option maxRecDepth 20000 in
theorem ggX0_grantRound_X0_wishBy : GoodIn wsX0_grantRound wsX0_wishBy := goodIn_r _ [13, 14, 15, 16, 17, 18, 5, 6, 7, 8, 19, 20, 21, 12, 22, 23, 24, 25, 26, 27, 28, 29, 30, 31, 32, 33, 34, 35, 36, 37, 38, 39, 40, 41, 42] (by decide +kernel) (by decide +kernel)
set_option maxRecDepth 20000 in
theorem gX0_grantRound_X0_wishBy : GoodIn wsX0_grantRound (wsV RX0 142 RX0 yX0_wishBy wsX0_wishBy) := goodIn_app (goodIn_of _ (by decide +kernel)) ggX0_grantRound_X0_wishBy
set_option maxRecDepth 20000 in
theorem ggX0_wishBy_X0_isPlace : GoodIn wsX0_wishBy wsX0_isPlace := goodIn_r _ [14, 15, 16, 17, 18, 19, 20, 21, 22, 23, 24, 25, 26, 27, 28, 29, 30, 31, 32, 33, 34] (by decide +kernel) (by decide +kernel)
set_option maxRecDepth 20000 in
theorem gX0_wishBy_X0_isPlace : GoodIn wsX0_wishBy (wsV RX0 148 RX0 yX0_isPlace wsX0_isPlace) := goodIn_app (goodIn_of _ (by decide +kernel)) ggX0_wishBy_X0_isPlace
set_option maxRecDepth 20000 in
theorem ggX0_moveGranted_X0_isPlace : GoodIn wsX0_moveGranted wsX0_isPlace := goodIn_r _ [11, 12, 13, 14, 15, 16, 17, 18, 19, 20, 21, 22, 23, 24, 25, 26, 27, 28, 29, 30, 31] (by decide +kernel) (by decide +kernel)
set_option maxRecDepth 20000 in
theorem gX0_moveGranted_X0_isPlace : GoodIn wsX0_moveGranted (wsV RX0 148 RX0 yX0_isPlace wsX0_isPlace) := goodIn_app (goodIn_of _ (by decide +kernel)) ggX0_moveGranted_X0_isPlace
set_option maxRecDepth 20000 in
theorem ggX0_findWays_X0_measureDistances : GoodIn wsX0_findWays wsX0_measureDistances := goodIn_r _ [12, 13, 1, 3, 14, 6, 7, 15, 16, 17, 11, 18, 23, 24, 25, 26, 27, 28, 29, 30, 31, 32, 33, 34, 35, 36, 37, 38, 39, 40, 41] (by decide +kernel) (by decide +kernel)
set_option maxRecDepth 20000 in
theorem gX0_findWays_X0_measureDistances : GoodIn wsX0_findWays (wsV RX0 154 RX0 yX0_measureDistances wsX0_measureDistances) := goodIn_app (goodIn_of _ (by decide +kernel)) ggX0_findWays_X0_measureDistances
set_option maxRecDepth 20000 in
theorem ggX0_findWays_X0_offerDoor : GoodIn wsX0_findWays wsX0_offerDoor := goodIn_r _ [22, 14, 13, 2, 4, 5, 23, 24, 25, 26, 27, 28, 29, 30, 31, 32, 33, 34, 35, 36, 37, 38, 39, 40, 41] (by decide +kernel) (by decide +kernel)
set_option maxRecDepth 20000 in
theorem gX0_findWays_X0_offerDoor : GoodIn wsX0_findWays (wsV RX0 157 RX0 yX0_offerDoor wsX0_offerDoor) := goodIn_app (goodIn_of _ (by decide +kernel)) ggX0_findWays_X0_offerDoor
set_option maxRecDepth 20000 in
theorem ggX0_measureDistances_X0_reach : GoodIn wsX0_measureDistances wsX0_reach := goodIn_r _ [11, 1, 12, 13, 14, 15, 16, 17, 18, 19, 20, 21, 22, 23, 24, 25, 26, 27, 28, 29, 30] (by decide +kernel) (by decide +kernel)
set_option maxRecDepth 20000 in
theorem gX0_measureDistances_X0_reach : GoodIn wsX0_measureDistances (wsV RX0 161 RX0 yX0_reach wsX0_reach) := goodIn_app (goodIn_of _ (by decide +kernel)) ggX0_measureDistances_X0_reach
set_option maxRecDepth 20000 in
theorem ggX0_requirePlace_X0_isPlace : GoodIn wsX0_requirePlace wsX0_isPlace := goodIn_r _ [7, 8, 9, 10, 11, 12, 13, 14, 15, 16, 17, 18, 19, 20, 21, 22, 23, 24, 25, 26, 27] (by decide +kernel) (by decide +kernel)
set_option maxRecDepth 20000 in
theorem gX0_requirePlace_X0_isPlace : GoodIn wsX0_requirePlace (wsV RX0 148 RX0 yX0_isPlace wsX0_isPlace) := goodIn_app (goodIn_of _ (by decide +kernel)) ggX0_requirePlace_X0_isPlace
set_option maxRecDepth 20000 in
theorem ggX0_requireDoor_X0_isDoor : GoodIn wsX0_requireDoor wsX0_isDoor := goodIn_r _ [7, 8, 9, 10, 11, 12, 13, 14, 15, 16, 17, 18, 19, 20, 21, 22, 23, 24, 25, 26, 27] (by decide +kernel) (by decide +kernel)
set_option maxRecDepth 20000 in
theorem gX0_requireDoor_X0_isDoor : GoodIn wsX0_requireDoor (wsV RX0 108 RX0 yX0_isDoor wsX0_isDoor) := goodIn_app (goodIn_of _ (by decide +kernel)) ggX0_requireDoor_X0_isDoor
set_option maxRecDepth 20000 in
theorem ggX1_isPlace_X1_in : GoodIn wsX1_isPlace wsX1_in := goodIn_r _ [5] (by decide +kernel) (by decide +kernel)
set_option maxRecDepth 20000 in
theorem gX1_isPlace_X1_in : GoodIn wsX1_isPlace (va_wsS RX1 60 yX1_in wsX1_in) := goodIn_app (goodIn_of _ (by decide +kernel)) ggX1_isPlace_X1_in
set_option maxRecDepth 20000 in
theorem ggX1_isDoor_X1_in : GoodIn wsX1_isDoor wsX1_in := goodIn_r _ [5] (by decide +kernel) (by decide +kernel)
set_option maxRecDepth 20000 in
theorem gX1_isDoor_X1_in : GoodIn wsX1_isDoor (va_wsS RX1 60 yX1_in wsX1_in) := goodIn_app (goodIn_of _ (by decide +kernel)) ggX1_isDoor_X1_in
set_option maxRecDepth 20000 in
theorem ggX1_addPlace_X1_in : GoodIn wsX1_addPlace wsX1_in := goodIn_r _ [6] (by decide +kernel) (by decide +kernel)
set_option maxRecDepth 20000 in
theorem gX1_addPlace_X1_in : GoodIn wsX1_addPlace (va_wsS RX1 60 yX1_in wsX1_in) := goodIn_app (goodIn_of _ (by decide +kernel)) ggX1_addPlace_X1_in
set_option maxRecDepth 20000 in
theorem ggX1_addPlace_X1_goesWell : GoodIn wsX1_addPlace wsX1_goesWell := goodIn_r _ [10, 11, 12, 13, 14, 15, 16, 17, 18, 19, 20, 21, 22, 23, 24, 25, 26, 27, 28, 29, 30] (by decide +kernel) (by decide +kernel)
set_option maxRecDepth 20000 in
theorem gX1_addPlace_X1_goesWell : GoodIn wsX1_addPlace (wsV RX1 67 RX1 yX1_goesWell wsX1_goesWell) := goodIn_app (goodIn_of _ (by decide +kernel)) ggX1_addPlace_X1_goesWell
set_option maxRecDepth 20000 in
theorem ggX1_addDoor_X1_in : GoodIn wsX1_addDoor wsX1_in := goodIn_r _ [10] (by decide +kernel) (by decide +kernel)
set_option maxRecDepth 20000 in
theorem gX1_addDoor_X1_in : GoodIn wsX1_addDoor (va_wsS RX1 60 yX1_in wsX1_in) := goodIn_app (goodIn_of _ (by decide +kernel)) ggX1_addDoor_X1_in
set_option maxRecDepth 20000 in
theorem ggX1_addDoor_X1_isPlace : GoodIn wsX1_addDoor wsX1_isPlace := goodIn_r _ [14, 15, 7, 8, 9, 10, 21, 22, 23, 24, 25, 26, 27, 28, 29, 30, 31, 32, 33, 34, 35, 36, 37, 38, 39] (by decide +kernel) (by decide +kernel)
set_option maxRecDepth 20000 in
theorem gX1_addDoor_X1_isPlace : GoodIn wsX1_addDoor (wsV RX1 71 RX1 yX1_isPlace wsX1_isPlace) := goodIn_app (goodIn_of _ (by decide +kernel)) ggX1_addDoor_X1_isPlace
set_option maxRecDepth 20000 in
theorem ggX1_addDoor_X1_goesWell : GoodIn wsX1_addDoor wsX1_goesWell := goodIn_r _ [19, 20, 21, 22, 23, 24, 25, 26, 27, 28, 29, 30, 31, 32, 33, 34, 35, 36, 37, 38, 39] (by decide +kernel) (by decide +kernel)
set_option maxRecDepth 20000 in
theorem gX1_addDoor_X1_goesWell : GoodIn wsX1_addDoor (wsV RX1 67 RX1 yX1_goesWell wsX1_goesWell) := goodIn_app (goodIn_of _ (by decide +kernel)) ggX1_addDoor_X1_goesWell
set_option maxRecDepth 20000 in
theorem ggX1_setDoor_X1_isDoor : GoodIn wsX1_setDoor wsX1_isDoor := goodIn_r _ [6, 7, 8, 9, 5, 10, 16, 17, 18, 19, 20, 21, 22, 23, 24, 25, 26, 27, 28, 29, 30, 31, 32, 33, 34] (by decide +kernel) (by decide +kernel)
set_option maxRecDepth 20000 in
theorem gX1_setDoor_X1_isDoor : GoodIn wsX1_setDoor (wsV RX1 74 RX1 yX1_isDoor wsX1_isDoor) := goodIn_app (goodIn_of _ (by decide +kernel)) ggX1_setDoor_X1_isDoor
set_option maxRecDepth 20000 in
theorem ggX1_setDoor_X1_goesWell : GoodIn wsX1_setDoor wsX1_goesWell := goodIn_r _ [14, 15, 16, 17, 18, 19, 20, 21, 22, 23, 24, 25, 26, 27, 28, 29, 30, 31, 32, 33, 34] (by decide +kernel) (by decide +kernel)
set_option maxRecDepth 20000 in
theorem gX1_setDoor_X1_goesWell : GoodIn wsX1_setDoor (wsV RX1 67 RX1 yX1_goesWell wsX1_goesWell) := goodIn_app (goodIn_of _ (by decide +kernel)) ggX1_setDoor_X1_goesWell
set_option maxRecDepth 20000 in
theorem ggX1_come_X1_in : GoodIn wsX1_come wsX1_in := goodIn_r _ [6] (by decide +kernel) (by decide +kernel)
set_option maxRecDepth 20000 in
theorem gX1_come_X1_in : GoodIn wsX1_come (va_wsS RX1 60 yX1_in wsX1_in) := goodIn_app (goodIn_of _ (by decide +kernel)) ggX1_come_X1_in
set_option maxRecDepth 20000 in
theorem ggX1_come_X1_isPlace : GoodIn wsX1_come wsX1_isPlace := goodIn_r _ [10, 11, 3, 4, 5, 6, 17, 18, 19, 20, 21, 22, 23, 24, 25, 26, 27, 28, 29, 30, 31, 32, 33, 34, 35] (by decide +kernel) (by decide +kernel)
set_option maxRecDepth 20000 in
theorem gX1_come_X1_isPlace : GoodIn wsX1_come (wsV RX1 71 RX1 yX1_isPlace wsX1_isPlace) := goodIn_app (goodIn_of _ (by decide +kernel)) ggX1_come_X1_isPlace
set_option maxRecDepth 20000 in
theorem ggX1_come_X1_goesWell : GoodIn wsX1_come wsX1_goesWell := goodIn_r _ [15, 16, 17, 18, 19, 20, 21, 22, 23, 24, 25, 26, 27, 28, 29, 30, 31, 32, 33, 34, 35] (by decide +kernel) (by decide +kernel)
set_option maxRecDepth 20000 in
theorem gX1_come_X1_goesWell : GoodIn wsX1_come (wsV RX1 67 RX1 yX1_goesWell wsX1_goesWell) := goodIn_app (goodIn_of _ (by decide +kernel)) ggX1_come_X1_goesWell
set_option maxRecDepth 20000 in
theorem ggX1_setRelease_X1_isPlace : GoodIn wsX1_setRelease wsX1_isPlace := goodIn_r _ [6, 7, 8, 9, 5, 10, 16, 17, 18, 19, 20, 21, 22, 23, 24, 25, 26, 27, 28, 29, 30, 31, 32, 33, 34] (by decide +kernel) (by decide +kernel)
set_option maxRecDepth 20000 in
theorem gX1_setRelease_X1_isPlace : GoodIn wsX1_setRelease (wsV RX1 71 RX1 yX1_isPlace wsX1_isPlace) := goodIn_app (goodIn_of _ (by decide +kernel)) ggX1_setRelease_X1_isPlace
set_option maxRecDepth 20000 in
theorem ggX1_setRelease_X1_in : GoodIn wsX1_setRelease wsX1_in := goodIn_r _ [10] (by decide +kernel) (by decide +kernel)
set_option maxRecDepth 20000 in
theorem gX1_setRelease_X1_in : GoodIn wsX1_setRelease (va_wsS RX1 60 yX1_in wsX1_in) := goodIn_app (goodIn_of _ (by decide +kernel)) ggX1_setRelease_X1_in
set_option maxRecDepth 20000 in
theorem ggX1_setRelease_X1_goesWell : GoodIn wsX1_setRelease wsX1_goesWell := goodIn_r _ [14, 15, 16, 17, 18, 19, 20, 21, 22, 23, 24, 25, 26, 27, 28, 29, 30, 31, 32, 33, 34] (by decide +kernel) (by decide +kernel)
set_option maxRecDepth 20000 in
theorem gX1_setRelease_X1_goesWell : GoodIn wsX1_setRelease (wsV RX1 67 RX1 yX1_goesWell wsX1_goesWell) := goodIn_app (goodIn_of _ (by decide +kernel)) ggX1_setRelease_X1_goesWell
set_option maxRecDepth 20000 in
theorem ggX1_measure_X1_reach : GoodIn wsX1_measure wsX1_reach := goodIn_r _ [10, 11, 2, 12, 13, 14, 15, 16, 17, 18, 19, 20, 21, 22, 23, 24, 25, 26, 27, 28, 29, 30] (by decide +kernel) (by decide +kernel)
set_option maxRecDepth 20000 in
theorem gX1_measure_X1_reach : GoodIn wsX1_measure (wsV RX1 77 RX1 yX1_reach wsX1_reach) := goodIn_app (goodIn_of _ (by decide +kernel)) ggX1_measure_X1_reach
set_option maxRecDepth 20000 in
theorem ggX1_doorOf_X1_beyond : GoodIn wsX1_doorOf wsX1_beyond := goodIn_r _ [8, 9, 10, 11, 12, 13, 14, 15, 16, 17, 18, 19, 20, 21, 22, 23, 24, 25, 26, 27, 28, 29] (by decide +kernel) (by decide +kernel)
set_option maxRecDepth 20000 in
theorem gX1_doorOf_X1_beyond : GoodIn wsX1_doorOf (wsV RX1 81 RX1 yX1_beyond wsX1_beyond) := goodIn_app (goodIn_of _ (by decide +kernel)) ggX1_doorOf_X1_beyond
set_option maxRecDepth 20000 in
theorem ggX1_wish_X1_measure : GoodIn wsX1_wish wsX1_measure := goodIn_r _ [14, 5, 15, 1, 16, 17, 18, 19, 20, 13, 21, 22, 31, 32, 33, 34, 35, 36, 37, 38, 39, 40, 41, 42, 43, 44, 45, 46, 47, 48, 49] (by decide +kernel) (by decide +kernel)
set_option maxRecDepth 20000 in
theorem gX1_wish_X1_measure : GoodIn wsX1_wish (wsV RX1 85 RX1 yX1_measure wsX1_measure) := goodIn_app (goodIn_of _ (by decide +kernel)) ggX1_wish_X1_measure
set_option maxRecDepth 20000 in
theorem ggX1_wish_X1_doorOf : GoodIn wsX1_wish wsX1_doorOf := goodIn_r _ [26, 1, 15, 22, 27, 28, 29, 13, 30, 16, 17, 31, 32, 33, 34, 35, 36, 37, 38, 39, 40, 41, 42, 43, 44, 45, 46, 47, 48, 49] (by decide +kernel) (by decide +kernel)
set_option maxRecDepth 20000 in
theorem gX1_wish_X1_doorOf : GoodIn wsX1_wish (wsV RX1 88 RX1 yX1_doorOf wsX1_doorOf) := goodIn_app (goodIn_of _ (by decide +kernel)) ggX1_wish_X1_doorOf
set_option maxRecDepth 20000 in
theorem ggX1_wish_X1_beyond : GoodIn wsX1_wish wsX1_beyond := goodIn_r _ [30, 16, 17, 31, 32, 33, 34, 35, 36, 37, 38, 39, 40, 41, 42, 43, 44, 45, 46, 47, 48, 49] (by decide +kernel) (by decide +kernel)
set_option maxRecDepth 20000 in
theorem gX1_wish_X1_beyond : GoodIn wsX1_wish (wsV RX1 81 RX1 yX1_beyond wsX1_beyond) := goodIn_app (goodIn_of _ (by decide +kernel)) ggX1_wish_X1_beyond
set_option maxRecDepth 20000 in
theorem ggX1_decide_X1_wish : GoodIn wsX1_decide wsX1_wish := goodIn_r _ [6, 7, 8, 9, 10, 1, 11, 12, 13, 14, 15, 16, 17, 5, 18, 19, 20, 21, 22, 23, 24, 25, 26, 27, 28, 29, 30, 31, 32, 33, 34, 41, 42, 43, 44, 45, 46, 47, 48, 49, 50, 51, 52, 53, 54, 55, 56, 57, 58, 59] (by decide +kernel) (by decide +kernel)
set_option maxRecDepth 20000 in
theorem gX1_decide_X1_wish : GoodIn wsX1_decide (wsV RX1 95 RX1 yX1_wish wsX1_wish) := goodIn_app (goodIn_of _ (by decide +kernel)) ggX1_decide_X1_wish
set_option maxRecDepth 20000 in
theorem ggX1_decide_X1_grant : GoodIn wsX1_decide wsX1_grant := goodIn_r _ [38, 39, 13, 7, 10, 8, 9, 40, 41, 42, 43, 44, 45, 46, 47, 48, 49, 50, 51, 52, 53, 54, 55, 56, 57, 58, 59] (by decide +kernel) (by decide +kernel)
set_option maxRecDepth 20000 in
theorem gX1_decide_X1_grant : GoodIn wsX1_decide (wsV RX1 98 RX1 yX1_grant wsX1_grant) := goodIn_app (goodIn_of _ (by decide +kernel)) ggX1_decide_X1_grant
set_option maxRecDepth 20000 in
theorem ggX1_go_X1_decide : GoodIn wsX1_go wsX1_decide := goodIn_r _ [13, 14, 15, 16, 17, 12, 18, 1, 19, 2, 4, 20, 6, 3, 21, 22, 23, 24, 25, 26, 27, 28, 29, 30, 31, 32, 33, 34, 35, 36, 37, 38, 39, 40, 41, 42, 43, 44, 45, 46, 47, 52, 53, 54, 55, 56, 57, 58, 59, 60, 61, 62, 63, 64, 65, 66, 67, 68, 69, 70] (by decide +kernel) (by decide +kernel)
set_option maxRecDepth 20000 in
theorem gX1_go_X1_decide : GoodIn wsX1_go (wsV RX1 102 RX1 yX1_decide wsX1_decide) := goodIn_app (goodIn_of _ (by decide +kernel)) ggX1_go_X1_decide
set_option maxRecDepth 20000 in
theorem ggX1_go_X1_beyond : GoodIn wsX1_go wsX1_beyond := goodIn_r _ [41, 27, 28, 52, 53, 54, 55, 56, 57, 58, 59, 60, 61, 62, 63, 64, 65, 66, 67, 68, 69, 70] (by decide +kernel) (by decide +kernel)
set_option maxRecDepth 20000 in
theorem gX1_go_X1_beyond : GoodIn wsX1_go (wsV RX1 81 RX1 yX1_beyond wsX1_beyond) := goodIn_app (goodIn_of _ (by decide +kernel)) ggX1_go_X1_beyond
set_option maxRecDepth 20000 in
theorem ggX1_go_X1_insideNow : GoodIn wsX1_go wsX1_insideNow := goodIn_r _ [51, 14, 3, 52, 53, 54, 55, 56, 57, 58, 59, 60, 61, 62, 63, 64, 65, 66, 67, 68, 69, 70] (by decide +kernel) (by decide +kernel)
set_option maxRecDepth 20000 in
theorem gX1_go_X1_insideNow : GoodIn wsX1_go (wsV RX1 108 RX1 yX1_insideNow wsX1_insideNow) := goodIn_app (goodIn_of _ (by decide +kernel)) ggX1_go_X1_insideNow
set_option maxRecDepth 20000 in
theorem ggX1_step_X1_in : GoodIn wsX1_step wsX1_in := goodIn_r _ [5] (by decide +kernel) (by decide +kernel)
set_option maxRecDepth 20000 in
theorem gX1_step_X1_in : GoodIn wsX1_step (va_wsS RX1 60 yX1_in wsX1_in) := goodIn_app (goodIn_of _ (by decide +kernel)) ggX1_step_X1_in
set_option maxRecDepth 20000 in
theorem ggX1_step_X1_goesWell : GoodIn wsX1_step wsX1_goesWell := goodIn_r _ [9, 10, 64, 65, 66, 67, 68, 69, 70, 71, 72, 73, 74, 75, 76, 77, 78, 79, 80, 81, 82] (by decide +kernel) (by decide +kernel)
set_option maxRecDepth 20000 in
theorem gX1_step_X1_goesWell : GoodIn wsX1_step (wsV RX1 67 RX1 yX1_goesWell wsX1_goesWell) := goodIn_app (goodIn_of _ (by decide +kernel)) ggX1_step_X1_goesWell
set_option maxRecDepth 20000 in
theorem ggX1_step_X1_go : GoodIn wsX1_step wsX1_go := goodIn_r _ [14, 15, 16, 1, 17, 18, 19, 20, 21, 22, 23, 24, 4, 25, 26, 27, 28, 29, 30, 31, 32, 33, 34, 35, 36, 37, 38, 39, 40, 41, 42, 43, 44, 45, 46, 47, 48, 49, 50, 51, 52, 53, 54, 55, 56, 57, 58, 59, 60, 61, 62, 63, 64, 65, 66, 67, 68, 69, 70, 71, 72, 73, 74, 75, 76, 77, 78, 79, 80, 81, 82] (by decide +kernel) (by decide +kernel)
set_option maxRecDepth 20000 in
theorem gX1_step_X1_go : GoodIn wsX1_step (wsV RX1 112 RX1 yX1_go wsX1_go) := goodIn_app (goodIn_of _ (by decide +kernel)) ggX1_step_X1_go
set_option maxRecDepth 20000 in
theorem ggX1_clear_X1_insideNow : GoodIn wsX1_clear wsX1_insideNow := goodIn_r _ [9, 2, 10, 57, 58, 59, 60, 61, 62, 63, 64, 65, 66, 67, 68, 69, 70, 71, 72, 73, 74, 75] (by decide +kernel) (by decide +kernel)
set_option maxRecDepth 20000 in
theorem gX1_clear_X1_insideNow : GoodIn wsX1_clear (wsV RX1 108 RX1 yX1_insideNow wsX1_insideNow) := goodIn_app (goodIn_of _ (by decide +kernel)) ggX1_clear_X1_insideNow
set_option maxRecDepth 20000 in
theorem ggX1_clear_X1_go : GoodIn wsX1_clear wsX1_go := goodIn_r _ [14, 15, 16, 10, 17, 18, 4, 19, 20, 21, 22, 23, 8, 24, 2, 25, 26, 27, 28, 29, 3, 30, 31, 32, 33, 34, 35, 36, 37, 38, 39, 40, 41, 42, 43, 44, 45, 46, 47, 48, 49, 50, 51, 52, 53, 54, 55, 56, 5, 6, 7, 9, 57, 58, 59, 60, 61, 62, 63, 64, 65, 66, 67, 68, 69, 70, 71, 72, 73, 74, 75] (by decide +kernel) (by decide +kernel)
set_option maxRecDepth 20000 in
theorem gX1_clear_X1_go : GoodIn wsX1_clear (wsV RX1 112 RX1 yX1_go wsX1_go) := goodIn_app (goodIn_of _ (by decide +kernel)) ggX1_clear_X1_go
set_option maxRecDepth 20000 in
theorem ggX1_people_X1_isPlace : GoodIn wsX1_people wsX1_isPlace := goodIn_r _ [6, 7, 8, 9, 5, 10, 16, 17, 18, 19, 20, 21, 22, 23, 24, 25, 26, 27, 28, 29, 30, 31, 32, 33, 34] (by decide +kernel) (by decide +kernel)
set_option maxRecDepth 20000 in
theorem gX1_people_X1_isPlace : GoodIn wsX1_people (wsV RX1 71 RX1 yX1_isPlace wsX1_isPlace) := goodIn_app (goodIn_of _ (by decide +kernel)) ggX1_people_X1_isPlace
set_option maxRecDepth 20000 in
theorem ggX1_people_X1_goesWell : GoodIn wsX1_people wsX1_goesWell := goodIn_r _ [14, 15, 16, 17, 18, 19, 20, 21, 22, 23, 24, 25, 26, 27, 28, 29, 30, 31, 32, 33, 34] (by decide +kernel) (by decide +kernel)
set_option maxRecDepth 20000 in
theorem gX1_people_X1_goesWell : GoodIn wsX1_people (wsV RX1 67 RX1 yX1_goesWell wsX1_goesWell) := goodIn_app (goodIn_of _ (by decide +kernel)) ggX1_people_X1_goesWell
set_option maxRecDepth 20000 in
theorem ggX1_inside_X1_insideNow : GoodIn wsX1_inside wsX1_insideNow := goodIn_r _ [6, 7, 8, 9, 10, 11, 12, 13, 14, 15, 16, 17, 18, 19, 20, 21, 22, 23, 24, 25, 26, 27] (by decide +kernel) (by decide +kernel)
set_option maxRecDepth 20000 in
theorem gX1_inside_X1_insideNow : GoodIn wsX1_inside (wsV RX1 108 RX1 yX1_insideNow wsX1_insideNow) := goodIn_app (goodIn_of _ (by decide +kernel)) ggX1_inside_X1_insideNow
set_option maxRecDepth 20000 in
theorem ggX1_latest_X1_goesWell : GoodIn wsX1_latest wsX1_goesWell := goodIn_r _ [6, 7, 8, 9, 10, 11, 12, 13, 14, 15, 16, 17, 18, 19, 20, 21, 22, 23, 24, 25, 26] (by decide +kernel) (by decide +kernel)
set_option maxRecDepth 20000 in
theorem gX1_latest_X1_goesWell : GoodIn wsX1_latest (wsV RX1 67 RX1 yX1_goesWell wsX1_goesWell) := goodIn_app (goodIn_of _ (by decide +kernel)) ggX1_latest_X1_goesWell
set_option maxRecDepth 20000 in
theorem ggX1_passed_X1_isDoor : GoodIn wsX1_passed wsX1_isDoor := goodIn_r _ [6, 7, 8, 9, 5, 10, 16, 17, 18, 19, 20, 21, 22, 23, 24, 25, 26, 27, 28, 29, 30, 31, 32, 33, 34] (by decide +kernel) (by decide +kernel)
set_option maxRecDepth 20000 in
theorem gX1_passed_X1_isDoor : GoodIn wsX1_passed (wsV RX1 74 RX1 yX1_isDoor wsX1_isDoor) := goodIn_app (goodIn_of _ (by decide +kernel)) ggX1_passed_X1_isDoor
set_option maxRecDepth 20000 in
theorem ggX1_passed_X1_goesWell : GoodIn wsX1_passed wsX1_goesWell := goodIn_r _ [14, 15, 16, 17, 18, 19, 20, 21, 22, 23, 24, 25, 26, 27, 28, 29, 30, 31, 32, 33, 34] (by decide +kernel) (by decide +kernel)
set_option maxRecDepth 20000 in
theorem gX1_passed_X1_goesWell : GoodIn wsX1_passed (wsV RX1 67 RX1 yX1_goesWell wsX1_goesWell) := goodIn_app (goodIn_of _ (by decide +kernel)) ggX1_passed_X1_goesWell
set_option maxRecDepth 20000 in
theorem ggX1_distance_X1_measure : GoodIn wsX1_distance wsX1_measure := goodIn_r _ [6, 7, 1, 8, 9, 10, 11, 12, 13, 5, 14, 15, 28, 29, 30, 31, 32, 33, 34, 35, 36, 37, 38, 39, 40, 41, 42, 43, 44, 45, 46] (by decide +kernel) (by decide +kernel)
set_option maxRecDepth 20000 in
theorem gX1_distance_X1_measure : GoodIn wsX1_distance (wsV RX1 85 RX1 yX1_measure wsX1_measure) := goodIn_app (goodIn_of _ (by decide +kernel)) ggX1_distance_X1_measure
set_option maxRecDepth 20000 in
theorem ggX1_distance_X1_isPlace : GoodIn wsX1_distance wsX1_isPlace := goodIn_r _ [19, 7, 20, 21, 5, 22, 28, 29, 30, 31, 32, 33, 34, 35, 36, 37, 38, 39, 40, 41, 42, 43, 44, 45, 46] (by decide +kernel) (by decide +kernel)
set_option maxRecDepth 20000 in
theorem gX1_distance_X1_isPlace : GoodIn wsX1_distance (wsV RX1 71 RX1 yX1_isPlace wsX1_isPlace) := goodIn_app (goodIn_of _ (by decide +kernel)) ggX1_distance_X1_isPlace
set_option maxRecDepth 20000 in
theorem ggX1_distance_X1_goesWell : GoodIn wsX1_distance wsX1_goesWell := goodIn_r _ [26, 27, 28, 29, 30, 31, 32, 33, 34, 35, 36, 37, 38, 39, 40, 41, 42, 43, 44, 45, 46] (by decide +kernel) (by decide +kernel)
set_option maxRecDepth 20000 in
theorem gX1_distance_X1_goesWell : GoodIn wsX1_distance (wsV RX1 67 RX1 yX1_goesWell wsX1_goesWell) := goodIn_app (goodIn_of _ (by decide +kernel)) ggX1_distance_X1_goesWell
set_option maxRecDepth 20000 in
theorem ggX1_door_X1_measure : GoodIn wsX1_door wsX1_measure := goodIn_r _ [5, 6, 7, 8, 9, 10, 11, 12, 13, 4, 14, 15, 36, 37, 38, 39, 40, 41, 42, 43, 44, 45, 46, 47, 48, 49, 50, 51, 52, 53, 54] (by decide +kernel) (by decide +kernel)
set_option maxRecDepth 20000 in
theorem gX1_door_X1_measure : GoodIn wsX1_door (wsV RX1 85 RX1 yX1_measure wsX1_measure) := goodIn_app (goodIn_of _ (by decide +kernel)) ggX1_door_X1_measure
set_option maxRecDepth 20000 in
theorem ggX1_door_X1_isPlace : GoodIn wsX1_door wsX1_isPlace := goodIn_r _ [19, 6, 20, 21, 4, 22, 36, 37, 38, 39, 40, 41, 42, 43, 44, 45, 46, 47, 48, 49, 50, 51, 52, 53, 54] (by decide +kernel) (by decide +kernel)
set_option maxRecDepth 20000 in
theorem gX1_door_X1_isPlace : GoodIn wsX1_door (wsV RX1 71 RX1 yX1_isPlace wsX1_isPlace) := goodIn_app (goodIn_of _ (by decide +kernel)) ggX1_door_X1_isPlace
set_option maxRecDepth 20000 in
theorem ggX1_door_X1_doorOf : GoodIn wsX1_door wsX1_doorOf := goodIn_r _ [26, 8, 7, 15, 27, 28, 29, 4, 30, 9, 10, 36, 37, 38, 39, 40, 41, 42, 43, 44, 45, 46, 47, 48, 49, 50, 51, 52, 53, 54] (by decide +kernel) (by decide +kernel)
set_option maxRecDepth 20000 in
theorem gX1_door_X1_doorOf : GoodIn wsX1_door (wsV RX1 88 RX1 yX1_doorOf wsX1_doorOf) := goodIn_app (goodIn_of _ (by decide +kernel)) ggX1_door_X1_doorOf
set_option maxRecDepth 20000 in
theorem ggX1_door_X1_goesWell : GoodIn wsX1_door wsX1_goesWell := goodIn_r _ [34, 35, 36, 37, 38, 39, 40, 41, 42, 43, 44, 45, 46, 47, 48, 49, 50, 51, 52, 53, 54] (by decide +kernel) (by decide +kernel)
set_option maxRecDepth 20000 in
theorem gX1_door_X1_goesWell : GoodIn wsX1_door (wsV RX1 67 RX1 yX1_goesWell wsX1_goesWell) := goodIn_app (goodIn_of _ (by decide +kernel)) ggX1_door_X1_goesWell
set_option maxRecDepth 20000 in
theorem ggX1_trappedNow_X1_measure : GoodIn wsX1_trappedNow wsX1_measure := goodIn_r _ [8, 1, 2, 9, 10, 11, 12, 13, 14, 7, 15, 16, 17, 18, 19, 20, 21, 22, 23, 24, 25, 26, 27, 28, 29, 30, 31, 32, 33, 34, 35] (by decide +kernel) (by decide +kernel)
set_option maxRecDepth 20000 in
theorem gX1_trappedNow_X1_measure : GoodIn wsX1_trappedNow (wsV RX1 85 RX1 yX1_measure wsX1_measure) := goodIn_app (goodIn_of _ (by decide +kernel)) ggX1_trappedNow_X1_measure
set_option maxRecDepth 20000 in
theorem ggX1_trapped_X1_trappedNow : GoodIn wsX1_trapped wsX1_trappedNow := goodIn_r _ [6, 7, 8, 9, 10, 11, 12, 5, 13, 14, 15, 16, 17, 18, 19, 20, 21, 22, 23, 24, 25, 26, 27, 28, 29, 30, 31, 32, 33, 34, 35, 36, 37, 38, 39, 40] (by decide +kernel) (by decide +kernel)
set_option maxRecDepth 20000 in
theorem gX1_trapped_X1_trappedNow : GoodIn wsX1_trapped (wsV RX1 115 RX1 yX1_trappedNow wsX1_trappedNow) := goodIn_app (goodIn_of _ (by decide +kernel)) ggX1_trapped_X1_trappedNow
set_option maxRecDepth 20000 in
theorem ggX1_wouldMove_X1_isPlace : GoodIn wsX1_wouldMove wsX1_isPlace := goodIn_r _ [6, 7, 8, 9, 5, 10, 57, 58, 59, 60, 61, 62, 63, 64, 65, 66, 67, 68, 69, 70, 71, 72, 73, 74, 75] (by decide +kernel) (by decide +kernel)
set_option maxRecDepth 20000 in
theorem gX1_wouldMove_X1_isPlace : GoodIn wsX1_wouldMove (wsV RX1 71 RX1 yX1_isPlace wsX1_isPlace) := goodIn_app (goodIn_of _ (by decide +kernel)) ggX1_wouldMove_X1_isPlace
set_option maxRecDepth 20000 in
theorem ggX1_wouldMove_X1_goesWell : GoodIn wsX1_wouldMove wsX1_goesWell := goodIn_r _ [14, 15, 57, 58, 59, 60, 61, 62, 63, 64, 65, 66, 67, 68, 69, 70, 71, 72, 73, 74, 75] (by decide +kernel) (by decide +kernel)
set_option maxRecDepth 20000 in
theorem gX1_wouldMove_X1_goesWell : GoodIn wsX1_wouldMove (wsV RX1 67 RX1 yX1_goesWell wsX1_goesWell) := goodIn_app (goodIn_of _ (by decide +kernel)) ggX1_wouldMove_X1_goesWell
set_option maxRecDepth 20000 in
theorem ggX1_wouldMove_X1_decide : GoodIn wsX1_wouldMove wsX1_decide := goodIn_r _ [19, 7, 20, 21, 22, 5, 23, 24, 25, 1, 26, 27, 28, 29, 30, 31, 32, 33, 34, 35, 36, 37, 38, 39, 40, 41, 42, 43, 44, 45, 46, 47, 48, 49, 50, 51, 52, 53, 54, 55, 56, 57, 58, 59, 60, 61, 62, 63, 64, 65, 66, 67, 68, 69, 70, 71, 72, 73, 74, 75] (by decide +kernel) (by decide +kernel)
set_option maxRecDepth 20000 in
theorem gX1_wouldMove_X1_decide : GoodIn wsX1_wouldMove (wsV RX1 102 RX1 yX1_decide wsX1_decide) := goodIn_app (goodIn_of _ (by decide +kernel)) ggX1_wouldMove_X1_decide
set_option maxRecDepth 20000 in
theorem ggX1_wouldMove_X1_doorOf : GoodIn wsX1_wouldMove wsX1_doorOf := goodIn_r _ [46, 24, 35, 42, 47, 48, 49, 5, 50, 36, 37, 57, 58, 59, 60, 61, 62, 63, 64, 65, 66, 67, 68, 69, 70, 71, 72, 73, 74, 75] (by decide +kernel) (by decide +kernel)
set_option maxRecDepth 20000 in
theorem gX1_wouldMove_X1_doorOf : GoodIn wsX1_wouldMove (wsV RX1 88 RX1 yX1_doorOf wsX1_doorOf) := goodIn_app (goodIn_of _ (by decide +kernel)) ggX1_wouldMove_X1_doorOf
set_option maxRecDepth 20000 in
theorem ggX1_bound_X1_trappedNow : GoodIn wsX1_bound wsX1_trappedNow := goodIn_r _ [13, 1, 2, 3, 14, 15, 16, 12, 17, 4, 5, 6, 18, 19, 20, 21, 7, 27, 28, 29, 30, 31, 32, 33, 34, 35, 36, 37, 38, 39, 40, 41, 42, 43, 44, 45] (by decide +kernel) (by decide +kernel)
set_option maxRecDepth 20000 in
theorem gX1_bound_X1_trappedNow : GoodIn wsX1_bound (wsV RX1 115 RX1 yX1_trappedNow wsX1_trappedNow) := goodIn_app (goodIn_of _ (by decide +kernel)) ggX1_bound_X1_trappedNow
set_option maxRecDepth 20000 in
theorem ggX1_bound_X1_goesWell : GoodIn wsX1_bound wsX1_goesWell := goodIn_r _ [25, 26, 27, 28, 29, 30, 31, 32, 33, 34, 35, 36, 37, 38, 39, 40, 41, 42, 43, 44, 45] (by decide +kernel) (by decide +kernel)
set_option maxRecDepth 20000 in
theorem gX1_bound_X1_goesWell : GoodIn wsX1_bound (wsV RX1 67 RX1 yX1_goesWell wsX1_goesWell) := goodIn_app (goodIn_of _ (by decide +kernel)) ggX1_bound_X1_goesWell
set_option maxRecDepth 20000 in
theorem ggL_addPlace_X0_addPlace : GoodIn wsL_addPlace wsX0_addPlace := goodIn_ca (goodIn_ca (goodIn_r _ [7, 8, 9, 10, 11, 6, 12, 13, 14, 15, 16, 17, 18, 19, 20, 21, 22, 23, 24, 25, 26, 27, 28, 29, 30, 31, 32, 33, 34, 35, 36, 37, 38, 39, 40, 41, 42, 43, 44, 45, 46, 47, 48, 49, 50, 51, 52, 53, 54, 55, 56, 57, 58, 59, 60, 61, 62, 63, 64, 65] (by decide +kernel) (by decide +kernel)) (goodIn_sub (fun _ h => List.mem_cons_of_mem _ (List.mem_append_left _ (List.mem_append_right _ h))) (by decide +kernel))) (goodIn_sub (fun _ h => List.mem_cons_of_mem _ (List.mem_append_right _ h)) (by decide +kernel))
set_option maxRecDepth 20000 in
theorem gL_addPlace_X0_addPlace : GoodIn wsL_addPlace (wsV RL 7 RX0 yX0_addPlace wsX0_addPlace) := goodIn_app (goodIn_of _ (by decide +kernel)) ggL_addPlace_X0_addPlace
set_option maxRecDepth 20000 in
theorem ggL_addDoor_X0_addDoor : GoodIn wsL_addDoor wsX0_addDoor := goodIn_ca (goodIn_ca (goodIn_ca (goodIn_r _ [8, 9, 10, 11, 12, 13, 14, 15, 16, 17, 7, 18, 19, 20, 21, 22, 23, 24, 25, 26, 27, 28, 29, 30, 31, 32, 33, 34, 35, 36, 37, 38, 39, 40, 41, 42, 43, 44, 45, 46, 47, 48, 49, 50, 51, 52, 53, 54, 55, 56, 57, 58, 59, 60, 61, 62, 63, 64, 65, 66, 67, 68, 69, 70, 71, 72, 73, 74, 75, 76, 77] (by decide +kernel) (by decide +kernel)) (goodIn_sub (fun _ h => List.mem_cons_of_mem _ (List.mem_append_left _ (List.mem_append_left _ (List.mem_append_right _ h)))) (by decide +kernel))) (goodIn_sub (fun _ h => List.mem_cons_of_mem _ (List.mem_append_left _ (List.mem_append_right _ h))) (by decide +kernel))) (goodIn_sub (fun _ h => List.mem_cons_of_mem _ (List.mem_append_right _ h)) (by decide +kernel))
set_option maxRecDepth 20000 in
theorem gL_addDoor_X0_addDoor : GoodIn wsL_addDoor (wsV RL 17 RX0 yX0_addDoor wsX0_addDoor) := goodIn_app (goodIn_of _ (by decide +kernel)) ggL_addDoor_X0_addDoor
set_option maxRecDepth 20000 in
theorem ggL_setDoor_X0_setDoor : GoodIn wsL_setDoor wsX0_setDoor := goodIn_ca (goodIn_r _ [6, 7, 8, 9, 10, 5, 11, 12, 13, 14, 15, 16, 17, 18, 19, 20, 21, 22, 23, 24, 25, 26, 27, 28, 29, 30, 31, 32, 33, 34, 35, 36, 37, 38, 39, 40, 41, 42, 43, 44, 45, 46, 47, 48, 49, 50, 51, 52, 53, 54, 55, 56, 57, 58, 59, 60] (by decide +kernel) (by decide +kernel)) (goodIn_sub (fun _ h => List.mem_cons_of_mem _ (List.mem_append_right _ h)) (by decide +kernel))
set_option maxRecDepth 20000 in
theorem gL_setDoor_X0_setDoor : GoodIn wsL_setDoor (wsV RL 23 RX0 yX0_setDoor wsX0_setDoor) := goodIn_app (goodIn_of _ (by decide +kernel)) ggL_setDoor_X0_setDoor
set_option maxRecDepth 20000 in
theorem ggL_come_X0_come : GoodIn wsL_come wsX0_come := goodIn_ca (goodIn_ca (goodIn_ca (goodIn_r _ [8, 9, 10, 11, 12, 7, 13, 14, 15, 16, 17, 18, 19, 20, 21, 22, 23, 24, 25, 26, 27, 28, 29, 30, 31, 32, 33, 34, 35, 36, 37, 38, 39, 40, 41, 42, 43, 44, 45, 46, 47, 48, 49, 50, 51, 52, 53, 54, 55, 56, 57, 58] (by decide +kernel) (by decide +kernel)) (goodIn_sub (fun _ h => List.mem_cons_of_mem _ (List.mem_append_left _ (List.mem_append_left _ (List.mem_append_right _ h)))) (by decide +kernel))) (goodIn_sub (fun _ h => List.mem_cons_of_mem _ (List.mem_append_left _ (List.mem_append_right _ h))) (by decide +kernel))) (goodIn_sub (fun _ h => List.mem_cons_of_mem _ (List.mem_append_right _ h)) (by decide +kernel))
set_option maxRecDepth 20000 in
theorem gL_come_X0_come : GoodIn wsL_come (wsV RL 27 RX0 yX0_come wsX0_come) := goodIn_app (goodIn_of _ (by decide +kernel)) ggL_come_X0_come
set_option maxRecDepth 20000 in
theorem ggL_setRelease_X0_setRelease : GoodIn wsL_setRelease wsX0_setRelease := goodIn_ca (goodIn_ca (goodIn_r _ [7, 8, 9, 10, 11, 6, 12, 13, 14, 15, 16, 17, 18, 19, 20, 21, 22, 23, 24, 25, 26, 27, 28, 29, 30, 31, 32, 33, 34, 35, 36, 37, 38, 39, 40, 41, 42, 43, 44, 45, 46] (by decide +kernel) (by decide +kernel)) (goodIn_sub (fun _ h => List.mem_cons_of_mem _ (List.mem_append_left _ (List.mem_append_right _ h))) (by decide +kernel))) (goodIn_sub (fun _ h => List.mem_cons_of_mem _ (List.mem_append_right _ h)) (by decide +kernel))
set_option maxRecDepth 20000 in
theorem gL_setRelease_X0_setRelease : GoodIn wsL_setRelease (wsV RL 31 RX0 yX0_setRelease wsX0_setRelease) := goodIn_app (goodIn_of _ (by decide +kernel)) ggL_setRelease_X0_setRelease
set_option maxRecDepth 20000 in
theorem ggL_step_X0_step : GoodIn wsL_step wsX0_step := goodIn_ca (goodIn_r _ [6, 7, 8, 9, 5, 10, 11, 12, 13, 14, 15, 16, 17, 18, 19, 20, 21, 22, 23, 24, 25, 26, 27, 28, 29, 30, 31, 32, 33, 34, 35, 36, 37, 38, 39, 40, 41, 42, 43, 44, 45, 46, 47, 48, 49, 50, 51, 52, 53, 54, 55, 56, 57, 58, 59, 60, 61, 62, 63, 64, 65, 66, 67, 68, 69, 70, 71, 72, 73, 74, 75, 76, 77, 78, 79, 80, 81, 82, 83, 84, 85, 86, 87, 88] (by decide +kernel) (by decide +kernel)) (goodIn_sub (fun _ h => List.mem_cons_of_mem _ (List.mem_append_right _ h)) (by decide +kernel))
set_option maxRecDepth 20000 in
theorem gL_step_X0_step : GoodIn wsL_step (wsV RL 34 RX0 yX0_step wsX0_step) := goodIn_app (goodIn_of _ (by decide +kernel)) ggL_step_X0_step
set_option maxRecDepth 20000 in
theorem ggL_people_X0_people : GoodIn wsL_people wsX0_people := goodIn_ca (goodIn_r _ [6, 7, 8, 9, 10, 5, 11, 12, 13, 14, 15, 16, 17, 18, 19, 20, 21, 22, 23, 24, 25, 26, 27, 28, 29, 30, 31, 32, 33, 34, 35, 36, 37] (by decide +kernel) (by decide +kernel)) (goodIn_sub (fun _ h => List.mem_cons_of_mem _ (List.mem_append_right _ h)) (by decide +kernel))
set_option maxRecDepth 20000 in
theorem gL_people_X0_people : GoodIn wsL_people (wsV RL 37 RX0 yX0_people wsX0_people) := goodIn_app (goodIn_of _ (by decide +kernel)) ggL_people_X0_people
set_option maxRecDepth 20000 in
theorem ggL_latest_X0_latest : GoodIn wsL_latest wsX0_latest := goodIn_ca (goodIn_r _ [6, 7, 8, 9, 5, 10, 11, 12, 13, 14, 15, 16, 17, 18, 19, 20, 21, 22, 23, 24, 25, 26, 27, 28, 29, 30, 31] (by decide +kernel) (by decide +kernel)) (goodIn_sub (fun _ h => List.mem_cons_of_mem _ (List.mem_append_right _ h)) (by decide +kernel))
set_option maxRecDepth 20000 in
theorem gL_latest_X0_latest : GoodIn wsL_latest (wsV RL 40 RX0 yX0_latest wsX0_latest) := goodIn_app (goodIn_of _ (by decide +kernel)) ggL_latest_X0_latest
set_option maxRecDepth 20000 in
theorem ggL_passed_X0_passed : GoodIn wsL_passed wsX0_passed := goodIn_ca (goodIn_r _ [6, 7, 8, 9, 10, 5, 11, 12, 13, 14, 15, 16, 17, 18, 19, 20, 21, 22, 23, 24, 25, 26, 27, 28, 29, 30, 31, 32, 33, 34, 35, 36, 37] (by decide +kernel) (by decide +kernel)) (goodIn_sub (fun _ h => List.mem_cons_of_mem _ (List.mem_append_right _ h)) (by decide +kernel))
set_option maxRecDepth 20000 in
theorem gL_passed_X0_passed : GoodIn wsL_passed (wsV RL 46 RX0 yX0_passed wsX0_passed) := goodIn_app (goodIn_of _ (by decide +kernel)) ggL_passed_X0_passed
set_option maxRecDepth 20000 in
theorem ggL_distance_X0_distance : GoodIn wsL_distance wsX0_distance := goodIn_ca (goodIn_ca (goodIn_r _ [7, 8, 9, 10, 11, 6, 12, 13, 14, 15, 16, 17, 18, 19, 20, 21, 22, 23, 24, 25, 26, 27, 28, 29, 30, 31, 32, 33, 34, 35, 36, 37, 38, 39, 40, 41, 42, 43] (by decide +kernel) (by decide +kernel)) (goodIn_sub (fun _ h => List.mem_cons_of_mem _ (List.mem_append_left _ (List.mem_append_right _ h))) (by decide +kernel))) (goodIn_sub (fun _ h => List.mem_cons_of_mem _ (List.mem_append_right _ h)) (by decide +kernel))
set_option maxRecDepth 20000 in
theorem gL_distance_X0_distance : GoodIn wsL_distance (wsV RL 49 RX0 yX0_distance wsX0_distance) := goodIn_app (goodIn_of _ (by decide +kernel)) ggL_distance_X0_distance
set_option maxRecDepth 20000 in
theorem ggL_door_X0_door : GoodIn wsL_door wsX0_door := goodIn_ca (goodIn_ca (goodIn_r _ [7, 8, 9, 10, 11, 6, 12, 13, 14, 15, 16, 17, 18, 19, 20, 21, 22, 23, 24, 25, 26, 27, 28, 29, 30, 31, 32, 33, 34, 35, 36, 37, 38, 39, 40, 41, 42, 43] (by decide +kernel) (by decide +kernel)) (goodIn_sub (fun _ h => List.mem_cons_of_mem _ (List.mem_append_left _ (List.mem_append_right _ h))) (by decide +kernel))) (goodIn_sub (fun _ h => List.mem_cons_of_mem _ (List.mem_append_right _ h)) (by decide +kernel))
set_option maxRecDepth 20000 in
theorem gL_door_X0_door : GoodIn wsL_door (wsV RL 52 RX0 yX0_door wsX0_door) := goodIn_app (goodIn_of _ (by decide +kernel)) ggL_door_X0_door
set_option maxRecDepth 20000 in
theorem ggL_wouldMove_X0_wouldMove : GoodIn wsL_wouldMove wsX0_wouldMove := goodIn_ca (goodIn_r _ [6, 7, 8, 9, 10, 11, 5, 12, 13, 14, 15, 16, 17, 18, 19, 20, 21, 22, 23, 24, 25, 26, 27, 28, 29, 30, 31, 32, 33, 34, 35, 36, 37, 38, 39, 40, 41, 42, 43, 44, 45, 46, 47, 48, 49, 50, 51, 52, 53, 54, 55, 56, 57, 58, 59, 60, 61, 62, 63, 64, 65, 66, 67, 68, 69, 70, 71, 72, 73, 74, 75, 76] (by decide +kernel) (by decide +kernel)) (goodIn_sub (fun _ h => List.mem_cons_of_mem _ (List.mem_append_right _ h)) (by decide +kernel))
set_option maxRecDepth 20000 in
theorem gL_wouldMove_X0_wouldMove : GoodIn wsL_wouldMove (wsV RL 55 RX0 yX0_wouldMove wsX0_wouldMove) := goodIn_app (goodIn_of _ (by decide +kernel)) ggL_wouldMove_X0_wouldMove
set_option maxRecDepth 20000 in
theorem ggL_bound_X0_bound : GoodIn wsL_bound wsX0_bound := goodIn_ca (goodIn_r _ [6, 7, 8, 9, 10, 11, 12, 13, 14, 5, 15, 16, 17, 18, 19, 20, 21, 22, 23, 24, 25, 26, 27, 28, 29, 30, 31, 32, 33, 34, 35, 36, 37, 38, 39, 40, 41, 42, 43, 44, 45, 46, 47, 48, 49, 50, 51, 52, 53, 54, 55, 56, 57, 58] (by decide +kernel) (by decide +kernel)) (goodIn_sub (fun _ h => List.mem_cons_of_mem _ (List.mem_append_right _ h)) (by decide +kernel))
set_option maxRecDepth 20000 in
theorem gL_bound_X0_bound : GoodIn wsL_bound (wsV RL 58 RX0 yX0_bound wsX0_bound) := goodIn_app (goodIn_of _ (by decide +kernel)) ggL_bound_X0_bound
set_option maxRecDepth 20000 in
theorem ggL_law_X0_init : GoodIn wsL_law wsX0_init := goodIn_r _ [9, 10, 11, 12, 13, 14, 15, 16, 17, 18, 19, 20, 21, 22, 23, 24, 25, 26, 27, 28, 29, 30, 426, 427, 428, 429, 430, 431, 432, 433, 434, 435, 436, 437, 438, 439, 440, 441, 442, 443, 444] (by decide +kernel) (by decide +kernel)
set_option maxRecDepth 20000 in
theorem gL_law_X0_init : GoodIn wsL_law (wsX0_init) := ggL_law_X0_init
set_option maxRecDepth 20000 in
theorem ggL_law_X1_init : GoodIn wsL_law wsX1_init := goodIn_r _ [33, 34, 11, 12, 35, 13, 36, 37, 38, 39, 40, 41, 42, 23, 43, 44, 45, 46, 47, 48, 49, 445, 446, 447, 448, 449, 450, 451, 452, 453, 454, 455, 456, 457, 458, 459, 460, 461, 462, 463] (by decide +kernel) (by decide +kernel)
set_option maxRecDepth 20000 in
theorem gL_law_X1_init : GoodIn wsL_law (wsX1_init) := ggL_law_X1_init
set_option maxRecDepth 20000 in
theorem ggL_law_L_addPlace : GoodIn wsL_law wsL_addPlace := goodIn_ca (goodIn_ca (goodIn_r _ [53, 54, 55, 56, 57, 58, 2, 59, 29, 14, 60, 61, 62, 63, 64, 65, 66, 67, 68, 69, 70, 71, 72, 73, 74, 75, 76, 18, 77, 26, 27, 19, 20, 78, 79, 80, 81, 17, 24, 82, 83, 84, 85, 86, 87, 88, 89, 426, 427, 428, 429, 430, 431, 432, 433, 434, 435, 436, 437, 438, 439, 440, 441, 442, 443, 444] (by decide +kernel) (by decide +kernel)) (goodIn_sub (fun _ h => List.mem_append_left _ (List.mem_append_left _ (List.mem_append_left _ (List.mem_append_right _ h)))) (by decide +kernel))) (goodIn_sub (fun _ h => List.mem_append_left _ (List.mem_append_left _ (List.mem_append_right _ h))) (by decide +kernel))
set_option maxRecDepth 20000 in
theorem gL_law_L_addPlace : GoodIn wsL_law (va_wsS RL 65 yL_addPlace wsL_addPlace) := goodIn_app (goodIn_of _ (by decide +kernel)) ggL_law_L_addPlace
set_option maxRecDepth 20000 in
theorem ggL_law_X1_addPlace : GoodIn wsL_law wsX1_addPlace := goodIn_r _ [93, 35, 36, 94, 95, 5, 96, 97, 98, 99, 100, 101, 445, 446, 447, 448, 449, 450, 451, 452, 453, 454, 455, 456, 457, 458, 459, 460, 461, 462, 463] (by decide +kernel) (by decide +kernel)
set_option maxRecDepth 20000 in
theorem gL_law_X1_addPlace : GoodIn wsL_law (wsV RL 70 RX1 yX1_addPlace wsX1_addPlace) := goodIn_app (goodIn_of _ (by decide +kernel)) ggL_law_X1_addPlace
set_option maxRecDepth 20000 in
theorem ggL_law_X1_thrown : GoodIn wsL_law wsX1_thrown := goodIn_r _ [105, 101, 445, 446, 447, 448, 449, 450, 451, 452, 453, 454, 455, 456, 457, 458, 459, 460, 461, 462, 463] (by decide +kernel) (by decide +kernel)
set_option maxRecDepth 20000 in
theorem gL_law_X1_thrown : GoodIn wsL_law (wsV RL 71 RX1 yX1_thrown wsX1_thrown) := goodIn_app (goodIn_of _ (by decide +kernel)) ggL_law_X1_thrown
set_option maxRecDepth 20000 in
theorem ggL_law_L_addDoor : GoodIn wsL_law wsL_addDoor := goodIn_ca (goodIn_ca (goodIn_ca (goodIn_r _ [108, 109, 54, 55, 110, 111, 112, 2, 113, 77, 19, 20, 21, 22, 24, 114, 115, 116, 117, 118, 119, 120, 121, 122, 123, 29, 60, 61, 62, 63, 64, 65, 66, 67, 68, 69, 70, 71, 72, 73, 74, 75, 76, 18, 26, 27, 78, 79, 80, 81, 17, 82, 83, 84, 85, 86, 87, 88, 89, 426, 427, 428, 429, 430, 431, 432, 433, 434, 435, 436, 437, 438, 439, 440, 441, 442, 443, 444] (by decide +kernel) (by decide +kernel)) (goodIn_sub (fun _ h => List.mem_append_left _ (List.mem_append_right _ h)) (by decide +kernel))) (goodIn_sub (fun _ h => List.mem_append_left _ (List.mem_append_left _ (List.mem_append_left _ (List.mem_append_right _ h)))) (by decide +kernel))) (goodIn_sub (fun _ h => List.mem_append_left _ (List.mem_append_left _ (List.mem_append_right _ h))) (by decide +kernel))
set_option maxRecDepth 20000 in
theorem gL_law_L_addDoor : GoodIn wsL_law (va_wsS RL 74 yL_addDoor wsL_addDoor) := goodIn_app (goodIn_of _ (by decide +kernel)) ggL_law_L_addDoor
set_option maxRecDepth 20000 in
theorem ggL_law_X1_addDoor : GoodIn wsL_law wsX1_addDoor := goodIn_r _ [127, 128, 39, 40, 41, 42, 43, 94, 95, 5, 96, 129, 130, 131, 132, 35, 97, 98, 99, 100, 101, 445, 446, 447, 448, 449, 450, 451, 452, 453, 454, 455, 456, 457, 458, 459, 460, 461, 462, 463] (by decide +kernel) (by decide +kernel)
set_option maxRecDepth 20000 in
theorem gL_law_X1_addDoor : GoodIn wsL_law (wsV RL 77 RX1 yX1_addDoor wsX1_addDoor) := goodIn_app (goodIn_of _ (by decide +kernel)) ggL_law_X1_addDoor
set_option maxRecDepth 20000 in
theorem ggL_law_L_setDoor : GoodIn wsL_law wsL_setDoor := goodIn_ca (goodIn_r _ [135, 109, 136, 137, 138, 2, 139, 24, 140, 141, 142, 143, 118, 119, 144, 145, 146, 147, 77, 73, 74, 75, 76, 29, 18, 26, 27, 19, 20, 78, 79, 80, 81, 17, 82, 83, 84, 85, 86, 87, 88, 89, 426, 427, 428, 429, 430, 431, 432, 433, 434, 435, 436, 437, 438, 439, 440, 441, 442, 443, 444] (by decide +kernel) (by decide +kernel)) (goodIn_sub (fun _ h => List.mem_append_left _ (List.mem_append_right _ h)) (by decide +kernel))
set_option maxRecDepth 20000 in
theorem gL_law_L_setDoor : GoodIn wsL_law (va_wsS RL 78 yL_setDoor wsL_setDoor) := goodIn_app (goodIn_of _ (by decide +kernel)) ggL_law_L_setDoor
set_option maxRecDepth 20000 in
theorem ggL_law_X1_setDoor : GoodIn wsL_law wsX1_setDoor := goodIn_r _ [151, 43, 152, 153, 154, 5, 155, 128, 94, 95, 96, 97, 98, 99, 100, 101, 445, 446, 447, 448, 449, 450, 451, 452, 453, 454, 455, 456, 457, 458, 459, 460, 461, 462, 463] (by decide +kernel) (by decide +kernel)
set_option maxRecDepth 20000 in
theorem gL_law_X1_setDoor : GoodIn wsL_law (wsV RL 81 RX1 yX1_setDoor wsX1_setDoor) := goodIn_app (goodIn_of _ (by decide +kernel)) ggL_law_X1_setDoor
set_option maxRecDepth 20000 in
theorem ggL_law_L_come : GoodIn wsL_law wsL_come := goodIn_ca (goodIn_ca (goodIn_ca (goodIn_r _ [158, 109, 54, 55, 159, 160, 161, 2, 162, 15, 114, 115, 116, 117, 118, 119, 120, 121, 122, 123, 29, 60, 61, 62, 63, 64, 65, 66, 67, 163, 164, 165, 166, 167, 14, 68, 69, 70, 71, 72, 426, 427, 428, 429, 430, 431, 432, 433, 434, 435, 436, 437, 438, 439, 440, 441, 442, 443, 444] (by decide +kernel) (by decide +kernel)) (goodIn_sub (fun _ h => List.mem_append_left _ (List.mem_append_right _ h)) (by decide +kernel))) (goodIn_sub (fun _ h => List.mem_append_left _ (List.mem_append_left _ (List.mem_append_left _ (List.mem_append_right _ h)))) (by decide +kernel))) (goodIn_sub (fun _ h => List.mem_append_left _ (List.mem_append_left _ (List.mem_append_right _ h))) (by decide +kernel))
set_option maxRecDepth 20000 in
theorem gL_law_L_come : GoodIn wsL_law (va_wsS RL 82 yL_come wsL_come) := goodIn_app (goodIn_of _ (by decide +kernel)) ggL_law_L_come
set_option maxRecDepth 20000 in
theorem ggL_law_X1_come : GoodIn wsL_law wsX1_come := goodIn_r _ [171, 37, 36, 94, 95, 5, 96, 129, 130, 131, 132, 35, 97, 98, 99, 100, 101, 445, 446, 447, 448, 449, 450, 451, 452, 453, 454, 455, 456, 457, 458, 459, 460, 461, 462, 463] (by decide +kernel) (by decide +kernel)
set_option maxRecDepth 20000 in
theorem gL_law_X1_come : GoodIn wsL_law (wsV RL 85 RX1 yX1_come wsX1_come) := goodIn_app (goodIn_of _ (by decide +kernel)) ggL_law_X1_come
set_option maxRecDepth 20000 in
theorem ggL_law_L_setRelease : GoodIn wsL_law wsL_setRelease := goodIn_ca (goodIn_ca (goodIn_r _ [174, 109, 54, 175, 176, 177, 2, 178, 16, 114, 115, 116, 117, 118, 119, 120, 121, 122, 123, 29, 60, 61, 62, 63, 64, 65, 66, 67, 426, 427, 428, 429, 430, 431, 432, 433, 434, 435, 436, 437, 438, 439, 440, 441, 442, 443, 444] (by decide +kernel) (by decide +kernel)) (goodIn_sub (fun _ h => List.mem_append_left _ (List.mem_append_right _ h)) (by decide +kernel))) (goodIn_sub (fun _ h => List.mem_append_left _ (List.mem_append_left _ (List.mem_append_left _ (List.mem_append_right _ h)))) (by decide +kernel))
set_option maxRecDepth 20000 in
theorem gL_law_L_setRelease : GoodIn wsL_law (va_wsS RL 86 yL_setRelease wsL_setRelease) := goodIn_app (goodIn_of _ (by decide +kernel)) ggL_law_L_setRelease
set_option maxRecDepth 20000 in
theorem ggL_law_X1_setRelease : GoodIn wsL_law wsX1_setRelease := goodIn_r _ [182, 38, 129, 130, 131, 5, 132, 35, 94, 95, 96, 97, 98, 99, 100, 101, 445, 446, 447, 448, 449, 450, 451, 452, 453, 454, 455, 456, 457, 458, 459, 460, 461, 462, 463] (by decide +kernel) (by decide +kernel)
set_option maxRecDepth 20000 in
theorem gL_law_X1_setRelease : GoodIn wsL_law (wsV RL 88 RX1 yX1_setRelease wsX1_setRelease) := goodIn_app (goodIn_of _ (by decide +kernel)) ggL_law_X1_setRelease
set_option maxRecDepth 20000 in
theorem ggL_law_X0_places : GoodIn wsL_law wsX0_places := goodIn_r _ [186, 29, 426, 427, 428, 429, 430, 431, 432, 433, 434, 435, 436, 437, 438, 439, 440, 441, 442, 443, 444] (by decide +kernel) (by decide +kernel)
set_option maxRecDepth 20000 in
theorem gL_law_X0_places : GoodIn wsL_law (wsV RL 89 RX0 yX0_places wsX0_places) := goodIn_app (goodIn_of _ (by decide +kernel)) ggL_law_X0_places
set_option maxRecDepth 20000 in
theorem ggL_law_X1_places : GoodIn wsL_law wsX1_places := goodIn_r _ [190, 101, 35, 445, 446, 447, 448, 449, 450, 451, 452, 453, 454, 455, 456, 457, 458, 459, 460, 461, 462, 463] (by decide +kernel) (by decide +kernel)
set_option maxRecDepth 20000 in
theorem gL_law_X1_places : GoodIn wsL_law (wsV RL 92 RX1 yX1_places wsX1_places) := goodIn_app (goodIn_of _ (by decide +kernel)) ggL_law_X1_places
set_option maxRecDepth 20000 in
theorem ggL_law_X0_doors : GoodIn wsL_law wsX0_doors := goodIn_r _ [194, 77, 426, 427, 428, 429, 430, 431, 432, 433, 434, 435, 436, 437, 438, 439, 440, 441, 442, 443, 444] (by decide +kernel) (by decide +kernel)
set_option maxRecDepth 20000 in
theorem gL_law_X0_doors : GoodIn wsL_law (wsV RL 93 RX0 yX0_doors wsX0_doors) := goodIn_app (goodIn_of _ (by decide +kernel)) ggL_law_X0_doors
set_option maxRecDepth 20000 in
theorem ggL_law_X1_doors : GoodIn wsL_law wsX1_doors := goodIn_r _ [198, 101, 128, 445, 446, 447, 448, 449, 450, 451, 452, 453, 454, 455, 456, 457, 458, 459, 460, 461, 462, 463] (by decide +kernel) (by decide +kernel)
set_option maxRecDepth 20000 in
theorem gL_law_X1_doors : GoodIn wsL_law (wsV RL 96 RX1 yX1_doors wsX1_doors) := goodIn_app (goodIn_of _ (by decide +kernel)) ggL_law_X1_doors
set_option maxRecDepth 20000 in
theorem ggL_law_L_step : GoodIn wsL_law wsL_step := goodIn_ca (goodIn_r _ [201, 54, 202, 203, 204, 2, 205, 15, 60, 61, 62, 63, 64, 65, 66, 67, 206, 207, 208, 209, 210, 30, 211, 212, 213, 214, 215, 77, 28, 29, 216, 217, 218, 219, 163, 164, 165, 166, 167, 14, 220, 221, 222, 223, 27, 22, 224, 225, 226, 227, 228, 229, 230, 231, 26, 16, 21, 120, 121, 122, 123, 232, 233, 234, 235, 25, 236, 237, 238, 239, 426, 427, 428, 429, 430, 431, 432, 433, 434, 435, 436, 437, 438, 439, 440, 441, 442, 443, 444] (by decide +kernel) (by decide +kernel)) (goodIn_sub (fun _ h => List.mem_append_left _ (List.mem_append_left _ (List.mem_append_left _ (List.mem_append_right _ h)))) (by decide +kernel))
set_option maxRecDepth 20000 in
theorem gL_law_L_step : GoodIn wsL_law (va_wsS RL 97 yL_step wsL_step) := goodIn_app (goodIn_of _ (by decide +kernel)) ggL_law_L_step
set_option maxRecDepth 20000 in
theorem ggL_law_X1_step : GoodIn wsL_law wsX1_step := goodIn_r _ [243, 37, 94, 95, 5, 96, 97, 98, 99, 100, 101, 244, 245, 246, 247, 128, 48, 49, 44, 248, 45, 249, 250, 251, 252, 253, 35, 254, 255, 256, 257, 47, 38, 41, 258, 259, 260, 261, 46, 39, 40, 262, 263, 264, 265, 43, 266, 267, 268, 269, 270, 271, 272, 273, 274, 275, 276, 277, 36, 42, 278, 279, 280, 281, 445, 446, 447, 448, 449, 450, 451, 452, 453, 454, 455, 456, 457, 458, 459, 460, 461, 462, 463] (by decide +kernel) (by decide +kernel)
set_option maxRecDepth 20000 in
theorem gL_law_X1_step : GoodIn wsL_law (wsV RL 99 RX1 yX1_step wsX1_step) := goodIn_app (goodIn_of _ (by decide +kernel)) ggL_law_X1_step
set_option maxRecDepth 20000 in
theorem ggL_law_X0_clear : GoodIn wsL_law wsX0_clear := goodIn_r _ [285, 236, 237, 238, 2, 239, 29, 15, 286, 287, 288, 289, 16, 210, 206, 207, 208, 209, 30, 211, 212, 213, 214, 215, 77, 28, 216, 217, 218, 219, 163, 164, 165, 166, 167, 14, 220, 221, 222, 223, 27, 22, 224, 225, 226, 227, 228, 229, 230, 231, 26, 21, 120, 121, 122, 123, 232, 233, 234, 235, 25, 426, 427, 428, 429, 430, 431, 432, 433, 434, 435, 436, 437, 438, 439, 440, 441, 442, 443, 444] (by decide +kernel) (by decide +kernel)
set_option maxRecDepth 20000 in
theorem gL_law_X0_clear : GoodIn wsL_law (wsV RL 100 RX0 yX0_clear wsX0_clear) := goodIn_app (goodIn_of _ (by decide +kernel)) ggL_law_X0_clear
set_option maxRecDepth 20000 in
theorem ggL_law_X1_clear : GoodIn wsL_law wsX1_clear := goodIn_r _ [293, 101, 35, 38, 248, 278, 279, 280, 5, 281, 37, 244, 245, 246, 247, 128, 48, 49, 44, 45, 249, 250, 251, 252, 253, 254, 255, 256, 257, 47, 41, 258, 259, 260, 261, 46, 39, 40, 262, 263, 264, 265, 43, 266, 267, 268, 269, 270, 271, 272, 273, 274, 275, 276, 277, 36, 42, 445, 446, 447, 448, 449, 450, 451, 452, 453, 454, 455, 456, 457, 458, 459, 460, 461, 462, 463] (by decide +kernel) (by decide +kernel)
set_option maxRecDepth 20000 in
theorem gL_law_X1_clear : GoodIn wsL_law (wsV RL 103 RX1 yX1_clear wsX1_clear) := goodIn_app (goodIn_of _ (by decide +kernel)) ggL_law_X1_clear
set_option maxRecDepth 20000 in
theorem ggL_law_X0_now : GoodIn wsL_law wsX0_now := goodIn_r _ [297, 210, 426, 427, 428, 429, 430, 431, 432, 433, 434, 435, 436, 437, 438, 439, 440, 441, 442, 443, 444] (by decide +kernel) (by decide +kernel)
set_option maxRecDepth 20000 in
theorem gL_law_X0_now : GoodIn wsL_law (wsV RL 104 RX0 yX0_now wsX0_now) := goodIn_app (goodIn_of _ (by decide +kernel)) ggL_law_X0_now
set_option maxRecDepth 20000 in
theorem ggL_law_X1_now : GoodIn wsL_law wsX1_now := goodIn_r _ [301, 101, 248, 445, 446, 447, 448, 449, 450, 451, 452, 453, 454, 455, 456, 457, 458, 459, 460, 461, 462, 463] (by decide +kernel) (by decide +kernel)
set_option maxRecDepth 20000 in
theorem gL_law_X1_now : GoodIn wsL_law (wsV RL 107 RX1 yX1_now wsX1_now) := goodIn_app (goodIn_of _ (by decide +kernel)) ggL_law_X1_now
set_option maxRecDepth 20000 in
theorem ggL_law_L_people : GoodIn wsL_law wsL_people := goodIn_ca (goodIn_r _ [304, 109, 305, 306, 307, 2, 308, 15, 114, 115, 116, 117, 118, 119, 120, 121, 122, 123, 29, 426, 427, 428, 429, 430, 431, 432, 433, 434, 435, 436, 437, 438, 439, 440, 441, 442, 443, 444] (by decide +kernel) (by decide +kernel)) (goodIn_sub (fun _ h => List.mem_append_left _ (List.mem_append_right _ h)) (by decide +kernel))
set_option maxRecDepth 20000 in
theorem gL_law_L_people : GoodIn wsL_law (va_wsS RL 108 yL_people wsL_people) := goodIn_app (goodIn_of _ (by decide +kernel)) ggL_law_L_people
set_option maxRecDepth 20000 in
theorem ggL_law_X1_people : GoodIn wsL_law wsX1_people := goodIn_r _ [312, 37, 129, 130, 131, 5, 132, 35, 94, 95, 96, 97, 98, 99, 100, 101, 445, 446, 447, 448, 449, 450, 451, 452, 453, 454, 455, 456, 457, 458, 459, 460, 461, 462, 463] (by decide +kernel) (by decide +kernel)
set_option maxRecDepth 20000 in
theorem gL_law_X1_people : GoodIn wsL_law (wsV RL 110 RX1 yX1_people wsX1_people) := goodIn_app (goodIn_of _ (by decide +kernel)) ggL_law_X1_people
set_option maxRecDepth 20000 in
theorem ggL_law_X0_inside : GoodIn wsL_law wsX0_inside := goodIn_r _ [239, 29, 15, 426, 427, 428, 429, 430, 431, 432, 433, 434, 435, 436, 437, 438, 439, 440, 441, 442, 443, 444] (by decide +kernel) (by decide +kernel)
set_option maxRecDepth 20000 in
theorem gL_law_X0_inside : GoodIn wsL_law (wsV RL 111 RX0 yX0_inside wsX0_inside) := goodIn_app (goodIn_of _ (by decide +kernel)) ggL_law_X0_inside
set_option maxRecDepth 20000 in
theorem ggL_law_X1_inside : GoodIn wsL_law wsX1_inside := goodIn_r _ [317, 101, 278, 279, 280, 5, 281, 35, 37, 445, 446, 447, 448, 449, 450, 451, 452, 453, 454, 455, 456, 457, 458, 459, 460, 461, 462, 463] (by decide +kernel) (by decide +kernel)
set_option maxRecDepth 20000 in
theorem gL_law_X1_inside : GoodIn wsL_law (wsV RL 114 RX1 yX1_inside wsX1_inside) := goodIn_app (goodIn_of _ (by decide +kernel)) ggL_law_X1_inside
set_option maxRecDepth 20000 in
theorem ggL_law_L_latest : GoodIn wsL_law wsL_latest := goodIn_ca (goodIn_r _ [320, 321, 322, 323, 324, 2, 325, 30, 326, 327, 328, 329, 330, 426, 427, 428, 429, 430, 431, 432, 433, 434, 435, 436, 437, 438, 439, 440, 441, 442, 443, 444] (by decide +kernel) (by decide +kernel)) (goodIn_sub (fun _ h => List.mem_append_right _ h) (by decide +kernel))
set_option maxRecDepth 20000 in
theorem gL_law_L_latest : GoodIn wsL_law (va_wsS RL 115 yL_latest wsL_latest) := goodIn_app (goodIn_of _ (by decide +kernel)) ggL_law_L_latest
set_option maxRecDepth 20000 in
theorem ggL_law_X1_latest : GoodIn wsL_law wsX1_latest := goodIn_r _ [334, 45, 97, 98, 99, 5, 100, 101, 445, 446, 447, 448, 449, 450, 451, 452, 453, 454, 455, 456, 457, 458, 459, 460, 461, 462, 463] (by decide +kernel) (by decide +kernel)
set_option maxRecDepth 20000 in
theorem gL_law_X1_latest : GoodIn wsL_law (wsV RL 118 RX1 yX1_latest wsX1_latest) := goodIn_app (goodIn_of _ (by decide +kernel)) ggL_law_X1_latest
set_option maxRecDepth 20000 in
theorem ggL_law_L_passed : GoodIn wsL_law wsL_passed := goodIn_ca (goodIn_r _ [337, 109, 338, 339, 340, 2, 341, 25, 140, 141, 142, 143, 118, 119, 144, 145, 146, 147, 77, 426, 427, 428, 429, 430, 431, 432, 433, 434, 435, 436, 437, 438, 439, 440, 441, 442, 443, 444] (by decide +kernel) (by decide +kernel)) (goodIn_sub (fun _ h => List.mem_append_left _ (List.mem_append_right _ h)) (by decide +kernel))
set_option maxRecDepth 20000 in
theorem gL_law_L_passed : GoodIn wsL_law (va_wsS RL 119 yL_passed wsL_passed) := goodIn_app (goodIn_of _ (by decide +kernel)) ggL_law_L_passed
set_option maxRecDepth 20000 in
theorem ggL_law_X1_passed : GoodIn wsL_law wsX1_passed := goodIn_r _ [345, 44, 152, 153, 154, 5, 155, 128, 94, 95, 96, 97, 98, 99, 100, 101, 445, 446, 447, 448, 449, 450, 451, 452, 453, 454, 455, 456, 457, 458, 459, 460, 461, 462, 463] (by decide +kernel) (by decide +kernel)
set_option maxRecDepth 20000 in
theorem gL_law_X1_passed : GoodIn wsL_law (wsV RL 121 RX1 yX1_passed wsX1_passed) := goodIn_app (goodIn_of _ (by decide +kernel)) ggL_law_X1_passed
set_option maxRecDepth 20000 in
theorem ggL_law_X0_waited : GoodIn wsL_law wsX0_waited := goodIn_r _ [349, 211, 426, 427, 428, 429, 430, 431, 432, 433, 434, 435, 436, 437, 438, 439, 440, 441, 442, 443, 444] (by decide +kernel) (by decide +kernel)
set_option maxRecDepth 20000 in
theorem gL_law_X0_waited : GoodIn wsL_law (wsV RL 122 RX0 yX0_waited wsX0_waited) := goodIn_app (goodIn_of _ (by decide +kernel)) ggL_law_X0_waited
set_option maxRecDepth 20000 in
theorem ggL_law_X1_waited : GoodIn wsL_law wsX1_waited := goodIn_r _ [353, 101, 249, 445, 446, 447, 448, 449, 450, 451, 452, 453, 454, 455, 456, 457, 458, 459, 460, 461, 462, 463] (by decide +kernel) (by decide +kernel)
set_option maxRecDepth 20000 in
theorem gL_law_X1_waited : GoodIn wsL_law (wsV RL 125 RX1 yX1_waited wsX1_waited) := goodIn_app (goodIn_of _ (by decide +kernel)) ggL_law_X1_waited
set_option maxRecDepth 20000 in
theorem ggL_law_L_distance : GoodIn wsL_law wsL_distance := goodIn_ca (goodIn_ca (goodIn_r _ [356, 109, 321, 357, 358, 359, 2, 360, 17, 114, 115, 116, 117, 118, 119, 120, 121, 122, 123, 29, 326, 327, 328, 329, 330, 426, 427, 428, 429, 430, 431, 432, 433, 434, 435, 436, 437, 438, 439, 440, 441, 442, 443, 444] (by decide +kernel) (by decide +kernel)) (goodIn_sub (fun _ h => List.mem_append_left _ (List.mem_append_right _ h)) (by decide +kernel))) (goodIn_sub (fun _ h => List.mem_append_right _ h) (by decide +kernel))
set_option maxRecDepth 20000 in
theorem gL_law_L_distance : GoodIn wsL_law (va_wsS RL 126 yL_distance wsL_distance) := goodIn_app (goodIn_of _ (by decide +kernel)) ggL_law_L_distance
set_option maxRecDepth 20000 in
theorem ggL_law_X1_distance : GoodIn wsL_law wsX1_distance := goodIn_r _ [364, 46, 258, 259, 260, 5, 261, 35, 128, 39, 40, 262, 263, 264, 265, 43, 129, 130, 131, 132, 94, 95, 96, 97, 98, 99, 100, 101, 445, 446, 447, 448, 449, 450, 451, 452, 453, 454, 455, 456, 457, 458, 459, 460, 461, 462, 463] (by decide +kernel) (by decide +kernel)
set_option maxRecDepth 20000 in
theorem gL_law_X1_distance : GoodIn wsL_law (wsV RL 128 RX1 yX1_distance wsX1_distance) := goodIn_app (goodIn_of _ (by decide +kernel)) ggL_law_X1_distance
set_option maxRecDepth 20000 in
theorem ggL_law_L_door : GoodIn wsL_law wsL_door := goodIn_ca (goodIn_ca (goodIn_r _ [367, 109, 321, 368, 369, 370, 2, 371, 18, 114, 115, 116, 117, 118, 119, 120, 121, 122, 123, 29, 326, 327, 328, 329, 330, 426, 427, 428, 429, 430, 431, 432, 433, 434, 435, 436, 437, 438, 439, 440, 441, 442, 443, 444] (by decide +kernel) (by decide +kernel)) (goodIn_sub (fun _ h => List.mem_append_left _ (List.mem_append_right _ h)) (by decide +kernel))) (goodIn_sub (fun _ h => List.mem_append_right _ h) (by decide +kernel))
set_option maxRecDepth 20000 in
theorem gL_law_L_door : GoodIn wsL_law (va_wsS RL 129 yL_door wsL_door) := goodIn_app (goodIn_of _ (by decide +kernel)) ggL_law_L_door
set_option maxRecDepth 20000 in
theorem ggL_law_X1_door : GoodIn wsL_law wsX1_door := goodIn_r _ [375, 258, 259, 260, 5, 261, 35, 46, 128, 39, 40, 262, 263, 264, 265, 43, 129, 130, 131, 132, 94, 95, 96, 266, 267, 268, 269, 270, 271, 272, 273, 97, 98, 99, 100, 101, 445, 446, 447, 448, 449, 450, 451, 452, 453, 454, 455, 456, 457, 458, 459, 460, 461, 462, 463] (by decide +kernel) (by decide +kernel)
set_option maxRecDepth 20000 in
theorem gL_law_X1_door : GoodIn wsL_law (wsV RL 131 RX1 yX1_door wsX1_door) := goodIn_app (goodIn_of _ (by decide +kernel)) ggL_law_X1_door
set_option maxRecDepth 20000 in
theorem ggL_law_X0_trapped : GoodIn wsL_law wsX0_trapped := goodIn_r _ [379, 29, 17, 15, 426, 427, 428, 429, 430, 431, 432, 433, 434, 435, 436, 437, 438, 439, 440, 441, 442, 443, 444] (by decide +kernel) (by decide +kernel)
set_option maxRecDepth 20000 in
theorem gL_law_X0_trapped : GoodIn wsL_law (wsV RL 132 RX0 yX0_trapped wsX0_trapped) := goodIn_app (goodIn_of _ (by decide +kernel)) ggL_law_X0_trapped
set_option maxRecDepth 20000 in
theorem ggL_law_X1_trapped : GoodIn wsL_law wsX1_trapped := goodIn_r _ [383, 101, 384, 385, 386, 5, 387, 35, 46, 37, 258, 259, 260, 261, 128, 39, 40, 262, 263, 264, 265, 43, 445, 446, 447, 448, 449, 450, 451, 452, 453, 454, 455, 456, 457, 458, 459, 460, 461, 462, 463] (by decide +kernel) (by decide +kernel)
set_option maxRecDepth 20000 in
theorem gL_law_X1_trapped : GoodIn wsL_law (wsV RL 135 RX1 yX1_trapped wsX1_trapped) := goodIn_app (goodIn_of _ (by decide +kernel)) ggL_law_X1_trapped
set_option maxRecDepth 20000 in
theorem ggL_law_L_wouldMove : GoodIn wsL_law wsL_wouldMove := goodIn_ca (goodIn_r _ [390, 109, 391, 392, 393, 2, 394, 18, 28, 114, 115, 116, 117, 118, 119, 120, 121, 122, 123, 29, 144, 145, 146, 147, 77, 212, 213, 214, 215, 216, 217, 218, 219, 163, 164, 165, 166, 167, 14, 15, 220, 221, 222, 223, 27, 22, 224, 225, 226, 227, 228, 229, 230, 231, 26, 16, 210, 21, 426, 427, 428, 429, 430, 431, 432, 433, 434, 435, 436, 437, 438, 439, 440, 441, 442, 443, 444] (by decide +kernel) (by decide +kernel)) (goodIn_sub (fun _ h => List.mem_append_left _ (List.mem_append_right _ h)) (by decide +kernel))
set_option maxRecDepth 20000 in
theorem gL_law_L_wouldMove : GoodIn wsL_law (va_wsS RL 136 yL_wouldMove wsL_wouldMove) := goodIn_app (goodIn_of _ (by decide +kernel)) ggL_law_L_wouldMove
set_option maxRecDepth 20000 in
theorem ggL_law_X1_wouldMove : GoodIn wsL_law wsX1_wouldMove := goodIn_r _ [398, 48, 129, 130, 131, 5, 132, 35, 94, 95, 96, 97, 98, 99, 100, 101, 250, 251, 252, 253, 254, 255, 256, 257, 128, 47, 49, 38, 248, 37, 41, 258, 259, 260, 261, 46, 39, 40, 262, 263, 264, 265, 43, 266, 267, 268, 269, 270, 271, 272, 273, 274, 275, 276, 277, 36, 42, 445, 446, 447, 448, 449, 450, 451, 452, 453, 454, 455, 456, 457, 458, 459, 460, 461, 462, 463] (by decide +kernel) (by decide +kernel)
set_option maxRecDepth 20000 in
theorem gL_law_X1_wouldMove : GoodIn wsL_law (wsV RL 138 RX1 yX1_wouldMove wsX1_wouldMove) := goodIn_app (goodIn_of _ (by decide +kernel)) ggL_law_X1_wouldMove
set_option maxRecDepth 20000 in
theorem ggL_law_L_bound : GoodIn wsL_law wsL_bound := goodIn_ca (goodIn_r _ [401, 55, 402, 403, 404, 2, 405, 29, 406, 407, 226, 408, 409, 377, 378, 379, 17, 15, 68, 69, 70, 71, 72, 410, 411, 412, 413, 414, 415, 416, 417, 418, 419, 420, 421, 77, 19, 20, 24, 21, 426, 427, 428, 429, 430, 431, 432, 433, 434, 435, 436, 437, 438, 439, 440, 441, 442, 443, 444] (by decide +kernel) (by decide +kernel)) (goodIn_sub (fun _ h => List.mem_append_left _ (List.mem_append_left _ (List.mem_append_right _ h))) (by decide +kernel))
set_option maxRecDepth 20000 in
theorem gL_law_L_bound : GoodIn wsL_law (va_wsS RL 139 yL_bound wsL_bound) := goodIn_app (goodIn_of _ (by decide +kernel)) ggL_law_L_bound
set_option maxRecDepth 20000 in
theorem ggL_law_X1_bound : GoodIn wsL_law wsX1_bound := goodIn_r _ [425, 35, 46, 37, 128, 39, 40, 43, 41, 384, 385, 386, 5, 387, 258, 259, 260, 261, 262, 263, 264, 265, 97, 98, 99, 100, 101, 445, 446, 447, 448, 449, 450, 451, 452, 453, 454, 455, 456, 457, 458, 459, 460, 461, 462, 463] (by decide +kernel) (by decide +kernel)
set_option maxRecDepth 20000 in
theorem gL_law_X1_bound : GoodIn wsL_law (wsV RL 141 RX1 yX1_bound wsX1_bound) := goodIn_app (goodIn_of _ (by decide +kernel)) ggL_law_X1_bound
abbrev vwCl : List vw_C := [(RX0, TX0, 19), (RX1, TX1, 19)]
end
section
/-! ===== ints as Int ===== -/
def iI (x : Int) : Int32 := Int32.ofInt x
def gsm (a : Int) : Prop := -2147483648 ≤ a ∧ a < 2147483648
theorem iI_add (a b : Int) : iI a + iI b = iI (a + b) := (Int32.ofInt_add a b).symm
theorem iI_sub (a b : Int) : iI a - iI b = iI (a - b) := (Int32.ofInt_sub a b).symm
theorem iI_neg (a : Int) : -iI a = iI (-a) := (Int32.ofInt_neg a).symm
theorem iI_toInt {a : Int} (h : gsm a) : (iI a).toInt = a := Int32.toInt_ofInt_of_le (by have := h.1; omega) (by have := h.2; omega)
theorem iI_of (x : Int32) : iI x.toInt = x := Int32.ofInt_toInt x
theorem gsm_of (x : Int32) : gsm x.toInt := ⟨by have := x.le_toInt; omega, by have := x.toInt_lt; omega⟩
theorem iI_nat (n : Nat) : iI (n : Int) = Int32.ofNat n := Int32.ofInt_eq_ofNat
theorem iI_cl {a : Int} (h0 : 0 ≤ a) (h1 : a < 2147483648) : (iI a).toNatClampNeg = a.toNat := by
  have h := iI_toInt (a := a) ⟨by omega, h1⟩
  show (iI a).toInt.toNat = a.toNat
  rw [h]
theorem iI_in {a : Int} {n : Nat} (h0 : 0 ≤ a) (h1 : a < n) (hn : n ≤ 2147483648) : vp_in (iI a) n := by
  rw [vp_in_iff, iI_toInt ⟨by omega, by omega⟩]
  exact ⟨h0, h1⟩
theorem iI_le {a b : Int} (ha : gsm a) (hb : gsm b) : iI a ≤ iI b ↔ a ≤ b := by
  rw [Int32.le_iff_toInt_le, iI_toInt ha, iI_toInt hb]
theorem iI_lt {a b : Int} (ha : gsm a) (hb : gsm b) : iI a < iI b ↔ a < b := by
  rw [Int32.lt_iff_toInt_lt, iI_toInt ha, iI_toInt hb]
theorem iI_eq {a b : Int} (ha : gsm a) (hb : gsm b) : iI a = iI b ↔ a = b := by
  rw [← Int32.toInt_inj, iI_toInt ha, iI_toInt hb]
theorem iI_0 : (0 : Int32) = iI 0 := rfl
theorem gsm_i {a : Int} (h0 : -2147483648 ≤ a) (h1 : a < 2147483648) : gsm a := ⟨h0, h1⟩
theorem iI_div {a b : Int} (ha : 0 ≤ a) (ha2 : a < 2147483648) (hb : 0 < b) (hb2 : b < 2147483648) : iI a / iI b = iI (a / b) := by
  have h1 : iI a = nI a.toNat := by rw [show nI a.toNat = Int32.ofNat a.toNat from rfl, ← iI_nat]; rw [Int.toNat_of_nonneg ha]
  have h2 : iI b = nI b.toNat := by rw [show nI b.toNat = Int32.ofNat b.toNat from rfl, ← iI_nat]; rw [Int.toNat_of_nonneg (by omega)]
  rw [h1, h2, pk_div (by omega) (by omega) (by omega), show nI (a.toNat / b.toNat) = Int32.ofNat (a.toNat / b.toNat) from rfl, ← iI_nat]
  congr 1
  rw [Int.natCast_ediv, Int.toNat_of_nonneg ha, Int.toNat_of_nonneg (by omega)]
/-! ===== locals ===== -/
def gL (ls : Array Slot) (lv : List (Option Value)) : Prop := ls.size = lv.length ∧ lv_wf ls ∧ ∀ (k : Nat) (v : Value), lv[k]? = some (some v) → ls[k]? = some (.val v) ∧ v.category = 1
def gAs (lv : List (Option Value)) : List (Nat × Value) := (List.range lv.length).filterMap (fun k => (lv[k]?.join).map (fun v => (k, v)))
theorem gAs_mem {lv : List (Option Value)} {q : Nat × Value} : q ∈ gAs lv ↔ lv[q.1]? = some (some q.2) := by
  obtain ⟨k, v⟩ := q
  unfold gAs
  rw [List.mem_filterMap]
  constructor
  · rintro ⟨a, -, h⟩
    rw [Option.map_eq_some_iff] at h
    obtain ⟨w, h1, h2⟩ := h
    cases h2
    exact Option.join_eq_some_iff.mp h1
  · intro h
    refine ⟨k, List.mem_range.mpr (List.getElem?_eq_some_iff.mp h).1, ?_⟩
    simp only [] at h
    rw [h]
    rfl
theorem gL_has {ls : Array Slot} {lv : List (Option Value)} (h : gL ls lv) : lv_has ls lv.length (gAs lv) := ⟨h.1, h.2.1, fun q hq => (h.2.2 q.1 q.2 (gAs_mem.mp hq)).1⟩
theorem gL_put {ls ls' : Array Slot} {lv : List (Option Value)} {i : Nat} {v : Value} (h : gL ls lv) (hc : v.category = 1) (h' : lv_has ls' lv.length ((i, v) :: (gAs lv).filter (fun q => !(q.1 == i) && !(q.1 + 1 == i && q.2.category == 2)))) : gL ls' (lv.set i (some v)) := by
  refine ⟨by rw [h'.1, List.length_set], h'.2.1, fun k w hk => ?_⟩
  by_cases hki : k = i
  · subst hki
    rw [List.getElem?_set_self (by have := (List.getElem?_eq_some_iff.mp hk).1; rwa [List.length_set] at this)] at hk
    cases hk
    exact ⟨h'.2.2 _ List.mem_cons_self, hc⟩
  · rw [List.getElem?_set_ne (Ne.symm hki)] at hk
    obtain ⟨h1, h2⟩ := h.2.2 k w hk
    refine ⟨h'.2.2 (k, w) (List.mem_cons_of_mem _ (List.mem_filter.mpr ⟨gAs_mem.mpr hk, ?_⟩)), h2⟩
    simp [hki, h2]
theorem gL_entry {l : List Value} {n : Nat} (hn : l.length ≤ n) (hc : ∀ v ∈ l, v.category = 1) {ls : Array Slot} (h : lv_has ls n (lv_args 0 l)) : gL ls (l.map some ++ List.replicate (n - l.length) none) := by
  have key : ∀ (l : List Value) (i : Nat), (∀ v ∈ l, v.category = 1) → ∀ (k : Nat) (v : Value), l[k]? = some v → (i + k, v) ∈ lv_args i l := by
    intro l
    induction l with
    | nil => intro i _ k v h; simp at h
    | cons w l ih =>
      intro i hc k v h
      have hw : w.category = 1 := hc w List.mem_cons_self
      cases k with
      | zero =>
        rw [List.getElem?_cons_zero] at h
        cases h
        simp [lv_args]
      | succ k =>
        rw [List.getElem?_cons_succ] at h
        have := ih (i + 1) (fun v hv => hc v (List.mem_cons_of_mem _ hv)) k v h
        simp only [lv_args, hw]
        rw [show i + (k + 1) = i + 1 + k by omega]
        exact List.mem_cons_of_mem _ this
  refine ⟨by rw [h.1]; simp; omega, h.2.1, fun k v hk => ?_⟩
  by_cases hl : k < l.length
  · rw [List.getElem?_append_left (by simpa using hl), List.getElem?_map, Option.map_eq_some_iff] at hk
    obtain ⟨w, h1, h2⟩ := hk
    cases h2
    have := h.2.2 _ (key l 0 hc k v h1)
    rw [Nat.zero_add] at this
    exact ⟨this, hc v (List.mem_of_getElem? h1)⟩
  · rw [List.getElem?_append_right (by simpa using hl), List.getElem?_replicate] at hk
    split at hk <;> cases hk
end
section
/-! ===== the judgement ===== -/
section GJ
variable {p : Program} {l : Launch} {e : Env} {R : Room} {s : State} {m : MethodId} {args : Array Value} {below : List Frame} {meth : Method} {c : Code} {cells slots : Nat} {Q : State → Prop} {A0 : Nat → Prop} {D : va_G}
variable {own : String} {cc : ByteArray} {nL : Nat} {Ts : List Cond} {tys : List (ClassId × FieldType)} {ws : va_W} {lv lv' : List (Option Value)} {pc : Nat} {st : List Value}
def gE (p : Program) (s : State) (m : MethodId) (args : Array Value) (c : Code) (own : String) (cc : ByteArray) (nL : Nat) (Ts : List Cond) (D : va_G) (tys : List (ClassId × FieldType)) (A0 : Nat → Prop) : Prop :=
  CallFix p m c cc nL s args Ts own ∧ va_K D vwCl tys s ∧ ∀ q : Nat, s.heap.size ≤ q → A0 q
def gJ (p : Program) (l : Launch) (e : Env) (R : Room) (s : State) (m : MethodId) (args : Array Value) (below : List Frame) (meth : Method) (c : Code) (cells slots : Nat) (Q : State → Prop) (A0 : Nat → Prop) (D : va_G) (ws : va_W) (lv : List (Option Value)) (pc : Nat) (st : List Value) : Prop :=
  ∀ (H : Heap) (locs : List Loc) (ls : Array Slot), va_P D vwCl ws H → va_D A0 ws → va_S A0 s.heap H locs → gL ls lv → W p l e R s m args below meth c H locs cells slots Q (F0 m pc ls st)
theorem g_loop (P : Nat → Prop) (n : Nat) (he : P n) (hs : ∀ k, k < n → P (k + 1) → P k) : ∀ k, k ≤ n → P k := by
  intro k hk
  have key : ∀ d k, k + d = n → P k := by
    intro d
    induction d with
    | zero => intro k h; rw [show k = n by omega]; exact he
    | succ d ih => intro k h; exact hs k (by omega) (ih (k + 1) (by omega))
  exact key (n - k) k (by omega)

theorem g_iconst (E : gE p s m args c own cc nL Ts D tys A0) {n : Int} (hdg : decode cc pc = .ok (.iconst n, 1))  (K : gJ p l e R s m args below meth c cells slots Q A0 D ws lv (pc + 1) (.int (iI n) :: st)) : gJ p l e R s m args below meth c cells slots Q A0 D ws lv pc st := by
  obtain ⟨⟨hx, hb, hml, hown, hts⟩, hK, hA⟩ := E
  intro H locs ls hP hD hS hL
  exact lv_iconst hx hb hdg rfl (K H locs ls hP hD hS hL)
theorem g_bipush (E : gE p s m args c own cc nL Ts D tys A0) {n : Int} (hdg : decode cc pc = .ok (.bipush n, 2)) (hv : (Int8.ofInt n).toInt32 = iI n) (K : gJ p l e R s m args below meth c cells slots Q A0 D ws lv (pc + 2) (.int (iI n) :: st)) : gJ p l e R s m args below meth c cells slots Q A0 D ws lv pc st := by
  obtain ⟨⟨hx, hb, hml, hown, hts⟩, hK, hA⟩ := E
  intro H locs ls hP hD hS hL
  exact lv_bipush hx hb hdg hv (K H locs ls hP hD hS hL)
theorem g_sipush (E : gE p s m args c own cc nL Ts D tys A0) {n : Int} (hdg : decode cc pc = .ok (.sipush n, 3)) (hv : (Int16.ofInt n).toInt32 = iI n) (K : gJ p l e R s m args below meth c cells slots Q A0 D ws lv (pc + 3) (.int (iI n) :: st)) : gJ p l e R s m args below meth c cells slots Q A0 D ws lv pc st := by
  obtain ⟨⟨hx, hb, hml, hown, hts⟩, hK, hA⟩ := E
  intro H locs ls hP hD hS hL
  exact lv_sipush hx hb hdg hv (K H locs ls hP hD hS hL)
theorem g_iload_n (E : gE p s m args c own cc nL Ts D tys A0) {k : Fin 4} {i : Nat} {x : Int32} (hdg : decode cc pc = .ok (.iload_n k, 1)) (hi : (k : Nat) = i) (hl : lv[i]? = some (some (.int x))) (K : gJ p l e R s m args below meth c cells slots Q A0 D ws lv (pc + 1) (.int x :: st)) : gJ p l e R s m args below meth c cells slots Q A0 D ws lv pc st := by
  obtain ⟨⟨hx, hb, hml, hown, hts⟩, hK, hA⟩ := E
  intro H locs ls hP hD hS hL
  exact lv_iload_n hx hb hdg hi (hL.2.2 i _ hl).1 (K H locs ls hP hD hS hL)
theorem g_iload (E : gE p s m args c own cc nL Ts D tys A0) {i : Nat} {x : Int32} (hdg : decode cc pc = .ok (.iload i, 2)) (hl : lv[i]? = some (some (.int x))) (K : gJ p l e R s m args below meth c cells slots Q A0 D ws lv (pc + 2) (.int x :: st)) : gJ p l e R s m args below meth c cells slots Q A0 D ws lv pc st := by
  obtain ⟨⟨hx, hb, hml, hown, hts⟩, hK, hA⟩ := E
  intro H locs ls hP hD hS hL
  exact lv_iload hx hb hdg (hL.2.2 i _ hl).1 (K H locs ls hP hD hS hL)
theorem g_istore_n (E : gE p s m args c own cc nL Ts D tys A0) {k : Fin 4} {i : Nat} {x : Int32} (hdg : decode cc pc = .ok (.istore_n k, 1)) (hi : (k : Nat) = i) (hn : i < lv.length) (hl : lv.set i (some (.int x)) = lv') (K : gJ p l e R s m args below meth c cells slots Q A0 D ws lv' (pc + 1) st) : gJ p l e R s m args below meth c cells slots Q A0 D ws lv pc (.int x :: st) := by
  obtain ⟨⟨hx, hb, hml, hown, hts⟩, hK, hA⟩ := E
  intro H locs ls hP hD hS hL
  subst hl
  exact lv_istore_n hx hb hdg hi (gL_has hL) hn rfl (fun ls' hL' => K H locs ls' hP hD hS (gL_put hL rfl hL'))
theorem g_istore (E : gE p s m args c own cc nL Ts D tys A0) {i : Nat} {x : Int32} (hdg : decode cc pc = .ok (.istore i, 2)) (hn : i < lv.length) (hl : lv.set i (some (.int x)) = lv') (K : gJ p l e R s m args below meth c cells slots Q A0 D ws lv' (pc + 2) st) : gJ p l e R s m args below meth c cells slots Q A0 D ws lv pc (.int x :: st) := by
  obtain ⟨⟨hx, hb, hml, hown, hts⟩, hK, hA⟩ := E
  intro H locs ls hP hD hS hL
  subst hl
  exact lv_istore hx hb hdg (gL_has hL) hn rfl (fun ls' hL' => K H locs ls' hP hD hS (gL_put hL rfl hL'))
theorem g_aload_n (E : gE p s m args c own cc nL Ts D tys A0) {k : Fin 4} {i : Nat} {x : Nat} (hdg : decode cc pc = .ok (.aload_n k, 1)) (hi : (k : Nat) = i) (hl : lv[i]? = some (some (.ref x))) (K : gJ p l e R s m args below meth c cells slots Q A0 D ws lv (pc + 1) (.ref x :: st)) : gJ p l e R s m args below meth c cells slots Q A0 D ws lv pc st := by
  obtain ⟨⟨hx, hb, hml, hown, hts⟩, hK, hA⟩ := E
  intro H locs ls hP hD hS hL
  exact lv_aload_n hx hb hdg hi (hL.2.2 i _ hl).1 (K H locs ls hP hD hS hL)
theorem g_aload (E : gE p s m args c own cc nL Ts D tys A0) {i : Nat} {x : Nat} (hdg : decode cc pc = .ok (.aload i, 2)) (hl : lv[i]? = some (some (.ref x))) (K : gJ p l e R s m args below meth c cells slots Q A0 D ws lv (pc + 2) (.ref x :: st)) : gJ p l e R s m args below meth c cells slots Q A0 D ws lv pc st := by
  obtain ⟨⟨hx, hb, hml, hown, hts⟩, hK, hA⟩ := E
  intro H locs ls hP hD hS hL
  exact lv_aload hx hb hdg (hL.2.2 i _ hl).1 (K H locs ls hP hD hS hL)
theorem g_astore_n (E : gE p s m args c own cc nL Ts D tys A0) {k : Fin 4} {i : Nat} {x : Nat} (hdg : decode cc pc = .ok (.astore_n k, 1)) (hi : (k : Nat) = i) (hn : i < lv.length) (hl : lv.set i (some (.ref x)) = lv') (K : gJ p l e R s m args below meth c cells slots Q A0 D ws lv' (pc + 1) st) : gJ p l e R s m args below meth c cells slots Q A0 D ws lv pc (.ref x :: st) := by
  obtain ⟨⟨hx, hb, hml, hown, hts⟩, hK, hA⟩ := E
  intro H locs ls hP hD hS hL
  subst hl
  exact lv_astore_n hx hb hdg hi (gL_has hL) hn rfl (fun ls' hL' => K H locs ls' hP hD hS (gL_put hL rfl hL'))
theorem g_astore (E : gE p s m args c own cc nL Ts D tys A0) {i : Nat} {x : Nat} (hdg : decode cc pc = .ok (.astore i, 2)) (hn : i < lv.length) (hl : lv.set i (some (.ref x)) = lv') (K : gJ p l e R s m args below meth c cells slots Q A0 D ws lv' (pc + 2) st) : gJ p l e R s m args below meth c cells slots Q A0 D ws lv pc (.ref x :: st) := by
  obtain ⟨⟨hx, hb, hml, hown, hts⟩, hK, hA⟩ := E
  intro H locs ls hP hD hS hL
  subst hl
  exact lv_astore hx hb hdg (gL_has hL) hn rfl (fun ls' hL' => K H locs ls' hP hD hS (gL_put hL rfl hL'))
theorem g_iinc (E : gE p s m args c own cc nL Ts D tys A0) {i : Nat} {n a : Int} (hdg : decode cc pc = .ok (.iinc i n, 3)) (h0 : lv[i]? = some (some (.int (iI a)))) (hl : lv.set i (some (.int (iI (a + n)))) = lv') (K : gJ p l e R s m args below meth c cells slots Q A0 D ws lv' (pc + 3) st) : gJ p l e R s m args below meth c cells slots Q A0 D ws lv pc st := by
  obtain ⟨⟨hx, hb, hml, hown, hts⟩, hK, hA⟩ := E
  intro H locs ls hP hD hS hL
  subst hl
  obtain ⟨k, hk⟩ := List.getElem?_of_mem (gAs_mem (q := (i, .int (iI a))).mpr h0)
  exact lv_iinc hx hb hdg (gL_has hL) hk (v := iI (a + n)) (by rw [← iI_add]; rfl) (List.getElem?_eq_some_iff.mp h0).1 rfl (fun ls' hL' => K H locs ls' hP hD hS (gL_put hL rfl hL'))
theorem g_iadd (E : gE p s m args c own cc nL Ts D tys A0) {a b : Int} (hdg : decode cc pc = .ok (.iadd, 1))  (K : gJ p l e R s m args below meth c cells slots Q A0 D ws lv (pc + 1) (.int (iI (a + b)) :: st)) : gJ p l e R s m args below meth c cells slots Q A0 D ws lv pc (.int (iI b) :: .int (iI a) :: st) := by
  obtain ⟨⟨hx, hb, hml, hown, hts⟩, hK, hA⟩ := E
  intro H locs ls hP hD hS hL
  refine lv_iadd hx hb hdg ?_
  rw [iI_add]
  exact K H locs ls hP hD hS hL
theorem g_isub (E : gE p s m args c own cc nL Ts D tys A0) {a b : Int} (hdg : decode cc pc = .ok (.isub, 1))  (K : gJ p l e R s m args below meth c cells slots Q A0 D ws lv (pc + 1) (.int (iI (a - b)) :: st)) : gJ p l e R s m args below meth c cells slots Q A0 D ws lv pc (.int (iI b) :: .int (iI a) :: st) := by
  obtain ⟨⟨hx, hb, hml, hown, hts⟩, hK, hA⟩ := E
  intro H locs ls hP hD hS hL
  refine lv_isub hx hb hdg ?_
  rw [iI_sub]
  exact K H locs ls hP hD hS hL
theorem g_idiv (E : gE p s m args c own cc nL Ts D tys A0) {a b : Int} (hdg : decode cc pc = .ok (.idiv, 1)) (hr : 0 ≤ a ∧ a < 2147483648 ∧ 0 < b ∧ b < 2147483648) (K : gJ p l e R s m args below meth c cells slots Q A0 D ws lv (pc + 1) (.int (iI (a / b)) :: st)) : gJ p l e R s m args below meth c cells slots Q A0 D ws lv pc (.int (iI b) :: .int (iI a) :: st) := by
  obtain ⟨⟨hx, hb, hml, hown, hts⟩, hK, hA⟩ := E
  intro H locs ls hP hD hS hL
  refine lv_idiv hx hb hdg (by rw [iI_0, iI_eq ⟨by omega, by omega⟩ ⟨by omega, by omega⟩]; omega) ?_
  rw [iI_div hr.1 hr.2.1 hr.2.2.1 hr.2.2.2]
  exact K H locs ls hP hD hS hL
theorem g_iandZ (E : gE p s m args c own cc nL Ts D tys A0) {a b : Int} (hdg : decode cc pc = .ok (.iand, 1)) {v : Int} (hv : iI a &&& iI b = iI v) (K : gJ p l e R s m args below meth c cells slots Q A0 D ws lv (pc + 1) (.int (iI v) :: st)) : gJ p l e R s m args below meth c cells slots Q A0 D ws lv pc (.int (iI b) :: .int (iI a) :: st) := by
  obtain ⟨⟨hx, hb, hml, hown, hts⟩, hK, hA⟩ := E
  intro H locs ls hP hD hS hL
  refine lv_iand hx hb hdg ?_
  rw [hv]
  exact K H locs ls hP hD hS hL
theorem g_dup (E : gE p s m args c own cc nL Ts D tys A0) {v : Value} (hdg : decode cc pc = .ok (.dup, 1)) (hv : v.category = 1) (K : gJ p l e R s m args below meth c cells slots Q A0 D ws lv (pc + 1) (v :: v :: st)) : gJ p l e R s m args below meth c cells slots Q A0 D ws lv pc (v :: st) := by
  obtain ⟨⟨hx, hb, hml, hown, hts⟩, hK, hA⟩ := E
  intro H locs ls hP hD hS hL
  exact lv_dup hx hb hdg hv (K H locs ls hP hD hS hL)
theorem g_pop (E : gE p s m args c own cc nL Ts D tys A0) {v : Value} (hdg : decode cc pc = .ok (.pop, 1)) (hv : v.category = 1) (K : gJ p l e R s m args below meth c cells slots Q A0 D ws lv (pc + 1) st) : gJ p l e R s m args below meth c cells slots Q A0 D ws lv pc (v :: st) := by
  obtain ⟨⟨hx, hb, hml, hown, hts⟩, hK, hA⟩ := E
  intro H locs ls hP hD hS hL
  exact lv_pop hx hb hdg hv (K H locs ls hP hD hS hL)
theorem g_dup2 (E : gE p s m args c own cc nL Ts D tys A0) {v w : Value} (hdg : decode cc pc = .ok (.dup2, 1)) (hv : v.category = 1) (hw : w.category = 1) (K : gJ p l e R s m args below meth c cells slots Q A0 D ws lv (pc + 1) (v :: w :: v :: w :: st)) : gJ p l e R s m args below meth c cells slots Q A0 D ws lv pc (v :: w :: st) := by
  obtain ⟨⟨hx, hb, hml, hown, hts⟩, hK, hA⟩ := E
  intro H locs ls hP hD hS hL
  exact lv_dup2_11 hx hb hdg hv hw (K H locs ls hP hD hS hL)
theorem g_goto (E : gE p s m args c own cc nL Ts D tys A0) {off : Int} {tgt : Nat} (hdg : decode cc pc = .ok (.goto off, 3)) (ht : (pc : Int) + off = (tgt : Int)) (K : gJ p l e R s m args below meth c cells slots Q A0 D ws lv tgt st) : gJ p l e R s m args below meth c cells slots Q A0 D ws lv pc st := by
  obtain ⟨⟨hx, hb, hml, hown, hts⟩, hK, hA⟩ := E
  intro H locs ls hP hD hS hL
  exact lv_goto hx hb hdg ht (K H locs ls hP hD hS hL)
theorem g_icmp_eq (E : gE p s m args c own cc nL Ts D tys A0) {a b : Int} {off : Int} {tgt : Nat} (hdg : decode cc pc = .ok (.if_icmp .eq off, 3)) (ht : (pc : Int) + off = (tgt : Int)) (hr : (-2147483648 ≤ a ∧ a < 2147483648) ∧ (-2147483648 ≤ b ∧ b < 2147483648)) (kt : a = b → gJ p l e R s m args below meth c cells slots Q A0 D ws lv tgt st) (kf : ¬ a = b → gJ p l e R s m args below meth c cells slots Q A0 D ws lv (pc + 3) st) : gJ p l e R s m args below meth c cells slots Q A0 D ws lv pc (.int (iI b) :: .int (iI a) :: st) := by
  obtain ⟨⟨hx, hb, hml, hown, hts⟩, hK, hA⟩ := E
  intro H locs ls hP hD hS hL
  have ha : gsm a := hr.1
  have hb0 : gsm b := hr.2
  exact lv_icmp_eq hx hb hdg ht (fun h => by exact kt ((iI_eq ha hb0).mp h) H locs ls hP hD hS hL) (fun h => by exact kf (fun h2 => h ((iI_eq ha hb0).mpr h2)) H locs ls hP hD hS hL)
theorem g_icmp_eq_t (E : gE p s m args c own cc nL Ts D tys A0) {a b : Int} {off : Int} {tgt : Nat} (hdg : decode cc pc = .ok (.if_icmp .eq off, 3)) (ht : (pc : Int) + off = (tgt : Int)) (hr : (-2147483648 ≤ a ∧ a < 2147483648) ∧ (-2147483648 ≤ b ∧ b < 2147483648)) (h : a = b) (K : gJ p l e R s m args below meth c cells slots Q A0 D ws lv tgt st) : gJ p l e R s m args below meth c cells slots Q A0 D ws lv pc (.int (iI b) :: .int (iI a) :: st) := g_icmp_eq E hdg ht hr (fun _ => K) (fun h2 => absurd h h2)
theorem g_icmp_eq_f (E : gE p s m args c own cc nL Ts D tys A0) {a b : Int} {off : Int} {tgt : Nat} (hdg : decode cc pc = .ok (.if_icmp .eq off, 3)) (ht : (pc : Int) + off = (tgt : Int)) (hr : (-2147483648 ≤ a ∧ a < 2147483648) ∧ (-2147483648 ≤ b ∧ b < 2147483648)) (h : ¬ a = b) (K : gJ p l e R s m args below meth c cells slots Q A0 D ws lv (pc + 3) st) : gJ p l e R s m args below meth c cells slots Q A0 D ws lv pc (.int (iI b) :: .int (iI a) :: st) := g_icmp_eq E hdg ht hr (fun h2 => absurd h2 h) (fun _ => K)
theorem g_if_eq (E : gE p s m args c own cc nL Ts D tys A0) {a : Int} {off : Int} {tgt : Nat} (hdg : decode cc pc = .ok (.ifCond .eq off, 3)) (ht : (pc : Int) + off = (tgt : Int)) (hr : -2147483648 ≤ a ∧ a < 2147483648) (kt : a = 0 → gJ p l e R s m args below meth c cells slots Q A0 D ws lv tgt st) (kf : ¬ a = 0 → gJ p l e R s m args below meth c cells slots Q A0 D ws lv (pc + 3) st) : gJ p l e R s m args below meth c cells slots Q A0 D ws lv pc (.int (iI a) :: st) := by
  obtain ⟨⟨hx, hb, hml, hown, hts⟩, hK, hA⟩ := E
  intro H locs ls hP hD hS hL
  have ha : gsm a := hr
  have hb0 : gsm 0 := ⟨by decide, by decide⟩
  exact lv_if_eq hx hb hdg ht (fun h => by rw [iI_0] at h; exact kt ((iI_eq ha hb0).mp h) H locs ls hP hD hS hL) (fun h => by rw [iI_0] at h; exact kf (fun h2 => h ((iI_eq ha hb0).mpr h2)) H locs ls hP hD hS hL)
theorem g_if_eq_t (E : gE p s m args c own cc nL Ts D tys A0) {a : Int} {off : Int} {tgt : Nat} (hdg : decode cc pc = .ok (.ifCond .eq off, 3)) (ht : (pc : Int) + off = (tgt : Int)) (hr : -2147483648 ≤ a ∧ a < 2147483648) (h : a = 0) (K : gJ p l e R s m args below meth c cells slots Q A0 D ws lv tgt st) : gJ p l e R s m args below meth c cells slots Q A0 D ws lv pc (.int (iI a) :: st) := g_if_eq E hdg ht hr (fun _ => K) (fun h2 => absurd h h2)
theorem g_if_eq_f (E : gE p s m args c own cc nL Ts D tys A0) {a : Int} {off : Int} {tgt : Nat} (hdg : decode cc pc = .ok (.ifCond .eq off, 3)) (ht : (pc : Int) + off = (tgt : Int)) (hr : -2147483648 ≤ a ∧ a < 2147483648) (h : ¬ a = 0) (K : gJ p l e R s m args below meth c cells slots Q A0 D ws lv (pc + 3) st) : gJ p l e R s m args below meth c cells slots Q A0 D ws lv pc (.int (iI a) :: st) := g_if_eq E hdg ht hr (fun h2 => absurd h2 h) (fun _ => K)
theorem g_icmp_ne (E : gE p s m args c own cc nL Ts D tys A0) {a b : Int} {off : Int} {tgt : Nat} (hdg : decode cc pc = .ok (.if_icmp .ne off, 3)) (ht : (pc : Int) + off = (tgt : Int)) (hr : (-2147483648 ≤ a ∧ a < 2147483648) ∧ (-2147483648 ≤ b ∧ b < 2147483648)) (kt : ¬ a = b → gJ p l e R s m args below meth c cells slots Q A0 D ws lv tgt st) (kf : a = b → gJ p l e R s m args below meth c cells slots Q A0 D ws lv (pc + 3) st) : gJ p l e R s m args below meth c cells slots Q A0 D ws lv pc (.int (iI b) :: .int (iI a) :: st) := by
  obtain ⟨⟨hx, hb, hml, hown, hts⟩, hK, hA⟩ := E
  intro H locs ls hP hD hS hL
  have ha : gsm a := hr.1
  have hb0 : gsm b := hr.2
  refine lv_icmp_ne hx hb hdg ht (fun h => ?_) (fun h => ?_)
  · skip
    exact kt (fun h2 => h ((iI_eq ha hb0).mpr h2)) H locs ls hP hD hS hL
  · skip
    exact kf (by first | exact (iI_eq ha hb0).mp h | exact (iI_eq ha hb0).mp (Decidable.not_not.mp h)) H locs ls hP hD hS hL
theorem g_icmp_ne_t (E : gE p s m args c own cc nL Ts D tys A0) {a b : Int} {off : Int} {tgt : Nat} (hdg : decode cc pc = .ok (.if_icmp .ne off, 3)) (ht : (pc : Int) + off = (tgt : Int)) (hr : (-2147483648 ≤ a ∧ a < 2147483648) ∧ (-2147483648 ≤ b ∧ b < 2147483648)) (h : ¬ a = b) (K : gJ p l e R s m args below meth c cells slots Q A0 D ws lv tgt st) : gJ p l e R s m args below meth c cells slots Q A0 D ws lv pc (.int (iI b) :: .int (iI a) :: st) := g_icmp_ne E hdg ht hr (fun _ => K) (fun h2 => absurd h2 h)
theorem g_icmp_ne_f (E : gE p s m args c own cc nL Ts D tys A0) {a b : Int} {off : Int} {tgt : Nat} (hdg : decode cc pc = .ok (.if_icmp .ne off, 3)) (ht : (pc : Int) + off = (tgt : Int)) (hr : (-2147483648 ≤ a ∧ a < 2147483648) ∧ (-2147483648 ≤ b ∧ b < 2147483648)) (h : a = b) (K : gJ p l e R s m args below meth c cells slots Q A0 D ws lv (pc + 3) st) : gJ p l e R s m args below meth c cells slots Q A0 D ws lv pc (.int (iI b) :: .int (iI a) :: st) := g_icmp_ne E hdg ht hr (fun h2 => absurd h h2) (fun _ => K)
theorem g_if_ne (E : gE p s m args c own cc nL Ts D tys A0) {a : Int} {off : Int} {tgt : Nat} (hdg : decode cc pc = .ok (.ifCond .ne off, 3)) (ht : (pc : Int) + off = (tgt : Int)) (hr : -2147483648 ≤ a ∧ a < 2147483648) (kt : ¬ a = 0 → gJ p l e R s m args below meth c cells slots Q A0 D ws lv tgt st) (kf : a = 0 → gJ p l e R s m args below meth c cells slots Q A0 D ws lv (pc + 3) st) : gJ p l e R s m args below meth c cells slots Q A0 D ws lv pc (.int (iI a) :: st) := by
  obtain ⟨⟨hx, hb, hml, hown, hts⟩, hK, hA⟩ := E
  intro H locs ls hP hD hS hL
  have ha : gsm a := hr
  have hb0 : gsm 0 := ⟨by decide, by decide⟩
  refine lv_if_ne hx hb hdg ht (fun h => ?_) (fun h => ?_)
  · rw [iI_0] at h
    exact kt (fun h2 => h ((iI_eq ha hb0).mpr h2)) H locs ls hP hD hS hL
  · rw [iI_0] at h
    exact kf (by first | exact (iI_eq ha hb0).mp h | exact (iI_eq ha hb0).mp (Decidable.not_not.mp h)) H locs ls hP hD hS hL
theorem g_if_ne_t (E : gE p s m args c own cc nL Ts D tys A0) {a : Int} {off : Int} {tgt : Nat} (hdg : decode cc pc = .ok (.ifCond .ne off, 3)) (ht : (pc : Int) + off = (tgt : Int)) (hr : -2147483648 ≤ a ∧ a < 2147483648) (h : ¬ a = 0) (K : gJ p l e R s m args below meth c cells slots Q A0 D ws lv tgt st) : gJ p l e R s m args below meth c cells slots Q A0 D ws lv pc (.int (iI a) :: st) := g_if_ne E hdg ht hr (fun _ => K) (fun h2 => absurd h2 h)
theorem g_if_ne_f (E : gE p s m args c own cc nL Ts D tys A0) {a : Int} {off : Int} {tgt : Nat} (hdg : decode cc pc = .ok (.ifCond .ne off, 3)) (ht : (pc : Int) + off = (tgt : Int)) (hr : -2147483648 ≤ a ∧ a < 2147483648) (h : a = 0) (K : gJ p l e R s m args below meth c cells slots Q A0 D ws lv (pc + 3) st) : gJ p l e R s m args below meth c cells slots Q A0 D ws lv pc (.int (iI a) :: st) := g_if_ne E hdg ht hr (fun h2 => absurd h h2) (fun _ => K)
theorem g_icmp_lt (E : gE p s m args c own cc nL Ts D tys A0) {a b : Int} {off : Int} {tgt : Nat} (hdg : decode cc pc = .ok (.if_icmp .lt off, 3)) (ht : (pc : Int) + off = (tgt : Int)) (hr : (-2147483648 ≤ a ∧ a < 2147483648) ∧ (-2147483648 ≤ b ∧ b < 2147483648)) (kt : a < b → gJ p l e R s m args below meth c cells slots Q A0 D ws lv tgt st) (kf : ¬ a < b → gJ p l e R s m args below meth c cells slots Q A0 D ws lv (pc + 3) st) : gJ p l e R s m args below meth c cells slots Q A0 D ws lv pc (.int (iI b) :: .int (iI a) :: st) := by
  obtain ⟨⟨hx, hb, hml, hown, hts⟩, hK, hA⟩ := E
  intro H locs ls hP hD hS hL
  have ha : gsm a := hr.1
  have hb0 : gsm b := hr.2
  exact lv_icmp_lt hx hb hdg ht (fun h => by exact kt ((iI_lt ha hb0).mp h) H locs ls hP hD hS hL) (fun h => by exact kf (fun h2 => h ((iI_lt ha hb0).mpr h2)) H locs ls hP hD hS hL)
theorem g_icmp_lt_t (E : gE p s m args c own cc nL Ts D tys A0) {a b : Int} {off : Int} {tgt : Nat} (hdg : decode cc pc = .ok (.if_icmp .lt off, 3)) (ht : (pc : Int) + off = (tgt : Int)) (hr : (-2147483648 ≤ a ∧ a < 2147483648) ∧ (-2147483648 ≤ b ∧ b < 2147483648)) (h : a < b) (K : gJ p l e R s m args below meth c cells slots Q A0 D ws lv tgt st) : gJ p l e R s m args below meth c cells slots Q A0 D ws lv pc (.int (iI b) :: .int (iI a) :: st) := g_icmp_lt E hdg ht hr (fun _ => K) (fun h2 => absurd h h2)
theorem g_icmp_lt_f (E : gE p s m args c own cc nL Ts D tys A0) {a b : Int} {off : Int} {tgt : Nat} (hdg : decode cc pc = .ok (.if_icmp .lt off, 3)) (ht : (pc : Int) + off = (tgt : Int)) (hr : (-2147483648 ≤ a ∧ a < 2147483648) ∧ (-2147483648 ≤ b ∧ b < 2147483648)) (h : ¬ a < b) (K : gJ p l e R s m args below meth c cells slots Q A0 D ws lv (pc + 3) st) : gJ p l e R s m args below meth c cells slots Q A0 D ws lv pc (.int (iI b) :: .int (iI a) :: st) := g_icmp_lt E hdg ht hr (fun h2 => absurd h2 h) (fun _ => K)
theorem g_if_lt (E : gE p s m args c own cc nL Ts D tys A0) {a : Int} {off : Int} {tgt : Nat} (hdg : decode cc pc = .ok (.ifCond .lt off, 3)) (ht : (pc : Int) + off = (tgt : Int)) (hr : -2147483648 ≤ a ∧ a < 2147483648) (kt : a < 0 → gJ p l e R s m args below meth c cells slots Q A0 D ws lv tgt st) (kf : ¬ a < 0 → gJ p l e R s m args below meth c cells slots Q A0 D ws lv (pc + 3) st) : gJ p l e R s m args below meth c cells slots Q A0 D ws lv pc (.int (iI a) :: st) := by
  obtain ⟨⟨hx, hb, hml, hown, hts⟩, hK, hA⟩ := E
  intro H locs ls hP hD hS hL
  have ha : gsm a := hr
  have hb0 : gsm 0 := ⟨by decide, by decide⟩
  exact lv_if_lt hx hb hdg ht (fun h => by rw [iI_0] at h; exact kt ((iI_lt ha hb0).mp h) H locs ls hP hD hS hL) (fun h => by rw [iI_0] at h; exact kf (fun h2 => h ((iI_lt ha hb0).mpr h2)) H locs ls hP hD hS hL)
theorem g_if_lt_t (E : gE p s m args c own cc nL Ts D tys A0) {a : Int} {off : Int} {tgt : Nat} (hdg : decode cc pc = .ok (.ifCond .lt off, 3)) (ht : (pc : Int) + off = (tgt : Int)) (hr : -2147483648 ≤ a ∧ a < 2147483648) (h : a < 0) (K : gJ p l e R s m args below meth c cells slots Q A0 D ws lv tgt st) : gJ p l e R s m args below meth c cells slots Q A0 D ws lv pc (.int (iI a) :: st) := g_if_lt E hdg ht hr (fun _ => K) (fun h2 => absurd h h2)
theorem g_if_lt_f (E : gE p s m args c own cc nL Ts D tys A0) {a : Int} {off : Int} {tgt : Nat} (hdg : decode cc pc = .ok (.ifCond .lt off, 3)) (ht : (pc : Int) + off = (tgt : Int)) (hr : -2147483648 ≤ a ∧ a < 2147483648) (h : ¬ a < 0) (K : gJ p l e R s m args below meth c cells slots Q A0 D ws lv (pc + 3) st) : gJ p l e R s m args below meth c cells slots Q A0 D ws lv pc (.int (iI a) :: st) := g_if_lt E hdg ht hr (fun h2 => absurd h2 h) (fun _ => K)
theorem g_icmp_ge (E : gE p s m args c own cc nL Ts D tys A0) {a b : Int} {off : Int} {tgt : Nat} (hdg : decode cc pc = .ok (.if_icmp .ge off, 3)) (ht : (pc : Int) + off = (tgt : Int)) (hr : (-2147483648 ≤ a ∧ a < 2147483648) ∧ (-2147483648 ≤ b ∧ b < 2147483648)) (kt : b ≤ a → gJ p l e R s m args below meth c cells slots Q A0 D ws lv tgt st) (kf : ¬ b ≤ a → gJ p l e R s m args below meth c cells slots Q A0 D ws lv (pc + 3) st) : gJ p l e R s m args below meth c cells slots Q A0 D ws lv pc (.int (iI b) :: .int (iI a) :: st) := by
  obtain ⟨⟨hx, hb, hml, hown, hts⟩, hK, hA⟩ := E
  intro H locs ls hP hD hS hL
  have ha : gsm a := hr.1
  have hb0 : gsm b := hr.2
  exact lv_icmp_ge hx hb hdg ht (fun h => by exact kt ((iI_le hb0 ha).mp h) H locs ls hP hD hS hL) (fun h => by exact kf (fun h2 => h ((iI_le hb0 ha).mpr h2)) H locs ls hP hD hS hL)
theorem g_icmp_ge_t (E : gE p s m args c own cc nL Ts D tys A0) {a b : Int} {off : Int} {tgt : Nat} (hdg : decode cc pc = .ok (.if_icmp .ge off, 3)) (ht : (pc : Int) + off = (tgt : Int)) (hr : (-2147483648 ≤ a ∧ a < 2147483648) ∧ (-2147483648 ≤ b ∧ b < 2147483648)) (h : b ≤ a) (K : gJ p l e R s m args below meth c cells slots Q A0 D ws lv tgt st) : gJ p l e R s m args below meth c cells slots Q A0 D ws lv pc (.int (iI b) :: .int (iI a) :: st) := g_icmp_ge E hdg ht hr (fun _ => K) (fun h2 => absurd h h2)
theorem g_icmp_ge_f (E : gE p s m args c own cc nL Ts D tys A0) {a b : Int} {off : Int} {tgt : Nat} (hdg : decode cc pc = .ok (.if_icmp .ge off, 3)) (ht : (pc : Int) + off = (tgt : Int)) (hr : (-2147483648 ≤ a ∧ a < 2147483648) ∧ (-2147483648 ≤ b ∧ b < 2147483648)) (h : ¬ b ≤ a) (K : gJ p l e R s m args below meth c cells slots Q A0 D ws lv (pc + 3) st) : gJ p l e R s m args below meth c cells slots Q A0 D ws lv pc (.int (iI b) :: .int (iI a) :: st) := g_icmp_ge E hdg ht hr (fun h2 => absurd h2 h) (fun _ => K)
theorem g_if_ge (E : gE p s m args c own cc nL Ts D tys A0) {a : Int} {off : Int} {tgt : Nat} (hdg : decode cc pc = .ok (.ifCond .ge off, 3)) (ht : (pc : Int) + off = (tgt : Int)) (hr : -2147483648 ≤ a ∧ a < 2147483648) (kt : 0 ≤ a → gJ p l e R s m args below meth c cells slots Q A0 D ws lv tgt st) (kf : ¬ 0 ≤ a → gJ p l e R s m args below meth c cells slots Q A0 D ws lv (pc + 3) st) : gJ p l e R s m args below meth c cells slots Q A0 D ws lv pc (.int (iI a) :: st) := by
  obtain ⟨⟨hx, hb, hml, hown, hts⟩, hK, hA⟩ := E
  intro H locs ls hP hD hS hL
  have ha : gsm a := hr
  have hb0 : gsm 0 := ⟨by decide, by decide⟩
  exact lv_if_ge hx hb hdg ht (fun h => by rw [iI_0] at h; exact kt ((iI_le hb0 ha).mp h) H locs ls hP hD hS hL) (fun h => by rw [iI_0] at h; exact kf (fun h2 => h ((iI_le hb0 ha).mpr h2)) H locs ls hP hD hS hL)
theorem g_if_ge_t (E : gE p s m args c own cc nL Ts D tys A0) {a : Int} {off : Int} {tgt : Nat} (hdg : decode cc pc = .ok (.ifCond .ge off, 3)) (ht : (pc : Int) + off = (tgt : Int)) (hr : -2147483648 ≤ a ∧ a < 2147483648) (h : 0 ≤ a) (K : gJ p l e R s m args below meth c cells slots Q A0 D ws lv tgt st) : gJ p l e R s m args below meth c cells slots Q A0 D ws lv pc (.int (iI a) :: st) := g_if_ge E hdg ht hr (fun _ => K) (fun h2 => absurd h h2)
theorem g_if_ge_f (E : gE p s m args c own cc nL Ts D tys A0) {a : Int} {off : Int} {tgt : Nat} (hdg : decode cc pc = .ok (.ifCond .ge off, 3)) (ht : (pc : Int) + off = (tgt : Int)) (hr : -2147483648 ≤ a ∧ a < 2147483648) (h : ¬ 0 ≤ a) (K : gJ p l e R s m args below meth c cells slots Q A0 D ws lv (pc + 3) st) : gJ p l e R s m args below meth c cells slots Q A0 D ws lv pc (.int (iI a) :: st) := g_if_ge E hdg ht hr (fun h2 => absurd h2 h) (fun _ => K)
theorem g_icmp_gt (E : gE p s m args c own cc nL Ts D tys A0) {a b : Int} {off : Int} {tgt : Nat} (hdg : decode cc pc = .ok (.if_icmp .gt off, 3)) (ht : (pc : Int) + off = (tgt : Int)) (hr : (-2147483648 ≤ a ∧ a < 2147483648) ∧ (-2147483648 ≤ b ∧ b < 2147483648)) (kt : b < a → gJ p l e R s m args below meth c cells slots Q A0 D ws lv tgt st) (kf : ¬ b < a → gJ p l e R s m args below meth c cells slots Q A0 D ws lv (pc + 3) st) : gJ p l e R s m args below meth c cells slots Q A0 D ws lv pc (.int (iI b) :: .int (iI a) :: st) := by
  obtain ⟨⟨hx, hb, hml, hown, hts⟩, hK, hA⟩ := E
  intro H locs ls hP hD hS hL
  have ha : gsm a := hr.1
  have hb0 : gsm b := hr.2
  exact lv_icmp_gt hx hb hdg ht (fun h => by exact kt ((iI_lt hb0 ha).mp h) H locs ls hP hD hS hL) (fun h => by exact kf (fun h2 => h ((iI_lt hb0 ha).mpr h2)) H locs ls hP hD hS hL)
theorem g_icmp_gt_t (E : gE p s m args c own cc nL Ts D tys A0) {a b : Int} {off : Int} {tgt : Nat} (hdg : decode cc pc = .ok (.if_icmp .gt off, 3)) (ht : (pc : Int) + off = (tgt : Int)) (hr : (-2147483648 ≤ a ∧ a < 2147483648) ∧ (-2147483648 ≤ b ∧ b < 2147483648)) (h : b < a) (K : gJ p l e R s m args below meth c cells slots Q A0 D ws lv tgt st) : gJ p l e R s m args below meth c cells slots Q A0 D ws lv pc (.int (iI b) :: .int (iI a) :: st) := g_icmp_gt E hdg ht hr (fun _ => K) (fun h2 => absurd h h2)
theorem g_icmp_gt_f (E : gE p s m args c own cc nL Ts D tys A0) {a b : Int} {off : Int} {tgt : Nat} (hdg : decode cc pc = .ok (.if_icmp .gt off, 3)) (ht : (pc : Int) + off = (tgt : Int)) (hr : (-2147483648 ≤ a ∧ a < 2147483648) ∧ (-2147483648 ≤ b ∧ b < 2147483648)) (h : ¬ b < a) (K : gJ p l e R s m args below meth c cells slots Q A0 D ws lv (pc + 3) st) : gJ p l e R s m args below meth c cells slots Q A0 D ws lv pc (.int (iI b) :: .int (iI a) :: st) := g_icmp_gt E hdg ht hr (fun h2 => absurd h2 h) (fun _ => K)
theorem g_if_gt (E : gE p s m args c own cc nL Ts D tys A0) {a : Int} {off : Int} {tgt : Nat} (hdg : decode cc pc = .ok (.ifCond .gt off, 3)) (ht : (pc : Int) + off = (tgt : Int)) (hr : -2147483648 ≤ a ∧ a < 2147483648) (kt : 0 < a → gJ p l e R s m args below meth c cells slots Q A0 D ws lv tgt st) (kf : ¬ 0 < a → gJ p l e R s m args below meth c cells slots Q A0 D ws lv (pc + 3) st) : gJ p l e R s m args below meth c cells slots Q A0 D ws lv pc (.int (iI a) :: st) := by
  obtain ⟨⟨hx, hb, hml, hown, hts⟩, hK, hA⟩ := E
  intro H locs ls hP hD hS hL
  have ha : gsm a := hr
  have hb0 : gsm 0 := ⟨by decide, by decide⟩
  exact lv_if_gt hx hb hdg ht (fun h => by rw [iI_0] at h; exact kt ((iI_lt hb0 ha).mp h) H locs ls hP hD hS hL) (fun h => by rw [iI_0] at h; exact kf (fun h2 => h ((iI_lt hb0 ha).mpr h2)) H locs ls hP hD hS hL)
theorem g_if_gt_t (E : gE p s m args c own cc nL Ts D tys A0) {a : Int} {off : Int} {tgt : Nat} (hdg : decode cc pc = .ok (.ifCond .gt off, 3)) (ht : (pc : Int) + off = (tgt : Int)) (hr : -2147483648 ≤ a ∧ a < 2147483648) (h : 0 < a) (K : gJ p l e R s m args below meth c cells slots Q A0 D ws lv tgt st) : gJ p l e R s m args below meth c cells slots Q A0 D ws lv pc (.int (iI a) :: st) := g_if_gt E hdg ht hr (fun _ => K) (fun h2 => absurd h h2)
theorem g_if_gt_f (E : gE p s m args c own cc nL Ts D tys A0) {a : Int} {off : Int} {tgt : Nat} (hdg : decode cc pc = .ok (.ifCond .gt off, 3)) (ht : (pc : Int) + off = (tgt : Int)) (hr : -2147483648 ≤ a ∧ a < 2147483648) (h : ¬ 0 < a) (K : gJ p l e R s m args below meth c cells slots Q A0 D ws lv (pc + 3) st) : gJ p l e R s m args below meth c cells slots Q A0 D ws lv pc (.int (iI a) :: st) := g_if_gt E hdg ht hr (fun h2 => absurd h2 h) (fun _ => K)
theorem g_icmp_le (E : gE p s m args c own cc nL Ts D tys A0) {a b : Int} {off : Int} {tgt : Nat} (hdg : decode cc pc = .ok (.if_icmp .le off, 3)) (ht : (pc : Int) + off = (tgt : Int)) (hr : (-2147483648 ≤ a ∧ a < 2147483648) ∧ (-2147483648 ≤ b ∧ b < 2147483648)) (kt : a ≤ b → gJ p l e R s m args below meth c cells slots Q A0 D ws lv tgt st) (kf : ¬ a ≤ b → gJ p l e R s m args below meth c cells slots Q A0 D ws lv (pc + 3) st) : gJ p l e R s m args below meth c cells slots Q A0 D ws lv pc (.int (iI b) :: .int (iI a) :: st) := by
  obtain ⟨⟨hx, hb, hml, hown, hts⟩, hK, hA⟩ := E
  intro H locs ls hP hD hS hL
  have ha : gsm a := hr.1
  have hb0 : gsm b := hr.2
  exact lv_icmp_le hx hb hdg ht (fun h => by exact kt ((iI_le ha hb0).mp h) H locs ls hP hD hS hL) (fun h => by exact kf (fun h2 => h ((iI_le ha hb0).mpr h2)) H locs ls hP hD hS hL)
theorem g_icmp_le_t (E : gE p s m args c own cc nL Ts D tys A0) {a b : Int} {off : Int} {tgt : Nat} (hdg : decode cc pc = .ok (.if_icmp .le off, 3)) (ht : (pc : Int) + off = (tgt : Int)) (hr : (-2147483648 ≤ a ∧ a < 2147483648) ∧ (-2147483648 ≤ b ∧ b < 2147483648)) (h : a ≤ b) (K : gJ p l e R s m args below meth c cells slots Q A0 D ws lv tgt st) : gJ p l e R s m args below meth c cells slots Q A0 D ws lv pc (.int (iI b) :: .int (iI a) :: st) := g_icmp_le E hdg ht hr (fun _ => K) (fun h2 => absurd h h2)
theorem g_icmp_le_f (E : gE p s m args c own cc nL Ts D tys A0) {a b : Int} {off : Int} {tgt : Nat} (hdg : decode cc pc = .ok (.if_icmp .le off, 3)) (ht : (pc : Int) + off = (tgt : Int)) (hr : (-2147483648 ≤ a ∧ a < 2147483648) ∧ (-2147483648 ≤ b ∧ b < 2147483648)) (h : ¬ a ≤ b) (K : gJ p l e R s m args below meth c cells slots Q A0 D ws lv (pc + 3) st) : gJ p l e R s m args below meth c cells slots Q A0 D ws lv pc (.int (iI b) :: .int (iI a) :: st) := g_icmp_le E hdg ht hr (fun h2 => absurd h2 h) (fun _ => K)
theorem g_if_le (E : gE p s m args c own cc nL Ts D tys A0) {a : Int} {off : Int} {tgt : Nat} (hdg : decode cc pc = .ok (.ifCond .le off, 3)) (ht : (pc : Int) + off = (tgt : Int)) (hr : -2147483648 ≤ a ∧ a < 2147483648) (kt : a ≤ 0 → gJ p l e R s m args below meth c cells slots Q A0 D ws lv tgt st) (kf : ¬ a ≤ 0 → gJ p l e R s m args below meth c cells slots Q A0 D ws lv (pc + 3) st) : gJ p l e R s m args below meth c cells slots Q A0 D ws lv pc (.int (iI a) :: st) := by
  obtain ⟨⟨hx, hb, hml, hown, hts⟩, hK, hA⟩ := E
  intro H locs ls hP hD hS hL
  have ha : gsm a := hr
  have hb0 : gsm 0 := ⟨by decide, by decide⟩
  exact lv_if_le hx hb hdg ht (fun h => by rw [iI_0] at h; exact kt ((iI_le ha hb0).mp h) H locs ls hP hD hS hL) (fun h => by rw [iI_0] at h; exact kf (fun h2 => h ((iI_le ha hb0).mpr h2)) H locs ls hP hD hS hL)
theorem g_if_le_t (E : gE p s m args c own cc nL Ts D tys A0) {a : Int} {off : Int} {tgt : Nat} (hdg : decode cc pc = .ok (.ifCond .le off, 3)) (ht : (pc : Int) + off = (tgt : Int)) (hr : -2147483648 ≤ a ∧ a < 2147483648) (h : a ≤ 0) (K : gJ p l e R s m args below meth c cells slots Q A0 D ws lv tgt st) : gJ p l e R s m args below meth c cells slots Q A0 D ws lv pc (.int (iI a) :: st) := g_if_le E hdg ht hr (fun _ => K) (fun h2 => absurd h h2)
theorem g_if_le_f (E : gE p s m args c own cc nL Ts D tys A0) {a : Int} {off : Int} {tgt : Nat} (hdg : decode cc pc = .ok (.ifCond .le off, 3)) (ht : (pc : Int) + off = (tgt : Int)) (hr : -2147483648 ≤ a ∧ a < 2147483648) (h : ¬ a ≤ 0) (K : gJ p l e R s m args below meth c cells slots Q A0 D ws lv (pc + 3) st) : gJ p l e R s m args below meth c cells slots Q A0 D ws lv pc (.int (iI a) :: st) := g_if_le E hdg ht hr (fun h2 => absurd h2 h) (fun _ => K)
end GJ
end
section
/-! ===== the world of one object with arrays of its own ===== -/
def gu (f : Nat → Int) (i : Nat) (v : Int) : Nat → Int := fun j => if j = i then v else f j
theorem gu_s (f : Nat → Int) (i : Nat) (v : Int) : gu f i v i = v := if_pos rfl
theorem gu_n (f : Nat → Int) {i j : Nat} (v : Int) (h : j ≠ i) : gu f i v j = f j := if_neg h
def gFv (r : Nat → Nat) (F : List Int) (x : Bool × Nat) : Value := if x.1 = true then .int (iI (F.getD x.2 0)) else .ref (r x.2)
def gAc (cI cZ : ClassId) (x : Bool × Nat) (f : Nat → Int) : va_E := .inl (if x.1 = true then cZ else cI, x.2, .inl (fun j => iI (f j)))
def gAr (cI cZ : ClassId) (r : Nat → Nat) : Nat → List (Bool × Nat) → List (Nat → Int) → va_W
  | k, x :: al, f :: A => (r k, gAc cI cZ x f) :: gAr cI cZ r (k + 1) al A
  | _, _, _ => []
def gW (ci : Nat) (fs al : List (Bool × Nat)) (cI cZ : ClassId) (q : Nat) (r : Nat → Nat) (F : List Int) (A : List (Nat → Int)) : va_W :=
  (q, .inr (ci, fs.map (gFv r F))) :: gAr cI cZ r 0 al A
def gTy (cI cZ : ClassId) : List (ClassId × FieldType) := [(cI, .int), (cZ, .boolean)]
theorem gAr_a {cI cZ : ClassId} {r : Nat → Nat} {x : Bool × Nat} {f : Nat → Int} : ∀ {al : List (Bool × Nat)} {A : List (Nat → Int)} {k j : Nat}, al[k]? = some x → A[k]? = some f → (gAr cI cZ r j al A)[k]? = some (r (j + k), gAc cI cZ x f) := by
  intro al
  induction al with
  | nil => intro A k j h; simp at h
  | cons y al ih =>
    intro A k j h1 h2
    cases A with
    | nil => simp at h2
    | cons g A =>
      cases k with
      | zero =>
        rw [List.getElem?_cons_zero] at h1 h2
        cases h1
        cases h2
        rfl
      | succ k =>
        rw [List.getElem?_cons_succ] at h1 h2
        show (gAr cI cZ r (j + 1) al A)[k]? = _
        rw [ih h1 h2, show j + 1 + k = j + (k + 1) by omega]
theorem gAr_set {cI cZ : ClassId} {r : Nat → Nat} {x : Bool × Nat} {f : Nat → Int} : ∀ {al : List (Bool × Nat)} {A : List (Nat → Int)} {k j : Nat}, al[k]? = some x → k < A.length → (gAr cI cZ r j al A).set k (r (j + k), gAc cI cZ x f) = gAr cI cZ r j al (A.set k f) := by
  intro al
  induction al with
  | nil => intro A k j h; simp at h
  | cons y al ih =>
    intro A k j h1 h2
    cases A with
    | nil => simp at h2
    | cons g A =>
      cases k with
      | zero =>
        rw [List.getElem?_cons_zero] at h1
        cases h1
        rfl
      | succ k =>
        rw [List.getElem?_cons_succ] at h1
        show (r j, gAc cI cZ y g) :: ((gAr cI cZ r (j + 1) al A).set k _) = (r j, gAc cI cZ y g) :: gAr cI cZ r (j + 1) al (A.set k f)
        rw [← ih h1 (by simpa using h2), show j + 1 + k = j + (k + 1) by omega]
theorem gW_0 {ci : Nat} {fs al : List (Bool × Nat)} {cI cZ : ClassId} {q : Nat} {r : Nat → Nat} {F : List Int} {A : List (Nat → Int)} : (gW ci fs al cI cZ q r F A)[0]? = some (q, .inr (ci, fs.map (gFv r F))) := rfl
theorem gW_a {ci : Nat} {fs al : List (Bool × Nat)} {cI cZ : ClassId} {q : Nat} {r : Nat → Nat} {F : List Int} {A : List (Nat → Int)} {k n : Nat} {z : Bool} {f : Nat → Int} (h : al[k]? = some (z, n)) (h2 : A[k]? = some f) : (gW ci fs al cI cZ q r F A)[k + 1]? = some (r k, .inl (if z = true then cZ else cI, n, .inl (fun j => iI (f j)))) := by
  unfold gW
  rw [List.getElem?_cons_succ, gAr_a h h2, Nat.zero_add]
  rfl
theorem gW_setF {ci : Nat} {fs al : List (Bool × Nat)} {cI cZ : ClassId} {q : Nat} {r : Nat → Nat} {F : List Int} {A : List (Nat → Int)} {i j : Nat} {v : Int} (h : fs[j]? = some (true, i)) (hi : i < F.length) (hu : ∀ j', j' < fs.length → fs[j']? = some (true, i) → j' = j) : (gW ci fs al cI cZ q r F A).set 0 (q, .inr (ci, (fs.map (gFv r F)).set j (.int (iI v)))) = gW ci fs al cI cZ q r (F.set i v) A := by
  unfold gW
  rw [List.set_cons_zero]
  congr 4
  apply List.ext_getElem?
  intro k
  by_cases hk : k = j
  · subst hk
    have hl := (List.getElem?_eq_some_iff.mp h).1
    rw [List.getElem?_set_self (by simpa using hl), List.getElem?_map, h]
    simp [gFv, List.getD_eq_getElem?_getD, List.getElem?_set_self hi]
  · rw [List.getElem?_set_ne (Ne.symm hk), List.getElem?_map, List.getElem?_map]
    cases hx : fs[k]? with
    | none => rfl
    | some x =>
      obtain ⟨b, n⟩ := x
      cases b with
      | false => simp [gFv]
      | true =>
        have hn : i ≠ n := fun hn => hk (hu k (List.getElem?_eq_some_iff.mp hx).1 (by rw [hx, hn]))
        simp [gFv, List.getD_eq_getElem?_getD, List.getElem?_set_ne hn]
theorem gW_setA {ci : Nat} {fs al : List (Bool × Nat)} {cI cZ : ClassId} {q : Nat} {r : Nat → Nat} {F : List Int} {A : List (Nat → Int)} {k n i : Nat} {z : Bool} {v : Int} {g : Nat → Int} (h : al[k]? = some (z, n)) (h2 : A[k]? = some g) {f : Nat → Int32} (hf : ∀ j, f j = if j = i then iI v else iI (g j)) : (gW ci fs al cI cZ q r F A).set (k + 1) (r k, .inl (if z = true then cZ else cI, n, .inl f)) = gW ci fs al cI cZ q r F (A.set k (gu g i v)) := by
  unfold gW
  rw [List.set_cons_succ]
  congr 1
  rw [← gAr_set (f := gu g i v) h (List.getElem?_eq_some_iff.mp h2).1, Nat.zero_add]
  congr 2
  show _ = gAc cI cZ (z, n) (gu g i v)
  unfold gAc
  congr 4
  funext j
  rw [hf]
  simp only [gu]
  by_cases hj : j = i <;> simp [hj]
section GW
variable {p : Program} {l : Launch} {e : Env} {R : Room} {s : State} {m : MethodId} {args : Array Value} {below : List Frame} {meth : Method} {c : Code} {cells slots : Nat} {Q : State → Prop} {A0 : Nat → Prop} {D : va_G}
variable {own : String} {cc : ByteArray} {nL : Nat} {Ts : List Cond} {lv lv' : List (Option Value)} {pc : Nat} {st : List Value}
variable {ci : Nat} {fs al : List (Bool × Nat)} {cI cZ : ClassId} {q : Nat} {r : Nat → Nat} {F F' : List Int} {A A' : List (Nat → Int)}
theorem g_getI (E : gE p s m args c own cc nL Ts D (gTy cI cZ) A0) {j i : Nat} {C : String} {T : u_T} {N index : Nat} (hin : ∀ w ∈ u_ws C T N, w ∈ Ts) (hc : vwCl[ci]? = some (C, T, N)) (hlink : Cond.fieldLink own index (T j).1 (T j).2.1 (T j).2.2.1 ∈ Ts) (hdg : decode cc pc = .ok (.getfield index, 3)) (hj : j < N) (hf : fs[j]? = some (true, i)) {v : Int} (hv : F[i]? = some v) (K : gJ p l e R s m args below meth c cells slots Q A0 D (gW ci fs al cI cZ q r F A) lv (pc + 3) (.int (iI v) :: st)) : gJ p l e R s m args below meth c cells slots Q A0 D (gW ci fs al cI cZ q r F A) lv pc (.ref q :: st) := by
  obtain ⟨⟨hx, hb, hml, hown, hts⟩, hK, hA⟩ := E
  intro H locs ls hP hD hS hL
  exact va_get (D := D) (v := .int (iI v)) hx hb hts hin hown hK hP 0 gW_0 hc j hj (hts _ hlink) (fun _ h9 => h9) (by rw [List.getElem?_map, hf]; simp [gFv, List.getD_eq_getElem?_getD, hv]) hdg (K H locs ls hP hD hS hL)
theorem g_getR (E : gE p s m args c own cc nL Ts D (gTy cI cZ) A0) {j k : Nat} {C : String} {T : u_T} {N index : Nat} (hin : ∀ w ∈ u_ws C T N, w ∈ Ts) (hc : vwCl[ci]? = some (C, T, N)) (hlink : Cond.fieldLink own index (T j).1 (T j).2.1 (T j).2.2.1 ∈ Ts) (hdg : decode cc pc = .ok (.getfield index, 3)) (hj : j < N) (hf : fs[j]? = some (false, k)) (K : gJ p l e R s m args below meth c cells slots Q A0 D (gW ci fs al cI cZ q r F A) lv (pc + 3) (.ref (r k) :: st)) : gJ p l e R s m args below meth c cells slots Q A0 D (gW ci fs al cI cZ q r F A) lv pc (.ref q :: st) := by
  obtain ⟨⟨hx, hb, hml, hown, hts⟩, hK, hA⟩ := E
  intro H locs ls hP hD hS hL
  exact va_get (D := D) (v := .ref (r k)) hx hb hts hin hown hK hP 0 gW_0 hc j hj (hts _ hlink) (fun _ h9 => h9) (by rw [List.getElem?_map, hf]; simp [gFv]) hdg (K H locs ls hP hD hS hL)
theorem g_putI (E : gE p s m args c own cc nL Ts D (gTy cI cZ) A0) {j i : Nat} {v : Int} {ty0 : Nat → FieldType} {C : String} {T : u_T} {N index : Nat} (hin : ∀ w ∈ u_ws C T N, w ∈ Ts) (hc : vwCl[ci]? = some (C, T, N)) (hlink : Cond.fieldLink own index (T j).1 (T j).2.1 (T j).2.2.1 ∈ Ts) (hdg : decode cc pc = .ok (.putfield index, 3)) (hty : ∀ k, k < N → parseFieldDescriptor (T k).2.2.1 = some (ty0 k)) (hnm : ∀ a, a < N → ∀ b, b < N → a ≠ b → (T a).2.1 ≠ (T b).2.1) (hj : j < N) (hf : fs[j]? = some (true, i)) (hu : ∀ j', j' < fs.length → fs[j']? = some (true, i) → j' = j) (hfin : (T j).2.2.2 = false) (hd : parseFieldDescriptor (T j).2.2.1 = some .int) (hi : i < F.length) (hF : F.set i v = F') (K : gJ p l e R s m args below meth c cells slots Q A0 D (gW ci fs al cI cZ q r F' A) lv (pc + 3) st) : gJ p l e R s m args below meth c cells slots Q A0 D (gW ci fs al cI cZ q r F A) lv pc (.int (iI v) :: .ref q :: st) := by
  obtain ⟨⟨hx, hb, hml, hown, hts⟩, hK, hA⟩ := E
  intro H locs ls hP hD hS hL
  refine va_put (D := D) (v := .int (iI v)) (ty := .int) hx hb hts hin ty0 hty hnm hown hK hP hD hS 0 gW_0 hc j hj (hts _ hlink) (fun _ h9 => h9) hfin hd rfl rfl (by have := (List.getElem?_eq_some_iff.mp hf).1; simpa using this) hdg (fun H1 locs1 hP1 hD1 hS1 => ?_)
  rw [gW_setF hf hi hu, hF] at hP1 hD1
  exact K H1 locs1 ls hP1 hD1 hS1 hL
theorem g_ald (E : gE p s m args c own cc nL Ts D (gTy cI cZ) A0) {k n i : Nat} {x : Int} {f : Nat → Int} (hdg : decode cc pc = .ok (.iaload, 1)) (ha : al[k]? = some (false, n)) (hf : A[k]? = some f) (hx0 : x = (i : Int)) (hi : i < n ∧ n ≤ 2147483648) (K : gJ p l e R s m args below meth c cells slots Q A0 D (gW ci fs al cI cZ q r F A) lv (pc + 1) (.int (iI (f i)) :: st)) : gJ p l e R s m args below meth c cells slots Q A0 D (gW ci fs al cI cZ q r F A) lv pc (.int (iI x) :: .ref (r k) :: st) := by
  obtain ⟨⟨hx, hb, hml, hown, hts⟩, hK, hA⟩ := E
  intro H locs ls hP hD hS hL
  subst hx0
  have hcl : (iI (i : Int)).toNatClampNeg = i := by rw [iI_cl (by omega) (by omega), Int.toNat_natCast]
  refine va_iald (D := D) (cl := vwCl) hx hb hK hP (k + 1) 0 (gW_a ha hf) rfl (iI_in (a := (i : Int)) (n := n) (by omega) (by omega) hi.2) hdg ?_
  rw [hcl]
  exact (K H locs ls hP hD hS hL)
theorem g_zld (E : gE p s m args c own cc nL Ts D (gTy cI cZ) A0) {k n i : Nat} {x : Int} {f : Nat → Int} (hdg : decode cc pc = .ok (.baload, 1)) (ha : al[k]? = some (true, n)) (hf : A[k]? = some f) (hx0 : x = (i : Int)) (hi : i < n ∧ n ≤ 2147483648) (K : gJ p l e R s m args below meth c cells slots Q A0 D (gW ci fs al cI cZ q r F A) lv (pc + 1) (.int (iI (f i)) :: st)) : gJ p l e R s m args below meth c cells slots Q A0 D (gW ci fs al cI cZ q r F A) lv pc (.int (iI x) :: .ref (r k) :: st) := by
  obtain ⟨⟨hx, hb, hml, hown, hts⟩, hK, hA⟩ := E
  intro H locs ls hP hD hS hL
  subst hx0
  have hcl : (iI (i : Int)).toNatClampNeg = i := by rw [iI_cl (by omega) (by omega), Int.toNat_natCast]
  refine va_zald (D := D) (cl := vwCl) hx hb hK hP (k + 1) 1 (gW_a ha hf) rfl (iI_in (a := (i : Int)) (n := n) (by omega) (by omega) hi.2) hdg ?_
  rw [hcl]
  exact (K H locs ls hP hD hS hL)
theorem g_ast (E : gE p s m args c own cc nL Ts D (gTy cI cZ) A0) {k n i : Nat} {x v : Int} {f : Nat → Int} (hdg : decode cc pc = .ok (.iastore, 1)) (ha : al[k]? = some (false, n)) (hf : A[k]? = some f) (hx0 : x = (i : Int)) (hi : i < n ∧ n ≤ 2147483648) (hA' : A.set k (gu f i v) = A') (K : gJ p l e R s m args below meth c cells slots Q A0 D (gW ci fs al cI cZ q r F A') lv (pc + 1) st) : gJ p l e R s m args below meth c cells slots Q A0 D (gW ci fs al cI cZ q r F A) lv pc (.int (iI v) :: .int (iI x) :: .ref (r k) :: st) := by
  obtain ⟨⟨hx, hb, hml, hown, hts⟩, hK, hA⟩ := E
  intro H locs ls hP hD hS hL
  subst hx0
  refine va_iast (D := D) (cl := vwCl) hx hb hK hP hD hS (k + 1) 0 (gW_a ha hf) rfl (iI_in (a := (i : Int)) (n := n) (by omega) (by omega) hi.2) hdg (fun H1 locs1 hP1 hD1 hS1 => ?_)
  rw [iI_cl (by omega) (by omega), Int.toNat_natCast, gW_setA (z := false) ha hf (i := i) (v := v) (fun j => by simp [upd]), hA'] at hP1 hD1
  exact K H1 locs1 ls hP1 hD1 hS1 hL
theorem g_zst (E : gE p s m args c own cc nL Ts D (gTy cI cZ) A0) {k n i : Nat} {x v : Int} {f : Nat → Int} (hdg : decode cc pc = .ok (.bastore, 1)) (ha : al[k]? = some (true, n)) (hf : A[k]? = some f) (hx0 : x = (i : Int)) (hi : i < n ∧ n ≤ 2147483648) (hv : v = 0 ∨ v = 1) (hA' : A.set k (gu f i v) = A') (K : gJ p l e R s m args below meth c cells slots Q A0 D (gW ci fs al cI cZ q r F A') lv (pc + 1) st) : gJ p l e R s m args below meth c cells slots Q A0 D (gW ci fs al cI cZ q r F A) lv pc (.int (iI v) :: .int (iI x) :: .ref (r k) :: st) := by
  obtain ⟨⟨hx, hb, hml, hown, hts⟩, hK, hA⟩ := E
  intro H locs ls hP hD hS hL
  subst hx0
  refine va_zast (D := D) (cl := vwCl) hx hb hK hP hD hS (k + 1) 1 (gW_a ha hf) rfl (iI_in (a := (i : Int)) (n := n) (by omega) (by omega) hi.2) hdg (fun H1 locs1 hP1 hD1 hS1 => ?_)
  rw [iI_cl (by omega) (by omega), Int.toNat_natCast, show vp_nar .boolean (iI v) = iI v by (rcases hv with rfl | rfl <;> rfl), gW_setA (z := true) ha hf (i := i) (v := v) (fun j => by simp [upd]), hA'] at hP1 hD1
  exact K H1 locs1 ls hP1 hD1 hS1 hL
end GW
end
section
/-! ===== contracts and calls ===== -/
def gR (n : Nat) : Room := { frames := n, cells := 0, slots := 0, locals := 27 * n }
def gRx (n : Nat) : Room := { frames := n, cells := 1, slots := 6, locals := 27 * n }
def gB0 (D : va_G) (tys : List (ClassId × FieldType)) (W0 : va_W) (sz : Nat) (U : State) : Prop := U.heap.size = sz ∧ va_P D vwCl W0 U.heap ∧ va_K D vwCl tys U ∧ va_D (fun _ => True) W0
def gB1 (D : va_G) (tys : List (ClassId × FieldType)) (A : Nat → Prop) (W1 : va_W) (t : State) : Prop := va_P D vwCl W1 t.heap ∧ va_K D vwCl tys t ∧ va_D A W1
/-- returns the int rv, the world W0 becomes W1, nothing is made -/
def gMI (l : Launch) (y : MethodName) (ws : List Cond) (n : Nat) (D : va_G) (tys : List (ClassId × FieldType)) (W0 : va_W) (av : List Value) (rv : Int) (W1 : va_W) : Prop :=
  ∀ sz : Nat, Met l y ws (gR n) (va_Pc av (gB0 D tys W0 sz)) (va_Qi (fun (r : Int32) (_ : Unit) => r = iI rv) (fun _ t => gB1 D tys (va_A W0 sz) W1 t) (va_A W0 sz)) 0 0 (va_A W0 sz)
/-- returns nothing -/
def gMV (l : Launch) (y : MethodName) (ws : List Cond) (n : Nat) (D : va_G) (tys : List (ClassId × FieldType)) (W0 : va_W) (av : List Value) (W1 : va_W) : Prop :=
  ∀ sz : Nat, Met l y ws (gR n) (va_Pc av (gB0 D tys W0 sz)) (va_Qv (fun (_ : Unit) => True) (fun _ t => gB1 D tys (va_A W0 sz) W1 t) (va_A W0 sz)) 0 0 (va_A W0 sz)
def gStr : List (Nat × String) := [(166, "no such place"), (171, "no such door"), (175, "an argument is out of range"), (180, "the bench does not allow this now"), (185, "there is none")]
def gIX : String := "java/lang/IndexOutOfBoundsException"
def gIA : String := "java/lang/IllegalArgumentException"
def gIS : String := "java/lang/IllegalStateException"
def gEx : List String := [gIX, gIA, gIS, gNS]
def gNcs : List (String × String) := [(gIX, gIA), (gIX, gIS), (gIX, gNS), (gIA, gIX), (gIA, gIS), (gIA, gNS), (gIS, gIX), (gIS, gIA), (gIS, gNS), (gNS, gIX), (gNS, gIA), (gNS, gIS)]
def gDe : List MethodName := [Bundle.initS gRE, Bundle.initS "java/lang/Exception", Bundle.initS Bundle.tN]
def gBad (cls : String) : List Cond := [.castable cls cls, .declares (Bundle.initS gRE), .declares (Bundle.initS "java/lang/Exception"), .declares (Bundle.initS Bundle.tN)]
/-- what a throw needs of the launch's statics and tables -/
def gKT (A : Nat → Prop) (U : State) (H : Heap) : Prop :=
  vx_Zq Bundle.tN "UNASSIGNED_STACK" Bundle.steD A U H ∧ vx_Zq Bundle.tN "SUPPRESSED_SENTINEL" Bundle.listD A U H ∧ (∀ x ∈ gStr, ∃ a, vk_R RX0 x.1 x.2 a U) ∧ (∀ x ∈ gEx, va_Nw (.castable x x) U) ∧ (∀ x ∈ gNcs, va_Nc x.1 x.2 U) ∧ ∀ x ∈ gDe, va_Nw (.declares x) U
theorem gKT.bad {A : Nat → Prop} {U : State} {H : Heap} (h : gKT A U H) {cls : String} (hc : cls ∈ gEx) {args : Array Value} : ∀ w ∈ gBad cls, w.before args U = true := by
  obtain ⟨h1, h2, h3, h4, h5, h6⟩ := h
  exact vx_c (va_Nw.use rfl (h4 _ hc)) (vx_c (va_Nw.use rfl (h6 _ (by decide +kernel))) (vx_c (va_Nw.use rfl (h6 _ (by decide +kernel))) (vx_c (va_Nw.use rfl (h6 _ (by decide +kernel))) vx_n)))
theorem gKT.call {A0 A1 : Nat → Prop} {s U : State} {H : Heap} {locs : List Loc} (h : gKT A0 s s.heap) (hS : va_S A0 s.heap H locs) (hF : ∀ q, A1 q → A0 q) (hU : U.heap = H) (hW : s.WarmedH U.vm) : gKT A1 U U.heap := by
  obtain ⟨h1, h2, h3, h4, h5, h6⟩ := h
  have hk : ∀ a : Nat, a < s.heap.size → ¬ A0 a → U.heap[a]? = s.heap[a]? := fun a ha hn => by rw [hU]; exact hS.2.1 a ha hn
  refine ⟨((h1.moved hW.alike).kept hk).narrow hF, ((h2.moved hW.alike).kept hk).narrow hF, fun x hx => ?_, fun x hx => va_Nw.warmC hW (h4 x hx), fun x hx => va_Nc.moved hW.alike (h5 x hx), fun x hx => va_Nw.warmD hW (h6 x hx)⟩
  obtain ⟨a, ha⟩ := h3 x hx
  exact ⟨a, vk_R.warm hW ha⟩
/-- throws E, the world stays -/
def gMT (l : Launch) (y : MethodName) (ws : List Cond) (n : Nat) (D : va_G) (tys : List (ClassId × FieldType)) (W0 : va_W) (av : List Value) (E : String) : Prop :=
  ∀ sz : Nat, vx_Met l y ws (gRx n) (va_Pc av (fun U => gB0 D tys W0 sz U ∧ gKT (va_A W0 sz) U U.heap)) (va_Qv (fun (_ : Unit) => False) (fun _ _ => True) (va_A W0 sz)) (vx_X (fun (_ : Unit) => True) (fun E' _ t => E' = E ∧ gB1 D tys (va_A W0 sz) W0 t) (va_A W0 sz)) 1 6 (va_A W0 sz)
def gQT (below : List Frame) (args : Array Value) (s : State) (D : va_G) (tys : List (ClassId × FieldType)) (W0 : va_W) (E : String) (A0 : Nat → Prop) : State → Prop :=
  vx_MQ below (va_Qv (fun (_ : Unit) => False) (fun _ _ => True) A0) (vx_X (fun (_ : Unit) => True) (fun E' _ t => E' = E ∧ gB1 D tys A0 W0 t) A0) args s 1 6 A0
theorem g_slen : ∀ {l : List Value}, (∀ v ∈ l, v.category = 1) → (lg_sl l).length = l.length := by
  intro l
  induction l with
  | nil => intro _; rfl
  | cons v l ih =>
    intro h
    have hv := h v List.mem_cons_self
    have := ih (fun w hw => h w (List.mem_cons_of_mem _ hw))
    unfold lg_sl at this ⊢
    rw [List.flatMap_cons, List.length_append, this, hv]
    simp
    omega
theorem g_isC (wr wc : va_W) : (List.range' wr.length wc.length).map (fun i => (wr ++ wc)[i]?) = wc.map some := by
  apply List.ext_getElem?
  intro i
  rw [List.getElem?_map, List.getElem?_map]
  by_cases hi : i < wc.length
  · rw [List.getElem?_range' hi, Option.map_some, List.getElem?_append_right (by omega), List.getElem?_eq_getElem (by omega)]
    simp [List.getElem?_eq_getElem hi]
  · rw [List.getElem?_eq_none (by simp; omega), List.getElem?_eq_none (by omega)]
    rfl
theorem g_isR (wr wc : va_W) : (List.range wr.length).map (fun i => (wr ++ wc)[i]?) = wr.map some := by
  apply List.ext_getElem?
  intro i
  rw [List.getElem?_map, List.getElem?_map]
  by_cases hi : i < wr.length
  · rw [List.getElem?_range hi, Option.map_some, List.getElem?_append_left hi, List.getElem?_eq_getElem hi]
    rfl
  · rw [List.getElem?_eq_none (by simp; omega), List.getElem?_eq_none (by omega)]
    rfl
theorem g_nd : ∀ l : List Nat, l.Nodup → va_nd l = true := by
  intro l
  induction l with
  | nil => intro _; rfl
  | cons a l ih =>
    intro h
    rw [List.nodup_cons] at h
    simp [va_nd, h.1, ih h.2]
theorem g_dis (a b : Nat) : ∀ i ∈ List.range a, i ∉ List.range' a b := by
  intro i hi h
  rw [List.mem_range] at hi
  rw [List.mem_range'_1] at h
  omega
theorem g_Pr {D : va_G} {cl : List vw_C} {w1 w2 : va_W} {H : Heap} (h : va_P D cl (w1 ++ w2) H) : va_P D cl w2 H := fun k q hk => h (w1.length + k) q (by rw [List.getElem?_append_right (by omega)]; simpa using hk)
theorem g_Dr {A : Nat → Prop} {w1 w2 : va_W} (h : va_D A (w1 ++ w2)) : va_D A w2 := by
  have key : ∀ (k : Nat) (q : Nat × va_E), w2[k]? = some q → (w1 ++ w2)[w1.length + k]? = some q := fun k q hk => by rw [List.getElem?_append_right (by omega)]; simpa using hk
  exact ⟨fun i j p q hi hj hpq => by have := h.1 _ _ p q (key i p hi) (key j q hj) hpq; omega, fun k q hk => h.2 _ q (key k q hk)⟩
section GC
variable {p : Program} {l : Launch} {e : Env} {R : Room} {s : State} {m : MethodId} {args : Array Value} {below : List Frame} {meth : Method} {c : Code} {cells slots : Nat} {Q : State → Prop} {A0 : Nat → Prop} {D : va_G}
variable {own : String} {cc : ByteArray} {nL : Nat} {Ts : List Cond} {tys : List (ClassId × FieldType)} {lv : List (Option Value)} {pc : Nat} {st st0 : List Value}
/-- a call of an instance method whose world lies last -/
theorem g_callI (E : gE p s m args c own cc nL Ts D tys A0) {C : String} {y : MethodName} {bytes : ByteArray} {maxL index lam n q ci N : Nat} {T : u_T} {fs : List Value} {ret : Option FieldType} {wsY : List Cond} {wr wc wc' : va_W} {As : List Value} {rv : Int}
    (hM : gMI l y wsY lam D tys wc (.ref q :: As) rv wc') (cw : CallW R s args own C index y bytes maxL ret wsY (gR lam) 0 0 n) (hn : As.length = n) (hlv : lv.length = nL) (hst : st0 = As.reverse ++ .ref q :: st) (hcat : (st.map fun v => v.category).sum ≤ 8) (he : wc[0]? = some (q, .inr (ci, fs))) (hc : vwCl[ci]? = some (C, T, N))
    (hdg : decode cc pc = .ok (.invokevirtual index, 3)) (hcs : cells ≤ R.cells ∧ slots ≤ R.slots) (K : gJ p l e R s m args below meth c cells slots Q A0 D (wr ++ wc') lv (pc + 3) (.int (iI rv) :: st)) : gJ p l e R s m args below meth c cells slots Q A0 D (wr ++ wc) lv pc st0 := by
  obtain ⟨⟨hx, hb, hml, hown, hts⟩, hK, hA⟩ := E
  intro H locs ls hP hD hS hL
  subst hst
  have hPc := g_Pr hP
  have hDc := g_Dr hD
  have hFc := va_free (wc := wc) hD hS hA _ (g_isC wr wc)
  refine va_calli (va_runV (As := As) (rest := st) ⟨hx, hb, hml, hown, hts⟩ (hM H.size) cw ⟨fun a U g mk q => by obtain ⟨q0, q1, qP, qK, qD⟩ := q; exact ⟨q0, q1, qP, va_K.moved (u := U) (U := U.calling g mk a) (Vm.Alike.refl U.vm) qK, qD⟩, va_recv hK hPc hc he, fun U hU hW => ⟨rfl, by rw [hU], by rw [hU]; exact hPc, va_K.moved hW.alike hK, hDc.weaken (fun _ _ _ _ => trivial)⟩⟩ rfl hn (hL.1.trans hlv) rfl (lv_room hcat) hdg hcs) hS (fun q _ h => hFc q h) hFc (fun r u t H1 locs1 ht hvm hw hB hz1 hk1 hS1 => ?_)
  obtain ⟨hP1, hK1, hD1⟩ := hB
  rw [ht] at hP1
  obtain ⟨hP2, hD2⟩ := va_join hP hD _ _ (g_isC wr wc) (g_isR wr wc) (g_nd _ List.nodup_range) (g_dis _ _) hk1 hFc hP1 hD1
  rw [hw]
  exact K H1 locs1 ls hP2 hD2 hS1 hL
theorem g_callV (E : gE p s m args c own cc nL Ts D tys A0) {C : String} {y : MethodName} {bytes : ByteArray} {maxL index lam n q ci N : Nat} {T : u_T} {fs : List Value} {ret : Option FieldType} {wsY : List Cond} {wr wc wc' : va_W} {As : List Value}
    (hM : gMV l y wsY lam D tys wc (.ref q :: As) wc') (cw : CallW R s args own C index y bytes maxL ret wsY (gR lam) 0 0 n) (hn : As.length = n) (hlv : lv.length = nL) (hst : st0 = As.reverse ++ .ref q :: st) (hcat : (st.map fun v => v.category).sum ≤ 8) (he : wc[0]? = some (q, .inr (ci, fs))) (hc : vwCl[ci]? = some (C, T, N))
    (hdg : decode cc pc = .ok (.invokevirtual index, 3)) (hcs : cells ≤ R.cells ∧ slots ≤ R.slots) (K : gJ p l e R s m args below meth c cells slots Q A0 D (wr ++ wc') lv (pc + 3) st) : gJ p l e R s m args below meth c cells slots Q A0 D (wr ++ wc) lv pc st0 := by
  obtain ⟨⟨hx, hb, hml, hown, hts⟩, hK, hA⟩ := E
  intro H locs ls hP hD hS hL
  subst hst
  have hPc := g_Pr hP
  have hDc := g_Dr hD
  have hFc := va_free (wc := wc) hD hS hA _ (g_isC wr wc)
  refine va_callv (va_runV (As := As) (rest := st) ⟨hx, hb, hml, hown, hts⟩ (hM H.size) cw ⟨fun a U g mk q => by obtain ⟨q0, q1, qP, qK, qD⟩ := q; exact ⟨q0, q1, qP, va_K.moved (u := U) (U := U.calling g mk a) (Vm.Alike.refl U.vm) qK, qD⟩, va_recv hK hPc hc he, fun U hU hW => ⟨rfl, by rw [hU], by rw [hU]; exact hPc, va_K.moved hW.alike hK, hDc.weaken (fun _ _ _ _ => trivial)⟩⟩ rfl hn (hL.1.trans hlv) rfl (lv_room hcat) hdg hcs) hS (fun q _ h => hFc q h) hFc (fun u t H1 locs1 ht hvm hw hB hz1 hk1 hS1 => ?_)
  obtain ⟨hP1, hK1, hD1⟩ := hB
  rw [ht] at hP1
  obtain ⟨hP2, hD2⟩ := va_join hP hD _ _ (g_isC wr wc) (g_isR wr wc) (g_nd _ List.nodup_range) (g_dis _ _) hk1 hFc hP1 hD1
  exact K H1 locs1 ls hP2 hD2 hS1 hL
/-- static calls that touch no cell -/
theorem g_callSI (E : gE p s m args c own cc nL Ts D tys A0) {y : MethodName} {bytes : ByteArray} {maxL index lam n : Nat} {ret : Option FieldType} {wsY : List Cond} {ws : va_W} {As : List Value} {rv : Int}
    (hM : gMI l y wsY lam D tys [] As rv []) (cw : CallB R s args own index y bytes maxL ret wsY (gR lam) 0 0 n ∧ (Cond.static y).before args s = true) (hn : As.length = n) (hlv : lv.length = nL) (hst : st0 = As.reverse ++ st) (hcat : (st.map fun v => v.category).sum ≤ 8)
    (hdg : decode cc pc = .ok (.invokestatic index, 3)) (hcs : cells ≤ R.cells ∧ slots ≤ R.slots) (K : gJ p l e R s m args below meth c cells slots Q A0 D ws lv (pc + 3) (.int (iI rv) :: st)) : gJ p l e R s m args below meth c cells slots Q A0 D ws lv pc st0 := by
  obtain ⟨⟨hx, hb, hml, hown, hts⟩, hK, hA⟩ := E
  intro H locs ls hP hD hS hL
  subst hst
  have hP0 : va_P D vwCl [] H := fun k q h => by simp at h
  have hD0 : ∀ A : Nat → Prop, va_D A [] := fun A => ⟨fun i j p q h => by simp at h, fun k q h => by simp at h⟩
  have hFc : ∀ q, va_A [] H.size q → A0 q := fun q h => by
    rcases h with ⟨k, e, h⟩ | h
    · simp at h
    · exact hA q (Nat.le_trans hS.1 h)
  refine va_calli (va_runS (As := As) (rest := st) ⟨hx, hb, hml, hown, hts⟩ (hM H.size) cw ⟨fun a U g mk q => by obtain ⟨q0, q1, qP, qK, qD⟩ := q; exact ⟨q0, q1, qP, va_K.moved (u := U) (U := U.calling g mk a) (Vm.Alike.refl U.vm) qK, qD⟩, fun U hU hW => ⟨rfl, by rw [hU], by rw [hU]; exact hP0, va_K.moved hW.alike hK, hD0 _⟩⟩ rfl hn (hL.1.trans hlv) rfl (lv_room hcat) hdg hcs) hS (fun q _ h => hFc q h) hFc (fun r u t H1 locs1 ht hvm hw hB hz1 hk1 hS1 => ?_)
  rw [hw]
  exact K H1 locs1 ls (hP.kept (fun k q hk => hk1 q.1 (hP k q hk).lt (fun h => by
    rcases h with ⟨k, e, h⟩ | h
    · simp at h
    · exact absurd (hP k q hk).lt (by omega)))) hD hS1 hL
theorem g_callSV (E : gE p s m args c own cc nL Ts D tys A0) {y : MethodName} {bytes : ByteArray} {maxL index lam n : Nat} {ret : Option FieldType} {wsY : List Cond} {ws : va_W} {As : List Value}
    (hM : gMV l y wsY lam D tys [] As []) (cw : CallB R s args own index y bytes maxL ret wsY (gR lam) 0 0 n ∧ (Cond.static y).before args s = true) (hn : As.length = n) (hlv : lv.length = nL) (hst : st0 = As.reverse ++ st) (hcat : (st.map fun v => v.category).sum ≤ 8)
    (hdg : decode cc pc = .ok (.invokestatic index, 3)) (hcs : cells ≤ R.cells ∧ slots ≤ R.slots) (K : gJ p l e R s m args below meth c cells slots Q A0 D ws lv (pc + 3) st) : gJ p l e R s m args below meth c cells slots Q A0 D ws lv pc st0 := by
  obtain ⟨⟨hx, hb, hml, hown, hts⟩, hK, hA⟩ := E
  intro H locs ls hP hD hS hL
  subst hst
  have hP0 : va_P D vwCl [] H := fun k q h => by simp at h
  have hD0 : ∀ A : Nat → Prop, va_D A [] := fun A => ⟨fun i j p q h => by simp at h, fun k q h => by simp at h⟩
  have hFc : ∀ q, va_A [] H.size q → A0 q := fun q h => by
    rcases h with ⟨k, e, h⟩ | h
    · simp at h
    · exact hA q (Nat.le_trans hS.1 h)
  refine va_callv (va_runS (As := As) (rest := st) ⟨hx, hb, hml, hown, hts⟩ (hM H.size) cw ⟨fun a U g mk q => by obtain ⟨q0, q1, qP, qK, qD⟩ := q; exact ⟨q0, q1, qP, va_K.moved (u := U) (U := U.calling g mk a) (Vm.Alike.refl U.vm) qK, qD⟩, fun U hU hW => ⟨rfl, by rw [hU], by rw [hU]; exact hP0, va_K.moved hW.alike hK, hD0 _⟩⟩ rfl hn (hL.1.trans hlv) rfl (lv_room hcat) hdg hcs) hS (fun q _ h => hFc q h) hFc (fun u t H1 locs1 ht hvm hw hB hz1 hk1 hS1 => ?_)
  exact K H1 locs1 ls (hP.kept (fun k q hk => hk1 q.1 (hP k q hk).lt (fun h => by
    rcases h with ⟨k, e, h⟩ | h
    · simp at h
    · exact absurd (hP k q hk).lt (by omega)))) hD hS1 hL
/-- a callee that throws E, in a method that owes the throw of E -/
theorem g_callT (E : gE p s m args c own cc nL Ts D tys A0) {C : String} {y : MethodName} {bytes : ByteArray} {maxL index lam n q ci N : Nat} {T : u_T} {fs : List Value} {ret : Option FieldType} {wsY : List Cond} {wc : va_W} {As : List Value} {EX : String}
    (hM : gMT l y wsY lam D tys wc (.ref q :: As) EX) (hT : gKT A0 s s.heap) (hlk : meth.locks = false) (htb : ∀ x ∈ c.exceptionTable.toList, False) (cw : CallW R s args own C index y bytes maxL ret wsY (gRx lam) 1 6 n) (hn : As.length = n) (hlv : lv.length = nL) (hst : st0 = As.reverse ++ .ref q :: st) (hcat : (st.map fun v => v.category).sum ≤ 8) (he : wc[0]? = some (q, .inr (ci, fs))) (hc : vwCl[ci]? = some (C, T, N))
    (hdg : decode cc pc = .ok (.invokevirtual index, 3)) (hcs : 1 ≤ R.cells ∧ 6 ≤ R.slots) : gJ p l e R s m args below meth c 0 0 (gQT below args s D tys wc EX A0) A0 D wc lv pc st0 := by
  obtain ⟨⟨hx, hb, hml, hown, hts⟩, hK, hA⟩ := E
  intro H locs ls hP hD hS hL
  subst hst
  have hFc := va_free (wc := wc) hD hS hA _ (g_isC [] wc)
  refine vx_callv (vx_runV (As := As) (rest := st) (cells := 0) (slots := 0) ⟨hx, hb, hml, hown, hts⟩ (hM H.size) cw ⟨fun a U g mk q => by obtain ⟨q0, ⟨q1, qP, qK, qD⟩, qT⟩ := q; exact ⟨q0, ⟨q1, qP, va_K.moved (u := U) (U := U.calling g mk a) (Vm.Alike.refl U.vm) qK, qD⟩, qT⟩, va_recv hK hP hc he, fun U hU hW => ⟨rfl, ⟨by rw [hU], by rw [hU]; exact hP, va_K.moved hW.alike hK, hD.weaken (fun _ _ _ _ => trivial)⟩, gKT.call hT hS hFc hU hW⟩⟩ rfl hn (hL.1.trans hlv) rfl (lv_room hcat) hdg (by simpa using hcs)) hS (fun q _ h => hFc q h) hFc (fun q _ h => hFc q h) (fun E9 ce q9 u t H1 locs1 ht hvm hp hB hz hk hS1 hce hcv hcl => ?_) (fun u t H1 locs1 ht hvm hw hB hz1 hk1 hS1 => hw.elim)
  obtain ⟨rfl, hP1, hK1, hD1⟩ := hB
  rw [ht] at hP1
  exact vx_out (fun x hx => (htb x hx).elim) hlk hce hcv hcl (fun t' ht' hvm' => ⟨(), trivial, ⟨rfl, by rw [ht']; exact hP1, va_K.moved hvm' hK, hD1.weaken (fun k q _ h => hFc q.1 h)⟩, hS1.F ht'⟩) hS1.2.2 (by simp) (by simp)
theorem g_callTS (E : gE p s m args c own cc nL Ts D tys A0) {y : MethodName} {bytes : ByteArray} {maxL index lam n : Nat} {ret : Option FieldType} {wsY : List Cond} {wc : va_W} {As : List Value} {EX : String}
    (hM : gMT l y wsY lam D tys [] As EX) (hT : gKT A0 s s.heap) (hlk : meth.locks = false) (htb : ∀ x ∈ c.exceptionTable.toList, False) (cw : CallB R s args own index y bytes maxL ret wsY (gRx lam) 1 6 n ∧ (Cond.static y).before args s = true) (hn : As.length = n) (hlv : lv.length = nL) (hst : st0 = As.reverse ++ st) (hcat : (st.map fun v => v.category).sum ≤ 8)
    (hdg : decode cc pc = .ok (.invokestatic index, 3)) (hcs : 1 ≤ R.cells ∧ 6 ≤ R.slots) : gJ p l e R s m args below meth c 0 0 (gQT below args s D tys wc EX A0) A0 D wc lv pc st0 := by
  obtain ⟨⟨hx, hb, hml, hown, hts⟩, hK, hA⟩ := E
  intro H locs ls hP hD hS hL
  subst hst
  have hP0 : va_P D vwCl [] H := fun k q h => by simp at h
  have hD0 : ∀ A : Nat → Prop, va_D A [] := fun A => ⟨fun i j p q h => by simp at h, fun k q h => by simp at h⟩
  have hFc : ∀ q, va_A [] H.size q → A0 q := fun q h => by
    rcases h with ⟨k, e, h⟩ | h
    · simp at h
    · exact hA q (Nat.le_trans hS.1 h)
  refine vx_callv (vx_runS (As := As) (rest := st) (cells := 0) (slots := 0) ⟨hx, hb, hml, hown, hts⟩ (hM H.size) cw ⟨fun a U g mk q => by obtain ⟨q0, ⟨q1, qP, qK, qD⟩, qT⟩ := q; exact ⟨q0, ⟨q1, qP, va_K.moved (u := U) (U := U.calling g mk a) (Vm.Alike.refl U.vm) qK, qD⟩, qT⟩, fun U hU hW => ⟨rfl, ⟨by rw [hU], by rw [hU]; exact hP0, va_K.moved hW.alike hK, hD0 _⟩, gKT.call hT hS hFc hU hW⟩⟩ rfl hn (hL.1.trans hlv) rfl (lv_room hcat) hdg (by simpa using hcs)) hS (fun q _ h => hFc q h) hFc (fun q _ h => hFc q h) (fun E9 ce q9 u t H1 locs1 ht hvm hp hB hz hk hS1 hce hcv hcl => ?_) (fun u t H1 locs1 ht hvm hw hB hz1 hk1 hS1 => hw.elim)
  obtain ⟨rfl, -, hK1, -⟩ := hB
  have hP1 : va_P D vwCl wc H1 := hP.kept (fun k q hk9 => hk q.1 (hP k q hk9).lt (fun h => by
    rcases h with ⟨k, e, h⟩ | h
    · simp at h
    · exact absurd (hP k q hk9).lt (by omega)))
  exact vx_out (fun x hx => (htb x hx).elim) hlk hce hcv hcl (fun t' ht' hvm' => ⟨(), trivial, ⟨rfl, by rw [ht']; exact hP1, va_K.moved hvm' hK, hD⟩, hS1.F ht'⟩) hS1.2.2 (by simp) (by simp)
/-- 'throw new E("..")' in a method that owes it -/
theorem g_throw (E : gE p s m args c own cc nL Ts D tys A0) {cls text : String} {names : List String} {ik is ic : Nat} {wc : va_W}
    (hfl : l.stackTraces = false) (hT : gKT A0 s s.heap) (hlk : meth.locks = false) (htb : ∀ x ∈ c.exceptionTable.toList, False) (hlv : lv.length = nL)
    (hcls : Bundle.fit cls = true) (hnames : ∀ n ∈ names, Bundle.fit n = true) (hk : Cond.classLink own ik cls ∈ Ts) (hini : Cond.initialized cls ∈ Ts) (hown9 : own = RX0) (hstr : (is, text) ∈ gStr) (hcx : cls ∈ gEx)
    (hw : ∀ w ∈ (vx_atS own ic cls names).filter goodWord, w ∈ Ts) (hw2 : ∀ w ∈ (vx_atS own ic cls names).filter (fun w => !goodWord w), w ∈ gBad cls)
    (hgood : ∀ w ∈ Cond.classLink own ik cls :: Cond.initialized cls :: vx_atS own ic cls names, vx_ot w = true)
    (d0 : decode cc pc = .ok (.new ik, 3)) (d3 : decode cc (pc + 3) = .ok (.dup, 1)) (d4 : decode cc (pc + 4) = .ok (.ldc is, 2)) (d6 : decode cc (pc + 6) = .ok (.invokespecial ic, 3)) (d9 : decode cc (pc + 9) = .ok (.athrow, 1))
    (hRf : names.length + 3 < R.frames) (hRl : (st.map fun v => v.category).sum + (13 * (names.length + 1) + 43) ≤ R.locals) (hcs : 1 ≤ R.cells ∧ 6 ≤ R.slots) : gJ p l e R s m args below meth c 0 0 (gQT below args s D tys wc cls A0) A0 D wc lv pc st := by
  obtain ⟨⟨hx, hb, hml, hown, hts⟩, hK, hA⟩ := E
  intro H locs ls hP hD hS hL
  have hbad := hT.bad (args := args) hcx
  obtain ⟨t1, t2, t3, t4, t5, t6⟩ := hT
  obtain ⟨sa, hsa⟩ := t3 _ hstr
  subst hown9
  refine vx_throwS hx hb hfl (names := names) hown hcls hnames (hts _ hk) (hts _ hini) hsa (vx_hat (fun w h => hts w (hw w h)) hw2 hbad) hgood t1 t2 hS ((hL.1.trans hlv).trans hml.symm) d0 d3 d4 d6 d9 (fun x hx => (htb x hx).elim) hRf hRl (by simpa using hcs.1) (by simpa using hcs.2) hlk (fun t hvm hz hk9 => ⟨(), trivial, ⟨rfl, hP.kept (fun k q hk0 => hk9 q.1 (hP k q hk0).lt), va_K.moved hvm hK, hD⟩, ⟨Nat.le_trans hS.1 hz, fun q h1 h2 => by rw [hk9 q (Nat.lt_of_lt_of_le h1 hS.1)]; exact hS.2.1 q h1 h2⟩⟩) hS.2.2 (by simp) (by simp)
end GC
/-! ===== a contract out of a walk ===== -/
theorem g_ofI {l : Launch} {y : MethodName} {ws ws' : List Cond} {lam : Nat} {D : va_G} {tys : List (ClassId × FieldType)} {W0 W1 : va_W} {av : List Value} {rv : Int} {own : String} {cc : ByteArray} {maxL : Nat} {ty : FieldType}
    (hy : plainName y.cls = true) (hcls : y.cls = own) (hw : ws = Cond.code y cc maxL (some ty) :: ws') (hlen : av.length ≤ maxL) (hcat : ∀ v ∈ av, v.category = 1) (hnar : narrow ty (.int (iI rv)) = .int (iI rv))
    (body : ∀ (p : Program) (e : Env) (s : State) (m : MethodId) (args : Array Value) (below : List Frame) (meth : Method) (c : Code) (Q : State → Prop) (A0 : Nat → Prop), gE p s m args c own cc maxL ws D tys A0 → (∀ (lv : List (Option Value)) (pc : Nat), decode cc pc = .ok (.ireturn, 1) → gJ p l e (gR lam) s m args below meth c 0 0 Q A0 D W1 lv pc [.int (iI rv)]) →
      gJ p l e (gR lam) s m args below meth c 0 0 Q A0 D W0 (av.map some ++ List.replicate (maxL - av.length) none) 0 []) : gMI l y ws lam D tys W0 av rv W1 := by
  intro sz
  refine Met.ofW (cc := cc) (maxL := maxL) (ret := some ty) hy hw ?_
  intro p e s m args below meth c s₁ B hml hv
  obtain ⟨rfl, hsz, hP, hK, hD0⟩ := hv
  have hts := atoms_spec (ws := ws) B.pre
  have hown : s.vm.findClass own = some m.cls := by rw [← hcls]; exact findClass_of_methodNamed B.named
  subst hsz
  have hD := hD0.self (sz := s.heap.size)
  have hl := lv_entry av (n := maxL) (by rw [g_slen hcat]; exact hlen)
  rw [lg_entry_eq]
  refine body p e s m _ below meth c _ (va_A W0 s.heap.size) ⟨⟨B.exec, B.bytes, hml, hown, hts⟩, hK, fun q h => Or.inr h⟩ ?_ s.heap [] _ hP hD va_S.rf (gL_entry hlen hcat hl)
  intro lv pc hdg H locs ls hP9 hD9 hS9 hL9
  exact W.zret (v := iI rv) B.exec B.bytes B.returns hnar (fun t ht hW => ⟨⟨iI rv, (), rfl, rfl, by rw [ht]; exact hP9, va_K.moved hW.alike hK, hD9⟩, hS9.F ht⟩) hS9.2.2 hdg
theorem g_ofV {l : Launch} {y : MethodName} {ws ws' : List Cond} {lam : Nat} {D : va_G} {tys : List (ClassId × FieldType)} {W0 W1 : va_W} {av : List Value} {own : String} {cc : ByteArray} {maxL : Nat}
    (hy : plainName y.cls = true) (hcls : y.cls = own) (hw : ws = Cond.code y cc maxL none :: ws') (hlen : av.length ≤ maxL) (hcat : ∀ v ∈ av, v.category = 1)
    (body : ∀ (p : Program) (e : Env) (s : State) (m : MethodId) (args : Array Value) (below : List Frame) (meth : Method) (c : Code) (Q : State → Prop) (A0 : Nat → Prop), gE p s m args c own cc maxL ws D tys A0 → (∀ (lv : List (Option Value)) (pc : Nat), decode cc pc = .ok (.return_, 1) → gJ p l e (gR lam) s m args below meth c 0 0 Q A0 D W1 lv pc []) →
      gJ p l e (gR lam) s m args below meth c 0 0 Q A0 D W0 (av.map some ++ List.replicate (maxL - av.length) none) 0 []) : gMV l y ws lam D tys W0 av W1 := by
  intro sz
  refine Met.ofW (cc := cc) (maxL := maxL) (ret := none) hy hw ?_
  intro p e s m args below meth c s₁ B hml hv
  obtain ⟨rfl, hsz, hP, hK, hD0⟩ := hv
  have hts := atoms_spec (ws := ws) B.pre
  have hown : s.vm.findClass own = some m.cls := by rw [← hcls]; exact findClass_of_methodNamed B.named
  subst hsz
  have hD := hD0.self (sz := s.heap.size)
  have hl := lv_entry av (n := maxL) (by rw [g_slen hcat]; exact hlen)
  rw [lg_entry_eq]
  refine body p e s m _ below meth c _ (va_A W0 s.heap.size) ⟨⟨B.exec, B.bytes, hml, hown, hts⟩, hK, fun q h => Or.inr h⟩ ?_ s.heap [] _ hP hD va_S.rf (gL_entry hlen hcat hl)
  intro lv pc hdg H locs ls hP9 hD9 hS9 hL9
  exact W.vret B.exec B.bytes B.returns (fun t ht hW => ⟨⟨(), rfl, trivial, by rw [ht]; exact hP9, va_K.moved hW.alike hK, hD9⟩, hS9.F ht⟩) hS9.2.2 hdg
theorem g_ofT {l : Launch} {y : MethodName} {ws ws' : List Cond} {lam : Nat} {D : va_G} {tys : List (ClassId × FieldType)} {W0 : va_W} {av : List Value} {EX own : String} {cc : ByteArray} {maxL : Nat} {ret : Option FieldType}
    (hy : plainName y.cls = true) (hcls : y.cls = own) (hw : ws = Cond.code y cc maxL ret :: ws') (hlen : av.length ≤ maxL) (hcat : ∀ v ∈ av, v.category = 1)
    (body : ∀ (p : Program) (e : Env) (s : State) (m : MethodId) (args : Array Value) (below : List Frame) (meth : Method) (c : Code) (A0 : Nat → Prop), gE p s m args c own cc maxL ws D tys A0 → gKT A0 s s.heap → meth.locks = false → (∀ x ∈ c.exceptionTable.toList, False) →
      gJ p l e (gRx lam) s m args below meth c 0 0 (gQT below args s D tys W0 EX A0) A0 D W0 (av.map some ++ List.replicate (maxL - av.length) none) 0 []) : gMT l y ws lam D tys W0 av EX := by
  intro sz
  refine vx_ofW (cc := cc) (maxL := maxL) (ret := ret) hy hw ?_
  intro p e s m args below meth c s₁ B hml htb hv
  obtain ⟨rfl, ⟨hsz, hP, hK, hD0⟩, hT⟩ := hv
  have hts := atoms_spec (ws := ws) B.pre
  have hown : s.vm.findClass own = some m.cls := by rw [← hcls]; exact findClass_of_methodNamed B.named
  subst hsz
  have hD := hD0.self (sz := s.heap.size)
  have hl := lv_entry av (n := maxL) (by rw [g_slen hcat]; exact hlen)
  rw [lg_entry_eq]
  exact body p e s m _ below meth c (va_A W0 s.heap.size) ⟨⟨B.exec, B.bytes, hml, hown, hts⟩, hK, fun q h => Or.inr h⟩ hT B.notSynchronized htb s.heap [] _ hP hD va_S.rf (gL_entry hlen hcat hl)
section GC2
variable {p : Program} {l : Launch} {e : Env} {R : Room} {s : State} {m : MethodId} {args : Array Value} {below : List Frame} {meth : Method} {c : Code} {cells slots : Nat} {Q : State → Prop} {A0 : Nat → Prop} {D : va_G}
variable {own : String} {cc : ByteArray} {nL : Nat} {Ts : List Cond} {tys : List (ClassId × FieldType)} {lv : List (Option Value)} {pc : Nat} {st st0 : List Value}
/-- .. the callee's world is the caller's -/
theorem g_callI0 (E : gE p s m args c own cc nL Ts D tys A0) {C : String} {y : MethodName} {bytes : ByteArray} {maxL index lam n q ci N : Nat} {T : u_T} {fs : List Value} {ret : Option FieldType} {wsY : List Cond} {wc wc' : va_W} {As : List Value} {rv : Int}
    (hM : gMI l y wsY lam D tys wc (.ref q :: As) rv wc') (cw : CallW R s args own C index y bytes maxL ret wsY (gR lam) 0 0 n) (hn : As.length = n) (hlv : lv.length = nL) (hst : st0 = As.reverse ++ .ref q :: st) (hcat : (st.map fun v => v.category).sum ≤ 8) (he : wc[0]? = some (q, .inr (ci, fs))) (hc : vwCl[ci]? = some (C, T, N))
    (hdg : decode cc pc = .ok (.invokevirtual index, 3)) (hcs : cells ≤ R.cells ∧ slots ≤ R.slots) (K : gJ p l e R s m args below meth c cells slots Q A0 D wc' lv (pc + 3) (.int (iI rv) :: st)) : gJ p l e R s m args below meth c cells slots Q A0 D wc lv pc st0 := g_callI E (wr := []) hM cw hn hlv hst hcat he hc hdg hcs K
theorem g_callV0 (E : gE p s m args c own cc nL Ts D tys A0) {C : String} {y : MethodName} {bytes : ByteArray} {maxL index lam n q ci N : Nat} {T : u_T} {fs : List Value} {ret : Option FieldType} {wsY : List Cond} {wc wc' : va_W} {As : List Value}
    (hM : gMV l y wsY lam D tys wc (.ref q :: As) wc') (cw : CallW R s args own C index y bytes maxL ret wsY (gR lam) 0 0 n) (hn : As.length = n) (hlv : lv.length = nL) (hst : st0 = As.reverse ++ .ref q :: st) (hcat : (st.map fun v => v.category).sum ≤ 8) (he : wc[0]? = some (q, .inr (ci, fs))) (hc : vwCl[ci]? = some (C, T, N))
    (hdg : decode cc pc = .ok (.invokevirtual index, 3)) (hcs : cells ≤ R.cells ∧ slots ≤ R.slots) (K : gJ p l e R s m args below meth c cells slots Q A0 D wc' lv (pc + 3) st) : gJ p l e R s m args below meth c cells slots Q A0 D wc lv pc st0 := g_callV E (wr := []) hM cw hn hlv hst hcat he hc hdg hcs K
theorem g_ri {cc : ByteArray} {rv v : Int} {W1 : va_W} (h : v = rv) (hret : ∀ (lv : List (Option Value)) (pc : Nat), decode cc pc = .ok (.ireturn, 1) → gJ p l e R s m args below meth c cells slots Q A0 D W1 lv pc [.int (iI rv)]) {lv : List (Option Value)} {pc : Nat} (hdg : decode cc pc = .ok (.ireturn, 1)) : gJ p l e R s m args below meth c cells slots Q A0 D W1 lv pc [.int (iI v)] := by
  subst h
  exact hret lv pc hdg
theorem g_mmin (E : gE p s m args c own cc nL Ts D tys A0) {index : Nat} {a b v : Int} {ws : va_W} (h1 : Cond.methodLink own index Lib.Math.min.name ∈ Ts) (h2 : Cond.static Lib.Math.min.name ∈ Ts) (h3 : Cond.initialized "java/lang/Math" ∈ Ts) (h4 : Cond.code Lib.Math.min.name Lib.Math.min.code 2 (some .int) ∈ Ts) (hdg : decode cc pc = .ok (.invokestatic index, 3)) (hlv : lv.length = nL)
    (hR : 1 ≤ R.frames ∧ (st.map fun v => v.category).sum + 13 ≤ R.locals ∧ cells ≤ R.cells ∧ slots ≤ R.slots) (hr : (-2147483648 ≤ a ∧ a < 2147483648) ∧ (-2147483648 ≤ b ∧ b < 2147483648)) (hv : (if b < a then b else a) = v)
    (K : gJ p l e R s m args below meth c cells slots Q A0 D ws lv (pc + 3) (.int (iI v) :: st)) : gJ p l e R s m args below meth c cells slots Q A0 D ws lv pc (.int (iI b) :: .int (iI a) :: st) := by
  obtain ⟨⟨hx, hb, hml, hown, hts⟩, hK, hA⟩ := E
  intro H locs ls hP hD hS hL
  subst hv
  refine va_mmin hx hb (hml.trans (hL.1.trans hlv).symm) hown (hts _ h1) (hts _ h2) (hts _ h3) (hts _ h4) hR.1 hR.2.1 hR.2.2.1 hR.2.2.2 hdg ?_
  have e9 : (if iI b < iI a then iI b else iI a) = iI (if b < a then b else a) := by
    by_cases h : b < a
    · rw [if_pos h, if_pos ((iI_lt hr.2 hr.1).mpr h)]
    · rw [if_neg h, if_neg (fun h2 => h ((iI_lt hr.2 hr.1).mp h2))]
  rw [e9]
  exact K H locs ls hP hD hS hL
theorem g_mmax (E : gE p s m args c own cc nL Ts D tys A0) {index : Nat} {a b v : Int} {ws : va_W} (h1 : Cond.methodLink own index Lib.Math.max.name ∈ Ts) (h2 : Cond.static Lib.Math.max.name ∈ Ts) (h3 : Cond.initialized "java/lang/Math" ∈ Ts) (h4 : Cond.code Lib.Math.max.name Lib.Math.max.code 2 (some .int) ∈ Ts) (hdg : decode cc pc = .ok (.invokestatic index, 3)) (hlv : lv.length = nL)
    (hR : 1 ≤ R.frames ∧ (st.map fun v => v.category).sum + 13 ≤ R.locals ∧ cells ≤ R.cells ∧ slots ≤ R.slots) (hr : (-2147483648 ≤ a ∧ a < 2147483648) ∧ (-2147483648 ≤ b ∧ b < 2147483648)) (hv : (if a < b then b else a) = v)
    (K : gJ p l e R s m args below meth c cells slots Q A0 D ws lv (pc + 3) (.int (iI v) :: st)) : gJ p l e R s m args below meth c cells slots Q A0 D ws lv pc (.int (iI b) :: .int (iI a) :: st) := by
  obtain ⟨⟨hx, hb, hml, hown, hts⟩, hK, hA⟩ := E
  intro H locs ls hP hD hS hL
  subst hv
  refine va_mmax hx hb (hml.trans (hL.1.trans hlv).symm) hown (hts _ h1) (hts _ h2) (hts _ h3) (hts _ h4) hR.1 hR.2.1 hR.2.2.1 hR.2.2.2 hdg ?_
  have e9 : (if iI a < iI b then iI b else iI a) = iI (if a < b then b else a) := by
    by_cases h : a < b
    · rw [if_pos h, if_pos ((iI_lt hr.1 hr.2).mpr h)]
    · rw [if_neg h, if_neg (fun h2 => h ((iI_lt hr.1 hr.2).mp h2))]
  rw [e9]
  exact K H locs ls hP hD hS hL
theorem g_ldcI (E : gE p s m args c own cc nL Ts D tys A0) {index : Nat} {v : Int} {ws : va_W} (hc : Cond.constant own index (iI v) ∈ Ts) (hdg : decode cc pc = .ok (.ldc index, 2)) (K : gJ p l e R s m args below meth c cells slots Q A0 D ws lv (pc + 2) (.int (iI v) :: st)) : gJ p l e R s m args below meth c cells slots Q A0 D ws lv pc st := by
  obtain ⟨⟨hx, hb, hml, hown, hts⟩, hK, hA⟩ := E
  intro H locs ls hP hD hS hL
  exact lv_ldc hx hb hown (hts _ hc) hdg (K H locs ls hP hD hS hL)
/-- another view of the same world or stack -/
theorem g_eq {ws ws' : va_W} {lv lv' : List (Option Value)} {st st' : List Value} (h : gJ p l e R s m args below meth c cells slots Q A0 D ws' lv' pc st') (hw : ws = ws') (hl : lv = lv') (hs : st = st') : gJ p l e R s m args below meth c cells slots Q A0 D ws lv pc st := by
  subst hw hl hs
  exact h
end GC2
end
section
/-! ===== what the methods compute, over Int ===== -/
def pMin (a b : Int) : Int := if b < a then b else a
/-- the sum of f over 1 .. k - 1 -/
def pSum (f : Nat → Int) : Nat → Int
  | 0 => 0
  | k + 1 => if k = 0 then 0 else pSum f k + f k
theorem pSum_1 (f : Nat → Int) : pSum f 1 = 0 := rfl
theorem pSum_s (f : Nat → Int) {k : Nat} (h : 1 ≤ k) : pSum f (k + 1) = pSum f k + f k := if_neg (by omega)
/-- the sum of f over 0 .. k - 1 -/
def qSum (f : Nat → Int) : Nat → Int
  | 0 => 0
  | k + 1 => qSum f k + f k
/-- what would go by door d -/
def pWish (P t : Int) (pe re fl sr : Nat → Int) (d : Nat) : Int := if 0 ≤ sr d ∧ sr d < P ∧ re (sr d).toNat ≤ t then pMin (pe (sr d).toNat) (fl d) else 0
/-- one round of grants at the place p: what is granted, what is left -/
def pG (w sh tg : Nat → Int) (p : Int) (G : Nat → Int) (L : Int) : Nat → (Nat → Int) × Int
  | 0 => (G, L)
  | k + 1 => if tg k = p then (gu (pG w sh tg p G L k).1 k ((pG w sh tg p G L k).1 k + pMin (pMin (sh k) (w k - (pG w sh tg p G L k).1 k)) (pG w sh tg p G L k).2), (pG w sh tg p G L k).2 - pMin (pMin (sh k) (w k - (pG w sh tg p G L k).1 k)) (pG w sh tg p G L k).2) else pG w sh tg p G L k
/-- n rounds -/
def pR (w sh tg : Nat → Int) (p : Int) (Dn : Nat) (G : Nat → Int) (L : Int) : Nat → (Nat → Int) × Int
  | 0 => (G, L)
  | n + 1 => pG w sh tg p (pR w sh tg p Dn G L n).1 (pR w sh tg p Dn G L n).2 Dn
def pRoom (rm pe : Nat → Int) (p : Nat) : Int := if p = 0 then 2147483647 else rm p - pe p
def pZ (G : Nat → Int) : Nat → Nat → Int
  | 0 => G
  | k + 1 => gu (pZ G k) k 0
/-- all places, one after the other -/
def pA (w sh tg rm pe : Nat → Int) (Dn : Nat) (G : Nat → Int) : Nat → Nat → Int
  | 0 => G
  | p + 1 => (pR w sh tg (p : Int) Dn (pA w sh tg rm pe Dn G p) (pRoom rm pe p) 9).1
/-- the move -/
def pIn (P x : Int) : Prop := 0 ≤ x ∧ x < P
def pMove (P : Int) (sr tg G : Nat → Int) (f : Nat → Int) : Nat → Nat → Int
  | 0 => f
  | k + 1 => if (0 ≤ sr k ∧ sr k < P) ∧ (0 ≤ tg k ∧ tg k < P) then gu (gu (pMove P sr tg G f k) (sr k).toNat (pMove P sr tg G f k (sr k).toNat - G k)) (tg k).toNat (gu (pMove P sr tg G f k) (sr k).toNat (pMove P sr tg G f k (sr k).toNat - G k) (tg k).toNat + G k) else pMove P sr tg G f k
def pPass (P : Int) (sr tg G : Nat → Int) (f : Nat → Int) : Nat → Nat → Int
  | 0 => f
  | k + 1 => if (0 ≤ sr k ∧ sr k < P) ∧ (0 ≤ tg k ∧ tg k < P) then gu (pPass P sr tg G f k) k (pPass P sr tg G f k k + G k) else pPass P sr tg G f k
def pMoved (P : Int) (sr tg G : Nat → Int) : Nat → Int
  | 0 => 0
  | k + 1 => if (0 ≤ sr k ∧ sr k < P) ∧ (0 ≤ tg k ∧ tg k < P) then pMoved P sr tg G k + G k else pMoved P sr tg G k
/-- distances: one try, one door, one round, all rounds -/
def pReach (f : Nat → Int) (a b : Nat) (d : Int) : Nat → Int := if f a = -1 ∧ f b = d - 1 then gu f a d else f
def pRd (one oth op : Nat → Int) (d : Int) (f : Nat → Int) : Nat → Nat → Int
  | 0 => f
  | k + 1 => if op k = 0 then pRd one oth op d f k else pReach (pReach (pRd one oth op d f k) (one k).toNat (oth k).toNat d) (oth k).toNat (one k).toNat d
def pMs (one oth op : Nat → Int) (Dn : Nat) (f : Nat → Int) : Nat → Nat → Int
  | 0 => f
  | 1 => f
  | k + 2 => pRd one oth op ((k + 1 : Nat) : Int) (pMs one oth op Dn f (k + 1)) Dn
def pN (f : Nat → Int) : Nat → Nat → Int
  | 0 => f
  | 1 => f
  | k + 2 => gu (pN f (k + 1)) (k + 1) (-1)
/-- the distances as X lays them -/
def pDist (one oth op : Nat → Int) (P Dn : Nat) (f : Nat → Int) : Nat → Int := pMs one oth op Dn (pN (gu f 0 0) P) P
/-- the doors of places, and whence and where a door leads: (doorOf, source, target) -/
def pFit (di : Nat → Int) (op : Int) (a b : Nat) : Prop := op ≠ 0 ∧ 1 ≤ di a ∧ di b = di a - 1
def pOf (di : Nat → Int) (op : Int) (k a b : Nat) (T : (Nat → Int) × (Nat → Int) × (Nat → Int)) : (Nat → Int) × (Nat → Int) × (Nat → Int) :=
  if (op ≠ 0 ∧ 1 ≤ di a ∧ di b = di a - 1) ∧ T.1 a = -1 then (gu T.1 a (k : Int), gu T.2.1 k (a : Int), gu T.2.2 k (b : Int)) else T
def pOff (one oth op di : Nat → Int) (T : (Nat → Int) × (Nat → Int) × (Nat → Int)) : Nat → (Nat → Int) × (Nat → Int) × (Nat → Int)
  | 0 => T
  | k + 1 => pOf di (op k) k (oth k).toNat (one k).toNat (pOf di (op k) k (one k).toNat (oth k).toNat ((pOff one oth op di T k).1, gu (pOff one oth op di T k).2.1 k (-1), gu (pOff one oth op di T k).2.2 k (-1)))
def pM1 (f : Nat → Int) : Nat → Nat → Int
  | 0 => f
  | k + 1 => gu (pM1 f k) k (-1)
def pWays (one oth op di : Nat → Int) (P Dn : Nat) (T : (Nat → Int) × (Nat → Int) × (Nat → Int)) : (Nat → Int) × (Nat → Int) × (Nat → Int) := pOff one oth op di (pM1 T.1 P, T.2.1, T.2.2) Dn
/-- the bound -/
def pCrowd (di pe : Nat → Int) (d : Int) (P : Nat) : Int := pSum (fun j => if d ≤ di j then pe j else 0) P
def pJoin (di one oth op : Nat → Int) (d : Int) (k : Nat) : Prop := (di (one k).toNat = d ∧ di (oth k).toNat = d - 1 ∨ di (oth k).toNat = d ∧ di (one k).toNat = d - 1) ∧ op k ≠ 0
def pFlow (di one oth op fl : Nat → Int) (d : Int) (Dn : Nat) : Int := qSum (fun k => if ((di (one k).toNat = d ∧ di (oth k).toNat = d - 1) ∨ (di (oth k).toNat = d ∧ di (one k).toNat = d - 1)) ∧ op k ≠ 0 then fl k else 0) Dn
def pBd (cr fl d : Int) : Int := if cr = 0 ∨ fl = 0 then 0 else d - 1 + (cr + fl - 1) / fl
def pBound (di one oth op fl pe : Nat → Int) (P Dn : Nat) : Nat → Int
  | 0 => 0
  | 1 => 0
  | d + 2 => if pBound di one oth op fl pe P Dn (d + 1) < pBd (pCrowd di pe ((d + 1 : Nat) : Int) P) (pFlow di one oth op fl ((d + 1 : Nat) : Int) Dn) ((d + 1 : Nat) : Int) then pBd (pCrowd di pe ((d + 1 : Nat) : Int) P) (pFlow di one oth op fl ((d + 1 : Nat) : Int) Dn) ((d + 1 : Nat) : Int) else pBound di one oth op fl pe P Dn (d + 1)
end
section
/-! ===== bounds of what is computed ===== -/
def gB (f : Nat → Int) : Prop := ∀ j : Nat, -2147483648 ≤ f j ∧ f j < 2147483648
theorem gu_B {f : Nat → Int} {i : Nat} {v : Int} (h : gB f) (hv : -2147483648 ≤ v ∧ v < 2147483648) : gB (gu f i v) := by
  intro j
  unfold gu
  split
  · exact hv
  · exact h j
theorem gu_self {f : Nat → Int} {i : Nat} {v : Int} (h : v = f i) : gu f i v = f := by
  funext j
  unfold gu
  split
  · rename_i e; rw [h, e]
  · rfl
theorem pReach_B {f : Nat → Int} {a b : Nat} {d : Int} (h : gB f) (hd : -2147483648 ≤ d ∧ d < 2147483648) : gB (pReach f a b d) := by
  unfold pReach
  split
  · exact gu_B h hd
  · exact h
theorem pRd_B {one oth op : Nat → Int} {d : Int} {f : Nat → Int} (h : gB f) (hd : -2147483648 ≤ d ∧ d < 2147483648) : ∀ k, gB (pRd one oth op d f k) := by
  intro k
  induction k with
  | zero => exact h
  | succ k ih =>
    unfold pRd
    split
    · exact ih
    · exact pReach_B (pReach_B ih hd) hd
theorem pMs_s {one oth op : Nat → Int} {Dn : Nat} {f : Nat → Int} {k : Nat} (h : 1 ≤ k) : pMs one oth op Dn f (k + 1) = pRd one oth op (k : Int) (pMs one oth op Dn f k) Dn := by
  cases k with
  | zero => omega
  | succ k => rfl
theorem pMs_B {one oth op : Nat → Int} {Dn : Nat} {f : Nat → Int} (h : gB f) : ∀ k, k ≤ 100 → gB (pMs one oth op Dn f k) := by
  intro k
  induction k with
  | zero => intro _; exact h
  | succ k ih =>
    intro hk
    rcases Nat.eq_zero_or_pos k with rfl | h1
    · exact h
    · rw [pMs_s h1]
      exact pRd_B (ih (by omega)) (by omega) Dn
theorem pN_s {f : Nat → Int} {k : Nat} (h : 1 ≤ k) : pN f (k + 1) = gu (pN f k) k (-1) := by
  cases k with
  | zero => omega
  | succ k => rfl
theorem pN_B {f : Nat → Int} (h : gB f) : ∀ k, gB (pN f k) := by
  intro k
  induction k with
  | zero => exact h
  | succ k ih =>
    rcases Nat.eq_zero_or_pos k with rfl | h1
    · exact h
    · rw [pN_s h1]
      exact gu_B ih (by omega)
theorem pDist_B {one oth op : Nat → Int} {P Dn : Nat} {f : Nat → Int} (h : gB f) (hP : P ≤ 11) : gB (pDist one oth op P Dn f) := pMs_B (pN_B (gu_B h (by omega)) _) _ (by omega)
theorem pRd_0 {one oth op : Nat → Int} {d : Int} {f : Nat → Int} {k : Nat} (h : op k = 0) : pRd one oth op d f (k + 1) = pRd one oth op d f k := if_pos h
theorem pRd_1 {one oth op : Nat → Int} {d : Int} {f : Nat → Int} {k : Nat} (h : ¬ op k = 0) : pRd one oth op d f (k + 1) = pReach (pReach (pRd one oth op d f k) (one k).toNat (oth k).toNat d) (oth k).toNat (one k).toNat d := if_neg h
theorem pM1_B {f : Nat → Int} (h : gB f) : ∀ k, gB (pM1 f k) := by
  intro k
  induction k with
  | zero => exact h
  | succ k ih => exact gu_B ih (by omega)
theorem pOf_B {di : Nat → Int} {op : Int} {k a b : Nat} {T : (Nat → Int) × (Nat → Int) × (Nat → Int)} (h : gB T.1) (hk : k ≤ 100) : gB (pOf di op k a b T).1 := by
  unfold pOf
  split
  · exact gu_B h (by omega)
  · exact h
theorem pOff_B {one oth op di : Nat → Int} {T : (Nat → Int) × (Nat → Int) × (Nat → Int)} (h : gB T.1) : ∀ k, k ≤ 100 → gB (pOff one oth op di T k).1 := by
  intro k
  induction k with
  | zero => intro _; exact h
  | succ k ih =>
    intro hk
    exact pOf_B (pOf_B (ih (by omega)) (by omega)) (by omega)
/-! grants -/
def gGI (w sh G : Nat → Int) (L : Int) (Dn : Nat) : Prop := (∀ j, j < Dn → (0 ≤ G j ∧ G j ≤ w j) ∧ w j ≤ 9 ∧ 1 ≤ sh j ∧ sh j ≤ 5) ∧ 0 ≤ L ∧ L < 2147483648
theorem pMin_c (a b : Int) : (pMin a b = a ∧ a ≤ b) ∨ (pMin a b = b ∧ b ≤ a) := by
  unfold pMin
  split
  · right; omega
  · left; omega
theorem pG_inv {w sh tg : Nat → Int} {p : Int} {G : Nat → Int} {L : Int} {Dn : Nat} (h : gGI w sh G L Dn) : ∀ k, k ≤ Dn → gGI w sh (pG w sh tg p G L k).1 (pG w sh tg p G L k).2 Dn ∧ (pG w sh tg p G L k).2 ≤ L := by
  intro k
  induction k with
  | zero => intro _; exact ⟨h, Int.le_refl _⟩
  | succ k ih =>
    intro hk
    obtain ⟨⟨h1, h2, h3⟩, h4⟩ := ih (by omega)
    obtain ⟨⟨g1, g2⟩, g3, g4, g5⟩ := h1 k (by omega)
    unfold pG
    split
    · have c1 := pMin_c (sh k) (w k - (pG w sh tg p G L k).1 k)
      have c2 := pMin_c (pMin (sh k) (w k - (pG w sh tg p G L k).1 k)) (pG w sh tg p G L k).2
      refine ⟨⟨fun j hj => ?_, ?_, ?_⟩, ?_⟩
      · obtain ⟨⟨a1, a2⟩, a3⟩ := h1 j hj
        refine ⟨?_, a3⟩
        simp only [gu]
        split
        · rename_i e; subst e; omega
        · exact ⟨a1, a2⟩
      · simp only; omega
      · simp only; omega
      · simp only; omega
    · exact ⟨⟨h1, h2, h3⟩, h4⟩
theorem pG_same {w sh tg : Nat → Int} {p : Int} {G : Nat → Int} {L : Int} {Dn : Nat} (h : gGI w sh G L Dn) : ∀ k, k ≤ Dn → (pG w sh tg p G L k).2 = L → (pG w sh tg p G L k).1 = G := by
  intro k
  induction k with
  | zero => intro _ _; rfl
  | succ k ih =>
    intro hk e
    obtain ⟨⟨h1, h2, h3⟩, h4⟩ := pG_inv (tg := tg) (p := p) h k (by omega)
    obtain ⟨⟨g1, g2⟩, g3, g4, g5⟩ := h1 k (by omega)
    unfold pG at e ⊢
    split at e
    · rename_i ht
      rw [if_pos ht]
      have c1 := pMin_c (sh k) (w k - (pG w sh tg p G L k).1 k)
      have c2 := pMin_c (pMin (sh k) (w k - (pG w sh tg p G L k).1 k)) (pG w sh tg p G L k).2
      simp only at e ⊢
      have e0 : (pG w sh tg p G L k).2 = L := by omega
      rw [gu_self (by omega)]
      exact ih (by omega) e0
    · rename_i ht
      rw [if_neg ht]
      exact ih (by omega) e
theorem pR_inv {w sh tg : Nat → Int} {p : Int} {G : Nat → Int} {L : Int} {Dn : Nat} (h : gGI w sh G L Dn) : ∀ n, gGI w sh (pR w sh tg p Dn G L n).1 (pR w sh tg p Dn G L n).2 Dn := by
  intro n
  induction n with
  | zero => exact h
  | succ n ih => exact (pG_inv ih Dn (Nat.le_refl _)).1
theorem pR_stop {w sh tg : Nat → Int} {p : Int} {G : Nat → Int} {L : Int} {Dn : Nat} (h : gGI w sh G L Dn) {n : Nat} (e : (pR w sh tg p Dn G L (n + 1)).2 = (pR w sh tg p Dn G L n).2) : ∀ m, pR w sh tg p Dn G L (n + m) = pR w sh tg p Dn G L n := by
  have h1 : pR w sh tg p Dn G L (n + 1) = pR w sh tg p Dn G L n := Prod.ext (pG_same (pR_inv h n) Dn (Nat.le_refl _) e) e
  intro m
  induction m with
  | zero => rfl
  | succ m ih =>
    show pG w sh tg p (pR w sh tg p Dn G L (n + m)).1 (pR w sh tg p Dn G L (n + m)).2 Dn = _
    rw [ih]
    exact h1
theorem pR_out {w sh tg : Nat → Int} {p : Int} {G : Nat → Int} {L : Int} {Dn : Nat} (h : gGI w sh G L Dn) {n N : Nat} (e : (pR w sh tg p Dn G L (n + 1)).2 = (pR w sh tg p Dn G L n).2) (hN : n + 1 ≤ N) : pR w sh tg p Dn G L N = pR w sh tg p Dn G L (n + 1) := by
  rw [show N = n + (N - n) by omega, pR_stop h e, ← pR_stop h e 1]
theorem pWish_B {P t : Int} {pe re fl sr : Nat → Int} {Dn : Nat} (hpe : ∀ j : Nat, (j : Int) < P → 1 ≤ j → 0 ≤ pe j) (hp0 : 0 ≤ pe 0) (hfl : ∀ j, j < Dn → 1 ≤ fl j ∧ fl j ≤ 9) : ∀ j, j < Dn → 0 ≤ pWish P t pe re fl sr j ∧ pWish P t pe re fl sr j ≤ 9 := by
  intro j hj
  have h1 := hfl j hj
  unfold pWish
  split
  · rename_i h
    have c := pMin_c (pe (sr j).toNat) (fl j)
    have h2 : 0 ≤ pe (sr j).toNat := by
      rcases Nat.eq_zero_or_pos (sr j).toNat with h0 | h0
      · rw [h0]; exact hp0
      · exact hpe _ (by omega) h0
    omega
  · omega
theorem pZ_0 {G : Nat → Int} : ∀ k j, j < k → pZ G k j = 0 := by
  intro k
  induction k with
  | zero => intro j hj; omega
  | succ k ih =>
    intro j hj
    unfold pZ gu
    split
    · rfl
    · exact ih j (by omega)
theorem pA_inv {w sh tg rm pe : Nat → Int} {Dn : Nat} {G : Nat → Int} (h : ∀ j, j < Dn → (0 ≤ G j ∧ G j ≤ w j) ∧ w j ≤ 9 ∧ 1 ≤ sh j ∧ sh j ≤ 5) {P : Nat} (hr : ∀ p : Nat, p < P → 0 ≤ pRoom rm pe p ∧ pRoom rm pe p < 2147483648) : ∀ p, p ≤ P → ∀ j, j < Dn → (0 ≤ pA w sh tg rm pe Dn G p j ∧ pA w sh tg rm pe Dn G p j ≤ w j) ∧ w j ≤ 9 ∧ 1 ≤ sh j ∧ sh j ≤ 5 := by
  intro p
  induction p with
  | zero => intro _; exact h
  | succ p ih =>
    intro hp
    exact (pR_inv (w := w) (sh := sh) (tg := tg) (p := (p : Int)) (L := pRoom rm pe p) ⟨ih (by omega), hr p (by omega)⟩ 9).1
theorem pA_gGI {w sh tg rm pe : Nat → Int} {Dn : Nat} {G : Nat → Int} (h : ∀ j, j < Dn → (0 ≤ G j ∧ G j ≤ w j) ∧ w j ≤ 9 ∧ 1 ≤ sh j ∧ sh j ≤ 5) {P : Nat} (hr : ∀ p : Nat, p < P → 0 ≤ pRoom rm pe p ∧ pRoom rm pe p < 2147483648) {p : Nat} (hp : p < P) : gGI w sh (pA w sh tg rm pe Dn G p) (pRoom rm pe p) Dn := ⟨pA_inv h hr p (by omega), hr p hp⟩
end
section
/-! ===== a step, many steps ===== -/
def xG (P Dn : Nat) (t : Int) (f0 f1 f2 f7 f8 f11 f12 f13 : Nat → Int) : Nat → Int := pA (pWish (P : Int) t f1 f2 f7 f11) f8 f12 f0 f1 Dn (pZ f13 Dn) P
/-- people, passed, granted, time, latest, waited -/
abbrev xS : Type := (Nat → Int) × (Nat → Int) × (Nat → Int) × Int × Int × Int
def xGS (P Dn : Nat) (f0 f2 f7 f8 f11 f12 : Nat → Int) (S : xS) : Nat → Int := xG P Dn S.2.2.2.1 f0 S.1 f2 f7 f8 f11 f12 S.2.2.1
def xMv (P Dn : Nat) (f0 f2 f7 f8 f11 f12 : Nat → Int) (S : xS) : Int := pMoved (P : Int) f11 f12 (xGS P Dn f0 f2 f7 f8 f11 f12 S) Dn
def xStep (P Dn : Nat) (f0 f2 f7 f8 f11 f12 : Nat → Int) (S : xS) : xS :=
  (pMove (P : Int) f11 f12 (xGS P Dn f0 f2 f7 f8 f11 f12 S) S.1 Dn, pPass (P : Int) f11 f12 (xGS P Dn f0 f2 f7 f8 f11 f12 S) S.2.1 Dn, xGS P Dn f0 f2 f7 f8 f11 f12 S, S.2.2.2.1 + 1,
    (if S.1 0 < pMove (P : Int) f11 f12 (xGS P Dn f0 f2 f7 f8 f11 f12 S) S.1 Dn 0 then S.2.2.2.1 + 1 else S.2.2.2.2.1), S.2.2.2.2.2 + pSum (pMove (P : Int) f11 f12 (xGS P Dn f0 f2 f7 f8 f11 f12 S) S.1 Dn) P)
def xIt (P Dn : Nat) (f0 f2 f7 f8 f11 f12 : Nat → Int) (S : xS) : Nat → xS
  | 0 => S
  | k + 1 => xStep P Dn f0 f2 f7 f8 f11 f12 (xIt P Dn f0 f2 f7 f8 f11 f12 S k)
/-- what a step needs -/
def xOk (P Dn : Nat) (f0 f2 f7 f8 f11 f12 : Nat → Int) (S : xS) : Prop :=
  (-2147483648 ≤ S.2.2.2.1 ∧ S.2.2.2.1 < 2147483647) ∧ (∀ j : Nat, 1 ≤ j → j < P → 0 ≤ S.1 j ∧ S.1 j ≤ f0 j ∧ f0 j ≤ 30) ∧ (0 ≤ S.1 0 ∧ S.1 0 < 1073741824) ∧
    (-2147483648 ≤ pMove (P : Int) f11 f12 (xGS P Dn f0 f2 f7 f8 f11 f12 S) S.1 Dn 0 ∧ pMove (P : Int) f11 f12 (xGS P Dn f0 f2 f7 f8 f11 f12 S) S.1 Dn 0 < 2147483648) ∧
    (-2147483648 ≤ xMv P Dn f0 f2 f7 f8 f11 f12 S ∧ xMv P Dn f0 f2 f7 f8 f11 f12 S < 2147483648) ∧ (-2147483648 ≤ pSum S.1 P ∧ pSum S.1 P < 2147483648)
theorem pBd_b {cr fl d : Int} (h1 : 0 ≤ cr ∧ cr ≤ 10000) (h2 : 0 ≤ fl ∧ fl ≤ 1000) (h3 : 1 ≤ d ∧ d ≤ 11) : 0 ≤ pBd cr fl d ∧ pBd cr fl d ≤ 20000 := by
  unfold pBd
  split
  · omega
  · have h4 : (cr + fl - 1) / fl ≤ cr + fl - 1 := Int.ediv_le_self _ (by omega)
    have h5 : 0 ≤ (cr + fl - 1) / fl := Int.ediv_nonneg (by omega) (by omega)
    omega
theorem pBound_s {di one oth op fl pe : Nat → Int} {P Dn d : Nat} (h : 1 ≤ d) : pBound di one oth op fl pe P Dn (d + 1) = (if pBound di one oth op fl pe P Dn d < pBd (pCrowd di pe (d : Int) P) (pFlow di one oth op fl (d : Int) Dn) (d : Int) then pBd (pCrowd di pe (d : Int) P) (pFlow di one oth op fl (d : Int) Dn) (d : Int) else pBound di one oth op fl pe P Dn d) := by
  cases d with
  | zero => omega
  | succ d => rfl
theorem pBound_b {di one oth op fl pe : Nat → Int} {P Dn : Nat} (h : ∀ d : Nat, 1 ≤ d → d < P → (0 ≤ pCrowd di pe (d : Int) P ∧ pCrowd di pe (d : Int) P ≤ 10000) ∧ 0 ≤ pFlow di one oth op fl (d : Int) Dn ∧ pFlow di one oth op fl (d : Int) Dn ≤ 1000) (hP : P ≤ 11) : ∀ d, d ≤ P → 0 ≤ pBound di one oth op fl pe P Dn d ∧ pBound di one oth op fl pe P Dn d ≤ 20000 := by
  intro d
  induction d with
  | zero => intro _; show (0 : Int) ≤ 0 ∧ (0 : Int) ≤ 20000; omega
  | succ d ih =>
    intro hd
    rcases Nat.eq_zero_or_pos d with rfl | h1
    · show (0 : Int) ≤ 0 ∧ (0 : Int) ≤ 20000
      omega
    · rw [pBound_s h1]
      obtain ⟨h2, h3⟩ := h d h1 (by omega)
      have h4 := pBd_b h2 h3 (d := (d : Int)) (by omega)
      have h5 := ih (by omega)
      split
      · exact h4
      · exact h5
end
section
/-! ===== a throw of NoSuchElementException (its constructor's own call has another index; the rest follows the library's law of a constructor's walk, Stand.ctorThrowS) ===== -/
theorem gx_sub1 : ∀ x ∈ Bundle.throwableAtoms, x ∈ gNSall := by decide +kernel
theorem gx_sub2 : ∀ x ∈ Bundle.throwableSAtoms, x ∈ gNSall := by decide +kernel
theorem gx_sub3 : ∀ x ∈ Bundle.chainSAtoms gRE ["java/lang/Exception"], x ∈ gNSall := by decide +kernel
theorem gx_sub4 : ∀ x ∈ Bundle.passSAtoms gNS gRE 13 prog_13_method_4_code, x ∈ gNSall := by decide +kernel
def gx_rest : List Cond := [.methodLink "Stairflow" 187 (Bundle.initS gNS), .instantiable gNS 6, .selects gNS Bundle.tFill0 Bundle.tFill0, .selects gNS Bundle.tFill Bundle.tFill, .lays gNS Bundle.tN "cause" "Ljava/lang/Throwable;", .lays gNS Bundle.tN "stackTrace" Bundle.steD, .lays gNS Bundle.tN "suppressedExceptions" Bundle.listD, .lays gNS Bundle.tN "detailMessage" "Ljava/lang/String;", .isRef (.static Bundle.tN "UNASSIGNED_STACK" Bundle.steD), .isRef (.static Bundle.tN "SUPPRESSED_SENTINEL" Bundle.listD), .fieldLink Bundle.tN 198 Bundle.tN "backtrace" "Ljava/lang/Object;", .lays Bundle.tN Bundle.tN "backtrace" "Ljava/lang/Object;", .lays gNS Bundle.tN "backtrace" "Ljava/lang/Object;", .instanceMethod (Bundle.initS gNS), .code (Bundle.initS gNS) prog_13_method_4_code 2 none]
theorem gx_sub5 : ∀ x ∈ gx_rest, x ∈ gNSall := by decide +kernel
theorem gx_at {i : Nat} {w : Cond} {args : Array Value} {s : State} (h : ∀ a ∈ gNSall, a.before args s = true) (hi : gx_rest[i]? = some w) : w.before args s = true := h _ (gx_sub5 _ (List.mem_of_getElem? hi))
section GX
variable {p : Program} {l : Launch} {e : Env} {R : Room} {s : State} {m₀ : MethodId} {args : Array Value} {below : List Frame} {meth : Method} {c : Code} {W : State} {locs : List Loc} {cells slots : Nat}
set_option maxHeartbeats 4000000 in
theorem gx_ctor (X : Stand p l e R s m₀ args below meth c W locs cells slots) (hexec : p.tables.exec = Jvm.exec) (htr : e.platform.stackTraces = false)
    (hown : s.vm.findClass "Stairflow" = some m₀.cls) (h : ∀ a ∈ gNSall, a.before args s = true)
    (hlocs : ∀ x ∈ locs, ∀ cell, s.heap[x.base]? = some cell → cell.vm.isStatics = false)
    {a : Addr} {cX : ClassId} {kX : Class} (hfoundX : s.vm.findClass gNS = some cX) (hkX : s.vm.classes[cX]? = some kX) (hcell : W.heap[a]? = some (freshCell cX kX)) (hnew : s.heap.size ≤ a)
    {msg : Value} (hmsg : msg.isRef = true)
    {g : JFrame} (hg : g.method = m₀) (hsize : g.locals.size = c.maxLocals) (hlocked : g.locked = none) (hentered : g.entered = []) {rest : List Value} (hstack : g.stack = msg :: .ref a :: .ref a :: rest)
    (hd6 : decode c.code g.pc = .ok (.invokespecial 187, 3)) (hd9 : decode c.code (g.pc + 3) = .ok (.athrow, 1)) (hout : ∀ x ∈ c.exceptionTable.toList, covers x (g.pc + 3) = false)
    (hRframes : 5 < R.frames) (hRlocals : 2 * g.monitorRoom + ((Value.ref a :: rest).map fun v => v.category).sum + 81 ≤ R.locals) (hlocks : meth.locks = false) :
    ∃ U : State, Steps p.tables e below (W.setTop g) U ∧ U.status = .running ∧ Ended U below (.threw a) ∧ s.WarmedH U.vm ∧ s.sameButNew ({ U with vm := s.vm } : State) locs cells slots ∧
      ∃ ce, U.heap[a]? = some ce ∧ s.vm.findClass gNS = some ce.cls ∧ ce.vm = .none := by
  have howns : e.platform.frameOwnsMonitors = true := by rw [X.admits.platform]
  have hfin : e.platform.finalization = false := by rw [X.admits.platform]
  have hpl : e.platform.magicAccessors = ({} : Platform).magicAccessors := by rw [X.admits.platform]
  obtain ⟨T, Z0, L, -, Y⟩ := ThrowableC.of_atoms (args := args) howns hfin hpl (fun x hx => h x (gx_sub1 x hx))
  obtain ⟨Z, M, LZ, LM, hnZ⟩ := Init0T.ofS_atoms (args := args) hpl L Y (fun x hx => h x (gx_sub2 x hx))
  obtain ⟨P1, L1, hP1m, hs1⟩ := PassC.ofS_atoms (args := args) (s := s) hpl (X := gNS) (Y := gRE) (index := 13) (bytes := prog_13_method_4_code) (by decide +kernel) (by decide +kernel) (by decide +kernel) (by decide +kernel) (by decide +kernel) (by decide +kernel) (fun x hx => h x (gx_sub4 x hx))
  obtain ⟨P2, Ps, hlen, L2, hL, hP2m, hsup, hpass⟩ := Bundle.chainS (args := args) hpl hnZ ["java/lang/Exception"] gRE (by decide +kernel) (by decide +kernel) (fun x hx => h x (gx_sub3 x hx))
  have hsupP : P1.sup = P2.m := Option.some.inj (hs1.symm.trans hP2m)
  have hfound : s.vm.findClass gNS = some P1.m.cls := findClass_of_methodNamed hP1m
  cases Option.some.inj (hfoundX.symm.trans hfound)
  obtain ⟨c1, kX', hc1, hk, hord, -, -, hn6⟩ := Cond.instantiable_spec (gx_at (i := 1) h rfl)
  cases Option.some.inj (hc1.symm.trans hfound)
  cases Option.some.inj (hkX.symm.trans hk)
  have hsel0 : selectMethod e.platform s.vm P1.m.cls T.fill0 = .method T.fill0 := by
    obtain ⟨c2, r2, m2, q1, q2, q3, q4, -⟩ := Cond.selects_spec (gx_at (i := 2) h rfl)
    cases Option.some.inj (q1.symm.trans hfound)
    cases Option.some.inj (q2.symm.trans (State.methodFound?_of_named Y.fill0 (by decide)))
    cases Option.some.inj (q3.symm.trans Y.fill0)
    rw [Launch.admits_selectMethod X.admits]; exact q4
  have hselF : selectMethod e.platform s.vm P1.m.cls T.fill = .method T.fill := by
    obtain ⟨c2, r2, m2, q1, q2, q3, q4, -⟩ := Cond.selects_spec (gx_at (i := 3) h rfl)
    cases Option.some.inj (q1.symm.trans hfound)
    cases Option.some.inj (q2.symm.trans (State.methodFound?_of_named Y.fill (by decide)))
    cases Option.some.inj (q3.symm.trans Y.fill)
    rw [Launch.admits_selectMethod X.admits]; exact q4
  obtain ⟨cellS0, hcS0, hiss⟩ := Y.statics
  obtain ⟨u0, hu0⟩ := Cond.staticRefV Y.unassigned L.unassignedStatic L.statics hcS0 hiss (gx_at (i := 8) h rfl)
  obtain ⟨sen, hsen⟩ := Cond.staticRefV Y.sentinel L.sentinelStatic L.statics hcS0 hiss (gx_at (i := 9) h rfl)
  obtain ⟨ci198, i198, fB, hk198, hg198, ha198, hsB, -, hnB, htB, hffB⟩ := Cond.ownField (t := .object "java/lang/Object") Y.found L.cls (by decide +kernel) (gx_at (i := 10) h rfl) (gx_at (i := 11) h rfl) e.platform hpl
  obtain ⟨cellS, hcS', heS, -, hkeep⟩ := X.same.2.2.2.2.2 T.aS cellS0 hcS0
  have hcellS : W.heap[T.aS]? = some cellS := hcS'
  have hout' : ∀ i, (⟨T.aS, i⟩ : Loc) ∉ locs := fun i hmem => by
    have h9 := hlocs _ hmem cellS0 hcS0
    rw [hiss] at h9; cases h9
  have hknownS : cellS.vm ≠ .unknown := by
    rw [heS]; intro hu
    rw [show cellS0.vm = .unknown from hu] at hiss
    cases hiss
  have hneS : T.aS ≠ a := Nat.ne_of_lt (Nat.lt_of_lt_of_le (Array.getElem?_eq_some_iff.mp hcS0).1 hnew)
  obtain ⟨iM, hffM⟩ := Y.msg
  obtain ⟨tyC, dC, hdC, hdnC⟩ := Cond.laysAt hfound hk Y.cause (gx_at (i := 4) h rfl)
  obtain ⟨tyS, dS, hdS, hdnS⟩ := Cond.laysAt hfound hk Y.stack (gx_at (i := 5) h rfl)
  obtain ⟨tyP, dP, hdP, hdnP⟩ := Cond.laysAt hfound hk Y.supp (gx_at (i := 6) h rfl)
  obtain ⟨tyM, dM, hdM, hdnM⟩ := Cond.laysAt hfound hk hffM (gx_at (i := 7) h rfl)
  obtain ⟨tyB, dB, hdB, hdnB⟩ := Cond.laysAt hfound hk hffB (gx_at (i := 12) h rfl)
  have bC := Cond.laysApart hdB hdC hdnB hdnC (by rw [hnB, Y.causeName]; decide)
  have bS := Cond.laysApart hdB hdS hdnB hdnS (by rw [hnB, Y.stackName]; decide)
  have bP := Cond.laysApart hdB hdP hdnB hdnP (by rw [hnB, Y.suppName]; decide)
  have hskip : SkipFacts T e.platform s (fun u => u) u0 ((preparedCellV T.toThrowableT (freshCell P1.m.cls kX) a u0 sen).withEntry W.cur) :=
    ⟨{ ci198 := ci198, i198 := i198, fBack := fB }, ⟨hk198, hg198, ha198, hsB⟩, by
      have h9 := fresh_default (c := P1.m.cls) tyB
      rw [htB] at h9
      simpa [preparedCellV, Cell.setSlot, Cell.withEntry, Array.getElem?_setIfInBounds, bC, bS, bP, bC.symm, bS.symm, bP.symm, defaultValue] using h9, fun _ _ => rfl⟩
  obtain ⟨tm, methC, cdC, kC, vm₁, hnC, -, -, -, -, -, -, -, hW₁, st1⟩ := Steps.initColdS (tb := p.tables) (e := e) (below := below) (s := s) (U := W) X.here hexec X.warmed hpl hown (t := Bundle.initS gNS) rfl rfl (by decide +kernel)
    (gx_at (i := 0) h rfl) (gx_at (i := 13) h rfl) (bytes := prog_13_method_4_code) (maxL := 2) (gx_at (i := 14) h rfl) (f := g) hg (a := a) (msg := msg) (rest := .ref a :: rest) hstack hd6
  cases Option.some.inj (hnC.symm.trans hP1m)
  have X₁ := X.noted hW₁
  obtain ⟨vm₂, X₂, st2⟩ := X₁.ctorMessageOffV hexec (g := { g with stack := .ref a :: rest }) hg hsize T L Z LZ M LM (P1 :: P2 :: Ps)
    (fun P hP => by rcases List.mem_cons.mp hP with rfl | hP; exact L1; rcases List.mem_cons.mp hP with rfl | hP; exact L2; exact hL P hP) ⟨hsupP, hsup, hpass⟩ (u0 := u0) (sen := sen) (self := a) hmsg (cell := freshCell P1.m.cls kX) (cellS := cellS)
    hcell (fun _ => by simp) (by simp) rfl rfl hsel0 hselF hcellS hneS hknownS (by rw [hkeep _ (hout' _)]; exact hu0) (by rw [hkeep _ (hout' _)]; exact hsen)
    (Takes.of_laid hk hord tyC (by rw [Y.causeType]; rfl)) (Takes.of_laid hk hord tyS (by rw [Y.stackType]; exact fits_refV_array _ u0)) (Takes.of_laid hk hord tyP (by rw [Y.suppType]; exact fits_refV_object _ sen))
    (Takes.of_laid hk hord tyM (by rw [Y.msgType]; exact fits_refV_object _ ⟨msg, hmsg⟩)) Y.objLocals hskip htr [] hd6
    (by simp only [List.length_cons, hlen, List.length_nil]; omega) (by simp only [List.length_cons, hlen, List.length_nil]; exact hRlocals)
  obtain ⟨hwalk, hrun, hended, hWU, hsame⟩ := X₂.athrowLeaves hexec (g := { g with stack := .ref a :: rest, pc := g.pc + 3 }) hg hlocked hentered hout (a := a) (rest := rest) rfl hd9
  have hlt : a < ((W.setVm vm₁).setVm vm₂).heap.size := (Array.getElem?_eq_some_iff.mp hcell).1
  have hU := heapAt_setCell_self (s := (W.setVm vm₁).setVm vm₂) (plainBareV T.toThrowableT (freshCell P1.m.cls kX) a u0 sen msg) hlt
  refine ⟨_, st1 _ (fun acts => ?_), hrun, hended, hWU, hsame.weaken (fun y hy hlt' => ?_) (Nat.le_refl _) (Nat.le_refl _), _, hU, hfound, rfl⟩
  · rw [doInvoke_state]
    exact st2 _ hwalk
  · rcases List.mem_append.mp hy with h1 | h1
    · exact h1
    · exfalso
      have hb : y.base = a := by
        simp only [List.mem_cons, List.not_mem_nil, or_false] at h1
        rcases h1 with rfl | rfl | rfl | rfl | rfl <;> rfl
      rw [hb] at hlt'
      exact Nat.not_lt.mpr hnew hlt'
end GX
end
section
section GX2
variable {p : Program} {l : Launch} {e : Env} {R : Room} {s : State} {m : MethodId} {args : Array Value} {below : List Frame} {meth : Method} {c : Code} {A0 : Nat → Prop} {D : va_G}
variable {cc : ByteArray} {nL : Nat} {Ts : List Cond} {tys : List (ClassId × FieldType)} {lv : List (Option Value)} {pc : Nat} {st : List Value}
set_option maxHeartbeats 4000000 in
/-- 'throw new NoSuchElementException("there is none")' in a method of Stairflow that owes it -/
theorem g_throwNS (E : gE p s m args c "Stairflow" cc nL Ts D tys A0) {wc : va_W}
    (hfl : l.stackTraces = false) (hT : gKT A0 s s.heap) (hlk : meth.locks = false) (htb : ∀ x ∈ c.exceptionTable.toList, False) (hlv : lv.length = nL)
    (hk : Cond.classLink "Stairflow" 183 gNS ∈ Ts) (hini : Cond.initialized gNS ∈ Ts) (hw : ∀ w ∈ gNSat.filter goodWord, w ∈ Ts)
    (d0 : decode cc pc = .ok (.new 183, 3)) (d3 : decode cc (pc + 3) = .ok (.dup, 1)) (d4 : decode cc (pc + 4) = .ok (.ldc 185, 2)) (d6 : decode cc (pc + 6) = .ok (.invokespecial 187, 3)) (d9 : decode cc (pc + 9) = .ok (.athrow, 1))
    (hRf : 5 < R.frames) (hRl : (st.map fun v => v.category).sum + 82 ≤ R.locals) (hcs : 1 ≤ R.cells ∧ 6 ≤ R.slots) : gJ p l e R s m args below meth c 0 0 (gQT below args s D tys wc gNS A0) A0 D wc lv pc st := by
  obtain ⟨⟨hx, hb, hml, hown, hts⟩, hK, hA⟩ := E
  intro H locs ls hP hD hS hL
  have hbad := hT.bad (args := args) (cls := gNS) (by decide +kernel)
  obtain ⟨t1, t2, t3, t4, t5, t6⟩ := hT
  obtain ⟨sa, hsa⟩ := t3 (185, "there is none") (by decide +kernel)
  have hat0 : ∀ w ∈ gNSat, w.before args s = true := vx_hat (B := gBad gNS) (fun w h => hts w (hw w h)) (by decide +kernel) hbad
  have hgood : ∀ w ∈ Cond.classLink "Stairflow" 183 gNS :: Cond.initialized gNS :: gNSat, vx_ot w = true := by decide +kernel
  intro T hT X
  have htr : e.platform.stackTraces = false := (show e.platform.stackTraces = l.stackTraces by rw [X.admits.platform]).trans hfl
  have Y := vx_rebase X (R' := { frames := R.frames, locals := R.locals, cells := 1, slots := 6 }) (Nat.le_refl _) (Nat.le_refl _) (by simpa using hcs.1) (by simpa using hcs.2)
  obtain ⟨s', hA'⟩ : ∃ z, z = (T.setVm s.vm).setFrames (.invoking m args :: below) := ⟨_, rfl⟩
  rw [← hA'] at Y
  have hvm : s'.vm = s.vm := by rw [hA']; rfl
  have hhp : s'.heap = H := by rw [hA']; exact hT
  have hW0 : s.WarmedH s'.vm := by rw [hvm]; exact State.WarmedH.refl s
  have hat' : ∀ w ∈ gNSat, w.before args s' = true := fun w hw9 => vx_ot_at hW0 hvm.symm (hgood w (List.mem_cons_of_mem _ (List.mem_cons_of_mem _ hw9))) (hat0 w hw9)
  have hk' : (Cond.classLink "Stairflow" 183 gNS).before args s' = true := vx_ot_at hW0 hvm.symm (hgood _ List.mem_cons_self) (hts _ hk)
  have hini' : (Cond.initialized gNS).before args s' = true := vx_ot_at hW0 hvm.symm (hgood _ (List.mem_cons_of_mem _ List.mem_cons_self)) (hts _ hini)
  have hU' : vx_Zq Bundle.tN "UNASSIGNED_STACK" Bundle.steD A0 s' s'.heap := by rw [hhp]; exact vx_Zq.moved hW0.alike (t1.kept hS.2.1)
  have hN' : vx_Zq Bundle.tN "SUPPRESSED_SENTINEL" Bundle.listD A0 s' s'.heap := by rw [hhp]; exact vx_Zq.moved hW0.alike (t2.kept hS.2.1)
  have h : ∀ w ∈ gNSall, w.before args s' = true := vx_own hat' (vx_isRefq hU'.1) (vx_isRefq hN'.1) hU'.2.word hN'.2.word
  have hown' : s'.vm.findClass "Stairflow" = some m.cls := by rw [hvm]; exact hown
  have hins : (Cond.instantiable gNS 6).before args s' = true := gx_at (i := 1) h rfl
  obtain ⟨vm₁, cX, kX, hfX, hkX, -, -, X₁, st1⟩ := Y.newCold hx (own := "Stairflow") (C := gNS) (index := 183) (n := 6) hown' hk' hins hini'
    (g := F0 m pc ls st) rfl (by rw [hb]; exact d0) (Nat.le_refl _) (Nat.le_refl _)
  generalize hT1 : (T.setVm vm₁).pushCell { cls := cX, slots := kX.instanceTypes.map defaultValue, vm := .none } = T1 at X₁ st1
  have hcat : (Value.ref T.heap.size).category = 1 := rfl
  have hcellA : T1.heap[T.heap.size]? = some (freshCell cX kX) := by rw [← hT1]; exact State.heap_pushCell_size _ _
  have d3' : decode c.code (pc + 3) = .ok (.dup, 1) := by rw [hb]; exact d3
  have d4' : decode c.code (pc + 4) = .ok (.ldc 185, 2) := by rw [hb]; exact d4
  have hstr' : vk_R "Stairflow" 185 "there is none" sa s' := vk_R.warm hW0 hsa
  have hsize : ls.size = c.maxLocals := (hL.1.trans hlv).trans hml.symm
  obtain ⟨U, hsteps, hrun, hend, hW, hsame, ce, hce, hO, hOv⟩ := gx_ctor X₁ hx htr hown' h (fun x hx => nomatch hx) hfX hkX hcellA (by rw [hhp, hT]; exact Nat.le_refl _) (msg := .ref sa) rfl
    (g := { method := m, pc := pc + 6, locals := ls, stack := .ref sa :: .ref T.heap.size :: .ref T.heap.size :: st, locked := none }) rfl hsize rfl rfl (rest := st) rfl
    (by rw [hb]; exact d6) (by rw [hb]; exact d9) (fun x hx => (htb x hx).elim) hRf (by show 2 * 0 + _ + 81 ≤ _; simp only [List.map_cons, List.sum_cons, hcat]; omega) hlk
  obtain ⟨f1, f2⟩ := vx_frame hsame
  rw [hhp] at f1 f2
  have hWs : s.WarmedH U.vm := State.WarmedH.trans hW0 hW
  have hcl : s.vm.findClass gNS = some ce.cls := by
    rw [hvm] at hO
    exact hO
  have hall : s.sameButNew ({ U with vm := s.vm } : State) locs 1 6 := by
    subst hA'
    obtain ⟨e1, e2⟩ := hsame
    rw [State.setFrames_setFrames] at e1
    have h2 : (T.setVm s.vm).sameButNew ({ U with vm := s.vm } : State) [] (0 + 1) (0 + 6) := ⟨e1, e2⟩
    have h3 := X.same.trans h2
    rw [List.append_nil] at h3
    exact h3.mono (by simp) (by simp)
  have hk9 : ∀ q : Nat, q < H.size → U.heap[q]? = H[q]? := fun q hq => f2 q hq (fun z hz => nomatch hz)
  refine ⟨U, ?_, .threw T.heap.size, hrun, hend, Or.inr ⟨T.heap.size, rfl, gNS, ce, locs, ⟨(), trivial, ⟨rfl, hP.kept (fun k q hk0 => hk9 q.1 (hP k q hk0).lt), va_K.moved hWs.alike hK, hD⟩, ⟨Nat.le_trans hS.1 f1, fun q h1 h2 => by rw [hk9 q (Nat.lt_of_lt_of_le h1 hS.1)]; exact hS.2.1 q h1 h2⟩⟩, hce, hOv, hcl, hWs, hall, hS.2.2⟩⟩
  refine st1 _ ?_
  show Steps p.tables e below (T1.setTop { method := m, pc := pc + 3, locals := ls, stack := .ref T.heap.size :: st, locked := none }) _
  jvm_step X₁.here [X₁.here.top, hx, d3', Value.category]
  exact X₁.ldcString hx (own := "Stairflow") (text := "there is none") (index := 185) (a := sa) hown' hstr'.1 hstr'.2
    (g := { method := m, pc := pc + 4, locals := ls, stack := .ref T.heap.size :: .ref T.heap.size :: st, locked := none }) rfl d4' _ hsteps
end GX2
end
section
theorem dX0_init_0 : decode cX0_init 0 = .ok (.aload_n 0, 1) := by decide +kernel
theorem dX0_init_1 : decode cX0_init 1 = .ok (.invokespecial 1, 3) := by decide +kernel
theorem dX0_init_4 : decode cX0_init 4 = .ok (.aload_n 0, 1) := by decide +kernel
theorem dX0_init_5 : decode cX0_init 5 = .ok (.bipush 11, 2) := by decide +kernel
theorem dX0_init_7 : decode cX0_init 7 = .ok (.newarray .int, 2) := by decide +kernel
theorem dX0_init_9 : decode cX0_init 9 = .ok (.putfield 9, 3) := by decide +kernel
theorem dX0_init_12 : decode cX0_init 12 = .ok (.aload_n 0, 1) := by decide +kernel
theorem dX0_init_13 : decode cX0_init 13 = .ok (.bipush 11, 2) := by decide +kernel
theorem dX0_init_15 : decode cX0_init 15 = .ok (.newarray .int, 2) := by decide +kernel
theorem dX0_init_17 : decode cX0_init 17 = .ok (.putfield 13, 3) := by decide +kernel
theorem dX0_init_20 : decode cX0_init 20 = .ok (.aload_n 0, 1) := by decide +kernel
theorem dX0_init_21 : decode cX0_init 21 = .ok (.bipush 11, 2) := by decide +kernel
theorem dX0_init_23 : decode cX0_init 23 = .ok (.newarray .int, 2) := by decide +kernel
theorem dX0_init_25 : decode cX0_init 25 = .ok (.putfield 16, 3) := by decide +kernel
theorem dX0_init_28 : decode cX0_init 28 = .ok (.aload_n 0, 1) := by decide +kernel
theorem dX0_init_29 : decode cX0_init 29 = .ok (.bipush 11, 2) := by decide +kernel
theorem dX0_init_31 : decode cX0_init 31 = .ok (.newarray .int, 2) := by decide +kernel
theorem dX0_init_33 : decode cX0_init 33 = .ok (.putfield 19, 3) := by decide +kernel
theorem dX0_init_36 : decode cX0_init 36 = .ok (.aload_n 0, 1) := by decide +kernel
theorem dX0_init_37 : decode cX0_init 37 = .ok (.bipush 11, 2) := by decide +kernel
theorem dX0_init_39 : decode cX0_init 39 = .ok (.newarray .int, 2) := by decide +kernel
theorem dX0_init_41 : decode cX0_init 41 = .ok (.putfield 22, 3) := by decide +kernel
theorem dX0_init_44 : decode cX0_init 44 = .ok (.aload_n 0, 1) := by decide +kernel
theorem dX0_init_45 : decode cX0_init 45 = .ok (.bipush 16, 2) := by decide +kernel
theorem dX0_init_47 : decode cX0_init 47 = .ok (.newarray .int, 2) := by decide +kernel
theorem dX0_init_49 : decode cX0_init 49 = .ok (.putfield 25, 3) := by decide +kernel
theorem dX0_init_52 : decode cX0_init 52 = .ok (.aload_n 0, 1) := by decide +kernel
theorem dX0_init_53 : decode cX0_init 53 = .ok (.bipush 16, 2) := by decide +kernel
theorem dX0_init_55 : decode cX0_init 55 = .ok (.newarray .int, 2) := by decide +kernel
theorem dX0_init_57 : decode cX0_init 57 = .ok (.putfield 28, 3) := by decide +kernel
theorem dX0_init_60 : decode cX0_init 60 = .ok (.aload_n 0, 1) := by decide +kernel
theorem dX0_init_61 : decode cX0_init 61 = .ok (.bipush 16, 2) := by decide +kernel
theorem dX0_init_63 : decode cX0_init 63 = .ok (.newarray .int, 2) := by decide +kernel
theorem dX0_init_65 : decode cX0_init 65 = .ok (.putfield 31, 3) := by decide +kernel
theorem dX0_init_68 : decode cX0_init 68 = .ok (.aload_n 0, 1) := by decide +kernel
theorem dX0_init_69 : decode cX0_init 69 = .ok (.bipush 16, 2) := by decide +kernel
theorem dX0_init_71 : decode cX0_init 71 = .ok (.newarray .int, 2) := by decide +kernel
theorem dX0_init_73 : decode cX0_init 73 = .ok (.putfield 34, 3) := by decide +kernel
theorem dX0_init_76 : decode cX0_init 76 = .ok (.aload_n 0, 1) := by decide +kernel
theorem dX0_init_77 : decode cX0_init 77 = .ok (.bipush 16, 2) := by decide +kernel
theorem dX0_init_79 : decode cX0_init 79 = .ok (.newarray .boolean, 2) := by decide +kernel
theorem dX0_init_81 : decode cX0_init 81 = .ok (.putfield 37, 3) := by decide +kernel
theorem dX0_init_84 : decode cX0_init 84 = .ok (.aload_n 0, 1) := by decide +kernel
theorem dX0_init_85 : decode cX0_init 85 = .ok (.bipush 16, 2) := by decide +kernel
theorem dX0_init_87 : decode cX0_init 87 = .ok (.newarray .int, 2) := by decide +kernel
theorem dX0_init_89 : decode cX0_init 89 = .ok (.putfield 41, 3) := by decide +kernel
theorem dX0_init_92 : decode cX0_init 92 = .ok (.aload_n 0, 1) := by decide +kernel
theorem dX0_init_93 : decode cX0_init 93 = .ok (.bipush 16, 2) := by decide +kernel
theorem dX0_init_95 : decode cX0_init 95 = .ok (.newarray .int, 2) := by decide +kernel
theorem dX0_init_97 : decode cX0_init 97 = .ok (.putfield 44, 3) := by decide +kernel
theorem dX0_init_100 : decode cX0_init 100 = .ok (.aload_n 0, 1) := by decide +kernel
theorem dX0_init_101 : decode cX0_init 101 = .ok (.bipush 16, 2) := by decide +kernel
theorem dX0_init_103 : decode cX0_init 103 = .ok (.newarray .int, 2) := by decide +kernel
theorem dX0_init_105 : decode cX0_init 105 = .ok (.putfield 47, 3) := by decide +kernel
theorem dX0_init_108 : decode cX0_init 108 = .ok (.aload_n 0, 1) := by decide +kernel
theorem dX0_init_109 : decode cX0_init 109 = .ok (.bipush 16, 2) := by decide +kernel
theorem dX0_init_111 : decode cX0_init 111 = .ok (.newarray .int, 2) := by decide +kernel
theorem dX0_init_113 : decode cX0_init 113 = .ok (.putfield 50, 3) := by decide +kernel
theorem dX0_init_116 : decode cX0_init 116 = .ok (.aload_n 0, 1) := by decide +kernel
theorem dX0_init_117 : decode cX0_init 117 = .ok (.iconst 1, 1) := by decide +kernel
theorem dX0_init_118 : decode cX0_init 118 = .ok (.putfield 53, 3) := by decide +kernel
theorem dX0_init_121 : decode cX0_init 121 = .ok (.aload_n 0, 1) := by decide +kernel
theorem dX0_init_122 : decode cX0_init 122 = .ok (.iconst (-1), 1) := by decide +kernel
theorem dX0_init_123 : decode cX0_init 123 = .ok (.putfield 57, 3) := by decide +kernel
theorem dX0_init_126 : decode cX0_init 126 = .ok (.aload_n 0, 1) := by decide +kernel
theorem dX0_init_127 : decode cX0_init 127 = .ok (.getfield 22, 3) := by decide +kernel
theorem dX0_init_130 : decode cX0_init 130 = .ok (.iconst 0, 1) := by decide +kernel
theorem dX0_init_131 : decode cX0_init 131 = .ok (.iconst (-1), 1) := by decide +kernel
theorem dX0_init_132 : decode cX0_init 132 = .ok (.iastore, 1) := by decide +kernel
theorem dX0_init_133 : decode cX0_init 133 = .ok (.return_, 1) := by decide +kernel
theorem dX0_addPlace_0 : decode cX0_addPlace 0 = .ok (.iload_n 1, 1) := by decide +kernel
theorem dX0_addPlace_1 : decode cX0_addPlace 1 = .ok (.iconst 1, 1) := by decide +kernel
theorem dX0_addPlace_2 : decode cX0_addPlace 2 = .ok (.bipush 30, 2) := by decide +kernel
theorem dX0_addPlace_4 : decode cX0_addPlace 4 = .ok (.invokestatic 60, 3) := by decide +kernel
theorem dX0_addPlace_7 : decode cX0_addPlace 7 = .ok (.invokestatic 64, 3) := by decide +kernel
theorem dX0_addPlace_10 : decode cX0_addPlace 10 = .ok (.aload_n 0, 1) := by decide +kernel
theorem dX0_addPlace_11 : decode cX0_addPlace 11 = .ok (.getfield 53, 3) := by decide +kernel
theorem dX0_addPlace_14 : decode cX0_addPlace 14 = .ok (.bipush 11, 2) := by decide +kernel
theorem dX0_addPlace_16 : decode cX0_addPlace 16 = .ok (.if_icmp .ge 7, 3) := by decide +kernel
theorem dX0_addPlace_19 : decode cX0_addPlace 19 = .ok (.iconst 1, 1) := by decide +kernel
theorem dX0_addPlace_20 : decode cX0_addPlace 20 = .ok (.goto 4, 3) := by decide +kernel
theorem dX0_addPlace_23 : decode cX0_addPlace 23 = .ok (.iconst 0, 1) := by decide +kernel
theorem dX0_addPlace_24 : decode cX0_addPlace 24 = .ok (.invokestatic 68, 3) := by decide +kernel
theorem dX0_addPlace_27 : decode cX0_addPlace 27 = .ok (.aload_n 0, 1) := by decide +kernel
theorem dX0_addPlace_28 : decode cX0_addPlace 28 = .ok (.getfield 53, 3) := by decide +kernel
theorem dX0_addPlace_31 : decode cX0_addPlace 31 = .ok (.istore_n 2, 1) := by decide +kernel
theorem dX0_addPlace_32 : decode cX0_addPlace 32 = .ok (.aload_n 0, 1) := by decide +kernel
theorem dX0_addPlace_33 : decode cX0_addPlace 33 = .ok (.getfield 9, 3) := by decide +kernel
theorem dX0_addPlace_36 : decode cX0_addPlace 36 = .ok (.iload_n 2, 1) := by decide +kernel
theorem dX0_addPlace_37 : decode cX0_addPlace 37 = .ok (.iload_n 1, 1) := by decide +kernel
theorem dX0_addPlace_38 : decode cX0_addPlace 38 = .ok (.iastore, 1) := by decide +kernel
theorem dX0_addPlace_39 : decode cX0_addPlace 39 = .ok (.aload_n 0, 1) := by decide +kernel
theorem dX0_addPlace_40 : decode cX0_addPlace 40 = .ok (.dup, 1) := by decide +kernel
theorem dX0_addPlace_41 : decode cX0_addPlace 41 = .ok (.getfield 53, 3) := by decide +kernel
theorem dX0_addPlace_44 : decode cX0_addPlace 44 = .ok (.iconst 1, 1) := by decide +kernel
theorem dX0_addPlace_45 : decode cX0_addPlace 45 = .ok (.iadd, 1) := by decide +kernel
theorem dX0_addPlace_46 : decode cX0_addPlace 46 = .ok (.putfield 53, 3) := by decide +kernel
theorem dX0_addPlace_49 : decode cX0_addPlace 49 = .ok (.aload_n 0, 1) := by decide +kernel
theorem dX0_addPlace_50 : decode cX0_addPlace 50 = .ok (.invokevirtual 71, 3) := by decide +kernel
theorem dX0_addPlace_53 : decode cX0_addPlace 53 = .ok (.iload_n 2, 1) := by decide +kernel
theorem dX0_addPlace_54 : decode cX0_addPlace 54 = .ok (.ireturn, 1) := by decide +kernel
theorem dX0_addDoor_0 : decode cX0_addDoor 0 = .ok (.aload_n 0, 1) := by decide +kernel
theorem dX0_addDoor_1 : decode cX0_addDoor 1 = .ok (.iload_n 1, 1) := by decide +kernel
theorem dX0_addDoor_2 : decode cX0_addDoor 2 = .ok (.invokevirtual 74, 3) := by decide +kernel
theorem dX0_addDoor_5 : decode cX0_addDoor 5 = .ok (.aload_n 0, 1) := by decide +kernel
theorem dX0_addDoor_6 : decode cX0_addDoor 6 = .ok (.iload_n 2, 1) := by decide +kernel
theorem dX0_addDoor_7 : decode cX0_addDoor 7 = .ok (.invokevirtual 74, 3) := by decide +kernel
theorem dX0_addDoor_10 : decode cX0_addDoor 10 = .ok (.iload_n 1, 1) := by decide +kernel
theorem dX0_addDoor_11 : decode cX0_addDoor 11 = .ok (.iload_n 2, 1) := by decide +kernel
theorem dX0_addDoor_12 : decode cX0_addDoor 12 = .ok (.if_icmp .eq 27, 3) := by decide +kernel
theorem dX0_addDoor_15 : decode cX0_addDoor 15 = .ok (.iload_n 3, 1) := by decide +kernel
theorem dX0_addDoor_16 : decode cX0_addDoor 16 = .ok (.iconst 1, 1) := by decide +kernel
theorem dX0_addDoor_17 : decode cX0_addDoor 17 = .ok (.bipush 9, 2) := by decide +kernel
theorem dX0_addDoor_19 : decode cX0_addDoor 19 = .ok (.invokestatic 60, 3) := by decide +kernel
theorem dX0_addDoor_22 : decode cX0_addDoor 22 = .ok (.ifCond .eq 17, 3) := by decide +kernel
theorem dX0_addDoor_25 : decode cX0_addDoor 25 = .ok (.iload 4, 2) := by decide +kernel
theorem dX0_addDoor_27 : decode cX0_addDoor 27 = .ok (.iconst 1, 1) := by decide +kernel
theorem dX0_addDoor_28 : decode cX0_addDoor 28 = .ok (.iconst 5, 1) := by decide +kernel
theorem dX0_addDoor_29 : decode cX0_addDoor 29 = .ok (.invokestatic 60, 3) := by decide +kernel
theorem dX0_addDoor_32 : decode cX0_addDoor 32 = .ok (.ifCond .eq 7, 3) := by decide +kernel
theorem dX0_addDoor_35 : decode cX0_addDoor 35 = .ok (.iconst 1, 1) := by decide +kernel
theorem dX0_addDoor_36 : decode cX0_addDoor 36 = .ok (.goto 4, 3) := by decide +kernel
theorem dX0_addDoor_39 : decode cX0_addDoor 39 = .ok (.iconst 0, 1) := by decide +kernel
theorem dX0_addDoor_40 : decode cX0_addDoor 40 = .ok (.invokestatic 64, 3) := by decide +kernel
theorem dX0_addDoor_43 : decode cX0_addDoor 43 = .ok (.aload_n 0, 1) := by decide +kernel
theorem dX0_addDoor_44 : decode cX0_addDoor 44 = .ok (.getfield 78, 3) := by decide +kernel
theorem dX0_addDoor_47 : decode cX0_addDoor 47 = .ok (.bipush 16, 2) := by decide +kernel
theorem dX0_addDoor_49 : decode cX0_addDoor 49 = .ok (.if_icmp .ge 7, 3) := by decide +kernel
theorem dX0_addDoor_52 : decode cX0_addDoor 52 = .ok (.iconst 1, 1) := by decide +kernel
theorem dX0_addDoor_53 : decode cX0_addDoor 53 = .ok (.goto 4, 3) := by decide +kernel
theorem dX0_addDoor_56 : decode cX0_addDoor 56 = .ok (.iconst 0, 1) := by decide +kernel
theorem dX0_addDoor_57 : decode cX0_addDoor 57 = .ok (.invokestatic 68, 3) := by decide +kernel
theorem dX0_addDoor_60 : decode cX0_addDoor 60 = .ok (.aload_n 0, 1) := by decide +kernel
theorem dX0_addDoor_61 : decode cX0_addDoor 61 = .ok (.getfield 78, 3) := by decide +kernel
theorem dX0_addDoor_64 : decode cX0_addDoor 64 = .ok (.istore 5, 2) := by decide +kernel
theorem dX0_addDoor_66 : decode cX0_addDoor 66 = .ok (.aload_n 0, 1) := by decide +kernel
theorem dX0_addDoor_67 : decode cX0_addDoor 67 = .ok (.getfield 25, 3) := by decide +kernel
theorem dX0_addDoor_70 : decode cX0_addDoor 70 = .ok (.iload 5, 2) := by decide +kernel
theorem dX0_addDoor_72 : decode cX0_addDoor 72 = .ok (.iload_n 1, 1) := by decide +kernel
theorem dX0_addDoor_73 : decode cX0_addDoor 73 = .ok (.iastore, 1) := by decide +kernel
theorem dX0_addDoor_74 : decode cX0_addDoor 74 = .ok (.aload_n 0, 1) := by decide +kernel
theorem dX0_addDoor_75 : decode cX0_addDoor 75 = .ok (.getfield 28, 3) := by decide +kernel
theorem dX0_addDoor_78 : decode cX0_addDoor 78 = .ok (.iload 5, 2) := by decide +kernel
theorem dX0_addDoor_80 : decode cX0_addDoor 80 = .ok (.iload_n 2, 1) := by decide +kernel
theorem dX0_addDoor_81 : decode cX0_addDoor 81 = .ok (.iastore, 1) := by decide +kernel
theorem dX0_addDoor_82 : decode cX0_addDoor 82 = .ok (.aload_n 0, 1) := by decide +kernel
theorem dX0_addDoor_83 : decode cX0_addDoor 83 = .ok (.getfield 31, 3) := by decide +kernel
theorem dX0_addDoor_86 : decode cX0_addDoor 86 = .ok (.iload 5, 2) := by decide +kernel
theorem dX0_addDoor_88 : decode cX0_addDoor 88 = .ok (.iload_n 3, 1) := by decide +kernel
theorem dX0_addDoor_89 : decode cX0_addDoor 89 = .ok (.iastore, 1) := by decide +kernel
theorem dX0_addDoor_90 : decode cX0_addDoor 90 = .ok (.aload_n 0, 1) := by decide +kernel
theorem dX0_addDoor_91 : decode cX0_addDoor 91 = .ok (.getfield 34, 3) := by decide +kernel
theorem dX0_addDoor_94 : decode cX0_addDoor 94 = .ok (.iload 5, 2) := by decide +kernel
theorem dX0_addDoor_96 : decode cX0_addDoor 96 = .ok (.iload 4, 2) := by decide +kernel
theorem dX0_addDoor_98 : decode cX0_addDoor 98 = .ok (.iastore, 1) := by decide +kernel
theorem dX0_addDoor_99 : decode cX0_addDoor 99 = .ok (.aload_n 0, 1) := by decide +kernel
theorem dX0_addDoor_100 : decode cX0_addDoor 100 = .ok (.getfield 37, 3) := by decide +kernel
theorem dX0_addDoor_103 : decode cX0_addDoor 103 = .ok (.iload 5, 2) := by decide +kernel
theorem dX0_addDoor_105 : decode cX0_addDoor 105 = .ok (.iconst 1, 1) := by decide +kernel
theorem dX0_addDoor_106 : decode cX0_addDoor 106 = .ok (.bastore, 1) := by decide +kernel
theorem dX0_addDoor_107 : decode cX0_addDoor 107 = .ok (.aload_n 0, 1) := by decide +kernel
theorem dX0_addDoor_108 : decode cX0_addDoor 108 = .ok (.dup, 1) := by decide +kernel
theorem dX0_addDoor_109 : decode cX0_addDoor 109 = .ok (.getfield 78, 3) := by decide +kernel
theorem dX0_addDoor_112 : decode cX0_addDoor 112 = .ok (.iconst 1, 1) := by decide +kernel
theorem dX0_addDoor_113 : decode cX0_addDoor 113 = .ok (.iadd, 1) := by decide +kernel
theorem dX0_addDoor_114 : decode cX0_addDoor 114 = .ok (.putfield 78, 3) := by decide +kernel
theorem dX0_addDoor_117 : decode cX0_addDoor 117 = .ok (.aload_n 0, 1) := by decide +kernel
theorem dX0_addDoor_118 : decode cX0_addDoor 118 = .ok (.invokevirtual 71, 3) := by decide +kernel
theorem dX0_addDoor_121 : decode cX0_addDoor 121 = .ok (.iload 5, 2) := by decide +kernel
theorem dX0_addDoor_123 : decode cX0_addDoor 123 = .ok (.ireturn, 1) := by decide +kernel
theorem dX0_setDoor_0 : decode cX0_setDoor 0 = .ok (.aload_n 0, 1) := by decide +kernel
theorem dX0_setDoor_1 : decode cX0_setDoor 1 = .ok (.iload_n 1, 1) := by decide +kernel
theorem dX0_setDoor_2 : decode cX0_setDoor 2 = .ok (.invokevirtual 81, 3) := by decide +kernel
theorem dX0_setDoor_5 : decode cX0_setDoor 5 = .ok (.aload_n 0, 1) := by decide +kernel
theorem dX0_setDoor_6 : decode cX0_setDoor 6 = .ok (.getfield 37, 3) := by decide +kernel
theorem dX0_setDoor_9 : decode cX0_setDoor 9 = .ok (.iload_n 1, 1) := by decide +kernel
theorem dX0_setDoor_10 : decode cX0_setDoor 10 = .ok (.baload, 1) := by decide +kernel
theorem dX0_setDoor_11 : decode cX0_setDoor 11 = .ok (.istore_n 3, 1) := by decide +kernel
theorem dX0_setDoor_12 : decode cX0_setDoor 12 = .ok (.aload_n 0, 1) := by decide +kernel
theorem dX0_setDoor_13 : decode cX0_setDoor 13 = .ok (.getfield 37, 3) := by decide +kernel
theorem dX0_setDoor_16 : decode cX0_setDoor 16 = .ok (.iload_n 1, 1) := by decide +kernel
theorem dX0_setDoor_17 : decode cX0_setDoor 17 = .ok (.iload_n 2, 1) := by decide +kernel
theorem dX0_setDoor_18 : decode cX0_setDoor 18 = .ok (.bastore, 1) := by decide +kernel
theorem dX0_setDoor_19 : decode cX0_setDoor 19 = .ok (.aload_n 0, 1) := by decide +kernel
theorem dX0_setDoor_20 : decode cX0_setDoor 20 = .ok (.invokevirtual 71, 3) := by decide +kernel
theorem dX0_setDoor_23 : decode cX0_setDoor 23 = .ok (.iload_n 3, 1) := by decide +kernel
theorem dX0_setDoor_24 : decode cX0_setDoor 24 = .ok (.ireturn, 1) := by decide +kernel
theorem dX0_come_0 : decode cX0_come 0 = .ok (.aload_n 0, 1) := by decide +kernel
theorem dX0_come_1 : decode cX0_come 1 = .ok (.iload_n 1, 1) := by decide +kernel
theorem dX0_come_2 : decode cX0_come 2 = .ok (.invokevirtual 74, 3) := by decide +kernel
theorem dX0_come_5 : decode cX0_come 5 = .ok (.iload_n 1, 1) := by decide +kernel
theorem dX0_come_6 : decode cX0_come 6 = .ok (.ifCond .eq 17, 3) := by decide +kernel
theorem dX0_come_9 : decode cX0_come 9 = .ok (.iload_n 2, 1) := by decide +kernel
theorem dX0_come_10 : decode cX0_come 10 = .ok (.iconst 1, 1) := by decide +kernel
theorem dX0_come_11 : decode cX0_come 11 = .ok (.bipush 30, 2) := by decide +kernel
theorem dX0_come_13 : decode cX0_come 13 = .ok (.invokestatic 60, 3) := by decide +kernel
theorem dX0_come_16 : decode cX0_come 16 = .ok (.ifCond .eq 7, 3) := by decide +kernel
theorem dX0_come_19 : decode cX0_come 19 = .ok (.iconst 1, 1) := by decide +kernel
theorem dX0_come_20 : decode cX0_come 20 = .ok (.goto 4, 3) := by decide +kernel
theorem dX0_come_23 : decode cX0_come 23 = .ok (.iconst 0, 1) := by decide +kernel
theorem dX0_come_24 : decode cX0_come 24 = .ok (.invokestatic 64, 3) := by decide +kernel
theorem dX0_come_27 : decode cX0_come 27 = .ok (.iload_n 2, 1) := by decide +kernel
theorem dX0_come_28 : decode cX0_come 28 = .ok (.aload_n 0, 1) := by decide +kernel
theorem dX0_come_29 : decode cX0_come 29 = .ok (.iload_n 1, 1) := by decide +kernel
theorem dX0_come_30 : decode cX0_come 30 = .ok (.invokevirtual 84, 3) := by decide +kernel
theorem dX0_come_33 : decode cX0_come 33 = .ok (.if_icmp .gt 7, 3) := by decide +kernel
theorem dX0_come_36 : decode cX0_come 36 = .ok (.iconst 1, 1) := by decide +kernel
theorem dX0_come_37 : decode cX0_come 37 = .ok (.goto 4, 3) := by decide +kernel
theorem dX0_come_40 : decode cX0_come 40 = .ok (.iconst 0, 1) := by decide +kernel
theorem dX0_come_41 : decode cX0_come 41 = .ok (.invokestatic 68, 3) := by decide +kernel
theorem dX0_come_44 : decode cX0_come 44 = .ok (.aload_n 0, 1) := by decide +kernel
theorem dX0_come_45 : decode cX0_come 45 = .ok (.getfield 13, 3) := by decide +kernel
theorem dX0_come_48 : decode cX0_come 48 = .ok (.iload_n 1, 1) := by decide +kernel
theorem dX0_come_49 : decode cX0_come 49 = .ok (.dup2, 1) := by decide +kernel
theorem dX0_come_50 : decode cX0_come 50 = .ok (.iaload, 1) := by decide +kernel
theorem dX0_come_51 : decode cX0_come 51 = .ok (.iload_n 2, 1) := by decide +kernel
theorem dX0_come_52 : decode cX0_come 52 = .ok (.iadd, 1) := by decide +kernel
theorem dX0_come_53 : decode cX0_come 53 = .ok (.iastore, 1) := by decide +kernel
theorem dX0_come_54 : decode cX0_come 54 = .ok (.aload_n 0, 1) := by decide +kernel
theorem dX0_come_55 : decode cX0_come 55 = .ok (.getfield 13, 3) := by decide +kernel
theorem dX0_come_58 : decode cX0_come 58 = .ok (.iload_n 1, 1) := by decide +kernel
theorem dX0_come_59 : decode cX0_come 59 = .ok (.iaload, 1) := by decide +kernel
theorem dX0_come_60 : decode cX0_come 60 = .ok (.ireturn, 1) := by decide +kernel
theorem dX0_setRelease_0 : decode cX0_setRelease 0 = .ok (.aload_n 0, 1) := by decide +kernel
theorem dX0_setRelease_1 : decode cX0_setRelease 1 = .ok (.iload_n 1, 1) := by decide +kernel
theorem dX0_setRelease_2 : decode cX0_setRelease 2 = .ok (.invokevirtual 74, 3) := by decide +kernel
theorem dX0_setRelease_5 : decode cX0_setRelease 5 = .ok (.iload_n 2, 1) := by decide +kernel
theorem dX0_setRelease_6 : decode cX0_setRelease 6 = .ok (.iconst 0, 1) := by decide +kernel
theorem dX0_setRelease_7 : decode cX0_setRelease 7 = .ok (.sipush 1000, 3) := by decide +kernel
theorem dX0_setRelease_10 : decode cX0_setRelease 10 = .ok (.invokestatic 60, 3) := by decide +kernel
theorem dX0_setRelease_13 : decode cX0_setRelease 13 = .ok (.invokestatic 64, 3) := by decide +kernel
theorem dX0_setRelease_16 : decode cX0_setRelease 16 = .ok (.aload_n 0, 1) := by decide +kernel
theorem dX0_setRelease_17 : decode cX0_setRelease 17 = .ok (.getfield 16, 3) := by decide +kernel
theorem dX0_setRelease_20 : decode cX0_setRelease 20 = .ok (.iload_n 1, 1) := by decide +kernel
theorem dX0_setRelease_21 : decode cX0_setRelease 21 = .ok (.iaload, 1) := by decide +kernel
theorem dX0_setRelease_22 : decode cX0_setRelease 22 = .ok (.istore_n 3, 1) := by decide +kernel
theorem dX0_setRelease_23 : decode cX0_setRelease 23 = .ok (.aload_n 0, 1) := by decide +kernel
theorem dX0_setRelease_24 : decode cX0_setRelease 24 = .ok (.getfield 16, 3) := by decide +kernel
theorem dX0_setRelease_27 : decode cX0_setRelease 27 = .ok (.iload_n 1, 1) := by decide +kernel
theorem dX0_setRelease_28 : decode cX0_setRelease 28 = .ok (.iload_n 2, 1) := by decide +kernel
theorem dX0_setRelease_29 : decode cX0_setRelease 29 = .ok (.iastore, 1) := by decide +kernel
theorem dX0_setRelease_30 : decode cX0_setRelease 30 = .ok (.iload_n 3, 1) := by decide +kernel
theorem dX0_setRelease_31 : decode cX0_setRelease 31 = .ok (.ireturn, 1) := by decide +kernel
theorem dX0_places_0 : decode cX0_places 0 = .ok (.aload_n 0, 1) := by decide +kernel
theorem dX0_places_1 : decode cX0_places 1 = .ok (.getfield 53, 3) := by decide +kernel
theorem dX0_places_4 : decode cX0_places 4 = .ok (.ireturn, 1) := by decide +kernel
theorem dX0_doors_0 : decode cX0_doors 0 = .ok (.aload_n 0, 1) := by decide +kernel
theorem dX0_doors_1 : decode cX0_doors 1 = .ok (.getfield 78, 3) := by decide +kernel
theorem dX0_doors_4 : decode cX0_doors 4 = .ok (.ireturn, 1) := by decide +kernel
theorem dX0_step_0 : decode cX0_step 0 = .ok (.iload_n 1, 1) := by decide +kernel
theorem dX0_step_1 : decode cX0_step 1 = .ok (.iconst 1, 1) := by decide +kernel
theorem dX0_step_2 : decode cX0_step 2 = .ok (.bipush 50, 2) := by decide +kernel
theorem dX0_step_4 : decode cX0_step 4 = .ok (.invokestatic 60, 3) := by decide +kernel
theorem dX0_step_7 : decode cX0_step 7 = .ok (.invokestatic 64, 3) := by decide +kernel
theorem dX0_step_10 : decode cX0_step 10 = .ok (.aload_n 0, 1) := by decide +kernel
theorem dX0_step_11 : decode cX0_step 11 = .ok (.getfield 13, 3) := by decide +kernel
theorem dX0_step_14 : decode cX0_step 14 = .ok (.iconst 0, 1) := by decide +kernel
theorem dX0_step_15 : decode cX0_step 15 = .ok (.iaload, 1) := by decide +kernel
theorem dX0_step_16 : decode cX0_step 16 = .ok (.istore_n 2, 1) := by decide +kernel
theorem dX0_step_17 : decode cX0_step 17 = .ok (.iconst 0, 1) := by decide +kernel
theorem dX0_step_18 : decode cX0_step 18 = .ok (.istore_n 3, 1) := by decide +kernel
theorem dX0_step_19 : decode cX0_step 19 = .ok (.iload_n 3, 1) := by decide +kernel
theorem dX0_step_20 : decode cX0_step 20 = .ok (.iload_n 1, 1) := by decide +kernel
theorem dX0_step_21 : decode cX0_step 21 = .ok (.if_icmp .ge 14, 3) := by decide +kernel
theorem dX0_step_24 : decode cX0_step 24 = .ok (.aload_n 0, 1) := by decide +kernel
theorem dX0_step_25 : decode cX0_step 25 = .ok (.invokevirtual 88, 3) := by decide +kernel
theorem dX0_step_28 : decode cX0_step 28 = .ok (.pop, 1) := by decide +kernel
theorem dX0_step_29 : decode cX0_step 29 = .ok (.iinc 3 1, 3) := by decide +kernel
theorem dX0_step_32 : decode cX0_step 32 = .ok (.goto (-13), 3) := by decide +kernel
theorem dX0_step_35 : decode cX0_step 35 = .ok (.aload_n 0, 1) := by decide +kernel
theorem dX0_step_36 : decode cX0_step 36 = .ok (.getfield 13, 3) := by decide +kernel
theorem dX0_step_39 : decode cX0_step 39 = .ok (.iconst 0, 1) := by decide +kernel
theorem dX0_step_40 : decode cX0_step 40 = .ok (.iaload, 1) := by decide +kernel
theorem dX0_step_41 : decode cX0_step 41 = .ok (.iload_n 2, 1) := by decide +kernel
theorem dX0_step_42 : decode cX0_step 42 = .ok (.isub, 1) := by decide +kernel
theorem dX0_step_43 : decode cX0_step 43 = .ok (.ireturn, 1) := by decide +kernel
theorem dX0_clear_0 : decode cX0_clear 0 = .ok (.iconst 0, 1) := by decide +kernel
theorem dX0_clear_1 : decode cX0_clear 1 = .ok (.istore_n 1, 1) := by decide +kernel
theorem dX0_clear_2 : decode cX0_clear 2 = .ok (.iconst 0, 1) := by decide +kernel
theorem dX0_clear_3 : decode cX0_clear 3 = .ok (.istore_n 2, 1) := by decide +kernel
theorem dX0_clear_4 : decode cX0_clear 4 = .ok (.iload_n 1, 1) := by decide +kernel
theorem dX0_clear_5 : decode cX0_clear 5 = .ok (.sipush 300, 3) := by decide +kernel
theorem dX0_clear_8 : decode cX0_clear 8 = .ok (.if_icmp .ge 46, 3) := by decide +kernel
theorem dX0_clear_11 : decode cX0_clear 11 = .ok (.iload_n 2, 1) := by decide +kernel
theorem dX0_clear_12 : decode cX0_clear 12 = .ok (.ifCond .ne 42, 3) := by decide +kernel
theorem dX0_clear_15 : decode cX0_clear 15 = .ok (.aload_n 0, 1) := by decide +kernel
theorem dX0_clear_16 : decode cX0_clear 16 = .ok (.invokevirtual 92, 3) := by decide +kernel
theorem dX0_clear_19 : decode cX0_clear 19 = .ok (.ifCond .le 35, 3) := by decide +kernel
theorem dX0_clear_22 : decode cX0_clear 22 = .ok (.aload_n 0, 1) := by decide +kernel
theorem dX0_clear_23 : decode cX0_clear 23 = .ok (.invokevirtual 95, 3) := by decide +kernel
theorem dX0_clear_26 : decode cX0_clear 26 = .ok (.istore_n 3, 1) := by decide +kernel
theorem dX0_clear_27 : decode cX0_clear 27 = .ok (.aload_n 0, 1) := by decide +kernel
theorem dX0_clear_28 : decode cX0_clear 28 = .ok (.invokevirtual 88, 3) := by decide +kernel
theorem dX0_clear_31 : decode cX0_clear 31 = .ok (.istore 4, 2) := by decide +kernel
theorem dX0_clear_33 : decode cX0_clear 33 = .ok (.iload 4, 2) := by decide +kernel
theorem dX0_clear_35 : decode cX0_clear 35 = .ok (.ifCond .ne 11, 3) := by decide +kernel
theorem dX0_clear_38 : decode cX0_clear 38 = .ok (.iload_n 3, 1) := by decide +kernel
theorem dX0_clear_39 : decode cX0_clear 39 = .ok (.ifCond .eq 7, 3) := by decide +kernel
theorem dX0_clear_42 : decode cX0_clear 42 = .ok (.iconst 1, 1) := by decide +kernel
theorem dX0_clear_43 : decode cX0_clear 43 = .ok (.goto 4, 3) := by decide +kernel
theorem dX0_clear_46 : decode cX0_clear 46 = .ok (.iconst 0, 1) := by decide +kernel
theorem dX0_clear_47 : decode cX0_clear 47 = .ok (.istore_n 2, 1) := by decide +kernel
theorem dX0_clear_48 : decode cX0_clear 48 = .ok (.iinc 1 1, 3) := by decide +kernel
theorem dX0_clear_51 : decode cX0_clear 51 = .ok (.goto (-47), 3) := by decide +kernel
theorem dX0_clear_54 : decode cX0_clear 54 = .ok (.iload_n 1, 1) := by decide +kernel
theorem dX0_clear_55 : decode cX0_clear 55 = .ok (.ireturn, 1) := by decide +kernel
theorem dX0_now_0 : decode cX0_now 0 = .ok (.aload_n 0, 1) := by decide +kernel
theorem dX0_now_1 : decode cX0_now 1 = .ok (.getfield 99, 3) := by decide +kernel
theorem dX0_now_4 : decode cX0_now 4 = .ok (.ireturn, 1) := by decide +kernel
theorem dX0_people_0 : decode cX0_people 0 = .ok (.aload_n 0, 1) := by decide +kernel
theorem dX0_people_1 : decode cX0_people 1 = .ok (.iload_n 1, 1) := by decide +kernel
theorem dX0_people_2 : decode cX0_people 2 = .ok (.invokevirtual 74, 3) := by decide +kernel
theorem dX0_people_5 : decode cX0_people 5 = .ok (.aload_n 0, 1) := by decide +kernel
theorem dX0_people_6 : decode cX0_people 6 = .ok (.getfield 13, 3) := by decide +kernel
theorem dX0_people_9 : decode cX0_people 9 = .ok (.iload_n 1, 1) := by decide +kernel
theorem dX0_people_10 : decode cX0_people 10 = .ok (.iaload, 1) := by decide +kernel
theorem dX0_people_11 : decode cX0_people 11 = .ok (.ireturn, 1) := by decide +kernel
theorem dX0_inside_0 : decode cX0_inside 0 = .ok (.iconst 0, 1) := by decide +kernel
theorem dX0_inside_1 : decode cX0_inside 1 = .ok (.istore_n 1, 1) := by decide +kernel
theorem dX0_inside_2 : decode cX0_inside 2 = .ok (.iconst 1, 1) := by decide +kernel
theorem dX0_inside_3 : decode cX0_inside 3 = .ok (.istore_n 2, 1) := by decide +kernel
theorem dX0_inside_4 : decode cX0_inside 4 = .ok (.iload_n 2, 1) := by decide +kernel
theorem dX0_inside_5 : decode cX0_inside 5 = .ok (.aload_n 0, 1) := by decide +kernel
theorem dX0_inside_6 : decode cX0_inside 6 = .ok (.getfield 53, 3) := by decide +kernel
theorem dX0_inside_9 : decode cX0_inside 9 = .ok (.if_icmp .ge 18, 3) := by decide +kernel
theorem dX0_inside_12 : decode cX0_inside 12 = .ok (.iload_n 1, 1) := by decide +kernel
theorem dX0_inside_13 : decode cX0_inside 13 = .ok (.aload_n 0, 1) := by decide +kernel
theorem dX0_inside_14 : decode cX0_inside 14 = .ok (.getfield 13, 3) := by decide +kernel
theorem dX0_inside_17 : decode cX0_inside 17 = .ok (.iload_n 2, 1) := by decide +kernel
theorem dX0_inside_18 : decode cX0_inside 18 = .ok (.iaload, 1) := by decide +kernel
theorem dX0_inside_19 : decode cX0_inside 19 = .ok (.iadd, 1) := by decide +kernel
theorem dX0_inside_20 : decode cX0_inside 20 = .ok (.istore_n 1, 1) := by decide +kernel
theorem dX0_inside_21 : decode cX0_inside 21 = .ok (.iinc 2 1, 3) := by decide +kernel
theorem dX0_inside_24 : decode cX0_inside 24 = .ok (.goto (-20), 3) := by decide +kernel
theorem dX0_inside_27 : decode cX0_inside 27 = .ok (.iload_n 1, 1) := by decide +kernel
theorem dX0_inside_28 : decode cX0_inside 28 = .ok (.ireturn, 1) := by decide +kernel
theorem dX0_latest_0 : decode cX0_latest 0 = .ok (.aload_n 0, 1) := by decide +kernel
theorem dX0_latest_1 : decode cX0_latest 1 = .ok (.getfield 57, 3) := by decide +kernel
theorem dX0_latest_4 : decode cX0_latest 4 = .ok (.iconst (-1), 1) := by decide +kernel
theorem dX0_latest_5 : decode cX0_latest 5 = .ok (.if_icmp .eq 7, 3) := by decide +kernel
theorem dX0_latest_8 : decode cX0_latest 8 = .ok (.iconst 1, 1) := by decide +kernel
theorem dX0_latest_9 : decode cX0_latest 9 = .ok (.goto 4, 3) := by decide +kernel
theorem dX0_latest_12 : decode cX0_latest 12 = .ok (.iconst 0, 1) := by decide +kernel
theorem dX0_latest_13 : decode cX0_latest 13 = .ok (.invokestatic 102, 3) := by decide +kernel
theorem dX0_latest_16 : decode cX0_latest 16 = .ok (.aload_n 0, 1) := by decide +kernel
theorem dX0_latest_17 : decode cX0_latest 17 = .ok (.getfield 57, 3) := by decide +kernel
theorem dX0_latest_20 : decode cX0_latest 20 = .ok (.ireturn, 1) := by decide +kernel
theorem dX0_passed_0 : decode cX0_passed 0 = .ok (.aload_n 0, 1) := by decide +kernel
theorem dX0_passed_1 : decode cX0_passed 1 = .ok (.iload_n 1, 1) := by decide +kernel
theorem dX0_passed_2 : decode cX0_passed 2 = .ok (.invokevirtual 81, 3) := by decide +kernel
theorem dX0_passed_5 : decode cX0_passed 5 = .ok (.aload_n 0, 1) := by decide +kernel
theorem dX0_passed_6 : decode cX0_passed 6 = .ok (.getfield 41, 3) := by decide +kernel
theorem dX0_passed_9 : decode cX0_passed 9 = .ok (.iload_n 1, 1) := by decide +kernel
theorem dX0_passed_10 : decode cX0_passed 10 = .ok (.iaload, 1) := by decide +kernel
theorem dX0_passed_11 : decode cX0_passed 11 = .ok (.ireturn, 1) := by decide +kernel
theorem dX0_waited_0 : decode cX0_waited 0 = .ok (.aload_n 0, 1) := by decide +kernel
theorem dX0_waited_1 : decode cX0_waited 1 = .ok (.getfield 105, 3) := by decide +kernel
theorem dX0_waited_4 : decode cX0_waited 4 = .ok (.ireturn, 1) := by decide +kernel
theorem dX0_distance_0 : decode cX0_distance 0 = .ok (.aload_n 0, 1) := by decide +kernel
theorem dX0_distance_1 : decode cX0_distance 1 = .ok (.iload_n 1, 1) := by decide +kernel
theorem dX0_distance_2 : decode cX0_distance 2 = .ok (.invokevirtual 74, 3) := by decide +kernel
theorem dX0_distance_5 : decode cX0_distance 5 = .ok (.aload_n 0, 1) := by decide +kernel
theorem dX0_distance_6 : decode cX0_distance 6 = .ok (.getfield 19, 3) := by decide +kernel
theorem dX0_distance_9 : decode cX0_distance 9 = .ok (.iload_n 1, 1) := by decide +kernel
theorem dX0_distance_10 : decode cX0_distance 10 = .ok (.iaload, 1) := by decide +kernel
theorem dX0_distance_11 : decode cX0_distance 11 = .ok (.iconst (-1), 1) := by decide +kernel
theorem dX0_distance_12 : decode cX0_distance 12 = .ok (.if_icmp .eq 7, 3) := by decide +kernel
theorem dX0_distance_15 : decode cX0_distance 15 = .ok (.iconst 1, 1) := by decide +kernel
theorem dX0_distance_16 : decode cX0_distance 16 = .ok (.goto 4, 3) := by decide +kernel
theorem dX0_distance_19 : decode cX0_distance 19 = .ok (.iconst 0, 1) := by decide +kernel
theorem dX0_distance_20 : decode cX0_distance 20 = .ok (.invokestatic 102, 3) := by decide +kernel
theorem dX0_distance_23 : decode cX0_distance 23 = .ok (.aload_n 0, 1) := by decide +kernel
theorem dX0_distance_24 : decode cX0_distance 24 = .ok (.getfield 19, 3) := by decide +kernel
theorem dX0_distance_27 : decode cX0_distance 27 = .ok (.iload_n 1, 1) := by decide +kernel
theorem dX0_distance_28 : decode cX0_distance 28 = .ok (.iaload, 1) := by decide +kernel
theorem dX0_distance_29 : decode cX0_distance 29 = .ok (.ireturn, 1) := by decide +kernel
theorem dX0_door_0 : decode cX0_door 0 = .ok (.aload_n 0, 1) := by decide +kernel
theorem dX0_door_1 : decode cX0_door 1 = .ok (.iload_n 1, 1) := by decide +kernel
theorem dX0_door_2 : decode cX0_door 2 = .ok (.invokevirtual 74, 3) := by decide +kernel
theorem dX0_door_5 : decode cX0_door 5 = .ok (.aload_n 0, 1) := by decide +kernel
theorem dX0_door_6 : decode cX0_door 6 = .ok (.getfield 22, 3) := by decide +kernel
theorem dX0_door_9 : decode cX0_door 9 = .ok (.iload_n 1, 1) := by decide +kernel
theorem dX0_door_10 : decode cX0_door 10 = .ok (.iaload, 1) := by decide +kernel
theorem dX0_door_11 : decode cX0_door 11 = .ok (.iconst (-1), 1) := by decide +kernel
theorem dX0_door_12 : decode cX0_door 12 = .ok (.if_icmp .eq 7, 3) := by decide +kernel
theorem dX0_door_15 : decode cX0_door 15 = .ok (.iconst 1, 1) := by decide +kernel
theorem dX0_door_16 : decode cX0_door 16 = .ok (.goto 4, 3) := by decide +kernel
theorem dX0_door_19 : decode cX0_door 19 = .ok (.iconst 0, 1) := by decide +kernel
theorem dX0_door_20 : decode cX0_door 20 = .ok (.invokestatic 102, 3) := by decide +kernel
theorem dX0_door_23 : decode cX0_door 23 = .ok (.aload_n 0, 1) := by decide +kernel
theorem dX0_door_24 : decode cX0_door 24 = .ok (.getfield 22, 3) := by decide +kernel
theorem dX0_door_27 : decode cX0_door 27 = .ok (.iload_n 1, 1) := by decide +kernel
theorem dX0_door_28 : decode cX0_door 28 = .ok (.iaload, 1) := by decide +kernel
theorem dX0_door_29 : decode cX0_door 29 = .ok (.ireturn, 1) := by decide +kernel
theorem dX0_trapped_0 : decode cX0_trapped 0 = .ok (.iconst 0, 1) := by decide +kernel
theorem dX0_trapped_1 : decode cX0_trapped 1 = .ok (.istore_n 1, 1) := by decide +kernel
theorem dX0_trapped_2 : decode cX0_trapped 2 = .ok (.iconst 1, 1) := by decide +kernel
theorem dX0_trapped_3 : decode cX0_trapped 3 = .ok (.istore_n 2, 1) := by decide +kernel
theorem dX0_trapped_4 : decode cX0_trapped 4 = .ok (.iload_n 2, 1) := by decide +kernel
theorem dX0_trapped_5 : decode cX0_trapped 5 = .ok (.aload_n 0, 1) := by decide +kernel
theorem dX0_trapped_6 : decode cX0_trapped 6 = .ok (.getfield 53, 3) := by decide +kernel
theorem dX0_trapped_9 : decode cX0_trapped 9 = .ok (.if_icmp .ge 28, 3) := by decide +kernel
theorem dX0_trapped_12 : decode cX0_trapped 12 = .ok (.aload_n 0, 1) := by decide +kernel
theorem dX0_trapped_13 : decode cX0_trapped 13 = .ok (.getfield 19, 3) := by decide +kernel
theorem dX0_trapped_16 : decode cX0_trapped 16 = .ok (.iload_n 2, 1) := by decide +kernel
theorem dX0_trapped_17 : decode cX0_trapped 17 = .ok (.iaload, 1) := by decide +kernel
theorem dX0_trapped_18 : decode cX0_trapped 18 = .ok (.iconst (-1), 1) := by decide +kernel
theorem dX0_trapped_19 : decode cX0_trapped 19 = .ok (.if_icmp .ne 12, 3) := by decide +kernel
theorem dX0_trapped_22 : decode cX0_trapped 22 = .ok (.iload_n 1, 1) := by decide +kernel
theorem dX0_trapped_23 : decode cX0_trapped 23 = .ok (.aload_n 0, 1) := by decide +kernel
theorem dX0_trapped_24 : decode cX0_trapped 24 = .ok (.getfield 13, 3) := by decide +kernel
theorem dX0_trapped_27 : decode cX0_trapped 27 = .ok (.iload_n 2, 1) := by decide +kernel
theorem dX0_trapped_28 : decode cX0_trapped 28 = .ok (.iaload, 1) := by decide +kernel
theorem dX0_trapped_29 : decode cX0_trapped 29 = .ok (.iadd, 1) := by decide +kernel
theorem dX0_trapped_30 : decode cX0_trapped 30 = .ok (.istore_n 1, 1) := by decide +kernel
theorem dX0_trapped_31 : decode cX0_trapped 31 = .ok (.iinc 2 1, 3) := by decide +kernel
theorem dX0_trapped_34 : decode cX0_trapped 34 = .ok (.goto (-30), 3) := by decide +kernel
theorem dX0_trapped_37 : decode cX0_trapped 37 = .ok (.iload_n 1, 1) := by decide +kernel
theorem dX0_trapped_38 : decode cX0_trapped 38 = .ok (.ireturn, 1) := by decide +kernel
theorem dX0_wouldMove_0 : decode cX0_wouldMove 0 = .ok (.aload_n 0, 1) := by decide +kernel
theorem dX0_wouldMove_1 : decode cX0_wouldMove 1 = .ok (.iload_n 1, 1) := by decide +kernel
theorem dX0_wouldMove_2 : decode cX0_wouldMove 2 = .ok (.invokevirtual 74, 3) := by decide +kernel
theorem dX0_wouldMove_5 : decode cX0_wouldMove 5 = .ok (.aload_n 0, 1) := by decide +kernel
theorem dX0_wouldMove_6 : decode cX0_wouldMove 6 = .ok (.getfield 22, 3) := by decide +kernel
theorem dX0_wouldMove_9 : decode cX0_wouldMove 9 = .ok (.iload_n 1, 1) := by decide +kernel
theorem dX0_wouldMove_10 : decode cX0_wouldMove 10 = .ok (.iaload, 1) := by decide +kernel
theorem dX0_wouldMove_11 : decode cX0_wouldMove 11 = .ok (.istore_n 2, 1) := by decide +kernel
theorem dX0_wouldMove_12 : decode cX0_wouldMove 12 = .ok (.aload_n 0, 1) := by decide +kernel
theorem dX0_wouldMove_13 : decode cX0_wouldMove 13 = .ok (.iload_n 2, 1) := by decide +kernel
theorem dX0_wouldMove_14 : decode cX0_wouldMove 14 = .ok (.invokevirtual 108, 3) := by decide +kernel
theorem dX0_wouldMove_17 : decode cX0_wouldMove 17 = .ok (.ifCond .ne 5, 3) := by decide +kernel
theorem dX0_wouldMove_20 : decode cX0_wouldMove 20 = .ok (.iconst 0, 1) := by decide +kernel
theorem dX0_wouldMove_21 : decode cX0_wouldMove 21 = .ok (.ireturn, 1) := by decide +kernel
theorem dX0_wouldMove_22 : decode cX0_wouldMove 22 = .ok (.aload_n 0, 1) := by decide +kernel
theorem dX0_wouldMove_23 : decode cX0_wouldMove 23 = .ok (.invokevirtual 112, 3) := by decide +kernel
theorem dX0_wouldMove_26 : decode cX0_wouldMove 26 = .ok (.aload_n 0, 1) := by decide +kernel
theorem dX0_wouldMove_27 : decode cX0_wouldMove 27 = .ok (.getfield 50, 3) := by decide +kernel
theorem dX0_wouldMove_30 : decode cX0_wouldMove 30 = .ok (.iload_n 2, 1) := by decide +kernel
theorem dX0_wouldMove_31 : decode cX0_wouldMove 31 = .ok (.iaload, 1) := by decide +kernel
theorem dX0_wouldMove_32 : decode cX0_wouldMove 32 = .ok (.ireturn, 1) := by decide +kernel
theorem dX0_bound_0 : decode cX0_bound 0 = .ok (.aload_n 0, 1) := by decide +kernel
theorem dX0_bound_1 : decode cX0_bound 1 = .ok (.invokevirtual 115, 3) := by decide +kernel
theorem dX0_bound_4 : decode cX0_bound 4 = .ok (.ifCond .ne 7, 3) := by decide +kernel
theorem dX0_bound_7 : decode cX0_bound 7 = .ok (.iconst 1, 1) := by decide +kernel
theorem dX0_bound_8 : decode cX0_bound 8 = .ok (.goto 4, 3) := by decide +kernel
theorem dX0_bound_11 : decode cX0_bound 11 = .ok (.iconst 0, 1) := by decide +kernel
theorem dX0_bound_12 : decode cX0_bound 12 = .ok (.invokestatic 68, 3) := by decide +kernel
theorem dX0_bound_15 : decode cX0_bound 15 = .ok (.iconst 0, 1) := by decide +kernel
theorem dX0_bound_16 : decode cX0_bound 16 = .ok (.istore_n 1, 1) := by decide +kernel
theorem dX0_bound_17 : decode cX0_bound 17 = .ok (.iconst 1, 1) := by decide +kernel
theorem dX0_bound_18 : decode cX0_bound 18 = .ok (.istore_n 2, 1) := by decide +kernel
theorem dX0_bound_19 : decode cX0_bound 19 = .ok (.iload_n 2, 1) := by decide +kernel
theorem dX0_bound_20 : decode cX0_bound 20 = .ok (.aload_n 0, 1) := by decide +kernel
theorem dX0_bound_21 : decode cX0_bound 21 = .ok (.getfield 53, 3) := by decide +kernel
theorem dX0_bound_24 : decode cX0_bound 24 = .ok (.if_icmp .ge 19, 3) := by decide +kernel
theorem dX0_bound_27 : decode cX0_bound 27 = .ok (.iload_n 1, 1) := by decide +kernel
theorem dX0_bound_28 : decode cX0_bound 28 = .ok (.aload_n 0, 1) := by decide +kernel
theorem dX0_bound_29 : decode cX0_bound 29 = .ok (.iload_n 2, 1) := by decide +kernel
theorem dX0_bound_30 : decode cX0_bound 30 = .ok (.invokevirtual 118, 3) := by decide +kernel
theorem dX0_bound_33 : decode cX0_bound 33 = .ok (.invokestatic 121, 3) := by decide +kernel
theorem dX0_bound_36 : decode cX0_bound 36 = .ok (.istore_n 1, 1) := by decide +kernel
theorem dX0_bound_37 : decode cX0_bound 37 = .ok (.iinc 2 1, 3) := by decide +kernel
theorem dX0_bound_40 : decode cX0_bound 40 = .ok (.goto (-21), 3) := by decide +kernel
theorem dX0_bound_43 : decode cX0_bound 43 = .ok (.iload_n 1, 1) := by decide +kernel
theorem dX0_bound_44 : decode cX0_bound 44 = .ok (.ireturn, 1) := by decide +kernel
theorem dX0_boundAt_0 : decode cX0_boundAt 0 = .ok (.aload_n 0, 1) := by decide +kernel
theorem dX0_boundAt_1 : decode cX0_boundAt 1 = .ok (.iload_n 1, 1) := by decide +kernel
theorem dX0_boundAt_2 : decode cX0_boundAt 2 = .ok (.invokevirtual 127, 3) := by decide +kernel
theorem dX0_boundAt_5 : decode cX0_boundAt 5 = .ok (.istore_n 2, 1) := by decide +kernel
theorem dX0_boundAt_6 : decode cX0_boundAt 6 = .ok (.aload_n 0, 1) := by decide +kernel
theorem dX0_boundAt_7 : decode cX0_boundAt 7 = .ok (.iload_n 1, 1) := by decide +kernel
theorem dX0_boundAt_8 : decode cX0_boundAt 8 = .ok (.invokevirtual 130, 3) := by decide +kernel
theorem dX0_boundAt_11 : decode cX0_boundAt 11 = .ok (.istore_n 3, 1) := by decide +kernel
theorem dX0_boundAt_12 : decode cX0_boundAt 12 = .ok (.iload_n 2, 1) := by decide +kernel
theorem dX0_boundAt_13 : decode cX0_boundAt 13 = .ok (.ifCond .eq 7, 3) := by decide +kernel
theorem dX0_boundAt_16 : decode cX0_boundAt 16 = .ok (.iload_n 3, 1) := by decide +kernel
theorem dX0_boundAt_17 : decode cX0_boundAt 17 = .ok (.ifCond .ne 5, 3) := by decide +kernel
theorem dX0_boundAt_20 : decode cX0_boundAt 20 = .ok (.iconst 0, 1) := by decide +kernel
theorem dX0_boundAt_21 : decode cX0_boundAt 21 = .ok (.ireturn, 1) := by decide +kernel
theorem dX0_boundAt_22 : decode cX0_boundAt 22 = .ok (.iload_n 1, 1) := by decide +kernel
theorem dX0_boundAt_23 : decode cX0_boundAt 23 = .ok (.iconst 1, 1) := by decide +kernel
theorem dX0_boundAt_24 : decode cX0_boundAt 24 = .ok (.isub, 1) := by decide +kernel
theorem dX0_boundAt_25 : decode cX0_boundAt 25 = .ok (.iload_n 2, 1) := by decide +kernel
theorem dX0_boundAt_26 : decode cX0_boundAt 26 = .ok (.iload_n 3, 1) := by decide +kernel
theorem dX0_boundAt_27 : decode cX0_boundAt 27 = .ok (.iadd, 1) := by decide +kernel
theorem dX0_boundAt_28 : decode cX0_boundAt 28 = .ok (.iconst 1, 1) := by decide +kernel
theorem dX0_boundAt_29 : decode cX0_boundAt 29 = .ok (.isub, 1) := by decide +kernel
theorem dX0_boundAt_30 : decode cX0_boundAt 30 = .ok (.iload_n 3, 1) := by decide +kernel
theorem dX0_boundAt_31 : decode cX0_boundAt 31 = .ok (.idiv, 1) := by decide +kernel
theorem dX0_boundAt_32 : decode cX0_boundAt 32 = .ok (.iadd, 1) := by decide +kernel
theorem dX0_boundAt_33 : decode cX0_boundAt 33 = .ok (.ireturn, 1) := by decide +kernel
theorem dX0_peopleFrom_0 : decode cX0_peopleFrom 0 = .ok (.iconst 0, 1) := by decide +kernel
theorem dX0_peopleFrom_1 : decode cX0_peopleFrom 1 = .ok (.istore_n 2, 1) := by decide +kernel
theorem dX0_peopleFrom_2 : decode cX0_peopleFrom 2 = .ok (.iconst 1, 1) := by decide +kernel
theorem dX0_peopleFrom_3 : decode cX0_peopleFrom 3 = .ok (.istore_n 3, 1) := by decide +kernel
theorem dX0_peopleFrom_4 : decode cX0_peopleFrom 4 = .ok (.iload_n 3, 1) := by decide +kernel
theorem dX0_peopleFrom_5 : decode cX0_peopleFrom 5 = .ok (.aload_n 0, 1) := by decide +kernel
theorem dX0_peopleFrom_6 : decode cX0_peopleFrom 6 = .ok (.getfield 53, 3) := by decide +kernel
theorem dX0_peopleFrom_9 : decode cX0_peopleFrom 9 = .ok (.if_icmp .ge 28, 3) := by decide +kernel
theorem dX0_peopleFrom_12 : decode cX0_peopleFrom 12 = .ok (.aload_n 0, 1) := by decide +kernel
theorem dX0_peopleFrom_13 : decode cX0_peopleFrom 13 = .ok (.getfield 19, 3) := by decide +kernel
theorem dX0_peopleFrom_16 : decode cX0_peopleFrom 16 = .ok (.iload_n 3, 1) := by decide +kernel
theorem dX0_peopleFrom_17 : decode cX0_peopleFrom 17 = .ok (.iaload, 1) := by decide +kernel
theorem dX0_peopleFrom_18 : decode cX0_peopleFrom 18 = .ok (.iload_n 1, 1) := by decide +kernel
theorem dX0_peopleFrom_19 : decode cX0_peopleFrom 19 = .ok (.if_icmp .lt 12, 3) := by decide +kernel
theorem dX0_peopleFrom_22 : decode cX0_peopleFrom 22 = .ok (.iload_n 2, 1) := by decide +kernel
theorem dX0_peopleFrom_23 : decode cX0_peopleFrom 23 = .ok (.aload_n 0, 1) := by decide +kernel
theorem dX0_peopleFrom_24 : decode cX0_peopleFrom 24 = .ok (.getfield 13, 3) := by decide +kernel
theorem dX0_peopleFrom_27 : decode cX0_peopleFrom 27 = .ok (.iload_n 3, 1) := by decide +kernel
theorem dX0_peopleFrom_28 : decode cX0_peopleFrom 28 = .ok (.iaload, 1) := by decide +kernel
theorem dX0_peopleFrom_29 : decode cX0_peopleFrom 29 = .ok (.iadd, 1) := by decide +kernel
theorem dX0_peopleFrom_30 : decode cX0_peopleFrom 30 = .ok (.istore_n 2, 1) := by decide +kernel
theorem dX0_peopleFrom_31 : decode cX0_peopleFrom 31 = .ok (.iinc 3 1, 3) := by decide +kernel
theorem dX0_peopleFrom_34 : decode cX0_peopleFrom 34 = .ok (.goto (-30), 3) := by decide +kernel
theorem dX0_peopleFrom_37 : decode cX0_peopleFrom 37 = .ok (.iload_n 2, 1) := by decide +kernel
theorem dX0_peopleFrom_38 : decode cX0_peopleFrom 38 = .ok (.ireturn, 1) := by decide +kernel
theorem dX0_flowInward_0 : decode cX0_flowInward 0 = .ok (.iconst 0, 1) := by decide +kernel
theorem dX0_flowInward_1 : decode cX0_flowInward 1 = .ok (.istore_n 2, 1) := by decide +kernel
theorem dX0_flowInward_2 : decode cX0_flowInward 2 = .ok (.iconst 0, 1) := by decide +kernel
theorem dX0_flowInward_3 : decode cX0_flowInward 3 = .ok (.istore_n 3, 1) := by decide +kernel
theorem dX0_flowInward_4 : decode cX0_flowInward 4 = .ok (.iload_n 3, 1) := by decide +kernel
theorem dX0_flowInward_5 : decode cX0_flowInward 5 = .ok (.aload_n 0, 1) := by decide +kernel
theorem dX0_flowInward_6 : decode cX0_flowInward 6 = .ok (.getfield 78, 3) := by decide +kernel
theorem dX0_flowInward_9 : decode cX0_flowInward 9 = .ok (.if_icmp .ge 93, 3) := by decide +kernel
theorem dX0_flowInward_12 : decode cX0_flowInward 12 = .ok (.aload_n 0, 1) := by decide +kernel
theorem dX0_flowInward_13 : decode cX0_flowInward 13 = .ok (.getfield 19, 3) := by decide +kernel
theorem dX0_flowInward_16 : decode cX0_flowInward 16 = .ok (.aload_n 0, 1) := by decide +kernel
theorem dX0_flowInward_17 : decode cX0_flowInward 17 = .ok (.getfield 25, 3) := by decide +kernel
theorem dX0_flowInward_20 : decode cX0_flowInward 20 = .ok (.iload_n 3, 1) := by decide +kernel
theorem dX0_flowInward_21 : decode cX0_flowInward 21 = .ok (.iaload, 1) := by decide +kernel
theorem dX0_flowInward_22 : decode cX0_flowInward 22 = .ok (.iaload, 1) := by decide +kernel
theorem dX0_flowInward_23 : decode cX0_flowInward 23 = .ok (.istore 4, 2) := by decide +kernel
theorem dX0_flowInward_25 : decode cX0_flowInward 25 = .ok (.aload_n 0, 1) := by decide +kernel
theorem dX0_flowInward_26 : decode cX0_flowInward 26 = .ok (.getfield 19, 3) := by decide +kernel
theorem dX0_flowInward_29 : decode cX0_flowInward 29 = .ok (.aload_n 0, 1) := by decide +kernel
theorem dX0_flowInward_30 : decode cX0_flowInward 30 = .ok (.getfield 28, 3) := by decide +kernel
theorem dX0_flowInward_33 : decode cX0_flowInward 33 = .ok (.iload_n 3, 1) := by decide +kernel
theorem dX0_flowInward_34 : decode cX0_flowInward 34 = .ok (.iaload, 1) := by decide +kernel
theorem dX0_flowInward_35 : decode cX0_flowInward 35 = .ok (.iaload, 1) := by decide +kernel
theorem dX0_flowInward_36 : decode cX0_flowInward 36 = .ok (.istore 5, 2) := by decide +kernel
theorem dX0_flowInward_38 : decode cX0_flowInward 38 = .ok (.iload 4, 2) := by decide +kernel
theorem dX0_flowInward_40 : decode cX0_flowInward 40 = .ok (.iload_n 1, 1) := by decide +kernel
theorem dX0_flowInward_41 : decode cX0_flowInward 41 = .ok (.if_icmp .ne 11, 3) := by decide +kernel
theorem dX0_flowInward_44 : decode cX0_flowInward 44 = .ok (.iload 5, 2) := by decide +kernel
theorem dX0_flowInward_46 : decode cX0_flowInward 46 = .ok (.iload_n 1, 1) := by decide +kernel
theorem dX0_flowInward_47 : decode cX0_flowInward 47 = .ok (.iconst 1, 1) := by decide +kernel
theorem dX0_flowInward_48 : decode cX0_flowInward 48 = .ok (.isub, 1) := by decide +kernel
theorem dX0_flowInward_49 : decode cX0_flowInward 49 = .ok (.if_icmp .eq 17, 3) := by decide +kernel
theorem dX0_flowInward_52 : decode cX0_flowInward 52 = .ok (.iload 5, 2) := by decide +kernel
theorem dX0_flowInward_54 : decode cX0_flowInward 54 = .ok (.iload_n 1, 1) := by decide +kernel
theorem dX0_flowInward_55 : decode cX0_flowInward 55 = .ok (.if_icmp .ne 15, 3) := by decide +kernel
theorem dX0_flowInward_58 : decode cX0_flowInward 58 = .ok (.iload 4, 2) := by decide +kernel
theorem dX0_flowInward_60 : decode cX0_flowInward 60 = .ok (.iload_n 1, 1) := by decide +kernel
theorem dX0_flowInward_61 : decode cX0_flowInward 61 = .ok (.iconst 1, 1) := by decide +kernel
theorem dX0_flowInward_62 : decode cX0_flowInward 62 = .ok (.isub, 1) := by decide +kernel
theorem dX0_flowInward_63 : decode cX0_flowInward 63 = .ok (.if_icmp .ne 7, 3) := by decide +kernel
theorem dX0_flowInward_66 : decode cX0_flowInward 66 = .ok (.iconst 1, 1) := by decide +kernel
theorem dX0_flowInward_67 : decode cX0_flowInward 67 = .ok (.goto 4, 3) := by decide +kernel
theorem dX0_flowInward_70 : decode cX0_flowInward 70 = .ok (.iconst 0, 1) := by decide +kernel
theorem dX0_flowInward_71 : decode cX0_flowInward 71 = .ok (.istore 6, 2) := by decide +kernel
theorem dX0_flowInward_73 : decode cX0_flowInward 73 = .ok (.aload_n 0, 1) := by decide +kernel
theorem dX0_flowInward_74 : decode cX0_flowInward 74 = .ok (.getfield 37, 3) := by decide +kernel
theorem dX0_flowInward_77 : decode cX0_flowInward 77 = .ok (.iload_n 3, 1) := by decide +kernel
theorem dX0_flowInward_78 : decode cX0_flowInward 78 = .ok (.baload, 1) := by decide +kernel
theorem dX0_flowInward_79 : decode cX0_flowInward 79 = .ok (.ifCond .eq 17, 3) := by decide +kernel
theorem dX0_flowInward_82 : decode cX0_flowInward 82 = .ok (.iload 6, 2) := by decide +kernel
theorem dX0_flowInward_84 : decode cX0_flowInward 84 = .ok (.ifCond .eq 12, 3) := by decide +kernel
theorem dX0_flowInward_87 : decode cX0_flowInward 87 = .ok (.iload_n 2, 1) := by decide +kernel
theorem dX0_flowInward_88 : decode cX0_flowInward 88 = .ok (.aload_n 0, 1) := by decide +kernel
theorem dX0_flowInward_89 : decode cX0_flowInward 89 = .ok (.getfield 31, 3) := by decide +kernel
theorem dX0_flowInward_92 : decode cX0_flowInward 92 = .ok (.iload_n 3, 1) := by decide +kernel
theorem dX0_flowInward_93 : decode cX0_flowInward 93 = .ok (.iaload, 1) := by decide +kernel
theorem dX0_flowInward_94 : decode cX0_flowInward 94 = .ok (.iadd, 1) := by decide +kernel
theorem dX0_flowInward_95 : decode cX0_flowInward 95 = .ok (.istore_n 2, 1) := by decide +kernel
theorem dX0_flowInward_96 : decode cX0_flowInward 96 = .ok (.iinc 3 1, 3) := by decide +kernel
theorem dX0_flowInward_99 : decode cX0_flowInward 99 = .ok (.goto (-95), 3) := by decide +kernel
theorem dX0_flowInward_102 : decode cX0_flowInward 102 = .ok (.iload_n 2, 1) := by decide +kernel
theorem dX0_flowInward_103 : decode cX0_flowInward 103 = .ok (.ireturn, 1) := by decide +kernel
theorem dX0_passOneStep_0 : decode cX0_passOneStep 0 = .ok (.aload_n 0, 1) := by decide +kernel
theorem dX0_passOneStep_1 : decode cX0_passOneStep 1 = .ok (.invokevirtual 112, 3) := by decide +kernel
theorem dX0_passOneStep_4 : decode cX0_passOneStep 4 = .ok (.aload_n 0, 1) := by decide +kernel
theorem dX0_passOneStep_5 : decode cX0_passOneStep 5 = .ok (.getfield 13, 3) := by decide +kernel
theorem dX0_passOneStep_8 : decode cX0_passOneStep 8 = .ok (.iconst 0, 1) := by decide +kernel
theorem dX0_passOneStep_9 : decode cX0_passOneStep 9 = .ok (.iaload, 1) := by decide +kernel
theorem dX0_passOneStep_10 : decode cX0_passOneStep 10 = .ok (.istore_n 1, 1) := by decide +kernel
theorem dX0_passOneStep_11 : decode cX0_passOneStep 11 = .ok (.aload_n 0, 1) := by decide +kernel
theorem dX0_passOneStep_12 : decode cX0_passOneStep 12 = .ok (.invokevirtual 133, 3) := by decide +kernel
theorem dX0_passOneStep_15 : decode cX0_passOneStep 15 = .ok (.istore_n 2, 1) := by decide +kernel
theorem dX0_passOneStep_16 : decode cX0_passOneStep 16 = .ok (.aload_n 0, 1) := by decide +kernel
theorem dX0_passOneStep_17 : decode cX0_passOneStep 17 = .ok (.dup, 1) := by decide +kernel
theorem dX0_passOneStep_18 : decode cX0_passOneStep 18 = .ok (.getfield 99, 3) := by decide +kernel
theorem dX0_passOneStep_21 : decode cX0_passOneStep 21 = .ok (.iconst 1, 1) := by decide +kernel
theorem dX0_passOneStep_22 : decode cX0_passOneStep 22 = .ok (.iadd, 1) := by decide +kernel
theorem dX0_passOneStep_23 : decode cX0_passOneStep 23 = .ok (.putfield 99, 3) := by decide +kernel
theorem dX0_passOneStep_26 : decode cX0_passOneStep 26 = .ok (.aload_n 0, 1) := by decide +kernel
theorem dX0_passOneStep_27 : decode cX0_passOneStep 27 = .ok (.getfield 13, 3) := by decide +kernel
theorem dX0_passOneStep_30 : decode cX0_passOneStep 30 = .ok (.iconst 0, 1) := by decide +kernel
theorem dX0_passOneStep_31 : decode cX0_passOneStep 31 = .ok (.iaload, 1) := by decide +kernel
theorem dX0_passOneStep_32 : decode cX0_passOneStep 32 = .ok (.iload_n 1, 1) := by decide +kernel
theorem dX0_passOneStep_33 : decode cX0_passOneStep 33 = .ok (.if_icmp .le 11, 3) := by decide +kernel
theorem dX0_passOneStep_36 : decode cX0_passOneStep 36 = .ok (.aload_n 0, 1) := by decide +kernel
theorem dX0_passOneStep_37 : decode cX0_passOneStep 37 = .ok (.aload_n 0, 1) := by decide +kernel
theorem dX0_passOneStep_38 : decode cX0_passOneStep 38 = .ok (.getfield 99, 3) := by decide +kernel
theorem dX0_passOneStep_41 : decode cX0_passOneStep 41 = .ok (.putfield 57, 3) := by decide +kernel
theorem dX0_passOneStep_44 : decode cX0_passOneStep 44 = .ok (.aload_n 0, 1) := by decide +kernel
theorem dX0_passOneStep_45 : decode cX0_passOneStep 45 = .ok (.dup, 1) := by decide +kernel
theorem dX0_passOneStep_46 : decode cX0_passOneStep 46 = .ok (.getfield 105, 3) := by decide +kernel
theorem dX0_passOneStep_49 : decode cX0_passOneStep 49 = .ok (.aload_n 0, 1) := by decide +kernel
theorem dX0_passOneStep_50 : decode cX0_passOneStep 50 = .ok (.invokevirtual 92, 3) := by decide +kernel
theorem dX0_passOneStep_53 : decode cX0_passOneStep 53 = .ok (.iadd, 1) := by decide +kernel
theorem dX0_passOneStep_54 : decode cX0_passOneStep 54 = .ok (.putfield 105, 3) := by decide +kernel
theorem dX0_passOneStep_57 : decode cX0_passOneStep 57 = .ok (.iload_n 2, 1) := by decide +kernel
theorem dX0_passOneStep_58 : decode cX0_passOneStep 58 = .ok (.ireturn, 1) := by decide +kernel
theorem dX0_grantAll_0 : decode cX0_grantAll 0 = .ok (.iconst 0, 1) := by decide +kernel
theorem dX0_grantAll_1 : decode cX0_grantAll 1 = .ok (.istore_n 1, 1) := by decide +kernel
theorem dX0_grantAll_2 : decode cX0_grantAll 2 = .ok (.iload_n 1, 1) := by decide +kernel
theorem dX0_grantAll_3 : decode cX0_grantAll 3 = .ok (.aload_n 0, 1) := by decide +kernel
theorem dX0_grantAll_4 : decode cX0_grantAll 4 = .ok (.getfield 78, 3) := by decide +kernel
theorem dX0_grantAll_7 : decode cX0_grantAll 7 = .ok (.if_icmp .ge 16, 3) := by decide +kernel
theorem dX0_grantAll_10 : decode cX0_grantAll 10 = .ok (.aload_n 0, 1) := by decide +kernel
theorem dX0_grantAll_11 : decode cX0_grantAll 11 = .ok (.getfield 50, 3) := by decide +kernel
theorem dX0_grantAll_14 : decode cX0_grantAll 14 = .ok (.iload_n 1, 1) := by decide +kernel
theorem dX0_grantAll_15 : decode cX0_grantAll 15 = .ok (.iconst 0, 1) := by decide +kernel
theorem dX0_grantAll_16 : decode cX0_grantAll 16 = .ok (.iastore, 1) := by decide +kernel
theorem dX0_grantAll_17 : decode cX0_grantAll 17 = .ok (.iinc 1 1, 3) := by decide +kernel
theorem dX0_grantAll_20 : decode cX0_grantAll 20 = .ok (.goto (-18), 3) := by decide +kernel
theorem dX0_grantAll_23 : decode cX0_grantAll 23 = .ok (.iconst 0, 1) := by decide +kernel
theorem dX0_grantAll_24 : decode cX0_grantAll 24 = .ok (.istore_n 1, 1) := by decide +kernel
theorem dX0_grantAll_25 : decode cX0_grantAll 25 = .ok (.iload_n 1, 1) := by decide +kernel
theorem dX0_grantAll_26 : decode cX0_grantAll 26 = .ok (.aload_n 0, 1) := by decide +kernel
theorem dX0_grantAll_27 : decode cX0_grantAll 27 = .ok (.getfield 53, 3) := by decide +kernel
theorem dX0_grantAll_30 : decode cX0_grantAll 30 = .ok (.if_icmp .ge 14, 3) := by decide +kernel
theorem dX0_grantAll_33 : decode cX0_grantAll 33 = .ok (.aload_n 0, 1) := by decide +kernel
theorem dX0_grantAll_34 : decode cX0_grantAll 34 = .ok (.iload_n 1, 1) := by decide +kernel
theorem dX0_grantAll_35 : decode cX0_grantAll 35 = .ok (.invokevirtual 136, 3) := by decide +kernel
theorem dX0_grantAll_38 : decode cX0_grantAll 38 = .ok (.iinc 1 1, 3) := by decide +kernel
theorem dX0_grantAll_41 : decode cX0_grantAll 41 = .ok (.goto (-16), 3) := by decide +kernel
theorem dX0_grantAll_44 : decode cX0_grantAll 44 = .ok (.return_, 1) := by decide +kernel
theorem dX0_grantAt_0 : decode cX0_grantAt 0 = .ok (.aload_n 0, 1) := by decide +kernel
theorem dX0_grantAt_1 : decode cX0_grantAt 1 = .ok (.iload_n 1, 1) := by decide +kernel
theorem dX0_grantAt_2 : decode cX0_grantAt 2 = .ok (.invokevirtual 84, 3) := by decide +kernel
theorem dX0_grantAt_5 : decode cX0_grantAt 5 = .ok (.istore_n 2, 1) := by decide +kernel
theorem dX0_grantAt_6 : decode cX0_grantAt 6 = .ok (.iconst 0, 1) := by decide +kernel
theorem dX0_grantAt_7 : decode cX0_grantAt 7 = .ok (.istore_n 3, 1) := by decide +kernel
theorem dX0_grantAt_8 : decode cX0_grantAt 8 = .ok (.iload_n 3, 1) := by decide +kernel
theorem dX0_grantAt_9 : decode cX0_grantAt 9 = .ok (.bipush 9, 2) := by decide +kernel
theorem dX0_grantAt_11 : decode cX0_grantAt 11 = .ok (.if_icmp .ge 28, 3) := by decide +kernel
theorem dX0_grantAt_14 : decode cX0_grantAt 14 = .ok (.aload_n 0, 1) := by decide +kernel
theorem dX0_grantAt_15 : decode cX0_grantAt 15 = .ok (.iload_n 1, 1) := by decide +kernel
theorem dX0_grantAt_16 : decode cX0_grantAt 16 = .ok (.iload_n 2, 1) := by decide +kernel
theorem dX0_grantAt_17 : decode cX0_grantAt 17 = .ok (.invokevirtual 139, 3) := by decide +kernel
theorem dX0_grantAt_20 : decode cX0_grantAt 20 = .ok (.istore 4, 2) := by decide +kernel
theorem dX0_grantAt_22 : decode cX0_grantAt 22 = .ok (.iload 4, 2) := by decide +kernel
theorem dX0_grantAt_24 : decode cX0_grantAt 24 = .ok (.ifCond .ne 4, 3) := by decide +kernel
theorem dX0_grantAt_27 : decode cX0_grantAt 27 = .ok (.return_, 1) := by decide +kernel
theorem dX0_grantAt_28 : decode cX0_grantAt 28 = .ok (.iload_n 2, 1) := by decide +kernel
theorem dX0_grantAt_29 : decode cX0_grantAt 29 = .ok (.iload 4, 2) := by decide +kernel
theorem dX0_grantAt_31 : decode cX0_grantAt 31 = .ok (.isub, 1) := by decide +kernel
theorem dX0_grantAt_32 : decode cX0_grantAt 32 = .ok (.istore_n 2, 1) := by decide +kernel
theorem dX0_grantAt_33 : decode cX0_grantAt 33 = .ok (.iinc 3 1, 3) := by decide +kernel
theorem dX0_grantAt_36 : decode cX0_grantAt 36 = .ok (.goto (-28), 3) := by decide +kernel
theorem dX0_grantAt_39 : decode cX0_grantAt 39 = .ok (.return_, 1) := by decide +kernel
theorem dX0_grantRound_0 : decode cX0_grantRound 0 = .ok (.iload_n 2, 1) := by decide +kernel
theorem dX0_grantRound_1 : decode cX0_grantRound 1 = .ok (.istore_n 3, 1) := by decide +kernel
theorem dX0_grantRound_2 : decode cX0_grantRound 2 = .ok (.iconst 0, 1) := by decide +kernel
theorem dX0_grantRound_3 : decode cX0_grantRound 3 = .ok (.istore 4, 2) := by decide +kernel
theorem dX0_grantRound_5 : decode cX0_grantRound 5 = .ok (.iload 4, 2) := by decide +kernel
theorem dX0_grantRound_7 : decode cX0_grantRound 7 = .ok (.aload_n 0, 1) := by decide +kernel
theorem dX0_grantRound_8 : decode cX0_grantRound 8 = .ok (.getfield 78, 3) := by decide +kernel
theorem dX0_grantRound_11 : decode cX0_grantRound 11 = .ok (.if_icmp .ge 71, 3) := by decide +kernel
theorem dX0_grantRound_14 : decode cX0_grantRound 14 = .ok (.aload_n 0, 1) := by decide +kernel
theorem dX0_grantRound_15 : decode cX0_grantRound 15 = .ok (.getfield 47, 3) := by decide +kernel
theorem dX0_grantRound_18 : decode cX0_grantRound 18 = .ok (.iload 4, 2) := by decide +kernel
theorem dX0_grantRound_20 : decode cX0_grantRound 20 = .ok (.iaload, 1) := by decide +kernel
theorem dX0_grantRound_21 : decode cX0_grantRound 21 = .ok (.iload_n 1, 1) := by decide +kernel
theorem dX0_grantRound_22 : decode cX0_grantRound 22 = .ok (.if_icmp .ne 54, 3) := by decide +kernel
theorem dX0_grantRound_25 : decode cX0_grantRound 25 = .ok (.aload_n 0, 1) := by decide +kernel
theorem dX0_grantRound_26 : decode cX0_grantRound 26 = .ok (.iload 4, 2) := by decide +kernel
theorem dX0_grantRound_28 : decode cX0_grantRound 28 = .ok (.invokevirtual 142, 3) := by decide +kernel
theorem dX0_grantRound_31 : decode cX0_grantRound 31 = .ok (.aload_n 0, 1) := by decide +kernel
theorem dX0_grantRound_32 : decode cX0_grantRound 32 = .ok (.getfield 50, 3) := by decide +kernel
theorem dX0_grantRound_35 : decode cX0_grantRound 35 = .ok (.iload 4, 2) := by decide +kernel
theorem dX0_grantRound_37 : decode cX0_grantRound 37 = .ok (.iaload, 1) := by decide +kernel
theorem dX0_grantRound_38 : decode cX0_grantRound 38 = .ok (.isub, 1) := by decide +kernel
theorem dX0_grantRound_39 : decode cX0_grantRound 39 = .ok (.istore 5, 2) := by decide +kernel
theorem dX0_grantRound_41 : decode cX0_grantRound 41 = .ok (.aload_n 0, 1) := by decide +kernel
theorem dX0_grantRound_42 : decode cX0_grantRound 42 = .ok (.getfield 34, 3) := by decide +kernel
theorem dX0_grantRound_45 : decode cX0_grantRound 45 = .ok (.iload 4, 2) := by decide +kernel
theorem dX0_grantRound_47 : decode cX0_grantRound 47 = .ok (.iaload, 1) := by decide +kernel
theorem dX0_grantRound_48 : decode cX0_grantRound 48 = .ok (.iload 5, 2) := by decide +kernel
theorem dX0_grantRound_50 : decode cX0_grantRound 50 = .ok (.invokestatic 145, 3) := by decide +kernel
theorem dX0_grantRound_53 : decode cX0_grantRound 53 = .ok (.iload_n 3, 1) := by decide +kernel
theorem dX0_grantRound_54 : decode cX0_grantRound 54 = .ok (.invokestatic 145, 3) := by decide +kernel
theorem dX0_grantRound_57 : decode cX0_grantRound 57 = .ok (.istore 6, 2) := by decide +kernel
theorem dX0_grantRound_59 : decode cX0_grantRound 59 = .ok (.aload_n 0, 1) := by decide +kernel
theorem dX0_grantRound_60 : decode cX0_grantRound 60 = .ok (.getfield 50, 3) := by decide +kernel
theorem dX0_grantRound_63 : decode cX0_grantRound 63 = .ok (.iload 4, 2) := by decide +kernel
theorem dX0_grantRound_65 : decode cX0_grantRound 65 = .ok (.dup2, 1) := by decide +kernel
theorem dX0_grantRound_66 : decode cX0_grantRound 66 = .ok (.iaload, 1) := by decide +kernel
theorem dX0_grantRound_67 : decode cX0_grantRound 67 = .ok (.iload 6, 2) := by decide +kernel
theorem dX0_grantRound_69 : decode cX0_grantRound 69 = .ok (.iadd, 1) := by decide +kernel
theorem dX0_grantRound_70 : decode cX0_grantRound 70 = .ok (.iastore, 1) := by decide +kernel
theorem dX0_grantRound_71 : decode cX0_grantRound 71 = .ok (.iload_n 3, 1) := by decide +kernel
theorem dX0_grantRound_72 : decode cX0_grantRound 72 = .ok (.iload 6, 2) := by decide +kernel
theorem dX0_grantRound_74 : decode cX0_grantRound 74 = .ok (.isub, 1) := by decide +kernel
theorem dX0_grantRound_75 : decode cX0_grantRound 75 = .ok (.istore_n 3, 1) := by decide +kernel
theorem dX0_grantRound_76 : decode cX0_grantRound 76 = .ok (.iinc 4 1, 3) := by decide +kernel
theorem dX0_grantRound_79 : decode cX0_grantRound 79 = .ok (.goto (-74), 3) := by decide +kernel
theorem dX0_grantRound_82 : decode cX0_grantRound 82 = .ok (.iload_n 2, 1) := by decide +kernel
theorem dX0_grantRound_83 : decode cX0_grantRound 83 = .ok (.iload_n 3, 1) := by decide +kernel
theorem dX0_grantRound_84 : decode cX0_grantRound 84 = .ok (.isub, 1) := by decide +kernel
theorem dX0_grantRound_85 : decode cX0_grantRound 85 = .ok (.ireturn, 1) := by decide +kernel
theorem dX0_wishBy_0 : decode cX0_wishBy 0 = .ok (.aload_n 0, 1) := by decide +kernel
theorem dX0_wishBy_1 : decode cX0_wishBy 1 = .ok (.getfield 44, 3) := by decide +kernel
theorem dX0_wishBy_4 : decode cX0_wishBy 4 = .ok (.iload_n 1, 1) := by decide +kernel
theorem dX0_wishBy_5 : decode cX0_wishBy 5 = .ok (.iaload, 1) := by decide +kernel
theorem dX0_wishBy_6 : decode cX0_wishBy 6 = .ok (.istore_n 2, 1) := by decide +kernel
theorem dX0_wishBy_7 : decode cX0_wishBy 7 = .ok (.aload_n 0, 1) := by decide +kernel
theorem dX0_wishBy_8 : decode cX0_wishBy 8 = .ok (.iload_n 2, 1) := by decide +kernel
theorem dX0_wishBy_9 : decode cX0_wishBy 9 = .ok (.invokevirtual 148, 3) := by decide +kernel
theorem dX0_wishBy_12 : decode cX0_wishBy 12 = .ok (.ifCond .eq 16, 3) := by decide +kernel
theorem dX0_wishBy_15 : decode cX0_wishBy 15 = .ok (.aload_n 0, 1) := by decide +kernel
theorem dX0_wishBy_16 : decode cX0_wishBy 16 = .ok (.getfield 16, 3) := by decide +kernel
theorem dX0_wishBy_19 : decode cX0_wishBy 19 = .ok (.iload_n 2, 1) := by decide +kernel
theorem dX0_wishBy_20 : decode cX0_wishBy 20 = .ok (.iaload, 1) := by decide +kernel
theorem dX0_wishBy_21 : decode cX0_wishBy 21 = .ok (.aload_n 0, 1) := by decide +kernel
theorem dX0_wishBy_22 : decode cX0_wishBy 22 = .ok (.getfield 99, 3) := by decide +kernel
theorem dX0_wishBy_25 : decode cX0_wishBy 25 = .ok (.if_icmp .le 5, 3) := by decide +kernel
theorem dX0_wishBy_28 : decode cX0_wishBy 28 = .ok (.iconst 0, 1) := by decide +kernel
theorem dX0_wishBy_29 : decode cX0_wishBy 29 = .ok (.ireturn, 1) := by decide +kernel
theorem dX0_wishBy_30 : decode cX0_wishBy 30 = .ok (.aload_n 0, 1) := by decide +kernel
theorem dX0_wishBy_31 : decode cX0_wishBy 31 = .ok (.getfield 13, 3) := by decide +kernel
theorem dX0_wishBy_34 : decode cX0_wishBy 34 = .ok (.iload_n 2, 1) := by decide +kernel
theorem dX0_wishBy_35 : decode cX0_wishBy 35 = .ok (.iaload, 1) := by decide +kernel
theorem dX0_wishBy_36 : decode cX0_wishBy 36 = .ok (.aload_n 0, 1) := by decide +kernel
theorem dX0_wishBy_37 : decode cX0_wishBy 37 = .ok (.getfield 31, 3) := by decide +kernel
theorem dX0_wishBy_40 : decode cX0_wishBy 40 = .ok (.iload_n 1, 1) := by decide +kernel
theorem dX0_wishBy_41 : decode cX0_wishBy 41 = .ok (.iaload, 1) := by decide +kernel
theorem dX0_wishBy_42 : decode cX0_wishBy 42 = .ok (.invokestatic 145, 3) := by decide +kernel
theorem dX0_wishBy_45 : decode cX0_wishBy 45 = .ok (.ireturn, 1) := by decide +kernel
theorem dX0_moveGranted_0 : decode cX0_moveGranted 0 = .ok (.iconst 0, 1) := by decide +kernel
theorem dX0_moveGranted_1 : decode cX0_moveGranted 1 = .ok (.istore_n 1, 1) := by decide +kernel
theorem dX0_moveGranted_2 : decode cX0_moveGranted 2 = .ok (.iconst 0, 1) := by decide +kernel
theorem dX0_moveGranted_3 : decode cX0_moveGranted 3 = .ok (.istore_n 2, 1) := by decide +kernel
theorem dX0_moveGranted_4 : decode cX0_moveGranted 4 = .ok (.iload_n 2, 1) := by decide +kernel
theorem dX0_moveGranted_5 : decode cX0_moveGranted 5 = .ok (.aload_n 0, 1) := by decide +kernel
theorem dX0_moveGranted_6 : decode cX0_moveGranted 6 = .ok (.getfield 78, 3) := by decide +kernel
theorem dX0_moveGranted_9 : decode cX0_moveGranted 9 = .ok (.if_icmp .ge 96, 3) := by decide +kernel
theorem dX0_moveGranted_12 : decode cX0_moveGranted 12 = .ok (.aload_n 0, 1) := by decide +kernel
theorem dX0_moveGranted_13 : decode cX0_moveGranted 13 = .ok (.getfield 44, 3) := by decide +kernel
theorem dX0_moveGranted_16 : decode cX0_moveGranted 16 = .ok (.iload_n 2, 1) := by decide +kernel
theorem dX0_moveGranted_17 : decode cX0_moveGranted 17 = .ok (.iaload, 1) := by decide +kernel
theorem dX0_moveGranted_18 : decode cX0_moveGranted 18 = .ok (.istore_n 3, 1) := by decide +kernel
theorem dX0_moveGranted_19 : decode cX0_moveGranted 19 = .ok (.aload_n 0, 1) := by decide +kernel
theorem dX0_moveGranted_20 : decode cX0_moveGranted 20 = .ok (.getfield 47, 3) := by decide +kernel
theorem dX0_moveGranted_23 : decode cX0_moveGranted 23 = .ok (.iload_n 2, 1) := by decide +kernel
theorem dX0_moveGranted_24 : decode cX0_moveGranted 24 = .ok (.iaload, 1) := by decide +kernel
theorem dX0_moveGranted_25 : decode cX0_moveGranted 25 = .ok (.istore 4, 2) := by decide +kernel
theorem dX0_moveGranted_27 : decode cX0_moveGranted 27 = .ok (.aload_n 0, 1) := by decide +kernel
theorem dX0_moveGranted_28 : decode cX0_moveGranted 28 = .ok (.iload_n 3, 1) := by decide +kernel
theorem dX0_moveGranted_29 : decode cX0_moveGranted 29 = .ok (.invokevirtual 148, 3) := by decide +kernel
theorem dX0_moveGranted_32 : decode cX0_moveGranted 32 = .ok (.ifCond .eq 67, 3) := by decide +kernel
theorem dX0_moveGranted_35 : decode cX0_moveGranted 35 = .ok (.aload_n 0, 1) := by decide +kernel
theorem dX0_moveGranted_36 : decode cX0_moveGranted 36 = .ok (.iload 4, 2) := by decide +kernel
theorem dX0_moveGranted_38 : decode cX0_moveGranted 38 = .ok (.invokevirtual 148, 3) := by decide +kernel
theorem dX0_moveGranted_41 : decode cX0_moveGranted 41 = .ok (.ifCond .eq 58, 3) := by decide +kernel
theorem dX0_moveGranted_44 : decode cX0_moveGranted 44 = .ok (.aload_n 0, 1) := by decide +kernel
theorem dX0_moveGranted_45 : decode cX0_moveGranted 45 = .ok (.getfield 13, 3) := by decide +kernel
theorem dX0_moveGranted_48 : decode cX0_moveGranted 48 = .ok (.iload_n 3, 1) := by decide +kernel
theorem dX0_moveGranted_49 : decode cX0_moveGranted 49 = .ok (.dup2, 1) := by decide +kernel
theorem dX0_moveGranted_50 : decode cX0_moveGranted 50 = .ok (.iaload, 1) := by decide +kernel
theorem dX0_moveGranted_51 : decode cX0_moveGranted 51 = .ok (.aload_n 0, 1) := by decide +kernel
theorem dX0_moveGranted_52 : decode cX0_moveGranted 52 = .ok (.getfield 50, 3) := by decide +kernel
theorem dX0_moveGranted_55 : decode cX0_moveGranted 55 = .ok (.iload_n 2, 1) := by decide +kernel
theorem dX0_moveGranted_56 : decode cX0_moveGranted 56 = .ok (.iaload, 1) := by decide +kernel
theorem dX0_moveGranted_57 : decode cX0_moveGranted 57 = .ok (.isub, 1) := by decide +kernel
theorem dX0_moveGranted_58 : decode cX0_moveGranted 58 = .ok (.iastore, 1) := by decide +kernel
theorem dX0_moveGranted_59 : decode cX0_moveGranted 59 = .ok (.aload_n 0, 1) := by decide +kernel
theorem dX0_moveGranted_60 : decode cX0_moveGranted 60 = .ok (.getfield 13, 3) := by decide +kernel
theorem dX0_moveGranted_63 : decode cX0_moveGranted 63 = .ok (.iload 4, 2) := by decide +kernel
theorem dX0_moveGranted_65 : decode cX0_moveGranted 65 = .ok (.dup2, 1) := by decide +kernel
theorem dX0_moveGranted_66 : decode cX0_moveGranted 66 = .ok (.iaload, 1) := by decide +kernel
theorem dX0_moveGranted_67 : decode cX0_moveGranted 67 = .ok (.aload_n 0, 1) := by decide +kernel
theorem dX0_moveGranted_68 : decode cX0_moveGranted 68 = .ok (.getfield 50, 3) := by decide +kernel
theorem dX0_moveGranted_71 : decode cX0_moveGranted 71 = .ok (.iload_n 2, 1) := by decide +kernel
theorem dX0_moveGranted_72 : decode cX0_moveGranted 72 = .ok (.iaload, 1) := by decide +kernel
theorem dX0_moveGranted_73 : decode cX0_moveGranted 73 = .ok (.iadd, 1) := by decide +kernel
theorem dX0_moveGranted_74 : decode cX0_moveGranted 74 = .ok (.iastore, 1) := by decide +kernel
theorem dX0_moveGranted_75 : decode cX0_moveGranted 75 = .ok (.aload_n 0, 1) := by decide +kernel
theorem dX0_moveGranted_76 : decode cX0_moveGranted 76 = .ok (.getfield 41, 3) := by decide +kernel
theorem dX0_moveGranted_79 : decode cX0_moveGranted 79 = .ok (.iload_n 2, 1) := by decide +kernel
theorem dX0_moveGranted_80 : decode cX0_moveGranted 80 = .ok (.dup2, 1) := by decide +kernel
theorem dX0_moveGranted_81 : decode cX0_moveGranted 81 = .ok (.iaload, 1) := by decide +kernel
theorem dX0_moveGranted_82 : decode cX0_moveGranted 82 = .ok (.aload_n 0, 1) := by decide +kernel
theorem dX0_moveGranted_83 : decode cX0_moveGranted 83 = .ok (.getfield 50, 3) := by decide +kernel
theorem dX0_moveGranted_86 : decode cX0_moveGranted 86 = .ok (.iload_n 2, 1) := by decide +kernel
theorem dX0_moveGranted_87 : decode cX0_moveGranted 87 = .ok (.iaload, 1) := by decide +kernel
theorem dX0_moveGranted_88 : decode cX0_moveGranted 88 = .ok (.iadd, 1) := by decide +kernel
theorem dX0_moveGranted_89 : decode cX0_moveGranted 89 = .ok (.iastore, 1) := by decide +kernel
theorem dX0_moveGranted_90 : decode cX0_moveGranted 90 = .ok (.iload_n 1, 1) := by decide +kernel
theorem dX0_moveGranted_91 : decode cX0_moveGranted 91 = .ok (.aload_n 0, 1) := by decide +kernel
theorem dX0_moveGranted_92 : decode cX0_moveGranted 92 = .ok (.getfield 50, 3) := by decide +kernel
theorem dX0_moveGranted_95 : decode cX0_moveGranted 95 = .ok (.iload_n 2, 1) := by decide +kernel
theorem dX0_moveGranted_96 : decode cX0_moveGranted 96 = .ok (.iaload, 1) := by decide +kernel
theorem dX0_moveGranted_97 : decode cX0_moveGranted 97 = .ok (.iadd, 1) := by decide +kernel
theorem dX0_moveGranted_98 : decode cX0_moveGranted 98 = .ok (.istore_n 1, 1) := by decide +kernel
theorem dX0_moveGranted_99 : decode cX0_moveGranted 99 = .ok (.iinc 2 1, 3) := by decide +kernel
theorem dX0_moveGranted_102 : decode cX0_moveGranted 102 = .ok (.goto (-98), 3) := by decide +kernel
theorem dX0_moveGranted_105 : decode cX0_moveGranted 105 = .ok (.iload_n 1, 1) := by decide +kernel
theorem dX0_moveGranted_106 : decode cX0_moveGranted 106 = .ok (.ireturn, 1) := by decide +kernel
theorem dX0_roomLeft_0 : decode cX0_roomLeft 0 = .ok (.iload_n 1, 1) := by decide +kernel
theorem dX0_roomLeft_1 : decode cX0_roomLeft 1 = .ok (.ifCond .ne 8, 3) := by decide +kernel
theorem dX0_roomLeft_4 : decode cX0_roomLeft 4 = .ok (.ldc 153, 2) := by decide +kernel
theorem dX0_roomLeft_6 : decode cX0_roomLeft 6 = .ok (.goto 16, 3) := by decide +kernel
theorem dX0_roomLeft_9 : decode cX0_roomLeft 9 = .ok (.aload_n 0, 1) := by decide +kernel
theorem dX0_roomLeft_10 : decode cX0_roomLeft 10 = .ok (.getfield 9, 3) := by decide +kernel
theorem dX0_roomLeft_13 : decode cX0_roomLeft 13 = .ok (.iload_n 1, 1) := by decide +kernel
theorem dX0_roomLeft_14 : decode cX0_roomLeft 14 = .ok (.iaload, 1) := by decide +kernel
theorem dX0_roomLeft_15 : decode cX0_roomLeft 15 = .ok (.aload_n 0, 1) := by decide +kernel
theorem dX0_roomLeft_16 : decode cX0_roomLeft 16 = .ok (.getfield 13, 3) := by decide +kernel
theorem dX0_roomLeft_19 : decode cX0_roomLeft 19 = .ok (.iload_n 1, 1) := by decide +kernel
theorem dX0_roomLeft_20 : decode cX0_roomLeft 20 = .ok (.iaload, 1) := by decide +kernel
theorem dX0_roomLeft_21 : decode cX0_roomLeft 21 = .ok (.isub, 1) := by decide +kernel
theorem dX0_roomLeft_22 : decode cX0_roomLeft 22 = .ok (.ireturn, 1) := by decide +kernel
theorem dX0_areAllReleased_0 : decode cX0_areAllReleased 0 = .ok (.iconst 0, 1) := by decide +kernel
theorem dX0_areAllReleased_1 : decode cX0_areAllReleased 1 = .ok (.istore_n 1, 1) := by decide +kernel
theorem dX0_areAllReleased_2 : decode cX0_areAllReleased 2 = .ok (.iload_n 1, 1) := by decide +kernel
theorem dX0_areAllReleased_3 : decode cX0_areAllReleased 3 = .ok (.aload_n 0, 1) := by decide +kernel
theorem dX0_areAllReleased_4 : decode cX0_areAllReleased 4 = .ok (.getfield 53, 3) := by decide +kernel
theorem dX0_areAllReleased_7 : decode cX0_areAllReleased 7 = .ok (.if_icmp .ge 24, 3) := by decide +kernel
theorem dX0_areAllReleased_10 : decode cX0_areAllReleased 10 = .ok (.aload_n 0, 1) := by decide +kernel
theorem dX0_areAllReleased_11 : decode cX0_areAllReleased 11 = .ok (.getfield 16, 3) := by decide +kernel
theorem dX0_areAllReleased_14 : decode cX0_areAllReleased 14 = .ok (.iload_n 1, 1) := by decide +kernel
theorem dX0_areAllReleased_15 : decode cX0_areAllReleased 15 = .ok (.iaload, 1) := by decide +kernel
theorem dX0_areAllReleased_16 : decode cX0_areAllReleased 16 = .ok (.aload_n 0, 1) := by decide +kernel
theorem dX0_areAllReleased_17 : decode cX0_areAllReleased 17 = .ok (.getfield 99, 3) := by decide +kernel
theorem dX0_areAllReleased_20 : decode cX0_areAllReleased 20 = .ok (.if_icmp .le 5, 3) := by decide +kernel
theorem dX0_areAllReleased_23 : decode cX0_areAllReleased 23 = .ok (.iconst 0, 1) := by decide +kernel
theorem dX0_areAllReleased_24 : decode cX0_areAllReleased 24 = .ok (.ireturn, 1) := by decide +kernel
theorem dX0_areAllReleased_25 : decode cX0_areAllReleased 25 = .ok (.iinc 1 1, 3) := by decide +kernel
theorem dX0_areAllReleased_28 : decode cX0_areAllReleased 28 = .ok (.goto (-26), 3) := by decide +kernel
theorem dX0_areAllReleased_31 : decode cX0_areAllReleased 31 = .ok (.iconst 1, 1) := by decide +kernel
theorem dX0_areAllReleased_32 : decode cX0_areAllReleased 32 = .ok (.ireturn, 1) := by decide +kernel
theorem dX0_findWays_0 : decode cX0_findWays 0 = .ok (.aload_n 0, 1) := by decide +kernel
theorem dX0_findWays_1 : decode cX0_findWays 1 = .ok (.invokevirtual 154, 3) := by decide +kernel
theorem dX0_findWays_4 : decode cX0_findWays 4 = .ok (.iconst 0, 1) := by decide +kernel
theorem dX0_findWays_5 : decode cX0_findWays 5 = .ok (.istore_n 1, 1) := by decide +kernel
theorem dX0_findWays_6 : decode cX0_findWays 6 = .ok (.iload_n 1, 1) := by decide +kernel
theorem dX0_findWays_7 : decode cX0_findWays 7 = .ok (.aload_n 0, 1) := by decide +kernel
theorem dX0_findWays_8 : decode cX0_findWays 8 = .ok (.getfield 53, 3) := by decide +kernel
theorem dX0_findWays_11 : decode cX0_findWays 11 = .ok (.if_icmp .ge 16, 3) := by decide +kernel
theorem dX0_findWays_14 : decode cX0_findWays 14 = .ok (.aload_n 0, 1) := by decide +kernel
theorem dX0_findWays_15 : decode cX0_findWays 15 = .ok (.getfield 22, 3) := by decide +kernel
theorem dX0_findWays_18 : decode cX0_findWays 18 = .ok (.iload_n 1, 1) := by decide +kernel
theorem dX0_findWays_19 : decode cX0_findWays 19 = .ok (.iconst (-1), 1) := by decide +kernel
theorem dX0_findWays_20 : decode cX0_findWays 20 = .ok (.iastore, 1) := by decide +kernel
theorem dX0_findWays_21 : decode cX0_findWays 21 = .ok (.iinc 1 1, 3) := by decide +kernel
theorem dX0_findWays_24 : decode cX0_findWays 24 = .ok (.goto (-18), 3) := by decide +kernel
theorem dX0_findWays_27 : decode cX0_findWays 27 = .ok (.iconst 0, 1) := by decide +kernel
theorem dX0_findWays_28 : decode cX0_findWays 28 = .ok (.istore_n 1, 1) := by decide +kernel
theorem dX0_findWays_29 : decode cX0_findWays 29 = .ok (.iload_n 1, 1) := by decide +kernel
theorem dX0_findWays_30 : decode cX0_findWays 30 = .ok (.aload_n 0, 1) := by decide +kernel
theorem dX0_findWays_31 : decode cX0_findWays 31 = .ok (.getfield 78, 3) := by decide +kernel
theorem dX0_findWays_34 : decode cX0_findWays 34 = .ok (.if_icmp .ge 57, 3) := by decide +kernel
theorem dX0_findWays_37 : decode cX0_findWays 37 = .ok (.aload_n 0, 1) := by decide +kernel
theorem dX0_findWays_38 : decode cX0_findWays 38 = .ok (.getfield 44, 3) := by decide +kernel
theorem dX0_findWays_41 : decode cX0_findWays 41 = .ok (.iload_n 1, 1) := by decide +kernel
theorem dX0_findWays_42 : decode cX0_findWays 42 = .ok (.iconst (-1), 1) := by decide +kernel
theorem dX0_findWays_43 : decode cX0_findWays 43 = .ok (.iastore, 1) := by decide +kernel
theorem dX0_findWays_44 : decode cX0_findWays 44 = .ok (.aload_n 0, 1) := by decide +kernel
theorem dX0_findWays_45 : decode cX0_findWays 45 = .ok (.getfield 47, 3) := by decide +kernel
theorem dX0_findWays_48 : decode cX0_findWays 48 = .ok (.iload_n 1, 1) := by decide +kernel
theorem dX0_findWays_49 : decode cX0_findWays 49 = .ok (.iconst (-1), 1) := by decide +kernel
theorem dX0_findWays_50 : decode cX0_findWays 50 = .ok (.iastore, 1) := by decide +kernel
theorem dX0_findWays_51 : decode cX0_findWays 51 = .ok (.aload_n 0, 1) := by decide +kernel
theorem dX0_findWays_52 : decode cX0_findWays 52 = .ok (.iload_n 1, 1) := by decide +kernel
theorem dX0_findWays_53 : decode cX0_findWays 53 = .ok (.aload_n 0, 1) := by decide +kernel
theorem dX0_findWays_54 : decode cX0_findWays 54 = .ok (.getfield 25, 3) := by decide +kernel
theorem dX0_findWays_57 : decode cX0_findWays 57 = .ok (.iload_n 1, 1) := by decide +kernel
theorem dX0_findWays_58 : decode cX0_findWays 58 = .ok (.iaload, 1) := by decide +kernel
theorem dX0_findWays_59 : decode cX0_findWays 59 = .ok (.aload_n 0, 1) := by decide +kernel
theorem dX0_findWays_60 : decode cX0_findWays 60 = .ok (.getfield 28, 3) := by decide +kernel
theorem dX0_findWays_63 : decode cX0_findWays 63 = .ok (.iload_n 1, 1) := by decide +kernel
theorem dX0_findWays_64 : decode cX0_findWays 64 = .ok (.iaload, 1) := by decide +kernel
theorem dX0_findWays_65 : decode cX0_findWays 65 = .ok (.invokevirtual 157, 3) := by decide +kernel
theorem dX0_findWays_68 : decode cX0_findWays 68 = .ok (.aload_n 0, 1) := by decide +kernel
theorem dX0_findWays_69 : decode cX0_findWays 69 = .ok (.iload_n 1, 1) := by decide +kernel
theorem dX0_findWays_70 : decode cX0_findWays 70 = .ok (.aload_n 0, 1) := by decide +kernel
theorem dX0_findWays_71 : decode cX0_findWays 71 = .ok (.getfield 28, 3) := by decide +kernel
theorem dX0_findWays_74 : decode cX0_findWays 74 = .ok (.iload_n 1, 1) := by decide +kernel
theorem dX0_findWays_75 : decode cX0_findWays 75 = .ok (.iaload, 1) := by decide +kernel
theorem dX0_findWays_76 : decode cX0_findWays 76 = .ok (.aload_n 0, 1) := by decide +kernel
theorem dX0_findWays_77 : decode cX0_findWays 77 = .ok (.getfield 25, 3) := by decide +kernel
theorem dX0_findWays_80 : decode cX0_findWays 80 = .ok (.iload_n 1, 1) := by decide +kernel
theorem dX0_findWays_81 : decode cX0_findWays 81 = .ok (.iaload, 1) := by decide +kernel
theorem dX0_findWays_82 : decode cX0_findWays 82 = .ok (.invokevirtual 157, 3) := by decide +kernel
theorem dX0_findWays_85 : decode cX0_findWays 85 = .ok (.iinc 1 1, 3) := by decide +kernel
theorem dX0_findWays_88 : decode cX0_findWays 88 = .ok (.goto (-59), 3) := by decide +kernel
theorem dX0_findWays_91 : decode cX0_findWays 91 = .ok (.return_, 1) := by decide +kernel
theorem dX0_measureDistances_0 : decode cX0_measureDistances 0 = .ok (.aload_n 0, 1) := by decide +kernel
theorem dX0_measureDistances_1 : decode cX0_measureDistances 1 = .ok (.getfield 19, 3) := by decide +kernel
theorem dX0_measureDistances_4 : decode cX0_measureDistances 4 = .ok (.iconst 0, 1) := by decide +kernel
theorem dX0_measureDistances_5 : decode cX0_measureDistances 5 = .ok (.iconst 0, 1) := by decide +kernel
theorem dX0_measureDistances_6 : decode cX0_measureDistances 6 = .ok (.iastore, 1) := by decide +kernel
theorem dX0_measureDistances_7 : decode cX0_measureDistances 7 = .ok (.iconst 1, 1) := by decide +kernel
theorem dX0_measureDistances_8 : decode cX0_measureDistances 8 = .ok (.istore_n 1, 1) := by decide +kernel
theorem dX0_measureDistances_9 : decode cX0_measureDistances 9 = .ok (.iload_n 1, 1) := by decide +kernel
theorem dX0_measureDistances_10 : decode cX0_measureDistances 10 = .ok (.aload_n 0, 1) := by decide +kernel
theorem dX0_measureDistances_11 : decode cX0_measureDistances 11 = .ok (.getfield 53, 3) := by decide +kernel
theorem dX0_measureDistances_14 : decode cX0_measureDistances 14 = .ok (.if_icmp .ge 16, 3) := by decide +kernel
theorem dX0_measureDistances_17 : decode cX0_measureDistances 17 = .ok (.aload_n 0, 1) := by decide +kernel
theorem dX0_measureDistances_18 : decode cX0_measureDistances 18 = .ok (.getfield 19, 3) := by decide +kernel
theorem dX0_measureDistances_21 : decode cX0_measureDistances 21 = .ok (.iload_n 1, 1) := by decide +kernel
theorem dX0_measureDistances_22 : decode cX0_measureDistances 22 = .ok (.iconst (-1), 1) := by decide +kernel
theorem dX0_measureDistances_23 : decode cX0_measureDistances 23 = .ok (.iastore, 1) := by decide +kernel
theorem dX0_measureDistances_24 : decode cX0_measureDistances 24 = .ok (.iinc 1 1, 3) := by decide +kernel
theorem dX0_measureDistances_27 : decode cX0_measureDistances 27 = .ok (.goto (-18), 3) := by decide +kernel
theorem dX0_measureDistances_30 : decode cX0_measureDistances 30 = .ok (.iconst 1, 1) := by decide +kernel
theorem dX0_measureDistances_31 : decode cX0_measureDistances 31 = .ok (.istore_n 1, 1) := by decide +kernel
theorem dX0_measureDistances_32 : decode cX0_measureDistances 32 = .ok (.iload_n 1, 1) := by decide +kernel
theorem dX0_measureDistances_33 : decode cX0_measureDistances 33 = .ok (.aload_n 0, 1) := by decide +kernel
theorem dX0_measureDistances_34 : decode cX0_measureDistances 34 = .ok (.getfield 53, 3) := by decide +kernel
theorem dX0_measureDistances_37 : decode cX0_measureDistances 37 = .ok (.if_icmp .ge 68, 3) := by decide +kernel
theorem dX0_measureDistances_40 : decode cX0_measureDistances 40 = .ok (.iconst 0, 1) := by decide +kernel
theorem dX0_measureDistances_41 : decode cX0_measureDistances 41 = .ok (.istore_n 2, 1) := by decide +kernel
theorem dX0_measureDistances_42 : decode cX0_measureDistances 42 = .ok (.iload_n 2, 1) := by decide +kernel
theorem dX0_measureDistances_43 : decode cX0_measureDistances 43 = .ok (.aload_n 0, 1) := by decide +kernel
theorem dX0_measureDistances_44 : decode cX0_measureDistances 44 = .ok (.getfield 78, 3) := by decide +kernel
theorem dX0_measureDistances_47 : decode cX0_measureDistances 47 = .ok (.if_icmp .ge 52, 3) := by decide +kernel
theorem dX0_measureDistances_50 : decode cX0_measureDistances 50 = .ok (.aload_n 0, 1) := by decide +kernel
theorem dX0_measureDistances_51 : decode cX0_measureDistances 51 = .ok (.getfield 37, 3) := by decide +kernel
theorem dX0_measureDistances_54 : decode cX0_measureDistances 54 = .ok (.iload_n 2, 1) := by decide +kernel
theorem dX0_measureDistances_55 : decode cX0_measureDistances 55 = .ok (.baload, 1) := by decide +kernel
theorem dX0_measureDistances_56 : decode cX0_measureDistances 56 = .ok (.ifCond .eq 37, 3) := by decide +kernel
theorem dX0_measureDistances_59 : decode cX0_measureDistances 59 = .ok (.aload_n 0, 1) := by decide +kernel
theorem dX0_measureDistances_60 : decode cX0_measureDistances 60 = .ok (.aload_n 0, 1) := by decide +kernel
theorem dX0_measureDistances_61 : decode cX0_measureDistances 61 = .ok (.getfield 25, 3) := by decide +kernel
theorem dX0_measureDistances_64 : decode cX0_measureDistances 64 = .ok (.iload_n 2, 1) := by decide +kernel
theorem dX0_measureDistances_65 : decode cX0_measureDistances 65 = .ok (.iaload, 1) := by decide +kernel
theorem dX0_measureDistances_66 : decode cX0_measureDistances 66 = .ok (.aload_n 0, 1) := by decide +kernel
theorem dX0_measureDistances_67 : decode cX0_measureDistances 67 = .ok (.getfield 28, 3) := by decide +kernel
theorem dX0_measureDistances_70 : decode cX0_measureDistances 70 = .ok (.iload_n 2, 1) := by decide +kernel
theorem dX0_measureDistances_71 : decode cX0_measureDistances 71 = .ok (.iaload, 1) := by decide +kernel
theorem dX0_measureDistances_72 : decode cX0_measureDistances 72 = .ok (.iload_n 1, 1) := by decide +kernel
theorem dX0_measureDistances_73 : decode cX0_measureDistances 73 = .ok (.invokevirtual 161, 3) := by decide +kernel
theorem dX0_measureDistances_76 : decode cX0_measureDistances 76 = .ok (.aload_n 0, 1) := by decide +kernel
theorem dX0_measureDistances_77 : decode cX0_measureDistances 77 = .ok (.aload_n 0, 1) := by decide +kernel
theorem dX0_measureDistances_78 : decode cX0_measureDistances 78 = .ok (.getfield 28, 3) := by decide +kernel
theorem dX0_measureDistances_81 : decode cX0_measureDistances 81 = .ok (.iload_n 2, 1) := by decide +kernel
theorem dX0_measureDistances_82 : decode cX0_measureDistances 82 = .ok (.iaload, 1) := by decide +kernel
theorem dX0_measureDistances_83 : decode cX0_measureDistances 83 = .ok (.aload_n 0, 1) := by decide +kernel
theorem dX0_measureDistances_84 : decode cX0_measureDistances 84 = .ok (.getfield 25, 3) := by decide +kernel
theorem dX0_measureDistances_87 : decode cX0_measureDistances 87 = .ok (.iload_n 2, 1) := by decide +kernel
theorem dX0_measureDistances_88 : decode cX0_measureDistances 88 = .ok (.iaload, 1) := by decide +kernel
theorem dX0_measureDistances_89 : decode cX0_measureDistances 89 = .ok (.iload_n 1, 1) := by decide +kernel
theorem dX0_measureDistances_90 : decode cX0_measureDistances 90 = .ok (.invokevirtual 161, 3) := by decide +kernel
theorem dX0_measureDistances_93 : decode cX0_measureDistances 93 = .ok (.iinc 2 1, 3) := by decide +kernel
theorem dX0_measureDistances_96 : decode cX0_measureDistances 96 = .ok (.goto (-54), 3) := by decide +kernel
theorem dX0_measureDistances_99 : decode cX0_measureDistances 99 = .ok (.iinc 1 1, 3) := by decide +kernel
theorem dX0_measureDistances_102 : decode cX0_measureDistances 102 = .ok (.goto (-70), 3) := by decide +kernel
theorem dX0_measureDistances_105 : decode cX0_measureDistances 105 = .ok (.return_, 1) := by decide +kernel
theorem dX0_reach_0 : decode cX0_reach 0 = .ok (.aload_n 0, 1) := by decide +kernel
theorem dX0_reach_1 : decode cX0_reach 1 = .ok (.getfield 19, 3) := by decide +kernel
theorem dX0_reach_4 : decode cX0_reach 4 = .ok (.iload_n 1, 1) := by decide +kernel
theorem dX0_reach_5 : decode cX0_reach 5 = .ok (.iaload, 1) := by decide +kernel
theorem dX0_reach_6 : decode cX0_reach 6 = .ok (.iconst (-1), 1) := by decide +kernel
theorem dX0_reach_7 : decode cX0_reach 7 = .ok (.if_icmp .ne 22, 3) := by decide +kernel
theorem dX0_reach_10 : decode cX0_reach 10 = .ok (.aload_n 0, 1) := by decide +kernel
theorem dX0_reach_11 : decode cX0_reach 11 = .ok (.getfield 19, 3) := by decide +kernel
theorem dX0_reach_14 : decode cX0_reach 14 = .ok (.iload_n 2, 1) := by decide +kernel
theorem dX0_reach_15 : decode cX0_reach 15 = .ok (.iaload, 1) := by decide +kernel
theorem dX0_reach_16 : decode cX0_reach 16 = .ok (.iload_n 3, 1) := by decide +kernel
theorem dX0_reach_17 : decode cX0_reach 17 = .ok (.iconst 1, 1) := by decide +kernel
theorem dX0_reach_18 : decode cX0_reach 18 = .ok (.isub, 1) := by decide +kernel
theorem dX0_reach_19 : decode cX0_reach 19 = .ok (.if_icmp .ne 10, 3) := by decide +kernel
theorem dX0_reach_22 : decode cX0_reach 22 = .ok (.aload_n 0, 1) := by decide +kernel
theorem dX0_reach_23 : decode cX0_reach 23 = .ok (.getfield 19, 3) := by decide +kernel
theorem dX0_reach_26 : decode cX0_reach 26 = .ok (.iload_n 1, 1) := by decide +kernel
theorem dX0_reach_27 : decode cX0_reach 27 = .ok (.iload_n 3, 1) := by decide +kernel
theorem dX0_reach_28 : decode cX0_reach 28 = .ok (.iastore, 1) := by decide +kernel
theorem dX0_reach_29 : decode cX0_reach 29 = .ok (.return_, 1) := by decide +kernel
theorem dX0_offerDoor_0 : decode cX0_offerDoor 0 = .ok (.aload_n 0, 1) := by decide +kernel
theorem dX0_offerDoor_1 : decode cX0_offerDoor 1 = .ok (.getfield 37, 3) := by decide +kernel
theorem dX0_offerDoor_4 : decode cX0_offerDoor 4 = .ok (.iload_n 1, 1) := by decide +kernel
theorem dX0_offerDoor_5 : decode cX0_offerDoor 5 = .ok (.baload, 1) := by decide +kernel
theorem dX0_offerDoor_6 : decode cX0_offerDoor 6 = .ok (.ifCond .eq 34, 3) := by decide +kernel
theorem dX0_offerDoor_9 : decode cX0_offerDoor 9 = .ok (.aload_n 0, 1) := by decide +kernel
theorem dX0_offerDoor_10 : decode cX0_offerDoor 10 = .ok (.getfield 19, 3) := by decide +kernel
theorem dX0_offerDoor_13 : decode cX0_offerDoor 13 = .ok (.iload_n 2, 1) := by decide +kernel
theorem dX0_offerDoor_14 : decode cX0_offerDoor 14 = .ok (.iaload, 1) := by decide +kernel
theorem dX0_offerDoor_15 : decode cX0_offerDoor 15 = .ok (.iconst 1, 1) := by decide +kernel
theorem dX0_offerDoor_16 : decode cX0_offerDoor 16 = .ok (.if_icmp .lt 24, 3) := by decide +kernel
theorem dX0_offerDoor_19 : decode cX0_offerDoor 19 = .ok (.aload_n 0, 1) := by decide +kernel
theorem dX0_offerDoor_20 : decode cX0_offerDoor 20 = .ok (.getfield 19, 3) := by decide +kernel
theorem dX0_offerDoor_23 : decode cX0_offerDoor 23 = .ok (.iload_n 3, 1) := by decide +kernel
theorem dX0_offerDoor_24 : decode cX0_offerDoor 24 = .ok (.iaload, 1) := by decide +kernel
theorem dX0_offerDoor_25 : decode cX0_offerDoor 25 = .ok (.aload_n 0, 1) := by decide +kernel
theorem dX0_offerDoor_26 : decode cX0_offerDoor 26 = .ok (.getfield 19, 3) := by decide +kernel
theorem dX0_offerDoor_29 : decode cX0_offerDoor 29 = .ok (.iload_n 2, 1) := by decide +kernel
theorem dX0_offerDoor_30 : decode cX0_offerDoor 30 = .ok (.iaload, 1) := by decide +kernel
theorem dX0_offerDoor_31 : decode cX0_offerDoor 31 = .ok (.iconst 1, 1) := by decide +kernel
theorem dX0_offerDoor_32 : decode cX0_offerDoor 32 = .ok (.isub, 1) := by decide +kernel
theorem dX0_offerDoor_33 : decode cX0_offerDoor 33 = .ok (.if_icmp .ne 7, 3) := by decide +kernel
theorem dX0_offerDoor_36 : decode cX0_offerDoor 36 = .ok (.iconst 1, 1) := by decide +kernel
theorem dX0_offerDoor_37 : decode cX0_offerDoor 37 = .ok (.goto 4, 3) := by decide +kernel
theorem dX0_offerDoor_40 : decode cX0_offerDoor 40 = .ok (.iconst 0, 1) := by decide +kernel
theorem dX0_offerDoor_41 : decode cX0_offerDoor 41 = .ok (.istore 4, 2) := by decide +kernel
theorem dX0_offerDoor_43 : decode cX0_offerDoor 43 = .ok (.iload 4, 2) := by decide +kernel
theorem dX0_offerDoor_45 : decode cX0_offerDoor 45 = .ok (.ifCond .eq 34, 3) := by decide +kernel
theorem dX0_offerDoor_48 : decode cX0_offerDoor 48 = .ok (.aload_n 0, 1) := by decide +kernel
theorem dX0_offerDoor_49 : decode cX0_offerDoor 49 = .ok (.getfield 22, 3) := by decide +kernel
theorem dX0_offerDoor_52 : decode cX0_offerDoor 52 = .ok (.iload_n 2, 1) := by decide +kernel
theorem dX0_offerDoor_53 : decode cX0_offerDoor 53 = .ok (.iaload, 1) := by decide +kernel
theorem dX0_offerDoor_54 : decode cX0_offerDoor 54 = .ok (.iconst (-1), 1) := by decide +kernel
theorem dX0_offerDoor_55 : decode cX0_offerDoor 55 = .ok (.if_icmp .ne 24, 3) := by decide +kernel
theorem dX0_offerDoor_58 : decode cX0_offerDoor 58 = .ok (.aload_n 0, 1) := by decide +kernel
theorem dX0_offerDoor_59 : decode cX0_offerDoor 59 = .ok (.getfield 22, 3) := by decide +kernel
theorem dX0_offerDoor_62 : decode cX0_offerDoor 62 = .ok (.iload_n 2, 1) := by decide +kernel
theorem dX0_offerDoor_63 : decode cX0_offerDoor 63 = .ok (.iload_n 1, 1) := by decide +kernel
theorem dX0_offerDoor_64 : decode cX0_offerDoor 64 = .ok (.iastore, 1) := by decide +kernel
theorem dX0_offerDoor_65 : decode cX0_offerDoor 65 = .ok (.aload_n 0, 1) := by decide +kernel
theorem dX0_offerDoor_66 : decode cX0_offerDoor 66 = .ok (.getfield 44, 3) := by decide +kernel
theorem dX0_offerDoor_69 : decode cX0_offerDoor 69 = .ok (.iload_n 1, 1) := by decide +kernel
theorem dX0_offerDoor_70 : decode cX0_offerDoor 70 = .ok (.iload_n 2, 1) := by decide +kernel
theorem dX0_offerDoor_71 : decode cX0_offerDoor 71 = .ok (.iastore, 1) := by decide +kernel
theorem dX0_offerDoor_72 : decode cX0_offerDoor 72 = .ok (.aload_n 0, 1) := by decide +kernel
theorem dX0_offerDoor_73 : decode cX0_offerDoor 73 = .ok (.getfield 47, 3) := by decide +kernel
theorem dX0_offerDoor_76 : decode cX0_offerDoor 76 = .ok (.iload_n 1, 1) := by decide +kernel
theorem dX0_offerDoor_77 : decode cX0_offerDoor 77 = .ok (.iload_n 3, 1) := by decide +kernel
theorem dX0_offerDoor_78 : decode cX0_offerDoor 78 = .ok (.iastore, 1) := by decide +kernel
theorem dX0_offerDoor_79 : decode cX0_offerDoor 79 = .ok (.return_, 1) := by decide +kernel
theorem dX0_isPlace_0 : decode cX0_isPlace 0 = .ok (.iload_n 1, 1) := by decide +kernel
theorem dX0_isPlace_1 : decode cX0_isPlace 1 = .ok (.ifCond .lt 15, 3) := by decide +kernel
theorem dX0_isPlace_4 : decode cX0_isPlace 4 = .ok (.iload_n 1, 1) := by decide +kernel
theorem dX0_isPlace_5 : decode cX0_isPlace 5 = .ok (.aload_n 0, 1) := by decide +kernel
theorem dX0_isPlace_6 : decode cX0_isPlace 6 = .ok (.getfield 53, 3) := by decide +kernel
theorem dX0_isPlace_9 : decode cX0_isPlace 9 = .ok (.if_icmp .ge 7, 3) := by decide +kernel
theorem dX0_isPlace_12 : decode cX0_isPlace 12 = .ok (.iconst 1, 1) := by decide +kernel
theorem dX0_isPlace_13 : decode cX0_isPlace 13 = .ok (.goto 4, 3) := by decide +kernel
theorem dX0_isPlace_16 : decode cX0_isPlace 16 = .ok (.iconst 0, 1) := by decide +kernel
theorem dX0_isPlace_17 : decode cX0_isPlace 17 = .ok (.ireturn, 1) := by decide +kernel
theorem dX0_isDoor_0 : decode cX0_isDoor 0 = .ok (.iload_n 1, 1) := by decide +kernel
theorem dX0_isDoor_1 : decode cX0_isDoor 1 = .ok (.ifCond .lt 15, 3) := by decide +kernel
theorem dX0_isDoor_4 : decode cX0_isDoor 4 = .ok (.iload_n 1, 1) := by decide +kernel
theorem dX0_isDoor_5 : decode cX0_isDoor 5 = .ok (.aload_n 0, 1) := by decide +kernel
theorem dX0_isDoor_6 : decode cX0_isDoor 6 = .ok (.getfield 78, 3) := by decide +kernel
theorem dX0_isDoor_9 : decode cX0_isDoor 9 = .ok (.if_icmp .ge 7, 3) := by decide +kernel
theorem dX0_isDoor_12 : decode cX0_isDoor 12 = .ok (.iconst 1, 1) := by decide +kernel
theorem dX0_isDoor_13 : decode cX0_isDoor 13 = .ok (.goto 4, 3) := by decide +kernel
theorem dX0_isDoor_16 : decode cX0_isDoor 16 = .ok (.iconst 0, 1) := by decide +kernel
theorem dX0_isDoor_17 : decode cX0_isDoor 17 = .ok (.ireturn, 1) := by decide +kernel
theorem dX0_isBetween_0 : decode cX0_isBetween 0 = .ok (.iload_n 0, 1) := by decide +kernel
theorem dX0_isBetween_1 : decode cX0_isBetween 1 = .ok (.iload_n 1, 1) := by decide +kernel
theorem dX0_isBetween_2 : decode cX0_isBetween 2 = .ok (.if_icmp .lt 12, 3) := by decide +kernel
theorem dX0_isBetween_5 : decode cX0_isBetween 5 = .ok (.iload_n 0, 1) := by decide +kernel
theorem dX0_isBetween_6 : decode cX0_isBetween 6 = .ok (.iload_n 2, 1) := by decide +kernel
theorem dX0_isBetween_7 : decode cX0_isBetween 7 = .ok (.if_icmp .gt 7, 3) := by decide +kernel
theorem dX0_isBetween_10 : decode cX0_isBetween 10 = .ok (.iconst 1, 1) := by decide +kernel
theorem dX0_isBetween_11 : decode cX0_isBetween 11 = .ok (.goto 4, 3) := by decide +kernel
theorem dX0_isBetween_14 : decode cX0_isBetween 14 = .ok (.iconst 0, 1) := by decide +kernel
theorem dX0_isBetween_15 : decode cX0_isBetween 15 = .ok (.ireturn, 1) := by decide +kernel
theorem dX0_requirePlace_0 : decode cX0_requirePlace 0 = .ok (.aload_n 0, 1) := by decide +kernel
theorem dX0_requirePlace_1 : decode cX0_requirePlace 1 = .ok (.iload_n 1, 1) := by decide +kernel
theorem dX0_requirePlace_2 : decode cX0_requirePlace 2 = .ok (.invokevirtual 148, 3) := by decide +kernel
theorem dX0_requirePlace_5 : decode cX0_requirePlace 5 = .ok (.ifCond .ne 13, 3) := by decide +kernel
theorem dX0_requirePlace_8 : decode cX0_requirePlace 8 = .ok (.new 164, 3) := by decide +kernel
theorem dX0_requirePlace_11 : decode cX0_requirePlace 11 = .ok (.dup, 1) := by decide +kernel
theorem dX0_requirePlace_12 : decode cX0_requirePlace 12 = .ok (.ldc 166, 2) := by decide +kernel
theorem dX0_requirePlace_14 : decode cX0_requirePlace 14 = .ok (.invokespecial 168, 3) := by decide +kernel
theorem dX0_requirePlace_17 : decode cX0_requirePlace 17 = .ok (.athrow, 1) := by decide +kernel
theorem dX0_requirePlace_18 : decode cX0_requirePlace 18 = .ok (.return_, 1) := by decide +kernel
theorem dX0_requireDoor_0 : decode cX0_requireDoor 0 = .ok (.aload_n 0, 1) := by decide +kernel
theorem dX0_requireDoor_1 : decode cX0_requireDoor 1 = .ok (.iload_n 1, 1) := by decide +kernel
theorem dX0_requireDoor_2 : decode cX0_requireDoor 2 = .ok (.invokevirtual 108, 3) := by decide +kernel
theorem dX0_requireDoor_5 : decode cX0_requireDoor 5 = .ok (.ifCond .ne 13, 3) := by decide +kernel
theorem dX0_requireDoor_8 : decode cX0_requireDoor 8 = .ok (.new 164, 3) := by decide +kernel
theorem dX0_requireDoor_11 : decode cX0_requireDoor 11 = .ok (.dup, 1) := by decide +kernel
theorem dX0_requireDoor_12 : decode cX0_requireDoor 12 = .ok (.ldc 171, 2) := by decide +kernel
theorem dX0_requireDoor_14 : decode cX0_requireDoor 14 = .ok (.invokespecial 168, 3) := by decide +kernel
theorem dX0_requireDoor_17 : decode cX0_requireDoor 17 = .ok (.athrow, 1) := by decide +kernel
theorem dX0_requireDoor_18 : decode cX0_requireDoor 18 = .ok (.return_, 1) := by decide +kernel
theorem dX0_requireArgument_0 : decode cX0_requireArgument 0 = .ok (.iload_n 0, 1) := by decide +kernel
theorem dX0_requireArgument_1 : decode cX0_requireArgument 1 = .ok (.ifCond .ne 13, 3) := by decide +kernel
theorem dX0_requireArgument_4 : decode cX0_requireArgument 4 = .ok (.new 173, 3) := by decide +kernel
theorem dX0_requireArgument_7 : decode cX0_requireArgument 7 = .ok (.dup, 1) := by decide +kernel
theorem dX0_requireArgument_8 : decode cX0_requireArgument 8 = .ok (.ldc 175, 2) := by decide +kernel
theorem dX0_requireArgument_10 : decode cX0_requireArgument 10 = .ok (.invokespecial 177, 3) := by decide +kernel
theorem dX0_requireArgument_13 : decode cX0_requireArgument 13 = .ok (.athrow, 1) := by decide +kernel
theorem dX0_requireArgument_14 : decode cX0_requireArgument 14 = .ok (.return_, 1) := by decide +kernel
theorem dX0_requireState_0 : decode cX0_requireState 0 = .ok (.iload_n 0, 1) := by decide +kernel
theorem dX0_requireState_1 : decode cX0_requireState 1 = .ok (.ifCond .ne 13, 3) := by decide +kernel
theorem dX0_requireState_4 : decode cX0_requireState 4 = .ok (.new 178, 3) := by decide +kernel
theorem dX0_requireState_7 : decode cX0_requireState 7 = .ok (.dup, 1) := by decide +kernel
theorem dX0_requireState_8 : decode cX0_requireState 8 = .ok (.ldc 180, 2) := by decide +kernel
theorem dX0_requireState_10 : decode cX0_requireState 10 = .ok (.invokespecial 182, 3) := by decide +kernel
theorem dX0_requireState_13 : decode cX0_requireState 13 = .ok (.athrow, 1) := by decide +kernel
theorem dX0_requireState_14 : decode cX0_requireState 14 = .ok (.return_, 1) := by decide +kernel
theorem dX0_requireElement_0 : decode cX0_requireElement 0 = .ok (.iload_n 0, 1) := by decide +kernel
theorem dX0_requireElement_1 : decode cX0_requireElement 1 = .ok (.ifCond .ne 13, 3) := by decide +kernel
theorem dX0_requireElement_4 : decode cX0_requireElement 4 = .ok (.new 183, 3) := by decide +kernel
theorem dX0_requireElement_7 : decode cX0_requireElement 7 = .ok (.dup, 1) := by decide +kernel
theorem dX0_requireElement_8 : decode cX0_requireElement 8 = .ok (.ldc 185, 2) := by decide +kernel
theorem dX0_requireElement_10 : decode cX0_requireElement 10 = .ok (.invokespecial 187, 3) := by decide +kernel
theorem dX0_requireElement_13 : decode cX0_requireElement 13 = .ok (.athrow, 1) := by decide +kernel
theorem dX0_requireElement_14 : decode cX0_requireElement 14 = .ok (.return_, 1) := by decide +kernel
theorem dJ9_max_7cf53_0 : decode cJ9_max_7cf53 0 = .ok (.iload_n 0, 1) := by decide +kernel
theorem dJ9_max_7cf53_1 : decode cJ9_max_7cf53 1 = .ok (.iload_n 1, 1) := by decide +kernel
theorem dJ9_max_7cf53_2 : decode cJ9_max_7cf53 2 = .ok (.if_icmp .lt 7, 3) := by decide +kernel
theorem dJ9_max_7cf53_5 : decode cJ9_max_7cf53 5 = .ok (.iload_n 0, 1) := by decide +kernel
theorem dJ9_max_7cf53_6 : decode cJ9_max_7cf53 6 = .ok (.goto 4, 3) := by decide +kernel
theorem dJ9_max_7cf53_9 : decode cJ9_max_7cf53 9 = .ok (.iload_n 1, 1) := by decide +kernel
theorem dJ9_max_7cf53_10 : decode cJ9_max_7cf53 10 = .ok (.ireturn, 1) := by decide +kernel
theorem dJ9_min_7cf53_0 : decode cJ9_min_7cf53 0 = .ok (.iload_n 0, 1) := by decide +kernel
theorem dJ9_min_7cf53_1 : decode cJ9_min_7cf53 1 = .ok (.iload_n 1, 1) := by decide +kernel
theorem dJ9_min_7cf53_2 : decode cJ9_min_7cf53 2 = .ok (.if_icmp .gt 7, 3) := by decide +kernel
theorem dJ9_min_7cf53_5 : decode cJ9_min_7cf53 5 = .ok (.iload_n 0, 1) := by decide +kernel
theorem dJ9_min_7cf53_6 : decode cJ9_min_7cf53 6 = .ok (.goto 4, 3) := by decide +kernel
theorem dJ9_min_7cf53_9 : decode cJ9_min_7cf53 9 = .ok (.iload_n 1, 1) := by decide +kernel
theorem dJ9_min_7cf53_10 : decode cJ9_min_7cf53 10 = .ok (.ireturn, 1) := by decide +kernel
end
section
/-! ===== the class Stairflow: its world ===== -/
def gfX : List (Bool × Nat) := [(true, 0), (false, 0), (false, 1), (false, 2), (false, 3), (false, 4), (true, 1), (false, 5), (false, 6), (false, 7), (false, 8), (false, 9), (false, 10), (false, 11), (false, 12), (false, 13), (true, 2), (true, 3), (true, 4)]
def gaX : List (Bool × Nat) := [(false, 11), (false, 11), (false, 11), (false, 11), (false, 11), (false, 16), (false, 16), (false, 16), (false, 16), (true, 16), (false, 16), (false, 16), (false, 16), (false, 16)]
abbrev gX (cI cZ : ClassId) (q : Nat) (r : Nat → Nat) (F : List Int) (A : List (Nat → Int)) : va_W := gW 0 gfX gaX cI cZ q r F A
theorem g_cat1 {l : List Value} (h : l.all (fun v => v.category == 1) = true) : ∀ v ∈ l, v.category = 1 := fun v hv => by
  have := List.all_eq_true.mp h v hv
  simpa using this
theorem g_narZ {x : Int} (h : x = 0 ∨ x = 1) : narrow .boolean (.int (iI x)) = .int (iI x) := by
  rcases h with rfl | rfl <;> rfl
end
section
theorem dL_addPlace_0 : decode cL_addPlace 0 = .ok (.aload_n 2, 1) := by decide +kernel
theorem dL_addPlace_1 : decode cL_addPlace 1 = .ok (.iconst 0, 1) := by decide +kernel
theorem dL_addPlace_2 : decode cL_addPlace 2 = .ok (.aload_n 0, 1) := by decide +kernel
theorem dL_addPlace_3 : decode cL_addPlace 3 = .ok (.iload_n 1, 1) := by decide +kernel
theorem dL_addPlace_4 : decode cL_addPlace 4 = .ok (.invokevirtual 7, 3) := by decide +kernel
theorem dL_addPlace_7 : decode cL_addPlace 7 = .ok (.i2l, 1) := by decide +kernel
theorem dL_addPlace_8 : decode cL_addPlace 8 = .ok (.lastore, 1) := by decide +kernel
theorem dL_addPlace_9 : decode cL_addPlace 9 = .ok (.goto 9, 3) := by decide +kernel
theorem dL_addPlace_12 : decode cL_addPlace 12 = .ok (.astore_n 3, 1) := by decide +kernel
theorem dL_addPlace_13 : decode cL_addPlace 13 = .ok (.iconst 1, 1) := by decide +kernel
theorem dL_addPlace_14 : decode cL_addPlace 14 = .ok (.ireturn, 1) := by decide +kernel
theorem dL_addPlace_15 : decode cL_addPlace 15 = .ok (.astore_n 3, 1) := by decide +kernel
theorem dL_addPlace_16 : decode cL_addPlace 16 = .ok (.iconst 2, 1) := by decide +kernel
theorem dL_addPlace_17 : decode cL_addPlace 17 = .ok (.ireturn, 1) := by decide +kernel
theorem dL_addPlace_18 : decode cL_addPlace 18 = .ok (.iconst 0, 1) := by decide +kernel
theorem dL_addPlace_19 : decode cL_addPlace 19 = .ok (.ireturn, 1) := by decide +kernel
theorem dL_addDoor_0 : decode cL_addDoor 0 = .ok (.aload 5, 2) := by decide +kernel
theorem dL_addDoor_2 : decode cL_addDoor 2 = .ok (.iconst 0, 1) := by decide +kernel
theorem dL_addDoor_3 : decode cL_addDoor 3 = .ok (.aload_n 0, 1) := by decide +kernel
theorem dL_addDoor_4 : decode cL_addDoor 4 = .ok (.iload_n 1, 1) := by decide +kernel
theorem dL_addDoor_5 : decode cL_addDoor 5 = .ok (.iload_n 2, 1) := by decide +kernel
theorem dL_addDoor_6 : decode cL_addDoor 6 = .ok (.iload_n 3, 1) := by decide +kernel
theorem dL_addDoor_7 : decode cL_addDoor 7 = .ok (.iload 4, 2) := by decide +kernel
theorem dL_addDoor_9 : decode cL_addDoor 9 = .ok (.invokevirtual 17, 3) := by decide +kernel
theorem dL_addDoor_12 : decode cL_addDoor 12 = .ok (.i2l, 1) := by decide +kernel
theorem dL_addDoor_13 : decode cL_addDoor 13 = .ok (.lastore, 1) := by decide +kernel
theorem dL_addDoor_14 : decode cL_addDoor 14 = .ok (.goto 15, 3) := by decide +kernel
theorem dL_addDoor_17 : decode cL_addDoor 17 = .ok (.astore 6, 2) := by decide +kernel
theorem dL_addDoor_19 : decode cL_addDoor 19 = .ok (.iconst 1, 1) := by decide +kernel
theorem dL_addDoor_20 : decode cL_addDoor 20 = .ok (.ireturn, 1) := by decide +kernel
theorem dL_addDoor_21 : decode cL_addDoor 21 = .ok (.astore 6, 2) := by decide +kernel
theorem dL_addDoor_23 : decode cL_addDoor 23 = .ok (.iconst 2, 1) := by decide +kernel
theorem dL_addDoor_24 : decode cL_addDoor 24 = .ok (.ireturn, 1) := by decide +kernel
theorem dL_addDoor_25 : decode cL_addDoor 25 = .ok (.astore 6, 2) := by decide +kernel
theorem dL_addDoor_27 : decode cL_addDoor 27 = .ok (.iconst 3, 1) := by decide +kernel
theorem dL_addDoor_28 : decode cL_addDoor 28 = .ok (.ireturn, 1) := by decide +kernel
theorem dL_addDoor_29 : decode cL_addDoor 29 = .ok (.iconst 0, 1) := by decide +kernel
theorem dL_addDoor_30 : decode cL_addDoor 30 = .ok (.ireturn, 1) := by decide +kernel
theorem dL_setDoor_0 : decode cL_setDoor 0 = .ok (.aload_n 3, 1) := by decide +kernel
theorem dL_setDoor_1 : decode cL_setDoor 1 = .ok (.iconst 0, 1) := by decide +kernel
theorem dL_setDoor_2 : decode cL_setDoor 2 = .ok (.aload_n 0, 1) := by decide +kernel
theorem dL_setDoor_3 : decode cL_setDoor 3 = .ok (.iload_n 1, 1) := by decide +kernel
theorem dL_setDoor_4 : decode cL_setDoor 4 = .ok (.iload_n 2, 1) := by decide +kernel
theorem dL_setDoor_5 : decode cL_setDoor 5 = .ok (.invokevirtual 23, 3) := by decide +kernel
theorem dL_setDoor_8 : decode cL_setDoor 8 = .ok (.ifCond .eq 7, 3) := by decide +kernel
theorem dL_setDoor_11 : decode cL_setDoor 11 = .ok (.lconst 1, 1) := by decide +kernel
theorem dL_setDoor_12 : decode cL_setDoor 12 = .ok (.goto 4, 3) := by decide +kernel
theorem dL_setDoor_15 : decode cL_setDoor 15 = .ok (.lconst 0, 1) := by decide +kernel
theorem dL_setDoor_16 : decode cL_setDoor 16 = .ok (.lastore, 1) := by decide +kernel
theorem dL_setDoor_17 : decode cL_setDoor 17 = .ok (.goto 7, 3) := by decide +kernel
theorem dL_setDoor_20 : decode cL_setDoor 20 = .ok (.astore 4, 2) := by decide +kernel
theorem dL_setDoor_22 : decode cL_setDoor 22 = .ok (.iconst 1, 1) := by decide +kernel
theorem dL_setDoor_23 : decode cL_setDoor 23 = .ok (.ireturn, 1) := by decide +kernel
theorem dL_setDoor_24 : decode cL_setDoor 24 = .ok (.iconst 0, 1) := by decide +kernel
theorem dL_setDoor_25 : decode cL_setDoor 25 = .ok (.ireturn, 1) := by decide +kernel
theorem dL_come_0 : decode cL_come 0 = .ok (.aload_n 3, 1) := by decide +kernel
theorem dL_come_1 : decode cL_come 1 = .ok (.iconst 0, 1) := by decide +kernel
theorem dL_come_2 : decode cL_come 2 = .ok (.aload_n 0, 1) := by decide +kernel
theorem dL_come_3 : decode cL_come 3 = .ok (.iload_n 1, 1) := by decide +kernel
theorem dL_come_4 : decode cL_come 4 = .ok (.iload_n 2, 1) := by decide +kernel
theorem dL_come_5 : decode cL_come 5 = .ok (.invokevirtual 27, 3) := by decide +kernel
theorem dL_come_8 : decode cL_come 8 = .ok (.i2l, 1) := by decide +kernel
theorem dL_come_9 : decode cL_come 9 = .ok (.lastore, 1) := by decide +kernel
theorem dL_come_10 : decode cL_come 10 = .ok (.goto 15, 3) := by decide +kernel
theorem dL_come_13 : decode cL_come 13 = .ok (.astore 4, 2) := by decide +kernel
theorem dL_come_15 : decode cL_come 15 = .ok (.iconst 1, 1) := by decide +kernel
theorem dL_come_16 : decode cL_come 16 = .ok (.ireturn, 1) := by decide +kernel
theorem dL_come_17 : decode cL_come 17 = .ok (.astore 4, 2) := by decide +kernel
theorem dL_come_19 : decode cL_come 19 = .ok (.iconst 2, 1) := by decide +kernel
theorem dL_come_20 : decode cL_come 20 = .ok (.ireturn, 1) := by decide +kernel
theorem dL_come_21 : decode cL_come 21 = .ok (.astore 4, 2) := by decide +kernel
theorem dL_come_23 : decode cL_come 23 = .ok (.iconst 3, 1) := by decide +kernel
theorem dL_come_24 : decode cL_come 24 = .ok (.ireturn, 1) := by decide +kernel
theorem dL_come_25 : decode cL_come 25 = .ok (.iconst 0, 1) := by decide +kernel
theorem dL_come_26 : decode cL_come 26 = .ok (.ireturn, 1) := by decide +kernel
theorem dL_setRelease_0 : decode cL_setRelease 0 = .ok (.aload_n 3, 1) := by decide +kernel
theorem dL_setRelease_1 : decode cL_setRelease 1 = .ok (.iconst 0, 1) := by decide +kernel
theorem dL_setRelease_2 : decode cL_setRelease 2 = .ok (.aload_n 0, 1) := by decide +kernel
theorem dL_setRelease_3 : decode cL_setRelease 3 = .ok (.iload_n 1, 1) := by decide +kernel
theorem dL_setRelease_4 : decode cL_setRelease 4 = .ok (.iload_n 2, 1) := by decide +kernel
theorem dL_setRelease_5 : decode cL_setRelease 5 = .ok (.invokevirtual 31, 3) := by decide +kernel
theorem dL_setRelease_8 : decode cL_setRelease 8 = .ok (.i2l, 1) := by decide +kernel
theorem dL_setRelease_9 : decode cL_setRelease 9 = .ok (.lastore, 1) := by decide +kernel
theorem dL_setRelease_10 : decode cL_setRelease 10 = .ok (.goto 11, 3) := by decide +kernel
theorem dL_setRelease_13 : decode cL_setRelease 13 = .ok (.astore 4, 2) := by decide +kernel
theorem dL_setRelease_15 : decode cL_setRelease 15 = .ok (.iconst 1, 1) := by decide +kernel
theorem dL_setRelease_16 : decode cL_setRelease 16 = .ok (.ireturn, 1) := by decide +kernel
theorem dL_setRelease_17 : decode cL_setRelease 17 = .ok (.astore 4, 2) := by decide +kernel
theorem dL_setRelease_19 : decode cL_setRelease 19 = .ok (.iconst 2, 1) := by decide +kernel
theorem dL_setRelease_20 : decode cL_setRelease 20 = .ok (.ireturn, 1) := by decide +kernel
theorem dL_setRelease_21 : decode cL_setRelease 21 = .ok (.iconst 0, 1) := by decide +kernel
theorem dL_setRelease_22 : decode cL_setRelease 22 = .ok (.ireturn, 1) := by decide +kernel
theorem dL_step_0 : decode cL_step 0 = .ok (.aload_n 2, 1) := by decide +kernel
theorem dL_step_1 : decode cL_step 1 = .ok (.iconst 0, 1) := by decide +kernel
theorem dL_step_2 : decode cL_step 2 = .ok (.aload_n 0, 1) := by decide +kernel
theorem dL_step_3 : decode cL_step 3 = .ok (.iload_n 1, 1) := by decide +kernel
theorem dL_step_4 : decode cL_step 4 = .ok (.invokevirtual 34, 3) := by decide +kernel
theorem dL_step_7 : decode cL_step 7 = .ok (.i2l, 1) := by decide +kernel
theorem dL_step_8 : decode cL_step 8 = .ok (.lastore, 1) := by decide +kernel
theorem dL_step_9 : decode cL_step 9 = .ok (.goto 6, 3) := by decide +kernel
theorem dL_step_12 : decode cL_step 12 = .ok (.astore_n 3, 1) := by decide +kernel
theorem dL_step_13 : decode cL_step 13 = .ok (.iconst 1, 1) := by decide +kernel
theorem dL_step_14 : decode cL_step 14 = .ok (.ireturn, 1) := by decide +kernel
theorem dL_step_15 : decode cL_step 15 = .ok (.iconst 0, 1) := by decide +kernel
theorem dL_step_16 : decode cL_step 16 = .ok (.ireturn, 1) := by decide +kernel
theorem dL_people_0 : decode cL_people 0 = .ok (.aload_n 2, 1) := by decide +kernel
theorem dL_people_1 : decode cL_people 1 = .ok (.iconst 0, 1) := by decide +kernel
theorem dL_people_2 : decode cL_people 2 = .ok (.aload_n 0, 1) := by decide +kernel
theorem dL_people_3 : decode cL_people 3 = .ok (.iload_n 1, 1) := by decide +kernel
theorem dL_people_4 : decode cL_people 4 = .ok (.invokevirtual 37, 3) := by decide +kernel
theorem dL_people_7 : decode cL_people 7 = .ok (.i2l, 1) := by decide +kernel
theorem dL_people_8 : decode cL_people 8 = .ok (.lastore, 1) := by decide +kernel
theorem dL_people_9 : decode cL_people 9 = .ok (.goto 6, 3) := by decide +kernel
theorem dL_people_12 : decode cL_people 12 = .ok (.astore_n 3, 1) := by decide +kernel
theorem dL_people_13 : decode cL_people 13 = .ok (.iconst 1, 1) := by decide +kernel
theorem dL_people_14 : decode cL_people 14 = .ok (.ireturn, 1) := by decide +kernel
theorem dL_people_15 : decode cL_people 15 = .ok (.iconst 0, 1) := by decide +kernel
theorem dL_people_16 : decode cL_people 16 = .ok (.ireturn, 1) := by decide +kernel
theorem dL_latest_0 : decode cL_latest 0 = .ok (.aload_n 1, 1) := by decide +kernel
theorem dL_latest_1 : decode cL_latest 1 = .ok (.iconst 0, 1) := by decide +kernel
theorem dL_latest_2 : decode cL_latest 2 = .ok (.aload_n 0, 1) := by decide +kernel
theorem dL_latest_3 : decode cL_latest 3 = .ok (.invokevirtual 40, 3) := by decide +kernel
theorem dL_latest_6 : decode cL_latest 6 = .ok (.i2l, 1) := by decide +kernel
theorem dL_latest_7 : decode cL_latest 7 = .ok (.lastore, 1) := by decide +kernel
theorem dL_latest_8 : decode cL_latest 8 = .ok (.goto 6, 3) := by decide +kernel
theorem dL_latest_11 : decode cL_latest 11 = .ok (.astore_n 2, 1) := by decide +kernel
theorem dL_latest_12 : decode cL_latest 12 = .ok (.iconst 1, 1) := by decide +kernel
theorem dL_latest_13 : decode cL_latest 13 = .ok (.ireturn, 1) := by decide +kernel
theorem dL_latest_14 : decode cL_latest 14 = .ok (.iconst 0, 1) := by decide +kernel
theorem dL_latest_15 : decode cL_latest 15 = .ok (.ireturn, 1) := by decide +kernel
theorem dL_passed_0 : decode cL_passed 0 = .ok (.aload_n 2, 1) := by decide +kernel
theorem dL_passed_1 : decode cL_passed 1 = .ok (.iconst 0, 1) := by decide +kernel
theorem dL_passed_2 : decode cL_passed 2 = .ok (.aload_n 0, 1) := by decide +kernel
theorem dL_passed_3 : decode cL_passed 3 = .ok (.iload_n 1, 1) := by decide +kernel
theorem dL_passed_4 : decode cL_passed 4 = .ok (.invokevirtual 46, 3) := by decide +kernel
theorem dL_passed_7 : decode cL_passed 7 = .ok (.i2l, 1) := by decide +kernel
theorem dL_passed_8 : decode cL_passed 8 = .ok (.lastore, 1) := by decide +kernel
theorem dL_passed_9 : decode cL_passed 9 = .ok (.goto 6, 3) := by decide +kernel
theorem dL_passed_12 : decode cL_passed 12 = .ok (.astore_n 3, 1) := by decide +kernel
theorem dL_passed_13 : decode cL_passed 13 = .ok (.iconst 1, 1) := by decide +kernel
theorem dL_passed_14 : decode cL_passed 14 = .ok (.ireturn, 1) := by decide +kernel
theorem dL_passed_15 : decode cL_passed 15 = .ok (.iconst 0, 1) := by decide +kernel
theorem dL_passed_16 : decode cL_passed 16 = .ok (.ireturn, 1) := by decide +kernel
theorem dL_distance_0 : decode cL_distance 0 = .ok (.aload_n 2, 1) := by decide +kernel
theorem dL_distance_1 : decode cL_distance 1 = .ok (.iconst 0, 1) := by decide +kernel
theorem dL_distance_2 : decode cL_distance 2 = .ok (.aload_n 0, 1) := by decide +kernel
theorem dL_distance_3 : decode cL_distance 3 = .ok (.iload_n 1, 1) := by decide +kernel
theorem dL_distance_4 : decode cL_distance 4 = .ok (.invokevirtual 49, 3) := by decide +kernel
theorem dL_distance_7 : decode cL_distance 7 = .ok (.i2l, 1) := by decide +kernel
theorem dL_distance_8 : decode cL_distance 8 = .ok (.lastore, 1) := by decide +kernel
theorem dL_distance_9 : decode cL_distance 9 = .ok (.goto 9, 3) := by decide +kernel
theorem dL_distance_12 : decode cL_distance 12 = .ok (.astore_n 3, 1) := by decide +kernel
theorem dL_distance_13 : decode cL_distance 13 = .ok (.iconst 1, 1) := by decide +kernel
theorem dL_distance_14 : decode cL_distance 14 = .ok (.ireturn, 1) := by decide +kernel
theorem dL_distance_15 : decode cL_distance 15 = .ok (.astore_n 3, 1) := by decide +kernel
theorem dL_distance_16 : decode cL_distance 16 = .ok (.iconst 2, 1) := by decide +kernel
theorem dL_distance_17 : decode cL_distance 17 = .ok (.ireturn, 1) := by decide +kernel
theorem dL_distance_18 : decode cL_distance 18 = .ok (.iconst 0, 1) := by decide +kernel
theorem dL_distance_19 : decode cL_distance 19 = .ok (.ireturn, 1) := by decide +kernel
theorem dL_door_0 : decode cL_door 0 = .ok (.aload_n 2, 1) := by decide +kernel
theorem dL_door_1 : decode cL_door 1 = .ok (.iconst 0, 1) := by decide +kernel
theorem dL_door_2 : decode cL_door 2 = .ok (.aload_n 0, 1) := by decide +kernel
theorem dL_door_3 : decode cL_door 3 = .ok (.iload_n 1, 1) := by decide +kernel
theorem dL_door_4 : decode cL_door 4 = .ok (.invokevirtual 52, 3) := by decide +kernel
theorem dL_door_7 : decode cL_door 7 = .ok (.i2l, 1) := by decide +kernel
theorem dL_door_8 : decode cL_door 8 = .ok (.lastore, 1) := by decide +kernel
theorem dL_door_9 : decode cL_door 9 = .ok (.goto 9, 3) := by decide +kernel
theorem dL_door_12 : decode cL_door 12 = .ok (.astore_n 3, 1) := by decide +kernel
theorem dL_door_13 : decode cL_door 13 = .ok (.iconst 1, 1) := by decide +kernel
theorem dL_door_14 : decode cL_door 14 = .ok (.ireturn, 1) := by decide +kernel
theorem dL_door_15 : decode cL_door 15 = .ok (.astore_n 3, 1) := by decide +kernel
theorem dL_door_16 : decode cL_door 16 = .ok (.iconst 2, 1) := by decide +kernel
theorem dL_door_17 : decode cL_door 17 = .ok (.ireturn, 1) := by decide +kernel
theorem dL_door_18 : decode cL_door 18 = .ok (.iconst 0, 1) := by decide +kernel
theorem dL_door_19 : decode cL_door 19 = .ok (.ireturn, 1) := by decide +kernel
theorem dL_wouldMove_0 : decode cL_wouldMove 0 = .ok (.aload_n 2, 1) := by decide +kernel
theorem dL_wouldMove_1 : decode cL_wouldMove 1 = .ok (.iconst 0, 1) := by decide +kernel
theorem dL_wouldMove_2 : decode cL_wouldMove 2 = .ok (.aload_n 0, 1) := by decide +kernel
theorem dL_wouldMove_3 : decode cL_wouldMove 3 = .ok (.iload_n 1, 1) := by decide +kernel
theorem dL_wouldMove_4 : decode cL_wouldMove 4 = .ok (.invokevirtual 55, 3) := by decide +kernel
theorem dL_wouldMove_7 : decode cL_wouldMove 7 = .ok (.i2l, 1) := by decide +kernel
theorem dL_wouldMove_8 : decode cL_wouldMove 8 = .ok (.lastore, 1) := by decide +kernel
theorem dL_wouldMove_9 : decode cL_wouldMove 9 = .ok (.goto 6, 3) := by decide +kernel
theorem dL_wouldMove_12 : decode cL_wouldMove 12 = .ok (.astore_n 3, 1) := by decide +kernel
theorem dL_wouldMove_13 : decode cL_wouldMove 13 = .ok (.iconst 1, 1) := by decide +kernel
theorem dL_wouldMove_14 : decode cL_wouldMove 14 = .ok (.ireturn, 1) := by decide +kernel
theorem dL_wouldMove_15 : decode cL_wouldMove 15 = .ok (.iconst 0, 1) := by decide +kernel
theorem dL_wouldMove_16 : decode cL_wouldMove 16 = .ok (.ireturn, 1) := by decide +kernel
theorem dL_bound_0 : decode cL_bound 0 = .ok (.aload_n 1, 1) := by decide +kernel
theorem dL_bound_1 : decode cL_bound 1 = .ok (.iconst 0, 1) := by decide +kernel
theorem dL_bound_2 : decode cL_bound 2 = .ok (.aload_n 0, 1) := by decide +kernel
theorem dL_bound_3 : decode cL_bound 3 = .ok (.invokevirtual 58, 3) := by decide +kernel
theorem dL_bound_6 : decode cL_bound 6 = .ok (.i2l, 1) := by decide +kernel
theorem dL_bound_7 : decode cL_bound 7 = .ok (.lastore, 1) := by decide +kernel
theorem dL_bound_8 : decode cL_bound 8 = .ok (.goto 6, 3) := by decide +kernel
theorem dL_bound_11 : decode cL_bound 11 = .ok (.astore_n 2, 1) := by decide +kernel
theorem dL_bound_12 : decode cL_bound 12 = .ok (.iconst 1, 1) := by decide +kernel
theorem dL_bound_13 : decode cL_bound 13 = .ok (.ireturn, 1) := by decide +kernel
theorem dL_bound_14 : decode cL_bound 14 = .ok (.iconst 0, 1) := by decide +kernel
theorem dL_bound_15 : decode cL_bound 15 = .ok (.ireturn, 1) := by decide +kernel
theorem dL_law_0 : decode cL_law 0 = .ok (.new 8, 3) := by decide +kernel
theorem dL_law_3 : decode cL_law 3 = .ok (.dup, 1) := by decide +kernel
theorem dL_law_4 : decode cL_law 4 = .ok (.invokespecial 61, 3) := by decide +kernel
theorem dL_law_7 : decode cL_law 7 = .ok (.astore_n 1, 1) := by decide +kernel
theorem dL_law_8 : decode cL_law 8 = .ok (.new 62, 3) := by decide +kernel
theorem dL_law_11 : decode cL_law 11 = .ok (.dup, 1) := by decide +kernel
theorem dL_law_12 : decode cL_law 12 = .ok (.invokespecial 64, 3) := by decide +kernel
theorem dL_law_15 : decode cL_law 15 = .ok (.astore_n 2, 1) := by decide +kernel
theorem dL_law_16 : decode cL_law 16 = .ok (.iconst 1, 1) := by decide +kernel
theorem dL_law_17 : decode cL_law 17 = .ok (.newarray .long, 2) := by decide +kernel
theorem dL_law_19 : decode cL_law 19 = .ok (.astore_n 3, 1) := by decide +kernel
theorem dL_law_20 : decode cL_law 20 = .ok (.iconst 0, 1) := by decide +kernel
theorem dL_law_21 : decode cL_law 21 = .ok (.istore 4, 2) := by decide +kernel
theorem dL_law_23 : decode cL_law 23 = .ok (.iload 4, 2) := by decide +kernel
theorem dL_law_25 : decode cL_law 25 = .ok (.aload_n 0, 1) := by decide +kernel
theorem dL_law_26 : decode cL_law 26 = .ok (.arraylength, 1) := by decide +kernel
theorem dL_law_27 : decode cL_law 27 = .ok (.iconst 5, 1) := by decide +kernel
theorem dL_law_28 : decode cL_law 28 = .ok (.isub, 1) := by decide +kernel
theorem dL_law_29 : decode cL_law 29 = .ok (.if_icmp .gt 999, 3) := by decide +kernel
theorem dL_law_32 : decode cL_law 32 = .ok (.aload_n 0, 1) := by decide +kernel
theorem dL_law_33 : decode cL_law 33 = .ok (.iload 4, 2) := by decide +kernel
theorem dL_law_35 : decode cL_law 35 = .ok (.iaload, 1) := by decide +kernel
theorem dL_law_36 : decode cL_law 36 = .ok (.bipush 31, 2) := by decide +kernel
theorem dL_law_38 : decode cL_law 38 = .ok (.iand, 1) := by decide +kernel
theorem dL_law_39 : decode cL_law 39 = .ok (.tableswitch 983 0 19 #[93, 149, 241, 332, 400, 468, 481, 494, 550, 563, 576, 632, 645, 689, 745, 758, 814, 870, 883, 939], 93) := by decide +kernel
theorem dL_law_132 : decode cL_law 132 = .ok (.aload_n 1, 1) := by decide +kernel
theorem dL_law_133 : decode cL_law 133 = .ok (.aload_n 0, 1) := by decide +kernel
theorem dL_law_134 : decode cL_law 134 = .ok (.iload 4, 2) := by decide +kernel
theorem dL_law_136 : decode cL_law 136 = .ok (.iconst 1, 1) := by decide +kernel
theorem dL_law_137 : decode cL_law 137 = .ok (.iadd, 1) := by decide +kernel
theorem dL_law_138 : decode cL_law 138 = .ok (.iaload, 1) := by decide +kernel
theorem dL_law_139 : decode cL_law 139 = .ok (.aload_n 3, 1) := by decide +kernel
theorem dL_law_140 : decode cL_law 140 = .ok (.invokestatic 65, 3) := by decide +kernel
theorem dL_law_143 : decode cL_law 143 = .ok (.istore 5, 2) := by decide +kernel
theorem dL_law_145 : decode cL_law 145 = .ok (.aload_n 2, 1) := by decide +kernel
theorem dL_law_146 : decode cL_law 146 = .ok (.aload_n 0, 1) := by decide +kernel
theorem dL_law_147 : decode cL_law 147 = .ok (.iload 4, 2) := by decide +kernel
theorem dL_law_149 : decode cL_law 149 = .ok (.iconst 1, 1) := by decide +kernel
theorem dL_law_150 : decode cL_law 150 = .ok (.iadd, 1) := by decide +kernel
theorem dL_law_151 : decode cL_law 151 = .ok (.iaload, 1) := by decide +kernel
theorem dL_law_152 : decode cL_law 152 = .ok (.invokevirtual 70, 3) := by decide +kernel
theorem dL_law_155 : decode cL_law 155 = .ok (.istore 6, 2) := by decide +kernel
theorem dL_law_157 : decode cL_law 157 = .ok (.aload_n 2, 1) := by decide +kernel
theorem dL_law_158 : decode cL_law 158 = .ok (.invokevirtual 71, 3) := by decide +kernel
theorem dL_law_161 : decode cL_law 161 = .ok (.iload 5, 2) := by decide +kernel
theorem dL_law_163 : decode cL_law 163 = .ok (.if_icmp .eq 5, 3) := by decide +kernel
theorem dL_law_166 : decode cL_law 166 = .ok (.iconst 0, 1) := by decide +kernel
theorem dL_law_167 : decode cL_law 167 = .ok (.ireturn, 1) := by decide +kernel
theorem dL_law_168 : decode cL_law 168 = .ok (.iload 5, 2) := by decide +kernel
theorem dL_law_170 : decode cL_law 170 = .ok (.ifCond .ne 15, 3) := by decide +kernel
theorem dL_law_173 : decode cL_law 173 = .ok (.aload_n 3, 1) := by decide +kernel
theorem dL_law_174 : decode cL_law 174 = .ok (.iconst 0, 1) := by decide +kernel
theorem dL_law_175 : decode cL_law 175 = .ok (.laload, 1) := by decide +kernel
theorem dL_law_176 : decode cL_law 176 = .ok (.iload 6, 2) := by decide +kernel
theorem dL_law_178 : decode cL_law 178 = .ok (.i2l, 1) := by decide +kernel
theorem dL_law_179 : decode cL_law 179 = .ok (.lcmp, 1) := by decide +kernel
theorem dL_law_180 : decode cL_law 180 = .ok (.ifCond .eq 5, 3) := by decide +kernel
theorem dL_law_183 : decode cL_law 183 = .ok (.iconst 0, 1) := by decide +kernel
theorem dL_law_184 : decode cL_law 184 = .ok (.ireturn, 1) := by decide +kernel
theorem dL_law_185 : decode cL_law 185 = .ok (.goto 837, 3) := by decide +kernel
theorem dL_law_188 : decode cL_law 188 = .ok (.aload_n 1, 1) := by decide +kernel
theorem dL_law_189 : decode cL_law 189 = .ok (.aload_n 0, 1) := by decide +kernel
theorem dL_law_190 : decode cL_law 190 = .ok (.iload 4, 2) := by decide +kernel
theorem dL_law_192 : decode cL_law 192 = .ok (.iconst 1, 1) := by decide +kernel
theorem dL_law_193 : decode cL_law 193 = .ok (.iadd, 1) := by decide +kernel
theorem dL_law_194 : decode cL_law 194 = .ok (.iaload, 1) := by decide +kernel
theorem dL_law_195 : decode cL_law 195 = .ok (.aload_n 0, 1) := by decide +kernel
theorem dL_law_196 : decode cL_law 196 = .ok (.iload 4, 2) := by decide +kernel
theorem dL_law_198 : decode cL_law 198 = .ok (.iconst 2, 1) := by decide +kernel
theorem dL_law_199 : decode cL_law 199 = .ok (.iadd, 1) := by decide +kernel
theorem dL_law_200 : decode cL_law 200 = .ok (.iaload, 1) := by decide +kernel
theorem dL_law_201 : decode cL_law 201 = .ok (.aload_n 0, 1) := by decide +kernel
theorem dL_law_202 : decode cL_law 202 = .ok (.iload 4, 2) := by decide +kernel
theorem dL_law_204 : decode cL_law 204 = .ok (.iconst 3, 1) := by decide +kernel
theorem dL_law_205 : decode cL_law 205 = .ok (.iadd, 1) := by decide +kernel
theorem dL_law_206 : decode cL_law 206 = .ok (.iaload, 1) := by decide +kernel
theorem dL_law_207 : decode cL_law 207 = .ok (.aload_n 0, 1) := by decide +kernel
theorem dL_law_208 : decode cL_law 208 = .ok (.iload 4, 2) := by decide +kernel
theorem dL_law_210 : decode cL_law 210 = .ok (.iconst 4, 1) := by decide +kernel
theorem dL_law_211 : decode cL_law 211 = .ok (.iadd, 1) := by decide +kernel
theorem dL_law_212 : decode cL_law 212 = .ok (.iaload, 1) := by decide +kernel
theorem dL_law_213 : decode cL_law 213 = .ok (.aload_n 3, 1) := by decide +kernel
theorem dL_law_214 : decode cL_law 214 = .ok (.invokestatic 74, 3) := by decide +kernel
theorem dL_law_217 : decode cL_law 217 = .ok (.istore 5, 2) := by decide +kernel
theorem dL_law_219 : decode cL_law 219 = .ok (.aload_n 2, 1) := by decide +kernel
theorem dL_law_220 : decode cL_law 220 = .ok (.aload_n 0, 1) := by decide +kernel
theorem dL_law_221 : decode cL_law 221 = .ok (.iload 4, 2) := by decide +kernel
theorem dL_law_223 : decode cL_law 223 = .ok (.iconst 1, 1) := by decide +kernel
theorem dL_law_224 : decode cL_law 224 = .ok (.iadd, 1) := by decide +kernel
theorem dL_law_225 : decode cL_law 225 = .ok (.iaload, 1) := by decide +kernel
theorem dL_law_226 : decode cL_law 226 = .ok (.aload_n 0, 1) := by decide +kernel
theorem dL_law_227 : decode cL_law 227 = .ok (.iload 4, 2) := by decide +kernel
theorem dL_law_229 : decode cL_law 229 = .ok (.iconst 2, 1) := by decide +kernel
theorem dL_law_230 : decode cL_law 230 = .ok (.iadd, 1) := by decide +kernel
theorem dL_law_231 : decode cL_law 231 = .ok (.iaload, 1) := by decide +kernel
theorem dL_law_232 : decode cL_law 232 = .ok (.aload_n 0, 1) := by decide +kernel
theorem dL_law_233 : decode cL_law 233 = .ok (.iload 4, 2) := by decide +kernel
theorem dL_law_235 : decode cL_law 235 = .ok (.iconst 3, 1) := by decide +kernel
theorem dL_law_236 : decode cL_law 236 = .ok (.iadd, 1) := by decide +kernel
theorem dL_law_237 : decode cL_law 237 = .ok (.iaload, 1) := by decide +kernel
theorem dL_law_238 : decode cL_law 238 = .ok (.aload_n 0, 1) := by decide +kernel
theorem dL_law_239 : decode cL_law 239 = .ok (.iload 4, 2) := by decide +kernel
theorem dL_law_241 : decode cL_law 241 = .ok (.iconst 4, 1) := by decide +kernel
theorem dL_law_242 : decode cL_law 242 = .ok (.iadd, 1) := by decide +kernel
theorem dL_law_243 : decode cL_law 243 = .ok (.iaload, 1) := by decide +kernel
theorem dL_law_244 : decode cL_law 244 = .ok (.invokevirtual 77, 3) := by decide +kernel
theorem dL_law_247 : decode cL_law 247 = .ok (.istore 6, 2) := by decide +kernel
theorem dL_law_249 : decode cL_law 249 = .ok (.aload_n 2, 1) := by decide +kernel
theorem dL_law_250 : decode cL_law 250 = .ok (.invokevirtual 71, 3) := by decide +kernel
theorem dL_law_253 : decode cL_law 253 = .ok (.iload 5, 2) := by decide +kernel
theorem dL_law_255 : decode cL_law 255 = .ok (.if_icmp .eq 5, 3) := by decide +kernel
theorem dL_law_258 : decode cL_law 258 = .ok (.iconst 0, 1) := by decide +kernel
theorem dL_law_259 : decode cL_law 259 = .ok (.ireturn, 1) := by decide +kernel
theorem dL_law_260 : decode cL_law 260 = .ok (.iload 5, 2) := by decide +kernel
theorem dL_law_262 : decode cL_law 262 = .ok (.ifCond .ne 15, 3) := by decide +kernel
theorem dL_law_265 : decode cL_law 265 = .ok (.aload_n 3, 1) := by decide +kernel
theorem dL_law_266 : decode cL_law 266 = .ok (.iconst 0, 1) := by decide +kernel
theorem dL_law_267 : decode cL_law 267 = .ok (.laload, 1) := by decide +kernel
theorem dL_law_268 : decode cL_law 268 = .ok (.iload 6, 2) := by decide +kernel
theorem dL_law_270 : decode cL_law 270 = .ok (.i2l, 1) := by decide +kernel
theorem dL_law_271 : decode cL_law 271 = .ok (.lcmp, 1) := by decide +kernel
theorem dL_law_272 : decode cL_law 272 = .ok (.ifCond .eq 5, 3) := by decide +kernel
theorem dL_law_275 : decode cL_law 275 = .ok (.iconst 0, 1) := by decide +kernel
theorem dL_law_276 : decode cL_law 276 = .ok (.ireturn, 1) := by decide +kernel
theorem dL_law_277 : decode cL_law 277 = .ok (.goto 745, 3) := by decide +kernel
theorem dL_law_280 : decode cL_law 280 = .ok (.aload_n 1, 1) := by decide +kernel
theorem dL_law_281 : decode cL_law 281 = .ok (.aload_n 0, 1) := by decide +kernel
theorem dL_law_282 : decode cL_law 282 = .ok (.iload 4, 2) := by decide +kernel
theorem dL_law_284 : decode cL_law 284 = .ok (.iconst 1, 1) := by decide +kernel
theorem dL_law_285 : decode cL_law 285 = .ok (.iadd, 1) := by decide +kernel
theorem dL_law_286 : decode cL_law 286 = .ok (.iaload, 1) := by decide +kernel
theorem dL_law_287 : decode cL_law 287 = .ok (.aload_n 0, 1) := by decide +kernel
theorem dL_law_288 : decode cL_law 288 = .ok (.iload 4, 2) := by decide +kernel
theorem dL_law_290 : decode cL_law 290 = .ok (.iconst 2, 1) := by decide +kernel
theorem dL_law_291 : decode cL_law 291 = .ok (.iadd, 1) := by decide +kernel
theorem dL_law_292 : decode cL_law 292 = .ok (.iaload, 1) := by decide +kernel
theorem dL_law_293 : decode cL_law 293 = .ok (.ifCond .eq 7, 3) := by decide +kernel
theorem dL_law_296 : decode cL_law 296 = .ok (.iconst 1, 1) := by decide +kernel
theorem dL_law_297 : decode cL_law 297 = .ok (.goto 4, 3) := by decide +kernel
theorem dL_law_300 : decode cL_law 300 = .ok (.iconst 0, 1) := by decide +kernel
theorem dL_law_301 : decode cL_law 301 = .ok (.aload_n 3, 1) := by decide +kernel
theorem dL_law_302 : decode cL_law 302 = .ok (.invokestatic 78, 3) := by decide +kernel
theorem dL_law_305 : decode cL_law 305 = .ok (.istore 5, 2) := by decide +kernel
theorem dL_law_307 : decode cL_law 307 = .ok (.aload_n 2, 1) := by decide +kernel
theorem dL_law_308 : decode cL_law 308 = .ok (.aload_n 0, 1) := by decide +kernel
theorem dL_law_309 : decode cL_law 309 = .ok (.iload 4, 2) := by decide +kernel
theorem dL_law_311 : decode cL_law 311 = .ok (.iconst 1, 1) := by decide +kernel
theorem dL_law_312 : decode cL_law 312 = .ok (.iadd, 1) := by decide +kernel
theorem dL_law_313 : decode cL_law 313 = .ok (.iaload, 1) := by decide +kernel
theorem dL_law_314 : decode cL_law 314 = .ok (.aload_n 0, 1) := by decide +kernel
theorem dL_law_315 : decode cL_law 315 = .ok (.iload 4, 2) := by decide +kernel
theorem dL_law_317 : decode cL_law 317 = .ok (.iconst 2, 1) := by decide +kernel
theorem dL_law_318 : decode cL_law 318 = .ok (.iadd, 1) := by decide +kernel
theorem dL_law_319 : decode cL_law 319 = .ok (.iaload, 1) := by decide +kernel
theorem dL_law_320 : decode cL_law 320 = .ok (.ifCond .eq 7, 3) := by decide +kernel
theorem dL_law_323 : decode cL_law 323 = .ok (.iconst 1, 1) := by decide +kernel
theorem dL_law_324 : decode cL_law 324 = .ok (.goto 4, 3) := by decide +kernel
theorem dL_law_327 : decode cL_law 327 = .ok (.iconst 0, 1) := by decide +kernel
theorem dL_law_328 : decode cL_law 328 = .ok (.invokevirtual 81, 3) := by decide +kernel
theorem dL_law_331 : decode cL_law 331 = .ok (.istore 6, 2) := by decide +kernel
theorem dL_law_333 : decode cL_law 333 = .ok (.aload_n 2, 1) := by decide +kernel
theorem dL_law_334 : decode cL_law 334 = .ok (.invokevirtual 71, 3) := by decide +kernel
theorem dL_law_337 : decode cL_law 337 = .ok (.iload 5, 2) := by decide +kernel
theorem dL_law_339 : decode cL_law 339 = .ok (.if_icmp .eq 5, 3) := by decide +kernel
theorem dL_law_342 : decode cL_law 342 = .ok (.iconst 0, 1) := by decide +kernel
theorem dL_law_343 : decode cL_law 343 = .ok (.ireturn, 1) := by decide +kernel
theorem dL_law_344 : decode cL_law 344 = .ok (.iload 5, 2) := by decide +kernel
theorem dL_law_346 : decode cL_law 346 = .ok (.ifCond .ne 22, 3) := by decide +kernel
theorem dL_law_349 : decode cL_law 349 = .ok (.aload_n 3, 1) := by decide +kernel
theorem dL_law_350 : decode cL_law 350 = .ok (.iconst 0, 1) := by decide +kernel
theorem dL_law_351 : decode cL_law 351 = .ok (.laload, 1) := by decide +kernel
theorem dL_law_352 : decode cL_law 352 = .ok (.iload 6, 2) := by decide +kernel
theorem dL_law_354 : decode cL_law 354 = .ok (.ifCond .eq 7, 3) := by decide +kernel
theorem dL_law_357 : decode cL_law 357 = .ok (.lconst 1, 1) := by decide +kernel
theorem dL_law_358 : decode cL_law 358 = .ok (.goto 4, 3) := by decide +kernel
theorem dL_law_361 : decode cL_law 361 = .ok (.lconst 0, 1) := by decide +kernel
theorem dL_law_362 : decode cL_law 362 = .ok (.lcmp, 1) := by decide +kernel
theorem dL_law_363 : decode cL_law 363 = .ok (.ifCond .eq 5, 3) := by decide +kernel
theorem dL_law_366 : decode cL_law 366 = .ok (.iconst 0, 1) := by decide +kernel
theorem dL_law_367 : decode cL_law 367 = .ok (.ireturn, 1) := by decide +kernel
theorem dL_law_368 : decode cL_law 368 = .ok (.goto 654, 3) := by decide +kernel
theorem dL_law_371 : decode cL_law 371 = .ok (.aload_n 1, 1) := by decide +kernel
theorem dL_law_372 : decode cL_law 372 = .ok (.aload_n 0, 1) := by decide +kernel
theorem dL_law_373 : decode cL_law 373 = .ok (.iload 4, 2) := by decide +kernel
theorem dL_law_375 : decode cL_law 375 = .ok (.iconst 1, 1) := by decide +kernel
theorem dL_law_376 : decode cL_law 376 = .ok (.iadd, 1) := by decide +kernel
theorem dL_law_377 : decode cL_law 377 = .ok (.iaload, 1) := by decide +kernel
theorem dL_law_378 : decode cL_law 378 = .ok (.aload_n 0, 1) := by decide +kernel
theorem dL_law_379 : decode cL_law 379 = .ok (.iload 4, 2) := by decide +kernel
theorem dL_law_381 : decode cL_law 381 = .ok (.iconst 2, 1) := by decide +kernel
theorem dL_law_382 : decode cL_law 382 = .ok (.iadd, 1) := by decide +kernel
theorem dL_law_383 : decode cL_law 383 = .ok (.iaload, 1) := by decide +kernel
theorem dL_law_384 : decode cL_law 384 = .ok (.aload_n 3, 1) := by decide +kernel
theorem dL_law_385 : decode cL_law 385 = .ok (.invokestatic 82, 3) := by decide +kernel
theorem dL_law_388 : decode cL_law 388 = .ok (.istore 5, 2) := by decide +kernel
theorem dL_law_390 : decode cL_law 390 = .ok (.aload_n 2, 1) := by decide +kernel
theorem dL_law_391 : decode cL_law 391 = .ok (.aload_n 0, 1) := by decide +kernel
theorem dL_law_392 : decode cL_law 392 = .ok (.iload 4, 2) := by decide +kernel
theorem dL_law_394 : decode cL_law 394 = .ok (.iconst 1, 1) := by decide +kernel
theorem dL_law_395 : decode cL_law 395 = .ok (.iadd, 1) := by decide +kernel
theorem dL_law_396 : decode cL_law 396 = .ok (.iaload, 1) := by decide +kernel
theorem dL_law_397 : decode cL_law 397 = .ok (.aload_n 0, 1) := by decide +kernel
theorem dL_law_398 : decode cL_law 398 = .ok (.iload 4, 2) := by decide +kernel
theorem dL_law_400 : decode cL_law 400 = .ok (.iconst 2, 1) := by decide +kernel
theorem dL_law_401 : decode cL_law 401 = .ok (.iadd, 1) := by decide +kernel
theorem dL_law_402 : decode cL_law 402 = .ok (.iaload, 1) := by decide +kernel
theorem dL_law_403 : decode cL_law 403 = .ok (.invokevirtual 85, 3) := by decide +kernel
theorem dL_law_406 : decode cL_law 406 = .ok (.istore 6, 2) := by decide +kernel
theorem dL_law_408 : decode cL_law 408 = .ok (.aload_n 2, 1) := by decide +kernel
theorem dL_law_409 : decode cL_law 409 = .ok (.invokevirtual 71, 3) := by decide +kernel
theorem dL_law_412 : decode cL_law 412 = .ok (.iload 5, 2) := by decide +kernel
theorem dL_law_414 : decode cL_law 414 = .ok (.if_icmp .eq 5, 3) := by decide +kernel
theorem dL_law_417 : decode cL_law 417 = .ok (.iconst 0, 1) := by decide +kernel
theorem dL_law_418 : decode cL_law 418 = .ok (.ireturn, 1) := by decide +kernel
theorem dL_law_419 : decode cL_law 419 = .ok (.iload 5, 2) := by decide +kernel
theorem dL_law_421 : decode cL_law 421 = .ok (.ifCond .ne 15, 3) := by decide +kernel
theorem dL_law_424 : decode cL_law 424 = .ok (.aload_n 3, 1) := by decide +kernel
theorem dL_law_425 : decode cL_law 425 = .ok (.iconst 0, 1) := by decide +kernel
theorem dL_law_426 : decode cL_law 426 = .ok (.laload, 1) := by decide +kernel
theorem dL_law_427 : decode cL_law 427 = .ok (.iload 6, 2) := by decide +kernel
theorem dL_law_429 : decode cL_law 429 = .ok (.i2l, 1) := by decide +kernel
theorem dL_law_430 : decode cL_law 430 = .ok (.lcmp, 1) := by decide +kernel
theorem dL_law_431 : decode cL_law 431 = .ok (.ifCond .eq 5, 3) := by decide +kernel
theorem dL_law_434 : decode cL_law 434 = .ok (.iconst 0, 1) := by decide +kernel
theorem dL_law_435 : decode cL_law 435 = .ok (.ireturn, 1) := by decide +kernel
theorem dL_law_436 : decode cL_law 436 = .ok (.goto 586, 3) := by decide +kernel
theorem dL_law_439 : decode cL_law 439 = .ok (.aload_n 1, 1) := by decide +kernel
theorem dL_law_440 : decode cL_law 440 = .ok (.aload_n 0, 1) := by decide +kernel
theorem dL_law_441 : decode cL_law 441 = .ok (.iload 4, 2) := by decide +kernel
theorem dL_law_443 : decode cL_law 443 = .ok (.iconst 1, 1) := by decide +kernel
theorem dL_law_444 : decode cL_law 444 = .ok (.iadd, 1) := by decide +kernel
theorem dL_law_445 : decode cL_law 445 = .ok (.iaload, 1) := by decide +kernel
theorem dL_law_446 : decode cL_law 446 = .ok (.aload_n 0, 1) := by decide +kernel
theorem dL_law_447 : decode cL_law 447 = .ok (.iload 4, 2) := by decide +kernel
theorem dL_law_449 : decode cL_law 449 = .ok (.iconst 2, 1) := by decide +kernel
theorem dL_law_450 : decode cL_law 450 = .ok (.iadd, 1) := by decide +kernel
theorem dL_law_451 : decode cL_law 451 = .ok (.iaload, 1) := by decide +kernel
theorem dL_law_452 : decode cL_law 452 = .ok (.aload_n 3, 1) := by decide +kernel
theorem dL_law_453 : decode cL_law 453 = .ok (.invokestatic 86, 3) := by decide +kernel
theorem dL_law_456 : decode cL_law 456 = .ok (.istore 5, 2) := by decide +kernel
theorem dL_law_458 : decode cL_law 458 = .ok (.aload_n 2, 1) := by decide +kernel
theorem dL_law_459 : decode cL_law 459 = .ok (.aload_n 0, 1) := by decide +kernel
theorem dL_law_460 : decode cL_law 460 = .ok (.iload 4, 2) := by decide +kernel
theorem dL_law_462 : decode cL_law 462 = .ok (.iconst 1, 1) := by decide +kernel
theorem dL_law_463 : decode cL_law 463 = .ok (.iadd, 1) := by decide +kernel
theorem dL_law_464 : decode cL_law 464 = .ok (.iaload, 1) := by decide +kernel
theorem dL_law_465 : decode cL_law 465 = .ok (.aload_n 0, 1) := by decide +kernel
theorem dL_law_466 : decode cL_law 466 = .ok (.iload 4, 2) := by decide +kernel
theorem dL_law_468 : decode cL_law 468 = .ok (.iconst 2, 1) := by decide +kernel
theorem dL_law_469 : decode cL_law 469 = .ok (.iadd, 1) := by decide +kernel
theorem dL_law_470 : decode cL_law 470 = .ok (.iaload, 1) := by decide +kernel
theorem dL_law_471 : decode cL_law 471 = .ok (.invokevirtual 88, 3) := by decide +kernel
theorem dL_law_474 : decode cL_law 474 = .ok (.istore 6, 2) := by decide +kernel
theorem dL_law_476 : decode cL_law 476 = .ok (.aload_n 2, 1) := by decide +kernel
theorem dL_law_477 : decode cL_law 477 = .ok (.invokevirtual 71, 3) := by decide +kernel
theorem dL_law_480 : decode cL_law 480 = .ok (.iload 5, 2) := by decide +kernel
theorem dL_law_482 : decode cL_law 482 = .ok (.if_icmp .eq 5, 3) := by decide +kernel
theorem dL_law_485 : decode cL_law 485 = .ok (.iconst 0, 1) := by decide +kernel
theorem dL_law_486 : decode cL_law 486 = .ok (.ireturn, 1) := by decide +kernel
theorem dL_law_487 : decode cL_law 487 = .ok (.iload 5, 2) := by decide +kernel
theorem dL_law_489 : decode cL_law 489 = .ok (.ifCond .ne 15, 3) := by decide +kernel
theorem dL_law_492 : decode cL_law 492 = .ok (.aload_n 3, 1) := by decide +kernel
theorem dL_law_493 : decode cL_law 493 = .ok (.iconst 0, 1) := by decide +kernel
theorem dL_law_494 : decode cL_law 494 = .ok (.laload, 1) := by decide +kernel
theorem dL_law_495 : decode cL_law 495 = .ok (.iload 6, 2) := by decide +kernel
theorem dL_law_497 : decode cL_law 497 = .ok (.i2l, 1) := by decide +kernel
theorem dL_law_498 : decode cL_law 498 = .ok (.lcmp, 1) := by decide +kernel
theorem dL_law_499 : decode cL_law 499 = .ok (.ifCond .eq 5, 3) := by decide +kernel
theorem dL_law_502 : decode cL_law 502 = .ok (.iconst 0, 1) := by decide +kernel
theorem dL_law_503 : decode cL_law 503 = .ok (.ireturn, 1) := by decide +kernel
theorem dL_law_504 : decode cL_law 504 = .ok (.goto 518, 3) := by decide +kernel
theorem dL_law_507 : decode cL_law 507 = .ok (.aload_n 1, 1) := by decide +kernel
theorem dL_law_508 : decode cL_law 508 = .ok (.invokevirtual 89, 3) := by decide +kernel
theorem dL_law_511 : decode cL_law 511 = .ok (.aload_n 2, 1) := by decide +kernel
theorem dL_law_512 : decode cL_law 512 = .ok (.invokevirtual 92, 3) := by decide +kernel
theorem dL_law_515 : decode cL_law 515 = .ok (.if_icmp .eq 507, 3) := by decide +kernel
theorem dL_law_518 : decode cL_law 518 = .ok (.iconst 0, 1) := by decide +kernel
theorem dL_law_519 : decode cL_law 519 = .ok (.ireturn, 1) := by decide +kernel
theorem dL_law_520 : decode cL_law 520 = .ok (.aload_n 1, 1) := by decide +kernel
theorem dL_law_521 : decode cL_law 521 = .ok (.invokevirtual 93, 3) := by decide +kernel
theorem dL_law_524 : decode cL_law 524 = .ok (.aload_n 2, 1) := by decide +kernel
theorem dL_law_525 : decode cL_law 525 = .ok (.invokevirtual 96, 3) := by decide +kernel
theorem dL_law_528 : decode cL_law 528 = .ok (.if_icmp .eq 494, 3) := by decide +kernel
theorem dL_law_531 : decode cL_law 531 = .ok (.iconst 0, 1) := by decide +kernel
theorem dL_law_532 : decode cL_law 532 = .ok (.ireturn, 1) := by decide +kernel
theorem dL_law_533 : decode cL_law 533 = .ok (.aload_n 1, 1) := by decide +kernel
theorem dL_law_534 : decode cL_law 534 = .ok (.aload_n 0, 1) := by decide +kernel
theorem dL_law_535 : decode cL_law 535 = .ok (.iload 4, 2) := by decide +kernel
theorem dL_law_537 : decode cL_law 537 = .ok (.iconst 1, 1) := by decide +kernel
theorem dL_law_538 : decode cL_law 538 = .ok (.iadd, 1) := by decide +kernel
theorem dL_law_539 : decode cL_law 539 = .ok (.iaload, 1) := by decide +kernel
theorem dL_law_540 : decode cL_law 540 = .ok (.aload_n 3, 1) := by decide +kernel
theorem dL_law_541 : decode cL_law 541 = .ok (.invokestatic 97, 3) := by decide +kernel
theorem dL_law_544 : decode cL_law 544 = .ok (.istore 5, 2) := by decide +kernel
theorem dL_law_546 : decode cL_law 546 = .ok (.aload_n 2, 1) := by decide +kernel
theorem dL_law_547 : decode cL_law 547 = .ok (.aload_n 0, 1) := by decide +kernel
theorem dL_law_548 : decode cL_law 548 = .ok (.iload 4, 2) := by decide +kernel
theorem dL_law_550 : decode cL_law 550 = .ok (.iconst 1, 1) := by decide +kernel
theorem dL_law_551 : decode cL_law 551 = .ok (.iadd, 1) := by decide +kernel
theorem dL_law_552 : decode cL_law 552 = .ok (.iaload, 1) := by decide +kernel
theorem dL_law_553 : decode cL_law 553 = .ok (.invokevirtual 99, 3) := by decide +kernel
theorem dL_law_556 : decode cL_law 556 = .ok (.istore 6, 2) := by decide +kernel
theorem dL_law_558 : decode cL_law 558 = .ok (.aload_n 2, 1) := by decide +kernel
theorem dL_law_559 : decode cL_law 559 = .ok (.invokevirtual 71, 3) := by decide +kernel
theorem dL_law_562 : decode cL_law 562 = .ok (.iload 5, 2) := by decide +kernel
theorem dL_law_564 : decode cL_law 564 = .ok (.if_icmp .eq 5, 3) := by decide +kernel
theorem dL_law_567 : decode cL_law 567 = .ok (.iconst 0, 1) := by decide +kernel
theorem dL_law_568 : decode cL_law 568 = .ok (.ireturn, 1) := by decide +kernel
theorem dL_law_569 : decode cL_law 569 = .ok (.iload 5, 2) := by decide +kernel
theorem dL_law_571 : decode cL_law 571 = .ok (.ifCond .ne 15, 3) := by decide +kernel
theorem dL_law_574 : decode cL_law 574 = .ok (.aload_n 3, 1) := by decide +kernel
theorem dL_law_575 : decode cL_law 575 = .ok (.iconst 0, 1) := by decide +kernel
theorem dL_law_576 : decode cL_law 576 = .ok (.laload, 1) := by decide +kernel
theorem dL_law_577 : decode cL_law 577 = .ok (.iload 6, 2) := by decide +kernel
theorem dL_law_579 : decode cL_law 579 = .ok (.i2l, 1) := by decide +kernel
theorem dL_law_580 : decode cL_law 580 = .ok (.lcmp, 1) := by decide +kernel
theorem dL_law_581 : decode cL_law 581 = .ok (.ifCond .eq 5, 3) := by decide +kernel
theorem dL_law_584 : decode cL_law 584 = .ok (.iconst 0, 1) := by decide +kernel
theorem dL_law_585 : decode cL_law 585 = .ok (.ireturn, 1) := by decide +kernel
theorem dL_law_586 : decode cL_law 586 = .ok (.goto 436, 3) := by decide +kernel
theorem dL_law_589 : decode cL_law 589 = .ok (.aload_n 1, 1) := by decide +kernel
theorem dL_law_590 : decode cL_law 590 = .ok (.invokevirtual 100, 3) := by decide +kernel
theorem dL_law_593 : decode cL_law 593 = .ok (.aload_n 2, 1) := by decide +kernel
theorem dL_law_594 : decode cL_law 594 = .ok (.invokevirtual 103, 3) := by decide +kernel
theorem dL_law_597 : decode cL_law 597 = .ok (.if_icmp .eq 425, 3) := by decide +kernel
theorem dL_law_600 : decode cL_law 600 = .ok (.iconst 0, 1) := by decide +kernel
theorem dL_law_601 : decode cL_law 601 = .ok (.ireturn, 1) := by decide +kernel
theorem dL_law_602 : decode cL_law 602 = .ok (.aload_n 1, 1) := by decide +kernel
theorem dL_law_603 : decode cL_law 603 = .ok (.invokevirtual 104, 3) := by decide +kernel
theorem dL_law_606 : decode cL_law 606 = .ok (.aload_n 2, 1) := by decide +kernel
theorem dL_law_607 : decode cL_law 607 = .ok (.invokevirtual 107, 3) := by decide +kernel
theorem dL_law_610 : decode cL_law 610 = .ok (.if_icmp .eq 412, 3) := by decide +kernel
theorem dL_law_613 : decode cL_law 613 = .ok (.iconst 0, 1) := by decide +kernel
theorem dL_law_614 : decode cL_law 614 = .ok (.ireturn, 1) := by decide +kernel
theorem dL_law_615 : decode cL_law 615 = .ok (.aload_n 1, 1) := by decide +kernel
theorem dL_law_616 : decode cL_law 616 = .ok (.aload_n 0, 1) := by decide +kernel
theorem dL_law_617 : decode cL_law 617 = .ok (.iload 4, 2) := by decide +kernel
theorem dL_law_619 : decode cL_law 619 = .ok (.iconst 1, 1) := by decide +kernel
theorem dL_law_620 : decode cL_law 620 = .ok (.iadd, 1) := by decide +kernel
theorem dL_law_621 : decode cL_law 621 = .ok (.iaload, 1) := by decide +kernel
theorem dL_law_622 : decode cL_law 622 = .ok (.aload_n 3, 1) := by decide +kernel
theorem dL_law_623 : decode cL_law 623 = .ok (.invokestatic 108, 3) := by decide +kernel
theorem dL_law_626 : decode cL_law 626 = .ok (.istore 5, 2) := by decide +kernel
theorem dL_law_628 : decode cL_law 628 = .ok (.aload_n 2, 1) := by decide +kernel
theorem dL_law_629 : decode cL_law 629 = .ok (.aload_n 0, 1) := by decide +kernel
theorem dL_law_630 : decode cL_law 630 = .ok (.iload 4, 2) := by decide +kernel
theorem dL_law_632 : decode cL_law 632 = .ok (.iconst 1, 1) := by decide +kernel
theorem dL_law_633 : decode cL_law 633 = .ok (.iadd, 1) := by decide +kernel
theorem dL_law_634 : decode cL_law 634 = .ok (.iaload, 1) := by decide +kernel
theorem dL_law_635 : decode cL_law 635 = .ok (.invokevirtual 110, 3) := by decide +kernel
theorem dL_law_638 : decode cL_law 638 = .ok (.istore 6, 2) := by decide +kernel
theorem dL_law_640 : decode cL_law 640 = .ok (.aload_n 2, 1) := by decide +kernel
theorem dL_law_641 : decode cL_law 641 = .ok (.invokevirtual 71, 3) := by decide +kernel
theorem dL_law_644 : decode cL_law 644 = .ok (.iload 5, 2) := by decide +kernel
theorem dL_law_646 : decode cL_law 646 = .ok (.if_icmp .eq 5, 3) := by decide +kernel
theorem dL_law_649 : decode cL_law 649 = .ok (.iconst 0, 1) := by decide +kernel
theorem dL_law_650 : decode cL_law 650 = .ok (.ireturn, 1) := by decide +kernel
theorem dL_law_651 : decode cL_law 651 = .ok (.iload 5, 2) := by decide +kernel
theorem dL_law_653 : decode cL_law 653 = .ok (.ifCond .ne 15, 3) := by decide +kernel
theorem dL_law_656 : decode cL_law 656 = .ok (.aload_n 3, 1) := by decide +kernel
theorem dL_law_657 : decode cL_law 657 = .ok (.iconst 0, 1) := by decide +kernel
theorem dL_law_658 : decode cL_law 658 = .ok (.laload, 1) := by decide +kernel
theorem dL_law_659 : decode cL_law 659 = .ok (.iload 6, 2) := by decide +kernel
theorem dL_law_661 : decode cL_law 661 = .ok (.i2l, 1) := by decide +kernel
theorem dL_law_662 : decode cL_law 662 = .ok (.lcmp, 1) := by decide +kernel
theorem dL_law_663 : decode cL_law 663 = .ok (.ifCond .eq 5, 3) := by decide +kernel
theorem dL_law_666 : decode cL_law 666 = .ok (.iconst 0, 1) := by decide +kernel
theorem dL_law_667 : decode cL_law 667 = .ok (.ireturn, 1) := by decide +kernel
theorem dL_law_668 : decode cL_law 668 = .ok (.goto 354, 3) := by decide +kernel
theorem dL_law_671 : decode cL_law 671 = .ok (.aload_n 1, 1) := by decide +kernel
theorem dL_law_672 : decode cL_law 672 = .ok (.invokevirtual 111, 3) := by decide +kernel
theorem dL_law_675 : decode cL_law 675 = .ok (.aload_n 2, 1) := by decide +kernel
theorem dL_law_676 : decode cL_law 676 = .ok (.invokevirtual 114, 3) := by decide +kernel
theorem dL_law_679 : decode cL_law 679 = .ok (.if_icmp .eq 343, 3) := by decide +kernel
theorem dL_law_682 : decode cL_law 682 = .ok (.iconst 0, 1) := by decide +kernel
theorem dL_law_683 : decode cL_law 683 = .ok (.ireturn, 1) := by decide +kernel
theorem dL_law_684 : decode cL_law 684 = .ok (.aload_n 1, 1) := by decide +kernel
theorem dL_law_685 : decode cL_law 685 = .ok (.aload_n 3, 1) := by decide +kernel
theorem dL_law_686 : decode cL_law 686 = .ok (.invokestatic 115, 3) := by decide +kernel
theorem dL_law_689 : decode cL_law 689 = .ok (.istore 5, 2) := by decide +kernel
theorem dL_law_691 : decode cL_law 691 = .ok (.aload_n 2, 1) := by decide +kernel
theorem dL_law_692 : decode cL_law 692 = .ok (.invokevirtual 118, 3) := by decide +kernel
theorem dL_law_695 : decode cL_law 695 = .ok (.istore 6, 2) := by decide +kernel
theorem dL_law_697 : decode cL_law 697 = .ok (.aload_n 2, 1) := by decide +kernel
theorem dL_law_698 : decode cL_law 698 = .ok (.invokevirtual 71, 3) := by decide +kernel
theorem dL_law_701 : decode cL_law 701 = .ok (.iload 5, 2) := by decide +kernel
theorem dL_law_703 : decode cL_law 703 = .ok (.if_icmp .eq 5, 3) := by decide +kernel
theorem dL_law_706 : decode cL_law 706 = .ok (.iconst 0, 1) := by decide +kernel
theorem dL_law_707 : decode cL_law 707 = .ok (.ireturn, 1) := by decide +kernel
theorem dL_law_708 : decode cL_law 708 = .ok (.iload 5, 2) := by decide +kernel
theorem dL_law_710 : decode cL_law 710 = .ok (.ifCond .ne 15, 3) := by decide +kernel
theorem dL_law_713 : decode cL_law 713 = .ok (.aload_n 3, 1) := by decide +kernel
theorem dL_law_714 : decode cL_law 714 = .ok (.iconst 0, 1) := by decide +kernel
theorem dL_law_715 : decode cL_law 715 = .ok (.laload, 1) := by decide +kernel
theorem dL_law_716 : decode cL_law 716 = .ok (.iload 6, 2) := by decide +kernel
theorem dL_law_718 : decode cL_law 718 = .ok (.i2l, 1) := by decide +kernel
theorem dL_law_719 : decode cL_law 719 = .ok (.lcmp, 1) := by decide +kernel
theorem dL_law_720 : decode cL_law 720 = .ok (.ifCond .eq 5, 3) := by decide +kernel
theorem dL_law_723 : decode cL_law 723 = .ok (.iconst 0, 1) := by decide +kernel
theorem dL_law_724 : decode cL_law 724 = .ok (.ireturn, 1) := by decide +kernel
theorem dL_law_725 : decode cL_law 725 = .ok (.goto 297, 3) := by decide +kernel
theorem dL_law_728 : decode cL_law 728 = .ok (.aload_n 1, 1) := by decide +kernel
theorem dL_law_729 : decode cL_law 729 = .ok (.aload_n 0, 1) := by decide +kernel
theorem dL_law_730 : decode cL_law 730 = .ok (.iload 4, 2) := by decide +kernel
theorem dL_law_732 : decode cL_law 732 = .ok (.iconst 1, 1) := by decide +kernel
theorem dL_law_733 : decode cL_law 733 = .ok (.iadd, 1) := by decide +kernel
theorem dL_law_734 : decode cL_law 734 = .ok (.iaload, 1) := by decide +kernel
theorem dL_law_735 : decode cL_law 735 = .ok (.aload_n 3, 1) := by decide +kernel
theorem dL_law_736 : decode cL_law 736 = .ok (.invokestatic 119, 3) := by decide +kernel
theorem dL_law_739 : decode cL_law 739 = .ok (.istore 5, 2) := by decide +kernel
theorem dL_law_741 : decode cL_law 741 = .ok (.aload_n 2, 1) := by decide +kernel
theorem dL_law_742 : decode cL_law 742 = .ok (.aload_n 0, 1) := by decide +kernel
theorem dL_law_743 : decode cL_law 743 = .ok (.iload 4, 2) := by decide +kernel
theorem dL_law_745 : decode cL_law 745 = .ok (.iconst 1, 1) := by decide +kernel
theorem dL_law_746 : decode cL_law 746 = .ok (.iadd, 1) := by decide +kernel
theorem dL_law_747 : decode cL_law 747 = .ok (.iaload, 1) := by decide +kernel
theorem dL_law_748 : decode cL_law 748 = .ok (.invokevirtual 121, 3) := by decide +kernel
theorem dL_law_751 : decode cL_law 751 = .ok (.istore 6, 2) := by decide +kernel
theorem dL_law_753 : decode cL_law 753 = .ok (.aload_n 2, 1) := by decide +kernel
theorem dL_law_754 : decode cL_law 754 = .ok (.invokevirtual 71, 3) := by decide +kernel
theorem dL_law_757 : decode cL_law 757 = .ok (.iload 5, 2) := by decide +kernel
theorem dL_law_759 : decode cL_law 759 = .ok (.if_icmp .eq 5, 3) := by decide +kernel
theorem dL_law_762 : decode cL_law 762 = .ok (.iconst 0, 1) := by decide +kernel
theorem dL_law_763 : decode cL_law 763 = .ok (.ireturn, 1) := by decide +kernel
theorem dL_law_764 : decode cL_law 764 = .ok (.iload 5, 2) := by decide +kernel
theorem dL_law_766 : decode cL_law 766 = .ok (.ifCond .ne 15, 3) := by decide +kernel
theorem dL_law_769 : decode cL_law 769 = .ok (.aload_n 3, 1) := by decide +kernel
theorem dL_law_770 : decode cL_law 770 = .ok (.iconst 0, 1) := by decide +kernel
theorem dL_law_771 : decode cL_law 771 = .ok (.laload, 1) := by decide +kernel
theorem dL_law_772 : decode cL_law 772 = .ok (.iload 6, 2) := by decide +kernel
theorem dL_law_774 : decode cL_law 774 = .ok (.i2l, 1) := by decide +kernel
theorem dL_law_775 : decode cL_law 775 = .ok (.lcmp, 1) := by decide +kernel
theorem dL_law_776 : decode cL_law 776 = .ok (.ifCond .eq 5, 3) := by decide +kernel
theorem dL_law_779 : decode cL_law 779 = .ok (.iconst 0, 1) := by decide +kernel
theorem dL_law_780 : decode cL_law 780 = .ok (.ireturn, 1) := by decide +kernel
theorem dL_law_781 : decode cL_law 781 = .ok (.goto 241, 3) := by decide +kernel
theorem dL_law_784 : decode cL_law 784 = .ok (.aload_n 1, 1) := by decide +kernel
theorem dL_law_785 : decode cL_law 785 = .ok (.invokevirtual 122, 3) := by decide +kernel
theorem dL_law_788 : decode cL_law 788 = .ok (.aload_n 2, 1) := by decide +kernel
theorem dL_law_789 : decode cL_law 789 = .ok (.invokevirtual 125, 3) := by decide +kernel
theorem dL_law_792 : decode cL_law 792 = .ok (.if_icmp .eq 230, 3) := by decide +kernel
theorem dL_law_795 : decode cL_law 795 = .ok (.iconst 0, 1) := by decide +kernel
theorem dL_law_796 : decode cL_law 796 = .ok (.ireturn, 1) := by decide +kernel
theorem dL_law_797 : decode cL_law 797 = .ok (.aload_n 1, 1) := by decide +kernel
theorem dL_law_798 : decode cL_law 798 = .ok (.aload_n 0, 1) := by decide +kernel
theorem dL_law_799 : decode cL_law 799 = .ok (.iload 4, 2) := by decide +kernel
theorem dL_law_801 : decode cL_law 801 = .ok (.iconst 1, 1) := by decide +kernel
theorem dL_law_802 : decode cL_law 802 = .ok (.iadd, 1) := by decide +kernel
theorem dL_law_803 : decode cL_law 803 = .ok (.iaload, 1) := by decide +kernel
theorem dL_law_804 : decode cL_law 804 = .ok (.aload_n 3, 1) := by decide +kernel
theorem dL_law_805 : decode cL_law 805 = .ok (.invokestatic 126, 3) := by decide +kernel
theorem dL_law_808 : decode cL_law 808 = .ok (.istore 5, 2) := by decide +kernel
theorem dL_law_810 : decode cL_law 810 = .ok (.aload_n 2, 1) := by decide +kernel
theorem dL_law_811 : decode cL_law 811 = .ok (.aload_n 0, 1) := by decide +kernel
theorem dL_law_812 : decode cL_law 812 = .ok (.iload 4, 2) := by decide +kernel
theorem dL_law_814 : decode cL_law 814 = .ok (.iconst 1, 1) := by decide +kernel
theorem dL_law_815 : decode cL_law 815 = .ok (.iadd, 1) := by decide +kernel
theorem dL_law_816 : decode cL_law 816 = .ok (.iaload, 1) := by decide +kernel
theorem dL_law_817 : decode cL_law 817 = .ok (.invokevirtual 128, 3) := by decide +kernel
theorem dL_law_820 : decode cL_law 820 = .ok (.istore 6, 2) := by decide +kernel
theorem dL_law_822 : decode cL_law 822 = .ok (.aload_n 2, 1) := by decide +kernel
theorem dL_law_823 : decode cL_law 823 = .ok (.invokevirtual 71, 3) := by decide +kernel
theorem dL_law_826 : decode cL_law 826 = .ok (.iload 5, 2) := by decide +kernel
theorem dL_law_828 : decode cL_law 828 = .ok (.if_icmp .eq 5, 3) := by decide +kernel
theorem dL_law_831 : decode cL_law 831 = .ok (.iconst 0, 1) := by decide +kernel
theorem dL_law_832 : decode cL_law 832 = .ok (.ireturn, 1) := by decide +kernel
theorem dL_law_833 : decode cL_law 833 = .ok (.iload 5, 2) := by decide +kernel
theorem dL_law_835 : decode cL_law 835 = .ok (.ifCond .ne 15, 3) := by decide +kernel
theorem dL_law_838 : decode cL_law 838 = .ok (.aload_n 3, 1) := by decide +kernel
theorem dL_law_839 : decode cL_law 839 = .ok (.iconst 0, 1) := by decide +kernel
theorem dL_law_840 : decode cL_law 840 = .ok (.laload, 1) := by decide +kernel
theorem dL_law_841 : decode cL_law 841 = .ok (.iload 6, 2) := by decide +kernel
theorem dL_law_843 : decode cL_law 843 = .ok (.i2l, 1) := by decide +kernel
theorem dL_law_844 : decode cL_law 844 = .ok (.lcmp, 1) := by decide +kernel
theorem dL_law_845 : decode cL_law 845 = .ok (.ifCond .eq 5, 3) := by decide +kernel
theorem dL_law_848 : decode cL_law 848 = .ok (.iconst 0, 1) := by decide +kernel
theorem dL_law_849 : decode cL_law 849 = .ok (.ireturn, 1) := by decide +kernel
theorem dL_law_850 : decode cL_law 850 = .ok (.goto 172, 3) := by decide +kernel
theorem dL_law_853 : decode cL_law 853 = .ok (.aload_n 1, 1) := by decide +kernel
theorem dL_law_854 : decode cL_law 854 = .ok (.aload_n 0, 1) := by decide +kernel
theorem dL_law_855 : decode cL_law 855 = .ok (.iload 4, 2) := by decide +kernel
theorem dL_law_857 : decode cL_law 857 = .ok (.iconst 1, 1) := by decide +kernel
theorem dL_law_858 : decode cL_law 858 = .ok (.iadd, 1) := by decide +kernel
theorem dL_law_859 : decode cL_law 859 = .ok (.iaload, 1) := by decide +kernel
theorem dL_law_860 : decode cL_law 860 = .ok (.aload_n 3, 1) := by decide +kernel
theorem dL_law_861 : decode cL_law 861 = .ok (.invokestatic 129, 3) := by decide +kernel
theorem dL_law_864 : decode cL_law 864 = .ok (.istore 5, 2) := by decide +kernel
theorem dL_law_866 : decode cL_law 866 = .ok (.aload_n 2, 1) := by decide +kernel
theorem dL_law_867 : decode cL_law 867 = .ok (.aload_n 0, 1) := by decide +kernel
theorem dL_law_868 : decode cL_law 868 = .ok (.iload 4, 2) := by decide +kernel
theorem dL_law_870 : decode cL_law 870 = .ok (.iconst 1, 1) := by decide +kernel
theorem dL_law_871 : decode cL_law 871 = .ok (.iadd, 1) := by decide +kernel
theorem dL_law_872 : decode cL_law 872 = .ok (.iaload, 1) := by decide +kernel
theorem dL_law_873 : decode cL_law 873 = .ok (.invokevirtual 131, 3) := by decide +kernel
theorem dL_law_876 : decode cL_law 876 = .ok (.istore 6, 2) := by decide +kernel
theorem dL_law_878 : decode cL_law 878 = .ok (.aload_n 2, 1) := by decide +kernel
theorem dL_law_879 : decode cL_law 879 = .ok (.invokevirtual 71, 3) := by decide +kernel
theorem dL_law_882 : decode cL_law 882 = .ok (.iload 5, 2) := by decide +kernel
theorem dL_law_884 : decode cL_law 884 = .ok (.if_icmp .eq 5, 3) := by decide +kernel
theorem dL_law_887 : decode cL_law 887 = .ok (.iconst 0, 1) := by decide +kernel
theorem dL_law_888 : decode cL_law 888 = .ok (.ireturn, 1) := by decide +kernel
theorem dL_law_889 : decode cL_law 889 = .ok (.iload 5, 2) := by decide +kernel
theorem dL_law_891 : decode cL_law 891 = .ok (.ifCond .ne 15, 3) := by decide +kernel
theorem dL_law_894 : decode cL_law 894 = .ok (.aload_n 3, 1) := by decide +kernel
theorem dL_law_895 : decode cL_law 895 = .ok (.iconst 0, 1) := by decide +kernel
theorem dL_law_896 : decode cL_law 896 = .ok (.laload, 1) := by decide +kernel
theorem dL_law_897 : decode cL_law 897 = .ok (.iload 6, 2) := by decide +kernel
theorem dL_law_899 : decode cL_law 899 = .ok (.i2l, 1) := by decide +kernel
theorem dL_law_900 : decode cL_law 900 = .ok (.lcmp, 1) := by decide +kernel
theorem dL_law_901 : decode cL_law 901 = .ok (.ifCond .eq 5, 3) := by decide +kernel
theorem dL_law_904 : decode cL_law 904 = .ok (.iconst 0, 1) := by decide +kernel
theorem dL_law_905 : decode cL_law 905 = .ok (.ireturn, 1) := by decide +kernel
theorem dL_law_906 : decode cL_law 906 = .ok (.goto 116, 3) := by decide +kernel
theorem dL_law_909 : decode cL_law 909 = .ok (.aload_n 1, 1) := by decide +kernel
theorem dL_law_910 : decode cL_law 910 = .ok (.invokevirtual 132, 3) := by decide +kernel
theorem dL_law_913 : decode cL_law 913 = .ok (.aload_n 2, 1) := by decide +kernel
theorem dL_law_914 : decode cL_law 914 = .ok (.invokevirtual 135, 3) := by decide +kernel
theorem dL_law_917 : decode cL_law 917 = .ok (.if_icmp .eq 105, 3) := by decide +kernel
theorem dL_law_920 : decode cL_law 920 = .ok (.iconst 0, 1) := by decide +kernel
theorem dL_law_921 : decode cL_law 921 = .ok (.ireturn, 1) := by decide +kernel
theorem dL_law_922 : decode cL_law 922 = .ok (.aload_n 1, 1) := by decide +kernel
theorem dL_law_923 : decode cL_law 923 = .ok (.aload_n 0, 1) := by decide +kernel
theorem dL_law_924 : decode cL_law 924 = .ok (.iload 4, 2) := by decide +kernel
theorem dL_law_926 : decode cL_law 926 = .ok (.iconst 1, 1) := by decide +kernel
theorem dL_law_927 : decode cL_law 927 = .ok (.iadd, 1) := by decide +kernel
theorem dL_law_928 : decode cL_law 928 = .ok (.iaload, 1) := by decide +kernel
theorem dL_law_929 : decode cL_law 929 = .ok (.aload_n 3, 1) := by decide +kernel
theorem dL_law_930 : decode cL_law 930 = .ok (.invokestatic 136, 3) := by decide +kernel
theorem dL_law_933 : decode cL_law 933 = .ok (.istore 5, 2) := by decide +kernel
theorem dL_law_935 : decode cL_law 935 = .ok (.aload_n 2, 1) := by decide +kernel
theorem dL_law_936 : decode cL_law 936 = .ok (.aload_n 0, 1) := by decide +kernel
theorem dL_law_937 : decode cL_law 937 = .ok (.iload 4, 2) := by decide +kernel
theorem dL_law_939 : decode cL_law 939 = .ok (.iconst 1, 1) := by decide +kernel
theorem dL_law_940 : decode cL_law 940 = .ok (.iadd, 1) := by decide +kernel
theorem dL_law_941 : decode cL_law 941 = .ok (.iaload, 1) := by decide +kernel
theorem dL_law_942 : decode cL_law 942 = .ok (.invokevirtual 138, 3) := by decide +kernel
theorem dL_law_945 : decode cL_law 945 = .ok (.istore 6, 2) := by decide +kernel
theorem dL_law_947 : decode cL_law 947 = .ok (.aload_n 2, 1) := by decide +kernel
theorem dL_law_948 : decode cL_law 948 = .ok (.invokevirtual 71, 3) := by decide +kernel
theorem dL_law_951 : decode cL_law 951 = .ok (.iload 5, 2) := by decide +kernel
theorem dL_law_953 : decode cL_law 953 = .ok (.if_icmp .eq 5, 3) := by decide +kernel
theorem dL_law_956 : decode cL_law 956 = .ok (.iconst 0, 1) := by decide +kernel
theorem dL_law_957 : decode cL_law 957 = .ok (.ireturn, 1) := by decide +kernel
theorem dL_law_958 : decode cL_law 958 = .ok (.iload 5, 2) := by decide +kernel
theorem dL_law_960 : decode cL_law 960 = .ok (.ifCond .ne 15, 3) := by decide +kernel
theorem dL_law_963 : decode cL_law 963 = .ok (.aload_n 3, 1) := by decide +kernel
theorem dL_law_964 : decode cL_law 964 = .ok (.iconst 0, 1) := by decide +kernel
theorem dL_law_965 : decode cL_law 965 = .ok (.laload, 1) := by decide +kernel
theorem dL_law_966 : decode cL_law 966 = .ok (.iload 6, 2) := by decide +kernel
theorem dL_law_968 : decode cL_law 968 = .ok (.i2l, 1) := by decide +kernel
theorem dL_law_969 : decode cL_law 969 = .ok (.lcmp, 1) := by decide +kernel
theorem dL_law_970 : decode cL_law 970 = .ok (.ifCond .eq 5, 3) := by decide +kernel
theorem dL_law_973 : decode cL_law 973 = .ok (.iconst 0, 1) := by decide +kernel
theorem dL_law_974 : decode cL_law 974 = .ok (.ireturn, 1) := by decide +kernel
theorem dL_law_975 : decode cL_law 975 = .ok (.goto 47, 3) := by decide +kernel
theorem dL_law_978 : decode cL_law 978 = .ok (.aload_n 1, 1) := by decide +kernel
theorem dL_law_979 : decode cL_law 979 = .ok (.aload_n 3, 1) := by decide +kernel
theorem dL_law_980 : decode cL_law 980 = .ok (.invokestatic 139, 3) := by decide +kernel
theorem dL_law_983 : decode cL_law 983 = .ok (.istore 5, 2) := by decide +kernel
theorem dL_law_985 : decode cL_law 985 = .ok (.aload_n 2, 1) := by decide +kernel
theorem dL_law_986 : decode cL_law 986 = .ok (.invokevirtual 141, 3) := by decide +kernel
theorem dL_law_989 : decode cL_law 989 = .ok (.istore 6, 2) := by decide +kernel
theorem dL_law_991 : decode cL_law 991 = .ok (.aload_n 2, 1) := by decide +kernel
theorem dL_law_992 : decode cL_law 992 = .ok (.invokevirtual 71, 3) := by decide +kernel
theorem dL_law_995 : decode cL_law 995 = .ok (.iload 5, 2) := by decide +kernel
theorem dL_law_997 : decode cL_law 997 = .ok (.if_icmp .eq 5, 3) := by decide +kernel
theorem dL_law_1000 : decode cL_law 1000 = .ok (.iconst 0, 1) := by decide +kernel
theorem dL_law_1001 : decode cL_law 1001 = .ok (.ireturn, 1) := by decide +kernel
theorem dL_law_1002 : decode cL_law 1002 = .ok (.iload 5, 2) := by decide +kernel
theorem dL_law_1004 : decode cL_law 1004 = .ok (.ifCond .ne 15, 3) := by decide +kernel
theorem dL_law_1007 : decode cL_law 1007 = .ok (.aload_n 3, 1) := by decide +kernel
theorem dL_law_1008 : decode cL_law 1008 = .ok (.iconst 0, 1) := by decide +kernel
theorem dL_law_1009 : decode cL_law 1009 = .ok (.laload, 1) := by decide +kernel
theorem dL_law_1010 : decode cL_law 1010 = .ok (.iload 6, 2) := by decide +kernel
theorem dL_law_1012 : decode cL_law 1012 = .ok (.i2l, 1) := by decide +kernel
theorem dL_law_1013 : decode cL_law 1013 = .ok (.lcmp, 1) := by decide +kernel
theorem dL_law_1014 : decode cL_law 1014 = .ok (.ifCond .eq 5, 3) := by decide +kernel
theorem dL_law_1017 : decode cL_law 1017 = .ok (.iconst 0, 1) := by decide +kernel
theorem dL_law_1018 : decode cL_law 1018 = .ok (.ireturn, 1) := by decide +kernel
theorem dL_law_1019 : decode cL_law 1019 = .ok (.goto 3, 3) := by decide +kernel
theorem dL_law_1022 : decode cL_law 1022 = .ok (.iinc 4 5, 3) := by decide +kernel
theorem dL_law_1025 : decode cL_law 1025 = .ok (.goto (-1002), 3) := by decide +kernel
theorem dL_law_1028 : decode cL_law 1028 = .ok (.iconst 1, 1) := by decide +kernel
theorem dL_law_1029 : decode cL_law 1029 = .ok (.ireturn, 1) := by decide +kernel
end
section
set_option maxRecDepth 20000 in
theorem wsL_law_i1 : GoodIn lw_tbl wsL_law0_r1 := goodIn_p wsL_law0_r1 [48, 51] (by decide +kernel) (by decide +kernel)
set_option maxRecDepth 20000 in
theorem wsL_law_i2 : GoodIn lw_tbl wsL_law0_r2 := goodIn_p wsL_law0_r2 [454] (by decide +kernel) (by decide +kernel)
set_option maxRecDepth 20000 in
theorem wsL_law_i3 : GoodIn lw_tbl wsL_law0_r3 := goodIn_p wsL_law0_r3 [189, 192, 195, 267] (by decide +kernel) (by decide +kernel)
set_option maxRecDepth 20000 in
theorem wsL_law_i4 : GoodIn lw_tbl wsL_law0_r4 := goodIn_p wsL_law0_r4 [287, 291, 295, 299, 521] (by decide +kernel) (by decide +kernel)
set_option maxRecDepth 20000 in
theorem wsL_law_i5 : GoodIn lw_tbl wsL_law0_r5 := goodIn_p wsL_law0_r5 [524, 528, 517, 307, 311] (by decide +kernel) (by decide +kernel)
set_option maxRecDepth 20000 in
theorem wsL_law_i6 : GoodIn lw_tbl wsL_law0_r6 := goodIn_p wsL_law0_r6 [160, 532, 536, 334, 338] (by decide +kernel) (by decide +kernel)
set_option maxRecDepth 20000 in
theorem wsL_law_i7 : GoodIn lw_tbl wsL_law0_r7 := goodIn_p wsL_law0_r7 [342, 540, 544, 350, 147] (by decide +kernel) (by decide +kernel)
set_option maxRecDepth 20000 in
theorem wsL_law_i8 : GoodIn lw_tbl wsL_law0_r8 := goodIn_p wsL_law0_r8 [548, 357, 552, 115, 556] (by decide +kernel) (by decide +kernel)
set_option maxRecDepth 20000 in
theorem wsL_law_i9 : GoodIn lw_tbl wsL_law0_r9 := goodIn_p wsL_law0_r9 [119, 560, 364, 135, 139] (by decide +kernel) (by decide +kernel)
set_option maxRecDepth 20000 in
theorem wsL_law_i10 : GoodIn lw_tbl wsL_law0_r10 := goodIn_p wsL_law0_r10 [143, 152, 163, 156, 167, 127] (by decide +kernel) (by decide +kernel)
set_option maxRecDepth 20000 in
theorem wsL_law_i11 : GoodIn lw_tbl wsL_law0_r11 := goodIn_p wsL_law0_r11 [564, 568, 572, 576, 580] (by decide +kernel) (by decide +kernel)
set_option maxRecDepth 20000 in
theorem wsL_law_i12 : GoodIn lw_tbl wsL_law0_r12 := goodIn_p wsL_law0_r12 [584, 588, 592, 596, 600, 123] (by decide +kernel) (by decide +kernel)
set_option maxRecDepth 20000 in
theorem wsL_law_i13 : GoodIn lw_tbl wsL_law0_r13 := goodIn_p wsL_law0_r13 [131, 604, 171, 608, 371] (by decide +kernel) (by decide +kernel)
set_option maxRecDepth 20000 in
theorem wsL_law_i14 : GoodIn lw_tbl wsL_law0_r14 := goodIn_p wsL_law0_r14 [612, 616, 379, 382, 620] (by decide +kernel) (by decide +kernel)
set_option maxRecDepth 20000 in
theorem wsL_law_i15 : GoodIn lw_tbl wsL_law0_r15 := goodIn_p wsL_law0_r15 [405, 624, 176, 628] (by decide +kernel) (by decide +kernel)
set_option maxRecDepth 20000 in
theorem wsL_law_i16 : GoodIn lw_tbl wsL_law0_r16 := goodIn_p wsL_law0_r16 [412, 632, 419, 636, 180, 640] (by decide +kernel) (by decide +kernel)
set_option maxRecDepth 20000 in
theorem wsL_law_i17 : GoodIn lw_tbl wsL_law0_r17 := goodIn_p wsL_law0_r17 [644, 426, 648, 433] (by decide +kernel) (by decide +kernel)
set_option maxRecDepth 20000 in
theorem wsL_law_i18 : GoodIn lw_tbl wsL_law0_r18 := goodIn_p wsL_law0_r18 [449, 438, 442, 446, 652] (by decide +kernel) (by decide +kernel)
set_option maxRecDepth 20000 in
theorem wsL_law_iX0 : GoodIn lw_tbl wsX00 := goodIn_p wsX00 [] (by decide +kernel) (by decide +kernel)
set_option maxRecDepth 20000 in
theorem wsL_law_iX1 : GoodIn lw_tbl wsX10 := goodIn_p wsX10 [] (by decide +kernel) (by decide +kernel)
theorem wsL_law_in0 : ∀ w ∈ wsL_law0, w ∈ lw_tbl := fun w h => ((goodIn_app (goodIn_app (goodIn_app (goodIn_app wsL_law_i1 (goodIn_app wsL_law_i2 (goodIn_app wsL_law_i3 (goodIn_app wsL_law_i4 (goodIn_app wsL_law_i5 (goodIn_app wsL_law_i6 (goodIn_app wsL_law_i7 (goodIn_app wsL_law_i8 (goodIn_app wsL_law_i9 (goodIn_app wsL_law_i10 (goodIn_app wsL_law_i11 (goodIn_app wsL_law_i12 (goodIn_app wsL_law_i13 (goodIn_app wsL_law_i14 (goodIn_app wsL_law_i15 (goodIn_app wsL_law_i16 (goodIn_app wsL_law_i17 (wsL_law_i18)))))))))))))))))) wsL_law_iX0) wsL_law_iX1) (fun w h => nomatch h) : GoodIn lw_tbl wsL_law0) w h).1
theorem wsL_law_x0 : ∀ w ∈ (vx_atS RX0 177 "java/lang/IllegalArgumentException" ["java/lang/RuntimeException", "java/lang/Exception"]).filter goodWord, w ∈ lw_tbl := by decide +kernel
theorem wsL_law_x1 : ∀ w ∈ (vx_atS RX0 182 "java/lang/IllegalStateException" ["java/lang/RuntimeException", "java/lang/Exception"]).filter goodWord, w ∈ lw_tbl := by decide +kernel
theorem wsL_law_x2 : ∀ w ∈ (vx_atS RX0 168 "java/lang/IndexOutOfBoundsException" ["java/lang/RuntimeException", "java/lang/Exception"]).filter goodWord, w ∈ lw_tbl := by decide +kernel
theorem wsL_law_x3 : ∀ w ∈ (gNSat).filter goodWord, w ∈ lw_tbl := by decide +kernel
theorem wsL_law_in : ∀ w ∈ wsL_law, w ∈ lw_tbl := fun w h => (List.mem_append.mp h).elim (fun h => (List.mem_append.mp h).elim (fun h => (List.mem_append.mp h).elim (fun h => (List.mem_append.mp h).elim (fun h => wsL_law_in0 w h) (fun h => wsL_law_x0 w h)) (fun h => wsL_law_x1 w h)) (fun h => wsL_law_x2 w h)) (fun h => wsL_law_x3 w h)
theorem inlX0 : ∀ w ∈ wsX00, w ∈ wsL_law := fun _ h => List.mem_append_left _ (List.mem_append_left _ (List.mem_append_left _ (List.mem_append_left _ (List.mem_append_left _ (List.mem_append_left _ (List.mem_append_right _ h))))))
theorem inX0 : ∀ w ∈ wsX00, w ∈ lw_tbl := fun w h => wsL_law_in w (inlX0 w h)
theorem inlX1 : ∀ w ∈ wsX10, w ∈ wsL_law := fun _ h => List.mem_append_left _ (List.mem_append_left _ (List.mem_append_left _ (List.mem_append_left _ (List.mem_append_left _ (List.mem_append_right _ h)))))
theorem inX1 : ∀ w ∈ wsX10, w ∈ lw_tbl := fun w h => wsL_law_in w (inlX1 w h)
end
section
/-! ===== rows for the law and its wrappers ===== -/
def gTyL (cI cZ cL : ClassId) : List (ClassId × FieldType) := [(cI, .int), (cZ, .boolean), (cL, .long)]
abbrev gO (cL : ClassId) (o : Nat) (fL : Nat → Int64) : Nat × va_E := (o, .inl (cL, 1, .inr (.inl fL)))
/-- a wrapper: returns k; may make an exception -/
def gMW (l : Launch) (y : MethodName) (ws : List Cond) (D : va_G) (tys : List (ClassId × FieldType)) (W0 : va_W) (av : List Value) (rv : Int) (W1 : va_W) : Prop :=
  ∀ sz : Nat, Met l y ws (gRx 8) (va_Pc av (fun U => gB0 D tys W0 sz U ∧ gKT (va_A W0 sz) U U.heap)) (va_Qi (fun (r : Int32) (_ : Unit) => r = iI rv) (fun _ t => gB1 D tys (va_A W0 sz) W1 t) (va_A W0 sz)) 1 6 (va_A W0 sz)
section GLW
variable {p : Program} {l : Launch} {e : Env} {R : Room} {s : State} {m : MethodId} {args : Array Value} {below : List Frame} {meth : Method} {c : Code} {cells slots : Nat} {Q : State → Prop} {A0 : Nat → Prop} {D : va_G}
variable {own : String} {cc : ByteArray} {nL : Nat} {Ts : List Cond} {tys : List (ClassId × FieldType)} {ws : va_W} {lv : List (Option Value)} {pc : Nat} {st st0 : List Value}
theorem g_Pl {D : va_G} {cl : List vw_C} {w1 w2 : va_W} {H : Heap} (h : va_P D cl (w1 ++ w2) H) : va_P D cl w1 H := fun k q hk => h k q (by rw [List.getElem?_append_left (List.getElem?_eq_some_iff.mp hk).1]; exact hk)
theorem g_Dl {A : Nat → Prop} {w1 w2 : va_W} (h : va_D A (w1 ++ w2)) : va_D A w1 := by
  have key : ∀ (k : Nat) (q : Nat × va_E), w1[k]? = some q → (w1 ++ w2)[k]? = some q := fun k q hk => by rw [List.getElem?_append_left (List.getElem?_eq_some_iff.mp hk).1]; exact hk
  exact ⟨fun i j p q hi hj hpq => h.1 _ _ p q (key i p hi) (key j q hj) hpq, fun k q hk => h.2 _ q (key k q hk)⟩
theorem g_Dx {A : Nat → Prop} {w1 w2 : va_W} (h : va_D A (w1 ++ w2)) : ∀ (i j : Nat) (p q : Nat × va_E), w2[i]? = some p → w1[j]? = some q → p.1 ≠ q.1 := by
  intro i j p q hi hj hpq
  have h1 := (List.getElem?_eq_some_iff.mp hj).1
  have := h.1 (w1.length + i) j p q (by rw [List.getElem?_append_right (by omega)]; simpa using hi) (by rw [List.getElem?_append_left h1]; exact hj) hpq
  omega
theorem g_swap {a b : va_W} (K : gJ p l e R s m args below meth c cells slots Q A0 D (b ++ a) lv pc st) : gJ p l e R s m args below meth c cells slots Q A0 D (a ++ b) lv pc st := fun H locs ls hP hD hS hL => K H locs ls ((g_Pr hP).app (g_Pl hP)) ((g_Dr hD).app (g_Dl hD) (g_Dx hD)) hS hL
theorem g_callIW (E : gE p s m args c own cc nL Ts D tys A0) {tysC : List (ClassId × FieldType)} (is : List Nat) (his : is.filterMap (fun i => tys[i]?) = tysC) {C : String} {y : MethodName} {bytes : ByteArray} {maxL index lam n q ci N : Nat} {T : u_T} {fs : List Value} {ret : Option FieldType} {wsY : List Cond} {wr wc wc' : va_W} {As : List Value} {rv : Int}
    (hM : gMI l y wsY lam D tysC wc (.ref q :: As) rv wc') (cw : CallW R s args own C index y bytes maxL ret wsY (gR lam) 0 0 n) (hn : As.length = n) (hlv : lv.length = nL) (hst : st0 = As.reverse ++ .ref q :: st) (hcat : (st.map fun v => v.category).sum ≤ 8) (he : wc[0]? = some (q, .inr (ci, fs))) (hc : vwCl[ci]? = some (C, T, N))
    (hdg : decode cc pc = .ok (.invokevirtual index, 3)) (hcs : cells ≤ R.cells ∧ slots ≤ R.slots) (K : gJ p l e R s m args below meth c cells slots Q A0 D (wr ++ wc') lv (pc + 3) (.int (iI rv) :: st)) : gJ p l e R s m args below meth c cells slots Q A0 D (wr ++ wc) lv pc st0 := by
  obtain ⟨⟨hx, hb, hml, hown, hts⟩, hK, hA⟩ := E
  intro H locs ls hP hD hS hL
  subst hst
  have hKc := hK.sub is his
  have hPc := g_Pr hP
  have hDc := g_Dr hD
  have hFc := va_free (wc := wc) hD hS hA _ (g_isC wr wc)
  refine va_calli (va_runV (As := As) (rest := st) ⟨hx, hb, hml, hown, hts⟩ (hM H.size) cw ⟨fun a U g mk q => by obtain ⟨q0, q1, qP, qK, qD⟩ := q; exact ⟨q0, q1, qP, va_K.moved (u := U) (U := U.calling g mk a) (Vm.Alike.refl U.vm) qK, qD⟩, va_recv hK hPc hc he, fun U hU hW => ⟨rfl, by rw [hU], by rw [hU]; exact hPc, va_K.moved hW.alike hKc, hDc.weaken (fun _ _ _ _ => trivial)⟩⟩ rfl hn (hL.1.trans hlv) rfl (lv_room hcat) hdg hcs) hS (fun q _ h => hFc q h) hFc (fun r u t H1 locs1 ht hvm hw hB hz1 hk1 hS1 => ?_)
  obtain ⟨hP1, hK1, hD1⟩ := hB
  rw [ht] at hP1
  obtain ⟨hP2, hD2⟩ := va_join hP hD _ _ (g_isC wr wc) (g_isR wr wc) (g_nd _ List.nodup_range) (g_dis _ _) hk1 hFc hP1 hD1
  rw [hw]
  exact K H1 locs1 ls hP2 hD2 hS1 hL
/-- the callee throws, the caller catches -/
theorem g_callCW (E : gE p s m args c own cc nL Ts D tys A0) {tysC : List (ClassId × FieldType)} (is : List Nat) (his : is.filterMap (fun i => tys[i]?) = tysC) {C : String} {y : MethodName} {bytes : ByteArray} {maxL index lam n q ci N : Nat} {T : u_T} {fs : List Value} {ret : Option FieldType} {wsY : List Cond} {wr wc : va_W} {As : List Value} {EX : String} {hh : List (Nat × Nat × Nat × Nat)}
    (hM : gMT l y wsY lam D tysC wc (.ref q :: As) EX) (hT : gKT A0 s s.heap) (htab : c.exceptionTable.toList = tableOf hh) (pre : List ExceptionTableEntry) (x : ExceptionTableEntry) (suf : List ExceptionTableEntry) (hsplit : tableOf hh = pre ++ x :: suf)
    (hpass : ∀ z ∈ pre, z.catchType ≠ 0 ∧ ∃ nm : String, Cond.classLink own z.catchType nm ∈ Ts ∧ (EX, nm) ∈ gNcs) (hcov : covers x pc = true) (hct : x.catchType ≠ 0) (hlink : Cond.classLink own x.catchType EX ∈ Ts) (hEx : EX ∈ gEx)
    (cw : CallW R s args own C index y bytes maxL ret wsY (gRx lam) 1 6 n) (hn : As.length = n) (hlv : lv.length = nL) (hst : st0 = As.reverse ++ .ref q :: st) (hcat : (st.map fun v => v.category).sum ≤ 8) (he : wc[0]? = some (q, .inr (ci, fs))) (hc : vwCl[ci]? = some (C, T, N))
    (hdg : decode cc pc = .ok (.invokevirtual index, 3)) (hcs : 1 ≤ R.cells ∧ 6 ≤ R.slots) (K : ∀ a : Nat, gJ p l e R s m args below meth c 1 6 Q A0 D (wr ++ wc) lv x.handlerPc [.ref a]) : gJ p l e R s m args below meth c 0 0 Q A0 D (wr ++ wc) lv pc st0 := by
  obtain ⟨⟨hx, hb, hml, hown, hts⟩, hK, hA⟩ := E
  intro H locs ls hP hD hS hL
  subst hst
  have hKc := hK.sub is his
  have hPc := g_Pr hP
  have hDc := g_Dr hD
  have hFc := va_free (wc := wc) hD hS hA _ (g_isC wr wc)
  refine vx_callv (vx_runV (As := As) (rest := st) (cells := 0) (slots := 0) ⟨hx, hb, hml, hown, hts⟩ (hM H.size) cw ⟨fun a U g mk q => by obtain ⟨q0, ⟨q1, qP, qK, qD⟩, qT⟩ := q; exact ⟨q0, ⟨q1, qP, va_K.moved (u := U) (U := U.calling g mk a) (Vm.Alike.refl U.vm) qK, qD⟩, qT⟩, va_recv hK hPc hc he, fun U hU hW => ⟨rfl, ⟨by rw [hU], by rw [hU]; exact hPc, va_K.moved hW.alike hKc, hDc.weaken (fun _ _ _ _ => trivial)⟩, gKT.call hT hS hFc hU hW⟩⟩ rfl hn (hL.1.trans hlv) rfl (lv_room hcat) hdg (by simpa using hcs)) hS (fun q _ h => hFc q h) hFc (fun q _ h => hFc q h) (fun E9 ce q9 u t H1 locs1 ht hvm hp hB hz hk hS1 hce hcv hcl => ?_) (fun u t H1 locs1 ht hvm hw hB hz1 hk1 hS1 => hw.elim)
  obtain ⟨rfl, hP1, hK1, hD1⟩ := hB
  rw [ht] at hP1
  obtain ⟨hP2, hD2⟩ := va_join hP hD _ _ (g_isC wr wc) (g_isR wr wc) (g_nd _ List.nodup_range) (g_dis _ _) hk hFc hP1 hD1
  exact vx_catch hown pre x suf (htab.trans hsplit) (fun z hz9 => Or.inr ⟨(hpass z hz9).1, by obtain ⟨nm, h1, h2⟩ := (hpass z hz9).2; exact ⟨nm, hts _ h1, hT.2.2.2.2.1 _ h2⟩⟩) hcov hct (hts _ hlink) (va_Nw.use rfl (hT.2.2.2.1 _ hEx)) hce hcv hcl (K q9 H1 locs1 ls hP2 hD2 hS1 hL)
theorem g_i2l (E : gE p s m args c own cc nL Ts D tys A0) {x : Int32} (hdg : decode cc pc = .ok (.i2l, 1)) (K : gJ p l e R s m args below meth c cells slots Q A0 D ws lv (pc + 1) (.long x.toInt64 :: st)) : gJ p l e R s m args below meth c cells slots Q A0 D ws lv pc (.int x :: st) := by
  obtain ⟨⟨hx, hb, hml, hown, hts⟩, hK, hA⟩ := E
  intro H locs ls hP hD hS hL
  exact lv_i2l hx hb hdg rfl (K H locs ls hP hD hS hL)
theorem g_lconst (E : gE p s m args c own cc nL Ts D tys A0) {n : Fin 2} {v : Int64} (hdg : decode cc pc = .ok (.lconst n, 1)) (hv : Int64.ofNat n = v) (K : gJ p l e R s m args below meth c cells slots Q A0 D ws lv (pc + 1) (.long v :: st)) : gJ p l e R s m args below meth c cells slots Q A0 D ws lv pc st := by
  obtain ⟨⟨hx, hb, hml, hown, hts⟩, hK, hA⟩ := E
  intro H locs ls hP hD hS hL
  exact lv_lconst hx hb hdg hv (K H locs ls hP hD hS hL)
theorem g_last {cI cZ cL : ClassId} (E : gE p s m args c own cc nL Ts D (gTyL cI cZ cL) A0) (q0 : Nat) {o : Nat} {fL : Nat → Int64} {x : Int64} {ws' : va_W} (ho : ws[q0]? = some (gO cL o fL)) (hw : ws.set q0 (gO cL o (vp_updL fL 0 x)) = ws') (hdg : decode cc pc = .ok (.lastore, 1)) (K : gJ p l e R s m args below meth c cells slots Q A0 D ws' lv (pc + 1) st) : gJ p l e R s m args below meth c cells slots Q A0 D ws lv pc (.long x :: .int (iI 0) :: .ref o :: st) := by
  obtain ⟨⟨hx, hb, hml, hown, hts⟩, hK, hA⟩ := E
  intro H locs ls hP hD hS hL
  refine va_last (D := D) (cl := vwCl) hx hb hK hP hD hS q0 2 ho rfl (iI_in (a := 0) (n := 1) (by omega) (by omega) (by omega)) hdg (fun H1 locs1 hP1 hD1 hS1 => ?_)
  have e : (iI 0).toNatClampNeg = 0 := iI_cl (by omega) (by omega)
  rw [e] at hP1 hD1
  have hw' : ws.set q0 (o, .inl (cL, 1, .inr (.inl (vp_updL fL 0 x)))) = ws' := hw
  rw [hw'] at hP1 hD1
  exact K H1 locs1 ls hP1 hD1 hS1 hL
theorem g_lald {cI cZ cL : ClassId} (E : gE p s m args c own cc nL Ts D (gTyL cI cZ cL) A0) (q0 : Nat) {o : Nat} {fL : Nat → Int64} (ho : ws[q0]? = some (gO cL o fL)) (hdg : decode cc pc = .ok (.laload, 1)) (K : gJ p l e R s m args below meth c cells slots Q A0 D ws lv (pc + 1) (.long (fL 0) :: st)) : gJ p l e R s m args below meth c cells slots Q A0 D ws lv pc (.int (iI 0) :: .ref o :: st) := by
  obtain ⟨⟨hx, hb, hml, hown, hts⟩, hK, hA⟩ := E
  intro H locs ls hP hD hS hL
  have e : (iI 0).toNatClampNeg = 0 := iI_cl (by omega) (by omega)
  refine va_lald (D := D) (cl := vwCl) hx hb hK hP q0 2 ho rfl (iI_in (a := 0) (n := 1) (by omega) (by omega) (by omega)) hdg ?_
  rw [e]
  exact K H locs ls hP hD hS hL
end GLW
theorem g_ofW {l : Launch} {y : MethodName} {ws ws' : List Cond} {D : va_G} {tys : List (ClassId × FieldType)} {W0 W1 : va_W} {av : List Value} {rv : Int} {own : String} {cc : ByteArray} {maxL : Nat} {hh : List (Nat × Nat × Nat × Nat)}
    (hy : plainName y.cls = true) (hcls : y.cls = own) (hw : ws = Cond.codeWith y cc maxL (some .int) hh :: ws') (hlen : av.length ≤ maxL) (hcat : ∀ v ∈ av, v.category = 1)
    (body : ∀ (p : Program) (e : Env) (s : State) (m : MethodId) (args : Array Value) (below : List Frame) (meth : Method) (c : Code) (Q : State → Prop) (A0 : Nat → Prop), gE p s m args c own cc maxL ws D tys A0 → gKT A0 s s.heap → c.exceptionTable.toList = tableOf hh → (∀ (lv : List (Option Value)) (pc : Nat), decode cc pc = .ok (.ireturn, 1) → gJ p l e (gRx 8) s m args below meth c 1 6 Q A0 D W1 lv pc [.int (iI rv)]) →
      gJ p l e (gRx 8) s m args below meth c 0 0 Q A0 D W0 (av.map some ++ List.replicate (maxL - av.length) none) 0 []) : gMW l y ws D tys W0 av rv W1 := by
  intro sz
  refine va_MetW (cc := cc) (maxL := maxL) (ret := some .int) (hh := hh) hy hw ?_
  intro p e s m args below meth c s₁ B hml hv
  obtain ⟨rfl, ⟨hsz, hP, hK, hD0⟩, hT⟩ := hv
  have hts := atoms_spec (ws := ws) B.pre
  have htab := vx_table (x := y) B (hts (Cond.codeWith y cc maxL (some .int) hh) (by rw [hw]; exact List.mem_cons_self))
  have hown : s.vm.findClass own = some m.cls := by rw [← hcls]; exact findClass_of_methodNamed B.named
  subst hsz
  have hD := hD0.self (sz := s.heap.size)
  have hl := lv_entry av (n := maxL) (by rw [g_slen hcat]; exact hlen)
  rw [lg_entry_eq]
  refine body p e s m _ below meth c _ (va_A W0 s.heap.size) ⟨⟨B.exec, B.bytes, hml, hown, hts⟩, hK, fun q h => Or.inr h⟩ hT htab ?_ s.heap [] _ hP hD va_S.rf (gL_entry hlen hcat hl)
  intro lv pc hdg H locs ls hP9 hD9 hS9 hL9
  exact W.iret (v := iI rv) B.exec B.bytes B.returns (fun t ht hW => ⟨⟨iI rv, (), rfl, rfl, by rw [ht]; exact hP9, va_K.moved hW.alike hK, hD9⟩, hS9.F ht⟩) hS9.2.2 hdg
end
section
set_option maxRecDepth 100000 in
theorem hdL_X0_addPlace : yX0_addPlace.cls = RX0 ∧ yX0_addPlace.cls ≠ "java/lang/invoke/MethodHandle" ∧ yX0_addPlace.cls ≠ "java/lang/invoke/VarHandle" ∧ (parseMethodDescriptor yX0_addPlace.desc).map (fun d => d.parameters.length) = some 1 := by decide +kernel
set_option maxRecDepth 100000 in
theorem cl_addPlace_13 : Cond.classLink RL 13 gIA ∈ wsL_addPlace := by decide +kernel
set_option maxRecDepth 100000 in
theorem cl_addPlace_15 : Cond.classLink RL 15 gIS ∈ wsL_addPlace := by decide +kernel
set_option maxRecDepth 100000 in
theorem hdL_X0_addDoor : yX0_addDoor.cls = RX0 ∧ yX0_addDoor.cls ≠ "java/lang/invoke/MethodHandle" ∧ yX0_addDoor.cls ≠ "java/lang/invoke/VarHandle" ∧ (parseMethodDescriptor yX0_addDoor.desc).map (fun d => d.parameters.length) = some 4 := by decide +kernel
set_option maxRecDepth 100000 in
theorem cl_addDoor_21 : Cond.classLink RL 21 gIX ∈ wsL_addDoor := by decide +kernel
set_option maxRecDepth 100000 in
theorem cl_addDoor_13 : Cond.classLink RL 13 gIA ∈ wsL_addDoor := by decide +kernel
set_option maxRecDepth 100000 in
theorem cl_addDoor_15 : Cond.classLink RL 15 gIS ∈ wsL_addDoor := by decide +kernel
set_option maxRecDepth 100000 in
theorem hdL_X0_setDoor : yX0_setDoor.cls = RX0 ∧ yX0_setDoor.cls ≠ "java/lang/invoke/MethodHandle" ∧ yX0_setDoor.cls ≠ "java/lang/invoke/VarHandle" ∧ (parseMethodDescriptor yX0_setDoor.desc).map (fun d => d.parameters.length) = some 2 := by decide +kernel
set_option maxRecDepth 100000 in
theorem cl_setDoor_21 : Cond.classLink RL 21 gIX ∈ wsL_setDoor := by decide +kernel
set_option maxRecDepth 100000 in
theorem hdL_X0_come : yX0_come.cls = RX0 ∧ yX0_come.cls ≠ "java/lang/invoke/MethodHandle" ∧ yX0_come.cls ≠ "java/lang/invoke/VarHandle" ∧ (parseMethodDescriptor yX0_come.desc).map (fun d => d.parameters.length) = some 2 := by decide +kernel
set_option maxRecDepth 100000 in
theorem cl_come_21 : Cond.classLink RL 21 gIX ∈ wsL_come := by decide +kernel
set_option maxRecDepth 100000 in
theorem cl_come_13 : Cond.classLink RL 13 gIA ∈ wsL_come := by decide +kernel
set_option maxRecDepth 100000 in
theorem cl_come_15 : Cond.classLink RL 15 gIS ∈ wsL_come := by decide +kernel
set_option maxRecDepth 100000 in
theorem hdL_X0_setRelease : yX0_setRelease.cls = RX0 ∧ yX0_setRelease.cls ≠ "java/lang/invoke/MethodHandle" ∧ yX0_setRelease.cls ≠ "java/lang/invoke/VarHandle" ∧ (parseMethodDescriptor yX0_setRelease.desc).map (fun d => d.parameters.length) = some 2 := by decide +kernel
set_option maxRecDepth 100000 in
theorem cl_setRelease_21 : Cond.classLink RL 21 gIX ∈ wsL_setRelease := by decide +kernel
set_option maxRecDepth 100000 in
theorem cl_setRelease_13 : Cond.classLink RL 13 gIA ∈ wsL_setRelease := by decide +kernel
set_option maxRecDepth 100000 in
theorem hdL_X0_step : yX0_step.cls = RX0 ∧ yX0_step.cls ≠ "java/lang/invoke/MethodHandle" ∧ yX0_step.cls ≠ "java/lang/invoke/VarHandle" ∧ (parseMethodDescriptor yX0_step.desc).map (fun d => d.parameters.length) = some 1 := by decide +kernel
set_option maxRecDepth 100000 in
theorem cl_step_13 : Cond.classLink RL 13 gIA ∈ wsL_step := by decide +kernel
set_option maxRecDepth 100000 in
theorem hdL_X0_people : yX0_people.cls = RX0 ∧ yX0_people.cls ≠ "java/lang/invoke/MethodHandle" ∧ yX0_people.cls ≠ "java/lang/invoke/VarHandle" ∧ (parseMethodDescriptor yX0_people.desc).map (fun d => d.parameters.length) = some 1 := by decide +kernel
set_option maxRecDepth 100000 in
theorem cl_people_21 : Cond.classLink RL 21 gIX ∈ wsL_people := by decide +kernel
set_option maxRecDepth 100000 in
theorem hdL_X0_latest : yX0_latest.cls = RX0 ∧ yX0_latest.cls ≠ "java/lang/invoke/MethodHandle" ∧ yX0_latest.cls ≠ "java/lang/invoke/VarHandle" ∧ (parseMethodDescriptor yX0_latest.desc).map (fun d => d.parameters.length) = some 0 := by decide +kernel
set_option maxRecDepth 100000 in
theorem cl_latest_44 : Cond.classLink RL 44 gNS ∈ wsL_latest := by decide +kernel
set_option maxRecDepth 100000 in
theorem hdL_X0_passed : yX0_passed.cls = RX0 ∧ yX0_passed.cls ≠ "java/lang/invoke/MethodHandle" ∧ yX0_passed.cls ≠ "java/lang/invoke/VarHandle" ∧ (parseMethodDescriptor yX0_passed.desc).map (fun d => d.parameters.length) = some 1 := by decide +kernel
set_option maxRecDepth 100000 in
theorem cl_passed_21 : Cond.classLink RL 21 gIX ∈ wsL_passed := by decide +kernel
set_option maxRecDepth 100000 in
theorem hdL_X0_distance : yX0_distance.cls = RX0 ∧ yX0_distance.cls ≠ "java/lang/invoke/MethodHandle" ∧ yX0_distance.cls ≠ "java/lang/invoke/VarHandle" ∧ (parseMethodDescriptor yX0_distance.desc).map (fun d => d.parameters.length) = some 1 := by decide +kernel
set_option maxRecDepth 100000 in
theorem cl_distance_21 : Cond.classLink RL 21 gIX ∈ wsL_distance := by decide +kernel
set_option maxRecDepth 100000 in
theorem cl_distance_44 : Cond.classLink RL 44 gNS ∈ wsL_distance := by decide +kernel
set_option maxRecDepth 100000 in
theorem hdL_X0_door : yX0_door.cls = RX0 ∧ yX0_door.cls ≠ "java/lang/invoke/MethodHandle" ∧ yX0_door.cls ≠ "java/lang/invoke/VarHandle" ∧ (parseMethodDescriptor yX0_door.desc).map (fun d => d.parameters.length) = some 1 := by decide +kernel
set_option maxRecDepth 100000 in
theorem cl_door_21 : Cond.classLink RL 21 gIX ∈ wsL_door := by decide +kernel
set_option maxRecDepth 100000 in
theorem cl_door_44 : Cond.classLink RL 44 gNS ∈ wsL_door := by decide +kernel
set_option maxRecDepth 100000 in
theorem hdL_X0_wouldMove : yX0_wouldMove.cls = RX0 ∧ yX0_wouldMove.cls ≠ "java/lang/invoke/MethodHandle" ∧ yX0_wouldMove.cls ≠ "java/lang/invoke/VarHandle" ∧ (parseMethodDescriptor yX0_wouldMove.desc).map (fun d => d.parameters.length) = some 1 := by decide +kernel
set_option maxRecDepth 100000 in
theorem cl_wouldMove_21 : Cond.classLink RL 21 gIX ∈ wsL_wouldMove := by decide +kernel
set_option maxRecDepth 100000 in
theorem hdL_X0_bound : yX0_bound.cls = RX0 ∧ yX0_bound.cls ≠ "java/lang/invoke/MethodHandle" ∧ yX0_bound.cls ≠ "java/lang/invoke/VarHandle" ∧ (parseMethodDescriptor yX0_bound.desc).map (fun d => d.parameters.length) = some 0 := by decide +kernel
set_option maxRecDepth 100000 in
theorem cl_bound_15 : Cond.classLink RL 15 gIS ∈ wsL_bound := by decide +kernel
set_option maxHeartbeats 4000000 in
set_option maxRecDepth 100000 in
theorem wL_addPlace0 {l : Launch} {D : va_G} {cI cZ cL : ClassId} {o q : Nat} {fL : Nat → Int64} {wX wX' : va_W} {fs : List Value} (he : wX[0]? = some (q, .inr (0, fs))) {x0 : Int} {rv : Int} (hM : gMI l yX0_addPlace wsX0_addPlace 6 D (gTy cI cZ) wX [.ref q, .int (iI x0)] rv wX') : gMW l yL_addPlace wsL_addPlace D (gTyL cI cZ cL) (gO cL o fL :: wX) [.ref q, .int (iI x0), .ref o] 0 (gO cL o (vp_updL fL 0 (iI rv).toInt64) :: wX') := by
  refine g_ofW (by decide +kernel) rfl rfl (Nat.le_of_ble_eq_true rfl) (g_cat1 rfl) ?_
  intro p e s m args below meth c Q A0 E hT htab hret
  have hts := E.1.2.2.2.2
  show gJ p l e (gRx 8) s m args below meth c 0 0 Q A0 D (gO cL o fL :: wX) [some (.ref q), some (.int (iI x0)), some (.ref o), none] 0 []
  refine g_aload_n E dL_addPlace_0 rfl rfl ?_
  refine g_iconst E dL_addPlace_1 ?_
  refine g_aload_n E dL_addPlace_2 rfl rfl ?_
  refine g_iload_n E dL_addPlace_3 rfl rfl ?_
  refine g_callIW E [0, 1] rfl (wr := [gO cL o fL]) hM (cwV 1 hts gL_addPlace_X0_addPlace rfl rfl rfl hdL_X0_addPlace ⟨(Nat.le_of_ble_eq_true rfl), (Nat.le_of_ble_eq_true rfl)⟩) rfl rfl rfl (Nat.le_of_ble_eq_true rfl) he rfl dL_addPlace_4 ⟨Nat.zero_le _, Nat.zero_le _⟩ ?_
  refine g_i2l E dL_addPlace_7 ?_
  refine g_last E 0 (ws' := gO cL o (vp_updL fL 0 (iI rv).toInt64) :: wX') rfl rfl dL_addPlace_8 ?_
  refine g_goto E dL_addPlace_9 (tgt := 18) (by decide) ?_
  refine g_iconst E dL_addPlace_18 ?_
  exact g_wid (Nat.zero_le _) (Nat.zero_le _) (hret _ _ dL_addPlace_19)
set_option maxHeartbeats 4000000 in
set_option maxRecDepth 100000 in
theorem wL_addPlace1 {l : Launch} {D : va_G} {cI cZ cL : ClassId} {o q : Nat} {fL : Nat → Int64} {wX : va_W} {fs : List Value} (he : wX[0]? = some (q, .inr (0, fs))) {x0 : Int} (hM : gMT l yX0_addPlace wsX0_addPlace 7 D (gTy cI cZ) wX [.ref q, .int (iI x0)] gIA) : gMW l yL_addPlace wsL_addPlace D (gTyL cI cZ cL) (gO cL o fL :: wX) [.ref q, .int (iI x0), .ref o] 1 (gO cL o fL :: wX) := by
  refine g_ofW (by decide +kernel) rfl rfl (Nat.le_of_ble_eq_true rfl) (g_cat1 rfl) ?_
  intro p e s m args below meth c Q A0 E hT htab hret
  have hts := E.1.2.2.2.2
  show gJ p l e (gRx 8) s m args below meth c 0 0 Q A0 D (gO cL o fL :: wX) [some (.ref q), some (.int (iI x0)), some (.ref o), none] 0 []
  refine g_aload_n E dL_addPlace_0 rfl rfl ?_
  refine g_iconst E dL_addPlace_1 ?_
  refine g_aload_n E dL_addPlace_2 rfl rfl ?_
  refine g_iload_n E dL_addPlace_3 rfl rfl ?_
  refine g_callCW E [0, 1] rfl (wr := [gO cL o fL]) hM hT htab [] ⟨0, 9, 12, 13⟩ [⟨0, 9, 15, 15⟩] rfl (fun z hz => nomatch hz) (by decide) (by decide) cl_addPlace_13 (by decide +kernel) (cwV 1 hts gL_addPlace_X0_addPlace rfl rfl rfl hdL_X0_addPlace ⟨(Nat.le_of_ble_eq_true rfl), (Nat.le_of_ble_eq_true rfl)⟩) rfl rfl rfl (Nat.le_of_ble_eq_true rfl) he rfl dL_addPlace_4 ⟨(Nat.le_of_ble_eq_true rfl), (Nat.le_of_ble_eq_true rfl)⟩ (fun a => ?_)
  refine g_astore_n E (lv' := [_, _, _, _]) dL_addPlace_12 rfl (Nat.le_of_ble_eq_true rfl) rfl ?_
  refine g_iconst E dL_addPlace_13 ?_
  exact hret _ _ dL_addPlace_14
set_option maxHeartbeats 4000000 in
set_option maxRecDepth 100000 in
theorem wL_addPlace2 {l : Launch} {D : va_G} {cI cZ cL : ClassId} {o q : Nat} {fL : Nat → Int64} {wX : va_W} {fs : List Value} (he : wX[0]? = some (q, .inr (0, fs))) {x0 : Int} (hM : gMT l yX0_addPlace wsX0_addPlace 7 D (gTy cI cZ) wX [.ref q, .int (iI x0)] gIS) : gMW l yL_addPlace wsL_addPlace D (gTyL cI cZ cL) (gO cL o fL :: wX) [.ref q, .int (iI x0), .ref o] 2 (gO cL o fL :: wX) := by
  refine g_ofW (by decide +kernel) rfl rfl (Nat.le_of_ble_eq_true rfl) (g_cat1 rfl) ?_
  intro p e s m args below meth c Q A0 E hT htab hret
  have hts := E.1.2.2.2.2
  show gJ p l e (gRx 8) s m args below meth c 0 0 Q A0 D (gO cL o fL :: wX) [some (.ref q), some (.int (iI x0)), some (.ref o), none] 0 []
  have hpass : ∀ z ∈ ([⟨0, 9, 12, 13⟩] : List ExceptionTableEntry), z.catchType ≠ 0 ∧ ∃ nm : String, Cond.classLink RL z.catchType nm ∈ wsL_addPlace ∧ (gIS, nm) ∈ gNcs := by
    intro z hz
    simp only [List.mem_cons, List.not_mem_nil, or_false] at hz
    subst hz
    exact ⟨by decide, gIA, cl_addPlace_13, by decide +kernel⟩
  refine g_aload_n E dL_addPlace_0 rfl rfl ?_
  refine g_iconst E dL_addPlace_1 ?_
  refine g_aload_n E dL_addPlace_2 rfl rfl ?_
  refine g_iload_n E dL_addPlace_3 rfl rfl ?_
  refine g_callCW E [0, 1] rfl (wr := [gO cL o fL]) hM hT htab [⟨0, 9, 12, 13⟩] ⟨0, 9, 15, 15⟩ [] rfl hpass (by decide) (by decide) cl_addPlace_15 (by decide +kernel) (cwV 1 hts gL_addPlace_X0_addPlace rfl rfl rfl hdL_X0_addPlace ⟨(Nat.le_of_ble_eq_true rfl), (Nat.le_of_ble_eq_true rfl)⟩) rfl rfl rfl (Nat.le_of_ble_eq_true rfl) he rfl dL_addPlace_4 ⟨(Nat.le_of_ble_eq_true rfl), (Nat.le_of_ble_eq_true rfl)⟩ (fun a => ?_)
  refine g_astore_n E (lv' := [_, _, _, _]) dL_addPlace_15 rfl (Nat.le_of_ble_eq_true rfl) rfl ?_
  refine g_iconst E dL_addPlace_16 ?_
  exact hret _ _ dL_addPlace_17
set_option maxHeartbeats 4000000 in
set_option maxRecDepth 100000 in
theorem wL_addDoor0 {l : Launch} {D : va_G} {cI cZ cL : ClassId} {o q : Nat} {fL : Nat → Int64} {wX wX' : va_W} {fs : List Value} (he : wX[0]? = some (q, .inr (0, fs))) {x0 x1 x2 x3 : Int} {rv : Int} (hM : gMI l yX0_addDoor wsX0_addDoor 6 D (gTy cI cZ) wX [.ref q, .int (iI x0), .int (iI x1), .int (iI x2), .int (iI x3)] rv wX') : gMW l yL_addDoor wsL_addDoor D (gTyL cI cZ cL) (gO cL o fL :: wX) [.ref q, .int (iI x0), .int (iI x1), .int (iI x2), .int (iI x3), .ref o] 0 (gO cL o (vp_updL fL 0 (iI rv).toInt64) :: wX') := by
  refine g_ofW (by decide +kernel) rfl rfl (Nat.le_of_ble_eq_true rfl) (g_cat1 rfl) ?_
  intro p e s m args below meth c Q A0 E hT htab hret
  have hts := E.1.2.2.2.2
  show gJ p l e (gRx 8) s m args below meth c 0 0 Q A0 D (gO cL o fL :: wX) [some (.ref q), some (.int (iI x0)), some (.int (iI x1)), some (.int (iI x2)), some (.int (iI x3)), some (.ref o), none] 0 []
  refine g_aload E dL_addDoor_0 rfl ?_
  refine g_iconst E dL_addDoor_2 ?_
  refine g_aload_n E dL_addDoor_3 rfl rfl ?_
  refine g_iload_n E dL_addDoor_4 rfl rfl ?_
  refine g_iload_n E dL_addDoor_5 rfl rfl ?_
  refine g_iload_n E dL_addDoor_6 rfl rfl ?_
  refine g_iload E dL_addDoor_7 rfl ?_
  refine g_callIW E [0, 1] rfl (wr := [gO cL o fL]) hM (cwV 4 hts gL_addDoor_X0_addDoor rfl rfl rfl hdL_X0_addDoor ⟨(Nat.le_of_ble_eq_true rfl), (Nat.le_of_ble_eq_true rfl)⟩) rfl rfl rfl (Nat.le_of_ble_eq_true rfl) he rfl dL_addDoor_9 ⟨Nat.zero_le _, Nat.zero_le _⟩ ?_
  refine g_i2l E dL_addDoor_12 ?_
  refine g_last E 0 (ws' := gO cL o (vp_updL fL 0 (iI rv).toInt64) :: wX') rfl rfl dL_addDoor_13 ?_
  refine g_goto E dL_addDoor_14 (tgt := 29) (by decide) ?_
  refine g_iconst E dL_addDoor_29 ?_
  exact g_wid (Nat.zero_le _) (Nat.zero_le _) (hret _ _ dL_addDoor_30)
set_option maxHeartbeats 4000000 in
set_option maxRecDepth 100000 in
theorem wL_addDoor1 {l : Launch} {D : va_G} {cI cZ cL : ClassId} {o q : Nat} {fL : Nat → Int64} {wX : va_W} {fs : List Value} (he : wX[0]? = some (q, .inr (0, fs))) {x0 x1 x2 x3 : Int} (hM : gMT l yX0_addDoor wsX0_addDoor 7 D (gTy cI cZ) wX [.ref q, .int (iI x0), .int (iI x1), .int (iI x2), .int (iI x3)] gIX) : gMW l yL_addDoor wsL_addDoor D (gTyL cI cZ cL) (gO cL o fL :: wX) [.ref q, .int (iI x0), .int (iI x1), .int (iI x2), .int (iI x3), .ref o] 1 (gO cL o fL :: wX) := by
  refine g_ofW (by decide +kernel) rfl rfl (Nat.le_of_ble_eq_true rfl) (g_cat1 rfl) ?_
  intro p e s m args below meth c Q A0 E hT htab hret
  have hts := E.1.2.2.2.2
  show gJ p l e (gRx 8) s m args below meth c 0 0 Q A0 D (gO cL o fL :: wX) [some (.ref q), some (.int (iI x0)), some (.int (iI x1)), some (.int (iI x2)), some (.int (iI x3)), some (.ref o), none] 0 []
  refine g_aload E dL_addDoor_0 rfl ?_
  refine g_iconst E dL_addDoor_2 ?_
  refine g_aload_n E dL_addDoor_3 rfl rfl ?_
  refine g_iload_n E dL_addDoor_4 rfl rfl ?_
  refine g_iload_n E dL_addDoor_5 rfl rfl ?_
  refine g_iload_n E dL_addDoor_6 rfl rfl ?_
  refine g_iload E dL_addDoor_7 rfl ?_
  refine g_callCW E [0, 1] rfl (wr := [gO cL o fL]) hM hT htab [] ⟨0, 14, 17, 21⟩ [⟨0, 14, 21, 13⟩, ⟨0, 14, 25, 15⟩] rfl (fun z hz => nomatch hz) (by decide) (by decide) cl_addDoor_21 (by decide +kernel) (cwV 4 hts gL_addDoor_X0_addDoor rfl rfl rfl hdL_X0_addDoor ⟨(Nat.le_of_ble_eq_true rfl), (Nat.le_of_ble_eq_true rfl)⟩) rfl rfl rfl (Nat.le_of_ble_eq_true rfl) he rfl dL_addDoor_9 ⟨(Nat.le_of_ble_eq_true rfl), (Nat.le_of_ble_eq_true rfl)⟩ (fun a => ?_)
  refine g_astore E (lv' := [_, _, _, _, _, _, _]) dL_addDoor_17 (Nat.le_of_ble_eq_true rfl) rfl ?_
  refine g_iconst E dL_addDoor_19 ?_
  exact hret _ _ dL_addDoor_20
set_option maxHeartbeats 4000000 in
set_option maxRecDepth 100000 in
theorem wL_addDoor2 {l : Launch} {D : va_G} {cI cZ cL : ClassId} {o q : Nat} {fL : Nat → Int64} {wX : va_W} {fs : List Value} (he : wX[0]? = some (q, .inr (0, fs))) {x0 x1 x2 x3 : Int} (hM : gMT l yX0_addDoor wsX0_addDoor 7 D (gTy cI cZ) wX [.ref q, .int (iI x0), .int (iI x1), .int (iI x2), .int (iI x3)] gIA) : gMW l yL_addDoor wsL_addDoor D (gTyL cI cZ cL) (gO cL o fL :: wX) [.ref q, .int (iI x0), .int (iI x1), .int (iI x2), .int (iI x3), .ref o] 2 (gO cL o fL :: wX) := by
  refine g_ofW (by decide +kernel) rfl rfl (Nat.le_of_ble_eq_true rfl) (g_cat1 rfl) ?_
  intro p e s m args below meth c Q A0 E hT htab hret
  have hts := E.1.2.2.2.2
  show gJ p l e (gRx 8) s m args below meth c 0 0 Q A0 D (gO cL o fL :: wX) [some (.ref q), some (.int (iI x0)), some (.int (iI x1)), some (.int (iI x2)), some (.int (iI x3)), some (.ref o), none] 0 []
  have hpass : ∀ z ∈ ([⟨0, 14, 17, 21⟩] : List ExceptionTableEntry), z.catchType ≠ 0 ∧ ∃ nm : String, Cond.classLink RL z.catchType nm ∈ wsL_addDoor ∧ (gIA, nm) ∈ gNcs := by
    intro z hz
    simp only [List.mem_cons, List.not_mem_nil, or_false] at hz
    subst hz
    exact ⟨by decide, gIX, cl_addDoor_21, by decide +kernel⟩
  refine g_aload E dL_addDoor_0 rfl ?_
  refine g_iconst E dL_addDoor_2 ?_
  refine g_aload_n E dL_addDoor_3 rfl rfl ?_
  refine g_iload_n E dL_addDoor_4 rfl rfl ?_
  refine g_iload_n E dL_addDoor_5 rfl rfl ?_
  refine g_iload_n E dL_addDoor_6 rfl rfl ?_
  refine g_iload E dL_addDoor_7 rfl ?_
  refine g_callCW E [0, 1] rfl (wr := [gO cL o fL]) hM hT htab [⟨0, 14, 17, 21⟩] ⟨0, 14, 21, 13⟩ [⟨0, 14, 25, 15⟩] rfl hpass (by decide) (by decide) cl_addDoor_13 (by decide +kernel) (cwV 4 hts gL_addDoor_X0_addDoor rfl rfl rfl hdL_X0_addDoor ⟨(Nat.le_of_ble_eq_true rfl), (Nat.le_of_ble_eq_true rfl)⟩) rfl rfl rfl (Nat.le_of_ble_eq_true rfl) he rfl dL_addDoor_9 ⟨(Nat.le_of_ble_eq_true rfl), (Nat.le_of_ble_eq_true rfl)⟩ (fun a => ?_)
  refine g_astore E (lv' := [_, _, _, _, _, _, _]) dL_addDoor_21 (Nat.le_of_ble_eq_true rfl) rfl ?_
  refine g_iconst E dL_addDoor_23 ?_
  exact hret _ _ dL_addDoor_24
set_option maxHeartbeats 4000000 in
set_option maxRecDepth 100000 in
theorem wL_addDoor3 {l : Launch} {D : va_G} {cI cZ cL : ClassId} {o q : Nat} {fL : Nat → Int64} {wX : va_W} {fs : List Value} (he : wX[0]? = some (q, .inr (0, fs))) {x0 x1 x2 x3 : Int} (hM : gMT l yX0_addDoor wsX0_addDoor 7 D (gTy cI cZ) wX [.ref q, .int (iI x0), .int (iI x1), .int (iI x2), .int (iI x3)] gIS) : gMW l yL_addDoor wsL_addDoor D (gTyL cI cZ cL) (gO cL o fL :: wX) [.ref q, .int (iI x0), .int (iI x1), .int (iI x2), .int (iI x3), .ref o] 3 (gO cL o fL :: wX) := by
  refine g_ofW (by decide +kernel) rfl rfl (Nat.le_of_ble_eq_true rfl) (g_cat1 rfl) ?_
  intro p e s m args below meth c Q A0 E hT htab hret
  have hts := E.1.2.2.2.2
  show gJ p l e (gRx 8) s m args below meth c 0 0 Q A0 D (gO cL o fL :: wX) [some (.ref q), some (.int (iI x0)), some (.int (iI x1)), some (.int (iI x2)), some (.int (iI x3)), some (.ref o), none] 0 []
  have hpass : ∀ z ∈ ([⟨0, 14, 17, 21⟩, ⟨0, 14, 21, 13⟩] : List ExceptionTableEntry), z.catchType ≠ 0 ∧ ∃ nm : String, Cond.classLink RL z.catchType nm ∈ wsL_addDoor ∧ (gIS, nm) ∈ gNcs := by
    intro z hz
    simp only [List.mem_cons, List.not_mem_nil, or_false] at hz
    rcases hz with rfl | rfl
    · exact ⟨by decide, gIX, cl_addDoor_21, by decide +kernel⟩
    · exact ⟨by decide, gIA, cl_addDoor_13, by decide +kernel⟩
  refine g_aload E dL_addDoor_0 rfl ?_
  refine g_iconst E dL_addDoor_2 ?_
  refine g_aload_n E dL_addDoor_3 rfl rfl ?_
  refine g_iload_n E dL_addDoor_4 rfl rfl ?_
  refine g_iload_n E dL_addDoor_5 rfl rfl ?_
  refine g_iload_n E dL_addDoor_6 rfl rfl ?_
  refine g_iload E dL_addDoor_7 rfl ?_
  refine g_callCW E [0, 1] rfl (wr := [gO cL o fL]) hM hT htab [⟨0, 14, 17, 21⟩, ⟨0, 14, 21, 13⟩] ⟨0, 14, 25, 15⟩ [] rfl hpass (by decide) (by decide) cl_addDoor_15 (by decide +kernel) (cwV 4 hts gL_addDoor_X0_addDoor rfl rfl rfl hdL_X0_addDoor ⟨(Nat.le_of_ble_eq_true rfl), (Nat.le_of_ble_eq_true rfl)⟩) rfl rfl rfl (Nat.le_of_ble_eq_true rfl) he rfl dL_addDoor_9 ⟨(Nat.le_of_ble_eq_true rfl), (Nat.le_of_ble_eq_true rfl)⟩ (fun a => ?_)
  refine g_astore E (lv' := [_, _, _, _, _, _, _]) dL_addDoor_25 (Nat.le_of_ble_eq_true rfl) rfl ?_
  refine g_iconst E dL_addDoor_27 ?_
  exact hret _ _ dL_addDoor_28
set_option maxHeartbeats 4000000 in
set_option maxRecDepth 100000 in
theorem wL_setDoor0 {l : Launch} {D : va_G} {cI cZ cL : ClassId} {o q : Nat} {fL : Nat → Int64} {wX wX' : va_W} {fs : List Value} (he : wX[0]? = some (q, .inr (0, fs))) {x0 x1 : Int} {rv : Int} (hrv : rv = 0 ∨ rv = 1) (hM : gMI l yX0_setDoor wsX0_setDoor 6 D (gTy cI cZ) wX [.ref q, .int (iI x0), .int (iI x1)] rv wX') : gMW l yL_setDoor wsL_setDoor D (gTyL cI cZ cL) (gO cL o fL :: wX) [.ref q, .int (iI x0), .int (iI x1), .ref o] 0 (gO cL o (vp_updL fL 0 (iI rv).toInt64) :: wX') := by
  refine g_ofW (by decide +kernel) rfl rfl (Nat.le_of_ble_eq_true rfl) (g_cat1 rfl) ?_
  intro p e s m args below meth c Q A0 E hT htab hret
  have hts := E.1.2.2.2.2
  show gJ p l e (gRx 8) s m args below meth c 0 0 Q A0 D (gO cL o fL :: wX) [some (.ref q), some (.int (iI x0)), some (.int (iI x1)), some (.ref o), none] 0 []
  refine g_aload_n E dL_setDoor_0 rfl rfl ?_
  refine g_iconst E dL_setDoor_1 ?_
  refine g_aload_n E dL_setDoor_2 rfl rfl ?_
  refine g_iload_n E dL_setDoor_3 rfl rfl ?_
  refine g_iload_n E dL_setDoor_4 rfl rfl ?_
  refine g_callIW E [0, 1] rfl (wr := [gO cL o fL]) hM (cwV 2 hts gL_setDoor_X0_setDoor rfl rfl rfl hdL_X0_setDoor ⟨(Nat.le_of_ble_eq_true rfl), (Nat.le_of_ble_eq_true rfl)⟩) rfl rfl rfl (Nat.le_of_ble_eq_true rfl) he rfl dL_setDoor_5 ⟨Nat.zero_le _, Nat.zero_le _⟩ ?_
  rcases hrv with rfl | rfl
  · refine g_if_eq_t E dL_setDoor_8 (tgt := 15) (by decide) (by omega) (by omega) ?_
    refine g_lconst E dL_setDoor_15 (v := (iI 0).toInt64) rfl ?_
    refine g_last E 0 (ws' := gO cL o (vp_updL fL 0 (iI 0).toInt64) :: wX') rfl rfl dL_setDoor_16 ?_
    refine g_goto E dL_setDoor_17 (tgt := 24) (by decide) ?_
    refine g_iconst E dL_setDoor_24 ?_
    exact g_wid (Nat.zero_le _) (Nat.zero_le _) (hret _ _ dL_setDoor_25)
  · refine g_if_eq_f E dL_setDoor_8 (tgt := 15) (by decide) (by omega) (by omega) ?_
    refine g_lconst E dL_setDoor_11 (v := (iI 1).toInt64) rfl ?_
    refine g_goto E dL_setDoor_12 (tgt := 16) (by decide) ?_
    refine g_last E 0 (ws' := gO cL o (vp_updL fL 0 (iI 1).toInt64) :: wX') rfl rfl dL_setDoor_16 ?_
    refine g_goto E dL_setDoor_17 (tgt := 24) (by decide) ?_
    refine g_iconst E dL_setDoor_24 ?_
    exact g_wid (Nat.zero_le _) (Nat.zero_le _) (hret _ _ dL_setDoor_25)
set_option maxHeartbeats 4000000 in
set_option maxRecDepth 100000 in
theorem wL_setDoor1 {l : Launch} {D : va_G} {cI cZ cL : ClassId} {o q : Nat} {fL : Nat → Int64} {wX : va_W} {fs : List Value} (he : wX[0]? = some (q, .inr (0, fs))) {x0 x1 : Int} (hM : gMT l yX0_setDoor wsX0_setDoor 7 D (gTy cI cZ) wX [.ref q, .int (iI x0), .int (iI x1)] gIX) : gMW l yL_setDoor wsL_setDoor D (gTyL cI cZ cL) (gO cL o fL :: wX) [.ref q, .int (iI x0), .int (iI x1), .ref o] 1 (gO cL o fL :: wX) := by
  refine g_ofW (by decide +kernel) rfl rfl (Nat.le_of_ble_eq_true rfl) (g_cat1 rfl) ?_
  intro p e s m args below meth c Q A0 E hT htab hret
  have hts := E.1.2.2.2.2
  show gJ p l e (gRx 8) s m args below meth c 0 0 Q A0 D (gO cL o fL :: wX) [some (.ref q), some (.int (iI x0)), some (.int (iI x1)), some (.ref o), none] 0 []
  refine g_aload_n E dL_setDoor_0 rfl rfl ?_
  refine g_iconst E dL_setDoor_1 ?_
  refine g_aload_n E dL_setDoor_2 rfl rfl ?_
  refine g_iload_n E dL_setDoor_3 rfl rfl ?_
  refine g_iload_n E dL_setDoor_4 rfl rfl ?_
  refine g_callCW E [0, 1] rfl (wr := [gO cL o fL]) hM hT htab [] ⟨0, 17, 20, 21⟩ [] rfl (fun z hz => nomatch hz) (by decide) (by decide) cl_setDoor_21 (by decide +kernel) (cwV 2 hts gL_setDoor_X0_setDoor rfl rfl rfl hdL_X0_setDoor ⟨(Nat.le_of_ble_eq_true rfl), (Nat.le_of_ble_eq_true rfl)⟩) rfl rfl rfl (Nat.le_of_ble_eq_true rfl) he rfl dL_setDoor_5 ⟨(Nat.le_of_ble_eq_true rfl), (Nat.le_of_ble_eq_true rfl)⟩ (fun a => ?_)
  refine g_astore E (lv' := [_, _, _, _, _]) dL_setDoor_20 (Nat.le_of_ble_eq_true rfl) rfl ?_
  refine g_iconst E dL_setDoor_22 ?_
  exact hret _ _ dL_setDoor_23
set_option maxHeartbeats 4000000 in
set_option maxRecDepth 100000 in
theorem wL_come0 {l : Launch} {D : va_G} {cI cZ cL : ClassId} {o q : Nat} {fL : Nat → Int64} {wX wX' : va_W} {fs : List Value} (he : wX[0]? = some (q, .inr (0, fs))) {x0 x1 : Int} {rv : Int} (hM : gMI l yX0_come wsX0_come 6 D (gTy cI cZ) wX [.ref q, .int (iI x0), .int (iI x1)] rv wX') : gMW l yL_come wsL_come D (gTyL cI cZ cL) (gO cL o fL :: wX) [.ref q, .int (iI x0), .int (iI x1), .ref o] 0 (gO cL o (vp_updL fL 0 (iI rv).toInt64) :: wX') := by
  refine g_ofW (by decide +kernel) rfl rfl (Nat.le_of_ble_eq_true rfl) (g_cat1 rfl) ?_
  intro p e s m args below meth c Q A0 E hT htab hret
  have hts := E.1.2.2.2.2
  show gJ p l e (gRx 8) s m args below meth c 0 0 Q A0 D (gO cL o fL :: wX) [some (.ref q), some (.int (iI x0)), some (.int (iI x1)), some (.ref o), none] 0 []
  refine g_aload_n E dL_come_0 rfl rfl ?_
  refine g_iconst E dL_come_1 ?_
  refine g_aload_n E dL_come_2 rfl rfl ?_
  refine g_iload_n E dL_come_3 rfl rfl ?_
  refine g_iload_n E dL_come_4 rfl rfl ?_
  refine g_callIW E [0, 1] rfl (wr := [gO cL o fL]) hM (cwV 2 hts gL_come_X0_come rfl rfl rfl hdL_X0_come ⟨(Nat.le_of_ble_eq_true rfl), (Nat.le_of_ble_eq_true rfl)⟩) rfl rfl rfl (Nat.le_of_ble_eq_true rfl) he rfl dL_come_5 ⟨Nat.zero_le _, Nat.zero_le _⟩ ?_
  refine g_i2l E dL_come_8 ?_
  refine g_last E 0 (ws' := gO cL o (vp_updL fL 0 (iI rv).toInt64) :: wX') rfl rfl dL_come_9 ?_
  refine g_goto E dL_come_10 (tgt := 25) (by decide) ?_
  refine g_iconst E dL_come_25 ?_
  exact g_wid (Nat.zero_le _) (Nat.zero_le _) (hret _ _ dL_come_26)
set_option maxHeartbeats 4000000 in
set_option maxRecDepth 100000 in
theorem wL_come1 {l : Launch} {D : va_G} {cI cZ cL : ClassId} {o q : Nat} {fL : Nat → Int64} {wX : va_W} {fs : List Value} (he : wX[0]? = some (q, .inr (0, fs))) {x0 x1 : Int} (hM : gMT l yX0_come wsX0_come 7 D (gTy cI cZ) wX [.ref q, .int (iI x0), .int (iI x1)] gIX) : gMW l yL_come wsL_come D (gTyL cI cZ cL) (gO cL o fL :: wX) [.ref q, .int (iI x0), .int (iI x1), .ref o] 1 (gO cL o fL :: wX) := by
  refine g_ofW (by decide +kernel) rfl rfl (Nat.le_of_ble_eq_true rfl) (g_cat1 rfl) ?_
  intro p e s m args below meth c Q A0 E hT htab hret
  have hts := E.1.2.2.2.2
  show gJ p l e (gRx 8) s m args below meth c 0 0 Q A0 D (gO cL o fL :: wX) [some (.ref q), some (.int (iI x0)), some (.int (iI x1)), some (.ref o), none] 0 []
  refine g_aload_n E dL_come_0 rfl rfl ?_
  refine g_iconst E dL_come_1 ?_
  refine g_aload_n E dL_come_2 rfl rfl ?_
  refine g_iload_n E dL_come_3 rfl rfl ?_
  refine g_iload_n E dL_come_4 rfl rfl ?_
  refine g_callCW E [0, 1] rfl (wr := [gO cL o fL]) hM hT htab [] ⟨0, 10, 13, 21⟩ [⟨0, 10, 17, 13⟩, ⟨0, 10, 21, 15⟩] rfl (fun z hz => nomatch hz) (by decide) (by decide) cl_come_21 (by decide +kernel) (cwV 2 hts gL_come_X0_come rfl rfl rfl hdL_X0_come ⟨(Nat.le_of_ble_eq_true rfl), (Nat.le_of_ble_eq_true rfl)⟩) rfl rfl rfl (Nat.le_of_ble_eq_true rfl) he rfl dL_come_5 ⟨(Nat.le_of_ble_eq_true rfl), (Nat.le_of_ble_eq_true rfl)⟩ (fun a => ?_)
  refine g_astore E (lv' := [_, _, _, _, _]) dL_come_13 (Nat.le_of_ble_eq_true rfl) rfl ?_
  refine g_iconst E dL_come_15 ?_
  exact hret _ _ dL_come_16
set_option maxHeartbeats 4000000 in
set_option maxRecDepth 100000 in
theorem wL_come2 {l : Launch} {D : va_G} {cI cZ cL : ClassId} {o q : Nat} {fL : Nat → Int64} {wX : va_W} {fs : List Value} (he : wX[0]? = some (q, .inr (0, fs))) {x0 x1 : Int} (hM : gMT l yX0_come wsX0_come 7 D (gTy cI cZ) wX [.ref q, .int (iI x0), .int (iI x1)] gIA) : gMW l yL_come wsL_come D (gTyL cI cZ cL) (gO cL o fL :: wX) [.ref q, .int (iI x0), .int (iI x1), .ref o] 2 (gO cL o fL :: wX) := by
  refine g_ofW (by decide +kernel) rfl rfl (Nat.le_of_ble_eq_true rfl) (g_cat1 rfl) ?_
  intro p e s m args below meth c Q A0 E hT htab hret
  have hts := E.1.2.2.2.2
  show gJ p l e (gRx 8) s m args below meth c 0 0 Q A0 D (gO cL o fL :: wX) [some (.ref q), some (.int (iI x0)), some (.int (iI x1)), some (.ref o), none] 0 []
  have hpass : ∀ z ∈ ([⟨0, 10, 13, 21⟩] : List ExceptionTableEntry), z.catchType ≠ 0 ∧ ∃ nm : String, Cond.classLink RL z.catchType nm ∈ wsL_come ∧ (gIA, nm) ∈ gNcs := by
    intro z hz
    simp only [List.mem_cons, List.not_mem_nil, or_false] at hz
    subst hz
    exact ⟨by decide, gIX, cl_come_21, by decide +kernel⟩
  refine g_aload_n E dL_come_0 rfl rfl ?_
  refine g_iconst E dL_come_1 ?_
  refine g_aload_n E dL_come_2 rfl rfl ?_
  refine g_iload_n E dL_come_3 rfl rfl ?_
  refine g_iload_n E dL_come_4 rfl rfl ?_
  refine g_callCW E [0, 1] rfl (wr := [gO cL o fL]) hM hT htab [⟨0, 10, 13, 21⟩] ⟨0, 10, 17, 13⟩ [⟨0, 10, 21, 15⟩] rfl hpass (by decide) (by decide) cl_come_13 (by decide +kernel) (cwV 2 hts gL_come_X0_come rfl rfl rfl hdL_X0_come ⟨(Nat.le_of_ble_eq_true rfl), (Nat.le_of_ble_eq_true rfl)⟩) rfl rfl rfl (Nat.le_of_ble_eq_true rfl) he rfl dL_come_5 ⟨(Nat.le_of_ble_eq_true rfl), (Nat.le_of_ble_eq_true rfl)⟩ (fun a => ?_)
  refine g_astore E (lv' := [_, _, _, _, _]) dL_come_17 (Nat.le_of_ble_eq_true rfl) rfl ?_
  refine g_iconst E dL_come_19 ?_
  exact hret _ _ dL_come_20
set_option maxHeartbeats 4000000 in
set_option maxRecDepth 100000 in
theorem wL_come3 {l : Launch} {D : va_G} {cI cZ cL : ClassId} {o q : Nat} {fL : Nat → Int64} {wX : va_W} {fs : List Value} (he : wX[0]? = some (q, .inr (0, fs))) {x0 x1 : Int} (hM : gMT l yX0_come wsX0_come 7 D (gTy cI cZ) wX [.ref q, .int (iI x0), .int (iI x1)] gIS) : gMW l yL_come wsL_come D (gTyL cI cZ cL) (gO cL o fL :: wX) [.ref q, .int (iI x0), .int (iI x1), .ref o] 3 (gO cL o fL :: wX) := by
  refine g_ofW (by decide +kernel) rfl rfl (Nat.le_of_ble_eq_true rfl) (g_cat1 rfl) ?_
  intro p e s m args below meth c Q A0 E hT htab hret
  have hts := E.1.2.2.2.2
  show gJ p l e (gRx 8) s m args below meth c 0 0 Q A0 D (gO cL o fL :: wX) [some (.ref q), some (.int (iI x0)), some (.int (iI x1)), some (.ref o), none] 0 []
  have hpass : ∀ z ∈ ([⟨0, 10, 13, 21⟩, ⟨0, 10, 17, 13⟩] : List ExceptionTableEntry), z.catchType ≠ 0 ∧ ∃ nm : String, Cond.classLink RL z.catchType nm ∈ wsL_come ∧ (gIS, nm) ∈ gNcs := by
    intro z hz
    simp only [List.mem_cons, List.not_mem_nil, or_false] at hz
    rcases hz with rfl | rfl
    · exact ⟨by decide, gIX, cl_come_21, by decide +kernel⟩
    · exact ⟨by decide, gIA, cl_come_13, by decide +kernel⟩
  refine g_aload_n E dL_come_0 rfl rfl ?_
  refine g_iconst E dL_come_1 ?_
  refine g_aload_n E dL_come_2 rfl rfl ?_
  refine g_iload_n E dL_come_3 rfl rfl ?_
  refine g_iload_n E dL_come_4 rfl rfl ?_
  refine g_callCW E [0, 1] rfl (wr := [gO cL o fL]) hM hT htab [⟨0, 10, 13, 21⟩, ⟨0, 10, 17, 13⟩] ⟨0, 10, 21, 15⟩ [] rfl hpass (by decide) (by decide) cl_come_15 (by decide +kernel) (cwV 2 hts gL_come_X0_come rfl rfl rfl hdL_X0_come ⟨(Nat.le_of_ble_eq_true rfl), (Nat.le_of_ble_eq_true rfl)⟩) rfl rfl rfl (Nat.le_of_ble_eq_true rfl) he rfl dL_come_5 ⟨(Nat.le_of_ble_eq_true rfl), (Nat.le_of_ble_eq_true rfl)⟩ (fun a => ?_)
  refine g_astore E (lv' := [_, _, _, _, _]) dL_come_21 (Nat.le_of_ble_eq_true rfl) rfl ?_
  refine g_iconst E dL_come_23 ?_
  exact hret _ _ dL_come_24
set_option maxHeartbeats 4000000 in
set_option maxRecDepth 100000 in
theorem wL_setRelease0 {l : Launch} {D : va_G} {cI cZ cL : ClassId} {o q : Nat} {fL : Nat → Int64} {wX wX' : va_W} {fs : List Value} (he : wX[0]? = some (q, .inr (0, fs))) {x0 x1 : Int} {rv : Int} (hM : gMI l yX0_setRelease wsX0_setRelease 6 D (gTy cI cZ) wX [.ref q, .int (iI x0), .int (iI x1)] rv wX') : gMW l yL_setRelease wsL_setRelease D (gTyL cI cZ cL) (gO cL o fL :: wX) [.ref q, .int (iI x0), .int (iI x1), .ref o] 0 (gO cL o (vp_updL fL 0 (iI rv).toInt64) :: wX') := by
  refine g_ofW (by decide +kernel) rfl rfl (Nat.le_of_ble_eq_true rfl) (g_cat1 rfl) ?_
  intro p e s m args below meth c Q A0 E hT htab hret
  have hts := E.1.2.2.2.2
  show gJ p l e (gRx 8) s m args below meth c 0 0 Q A0 D (gO cL o fL :: wX) [some (.ref q), some (.int (iI x0)), some (.int (iI x1)), some (.ref o), none] 0 []
  refine g_aload_n E dL_setRelease_0 rfl rfl ?_
  refine g_iconst E dL_setRelease_1 ?_
  refine g_aload_n E dL_setRelease_2 rfl rfl ?_
  refine g_iload_n E dL_setRelease_3 rfl rfl ?_
  refine g_iload_n E dL_setRelease_4 rfl rfl ?_
  refine g_callIW E [0, 1] rfl (wr := [gO cL o fL]) hM (cwV 2 hts gL_setRelease_X0_setRelease rfl rfl rfl hdL_X0_setRelease ⟨(Nat.le_of_ble_eq_true rfl), (Nat.le_of_ble_eq_true rfl)⟩) rfl rfl rfl (Nat.le_of_ble_eq_true rfl) he rfl dL_setRelease_5 ⟨Nat.zero_le _, Nat.zero_le _⟩ ?_
  refine g_i2l E dL_setRelease_8 ?_
  refine g_last E 0 (ws' := gO cL o (vp_updL fL 0 (iI rv).toInt64) :: wX') rfl rfl dL_setRelease_9 ?_
  refine g_goto E dL_setRelease_10 (tgt := 21) (by decide) ?_
  refine g_iconst E dL_setRelease_21 ?_
  exact g_wid (Nat.zero_le _) (Nat.zero_le _) (hret _ _ dL_setRelease_22)
set_option maxHeartbeats 4000000 in
set_option maxRecDepth 100000 in
theorem wL_setRelease1 {l : Launch} {D : va_G} {cI cZ cL : ClassId} {o q : Nat} {fL : Nat → Int64} {wX : va_W} {fs : List Value} (he : wX[0]? = some (q, .inr (0, fs))) {x0 x1 : Int} (hM : gMT l yX0_setRelease wsX0_setRelease 7 D (gTy cI cZ) wX [.ref q, .int (iI x0), .int (iI x1)] gIX) : gMW l yL_setRelease wsL_setRelease D (gTyL cI cZ cL) (gO cL o fL :: wX) [.ref q, .int (iI x0), .int (iI x1), .ref o] 1 (gO cL o fL :: wX) := by
  refine g_ofW (by decide +kernel) rfl rfl (Nat.le_of_ble_eq_true rfl) (g_cat1 rfl) ?_
  intro p e s m args below meth c Q A0 E hT htab hret
  have hts := E.1.2.2.2.2
  show gJ p l e (gRx 8) s m args below meth c 0 0 Q A0 D (gO cL o fL :: wX) [some (.ref q), some (.int (iI x0)), some (.int (iI x1)), some (.ref o), none] 0 []
  refine g_aload_n E dL_setRelease_0 rfl rfl ?_
  refine g_iconst E dL_setRelease_1 ?_
  refine g_aload_n E dL_setRelease_2 rfl rfl ?_
  refine g_iload_n E dL_setRelease_3 rfl rfl ?_
  refine g_iload_n E dL_setRelease_4 rfl rfl ?_
  refine g_callCW E [0, 1] rfl (wr := [gO cL o fL]) hM hT htab [] ⟨0, 10, 13, 21⟩ [⟨0, 10, 17, 13⟩] rfl (fun z hz => nomatch hz) (by decide) (by decide) cl_setRelease_21 (by decide +kernel) (cwV 2 hts gL_setRelease_X0_setRelease rfl rfl rfl hdL_X0_setRelease ⟨(Nat.le_of_ble_eq_true rfl), (Nat.le_of_ble_eq_true rfl)⟩) rfl rfl rfl (Nat.le_of_ble_eq_true rfl) he rfl dL_setRelease_5 ⟨(Nat.le_of_ble_eq_true rfl), (Nat.le_of_ble_eq_true rfl)⟩ (fun a => ?_)
  refine g_astore E (lv' := [_, _, _, _, _]) dL_setRelease_13 (Nat.le_of_ble_eq_true rfl) rfl ?_
  refine g_iconst E dL_setRelease_15 ?_
  exact hret _ _ dL_setRelease_16
set_option maxHeartbeats 4000000 in
set_option maxRecDepth 100000 in
theorem wL_setRelease2 {l : Launch} {D : va_G} {cI cZ cL : ClassId} {o q : Nat} {fL : Nat → Int64} {wX : va_W} {fs : List Value} (he : wX[0]? = some (q, .inr (0, fs))) {x0 x1 : Int} (hM : gMT l yX0_setRelease wsX0_setRelease 7 D (gTy cI cZ) wX [.ref q, .int (iI x0), .int (iI x1)] gIA) : gMW l yL_setRelease wsL_setRelease D (gTyL cI cZ cL) (gO cL o fL :: wX) [.ref q, .int (iI x0), .int (iI x1), .ref o] 2 (gO cL o fL :: wX) := by
  refine g_ofW (by decide +kernel) rfl rfl (Nat.le_of_ble_eq_true rfl) (g_cat1 rfl) ?_
  intro p e s m args below meth c Q A0 E hT htab hret
  have hts := E.1.2.2.2.2
  show gJ p l e (gRx 8) s m args below meth c 0 0 Q A0 D (gO cL o fL :: wX) [some (.ref q), some (.int (iI x0)), some (.int (iI x1)), some (.ref o), none] 0 []
  have hpass : ∀ z ∈ ([⟨0, 10, 13, 21⟩] : List ExceptionTableEntry), z.catchType ≠ 0 ∧ ∃ nm : String, Cond.classLink RL z.catchType nm ∈ wsL_setRelease ∧ (gIA, nm) ∈ gNcs := by
    intro z hz
    simp only [List.mem_cons, List.not_mem_nil, or_false] at hz
    subst hz
    exact ⟨by decide, gIX, cl_setRelease_21, by decide +kernel⟩
  refine g_aload_n E dL_setRelease_0 rfl rfl ?_
  refine g_iconst E dL_setRelease_1 ?_
  refine g_aload_n E dL_setRelease_2 rfl rfl ?_
  refine g_iload_n E dL_setRelease_3 rfl rfl ?_
  refine g_iload_n E dL_setRelease_4 rfl rfl ?_
  refine g_callCW E [0, 1] rfl (wr := [gO cL o fL]) hM hT htab [⟨0, 10, 13, 21⟩] ⟨0, 10, 17, 13⟩ [] rfl hpass (by decide) (by decide) cl_setRelease_13 (by decide +kernel) (cwV 2 hts gL_setRelease_X0_setRelease rfl rfl rfl hdL_X0_setRelease ⟨(Nat.le_of_ble_eq_true rfl), (Nat.le_of_ble_eq_true rfl)⟩) rfl rfl rfl (Nat.le_of_ble_eq_true rfl) he rfl dL_setRelease_5 ⟨(Nat.le_of_ble_eq_true rfl), (Nat.le_of_ble_eq_true rfl)⟩ (fun a => ?_)
  refine g_astore E (lv' := [_, _, _, _, _]) dL_setRelease_17 (Nat.le_of_ble_eq_true rfl) rfl ?_
  refine g_iconst E dL_setRelease_19 ?_
  exact hret _ _ dL_setRelease_20
set_option maxHeartbeats 4000000 in
set_option maxRecDepth 100000 in
theorem wL_step0 {l : Launch} {D : va_G} {cI cZ cL : ClassId} {o q : Nat} {fL : Nat → Int64} {wX wX' : va_W} {fs : List Value} (he : wX[0]? = some (q, .inr (0, fs))) {x0 : Int} {rv : Int} (hM : gMI l yX0_step wsX0_step 6 D (gTy cI cZ) wX [.ref q, .int (iI x0)] rv wX') : gMW l yL_step wsL_step D (gTyL cI cZ cL) (gO cL o fL :: wX) [.ref q, .int (iI x0), .ref o] 0 (gO cL o (vp_updL fL 0 (iI rv).toInt64) :: wX') := by
  refine g_ofW (by decide +kernel) rfl rfl (Nat.le_of_ble_eq_true rfl) (g_cat1 rfl) ?_
  intro p e s m args below meth c Q A0 E hT htab hret
  have hts := E.1.2.2.2.2
  show gJ p l e (gRx 8) s m args below meth c 0 0 Q A0 D (gO cL o fL :: wX) [some (.ref q), some (.int (iI x0)), some (.ref o), none] 0 []
  refine g_aload_n E dL_step_0 rfl rfl ?_
  refine g_iconst E dL_step_1 ?_
  refine g_aload_n E dL_step_2 rfl rfl ?_
  refine g_iload_n E dL_step_3 rfl rfl ?_
  refine g_callIW E [0, 1] rfl (wr := [gO cL o fL]) hM (cwV 1 hts gL_step_X0_step rfl rfl rfl hdL_X0_step ⟨(Nat.le_of_ble_eq_true rfl), (Nat.le_of_ble_eq_true rfl)⟩) rfl rfl rfl (Nat.le_of_ble_eq_true rfl) he rfl dL_step_4 ⟨Nat.zero_le _, Nat.zero_le _⟩ ?_
  refine g_i2l E dL_step_7 ?_
  refine g_last E 0 (ws' := gO cL o (vp_updL fL 0 (iI rv).toInt64) :: wX') rfl rfl dL_step_8 ?_
  refine g_goto E dL_step_9 (tgt := 15) (by decide) ?_
  refine g_iconst E dL_step_15 ?_
  exact g_wid (Nat.zero_le _) (Nat.zero_le _) (hret _ _ dL_step_16)
set_option maxHeartbeats 4000000 in
set_option maxRecDepth 100000 in
theorem wL_step1 {l : Launch} {D : va_G} {cI cZ cL : ClassId} {o q : Nat} {fL : Nat → Int64} {wX : va_W} {fs : List Value} (he : wX[0]? = some (q, .inr (0, fs))) {x0 : Int} (hM : gMT l yX0_step wsX0_step 7 D (gTy cI cZ) wX [.ref q, .int (iI x0)] gIA) : gMW l yL_step wsL_step D (gTyL cI cZ cL) (gO cL o fL :: wX) [.ref q, .int (iI x0), .ref o] 1 (gO cL o fL :: wX) := by
  refine g_ofW (by decide +kernel) rfl rfl (Nat.le_of_ble_eq_true rfl) (g_cat1 rfl) ?_
  intro p e s m args below meth c Q A0 E hT htab hret
  have hts := E.1.2.2.2.2
  show gJ p l e (gRx 8) s m args below meth c 0 0 Q A0 D (gO cL o fL :: wX) [some (.ref q), some (.int (iI x0)), some (.ref o), none] 0 []
  refine g_aload_n E dL_step_0 rfl rfl ?_
  refine g_iconst E dL_step_1 ?_
  refine g_aload_n E dL_step_2 rfl rfl ?_
  refine g_iload_n E dL_step_3 rfl rfl ?_
  refine g_callCW E [0, 1] rfl (wr := [gO cL o fL]) hM hT htab [] ⟨0, 9, 12, 13⟩ [] rfl (fun z hz => nomatch hz) (by decide) (by decide) cl_step_13 (by decide +kernel) (cwV 1 hts gL_step_X0_step rfl rfl rfl hdL_X0_step ⟨(Nat.le_of_ble_eq_true rfl), (Nat.le_of_ble_eq_true rfl)⟩) rfl rfl rfl (Nat.le_of_ble_eq_true rfl) he rfl dL_step_4 ⟨(Nat.le_of_ble_eq_true rfl), (Nat.le_of_ble_eq_true rfl)⟩ (fun a => ?_)
  refine g_astore_n E (lv' := [_, _, _, _]) dL_step_12 rfl (Nat.le_of_ble_eq_true rfl) rfl ?_
  refine g_iconst E dL_step_13 ?_
  exact hret _ _ dL_step_14
set_option maxHeartbeats 4000000 in
set_option maxRecDepth 100000 in
theorem wL_people0 {l : Launch} {D : va_G} {cI cZ cL : ClassId} {o q : Nat} {fL : Nat → Int64} {wX wX' : va_W} {fs : List Value} (he : wX[0]? = some (q, .inr (0, fs))) {x0 : Int} {rv : Int} (hM : gMI l yX0_people wsX0_people 6 D (gTy cI cZ) wX [.ref q, .int (iI x0)] rv wX') : gMW l yL_people wsL_people D (gTyL cI cZ cL) (gO cL o fL :: wX) [.ref q, .int (iI x0), .ref o] 0 (gO cL o (vp_updL fL 0 (iI rv).toInt64) :: wX') := by
  refine g_ofW (by decide +kernel) rfl rfl (Nat.le_of_ble_eq_true rfl) (g_cat1 rfl) ?_
  intro p e s m args below meth c Q A0 E hT htab hret
  have hts := E.1.2.2.2.2
  show gJ p l e (gRx 8) s m args below meth c 0 0 Q A0 D (gO cL o fL :: wX) [some (.ref q), some (.int (iI x0)), some (.ref o), none] 0 []
  refine g_aload_n E dL_people_0 rfl rfl ?_
  refine g_iconst E dL_people_1 ?_
  refine g_aload_n E dL_people_2 rfl rfl ?_
  refine g_iload_n E dL_people_3 rfl rfl ?_
  refine g_callIW E [0, 1] rfl (wr := [gO cL o fL]) hM (cwV 1 hts gL_people_X0_people rfl rfl rfl hdL_X0_people ⟨(Nat.le_of_ble_eq_true rfl), (Nat.le_of_ble_eq_true rfl)⟩) rfl rfl rfl (Nat.le_of_ble_eq_true rfl) he rfl dL_people_4 ⟨Nat.zero_le _, Nat.zero_le _⟩ ?_
  refine g_i2l E dL_people_7 ?_
  refine g_last E 0 (ws' := gO cL o (vp_updL fL 0 (iI rv).toInt64) :: wX') rfl rfl dL_people_8 ?_
  refine g_goto E dL_people_9 (tgt := 15) (by decide) ?_
  refine g_iconst E dL_people_15 ?_
  exact g_wid (Nat.zero_le _) (Nat.zero_le _) (hret _ _ dL_people_16)
set_option maxHeartbeats 4000000 in
set_option maxRecDepth 100000 in
theorem wL_people1 {l : Launch} {D : va_G} {cI cZ cL : ClassId} {o q : Nat} {fL : Nat → Int64} {wX : va_W} {fs : List Value} (he : wX[0]? = some (q, .inr (0, fs))) {x0 : Int} (hM : gMT l yX0_people wsX0_people 7 D (gTy cI cZ) wX [.ref q, .int (iI x0)] gIX) : gMW l yL_people wsL_people D (gTyL cI cZ cL) (gO cL o fL :: wX) [.ref q, .int (iI x0), .ref o] 1 (gO cL o fL :: wX) := by
  refine g_ofW (by decide +kernel) rfl rfl (Nat.le_of_ble_eq_true rfl) (g_cat1 rfl) ?_
  intro p e s m args below meth c Q A0 E hT htab hret
  have hts := E.1.2.2.2.2
  show gJ p l e (gRx 8) s m args below meth c 0 0 Q A0 D (gO cL o fL :: wX) [some (.ref q), some (.int (iI x0)), some (.ref o), none] 0 []
  refine g_aload_n E dL_people_0 rfl rfl ?_
  refine g_iconst E dL_people_1 ?_
  refine g_aload_n E dL_people_2 rfl rfl ?_
  refine g_iload_n E dL_people_3 rfl rfl ?_
  refine g_callCW E [0, 1] rfl (wr := [gO cL o fL]) hM hT htab [] ⟨0, 9, 12, 21⟩ [] rfl (fun z hz => nomatch hz) (by decide) (by decide) cl_people_21 (by decide +kernel) (cwV 1 hts gL_people_X0_people rfl rfl rfl hdL_X0_people ⟨(Nat.le_of_ble_eq_true rfl), (Nat.le_of_ble_eq_true rfl)⟩) rfl rfl rfl (Nat.le_of_ble_eq_true rfl) he rfl dL_people_4 ⟨(Nat.le_of_ble_eq_true rfl), (Nat.le_of_ble_eq_true rfl)⟩ (fun a => ?_)
  refine g_astore_n E (lv' := [_, _, _, _]) dL_people_12 rfl (Nat.le_of_ble_eq_true rfl) rfl ?_
  refine g_iconst E dL_people_13 ?_
  exact hret _ _ dL_people_14
set_option maxHeartbeats 4000000 in
set_option maxRecDepth 100000 in
theorem wL_latest0 {l : Launch} {D : va_G} {cI cZ cL : ClassId} {o q : Nat} {fL : Nat → Int64} {wX wX' : va_W} {fs : List Value} (he : wX[0]? = some (q, .inr (0, fs))) {rv : Int} (hM : gMI l yX0_latest wsX0_latest 6 D (gTy cI cZ) wX [.ref q] rv wX') : gMW l yL_latest wsL_latest D (gTyL cI cZ cL) (gO cL o fL :: wX) [.ref q, .ref o] 0 (gO cL o (vp_updL fL 0 (iI rv).toInt64) :: wX') := by
  refine g_ofW (by decide +kernel) rfl rfl (Nat.le_of_ble_eq_true rfl) (g_cat1 rfl) ?_
  intro p e s m args below meth c Q A0 E hT htab hret
  have hts := E.1.2.2.2.2
  show gJ p l e (gRx 8) s m args below meth c 0 0 Q A0 D (gO cL o fL :: wX) [some (.ref q), some (.ref o), none] 0 []
  refine g_aload_n E dL_latest_0 rfl rfl ?_
  refine g_iconst E dL_latest_1 ?_
  refine g_aload_n E dL_latest_2 rfl rfl ?_
  refine g_callIW E [0, 1] rfl (wr := [gO cL o fL]) hM (cwV 0 hts gL_latest_X0_latest rfl rfl rfl hdL_X0_latest ⟨(Nat.le_of_ble_eq_true rfl), (Nat.le_of_ble_eq_true rfl)⟩) rfl rfl rfl (Nat.le_of_ble_eq_true rfl) he rfl dL_latest_3 ⟨Nat.zero_le _, Nat.zero_le _⟩ ?_
  refine g_i2l E dL_latest_6 ?_
  refine g_last E 0 (ws' := gO cL o (vp_updL fL 0 (iI rv).toInt64) :: wX') rfl rfl dL_latest_7 ?_
  refine g_goto E dL_latest_8 (tgt := 14) (by decide) ?_
  refine g_iconst E dL_latest_14 ?_
  exact g_wid (Nat.zero_le _) (Nat.zero_le _) (hret _ _ dL_latest_15)
set_option maxHeartbeats 4000000 in
set_option maxRecDepth 100000 in
theorem wL_latest1 {l : Launch} {D : va_G} {cI cZ cL : ClassId} {o q : Nat} {fL : Nat → Int64} {wX : va_W} {fs : List Value} (he : wX[0]? = some (q, .inr (0, fs))) (hM : gMT l yX0_latest wsX0_latest 7 D (gTy cI cZ) wX [.ref q] gNS) : gMW l yL_latest wsL_latest D (gTyL cI cZ cL) (gO cL o fL :: wX) [.ref q, .ref o] 1 (gO cL o fL :: wX) := by
  refine g_ofW (by decide +kernel) rfl rfl (Nat.le_of_ble_eq_true rfl) (g_cat1 rfl) ?_
  intro p e s m args below meth c Q A0 E hT htab hret
  have hts := E.1.2.2.2.2
  show gJ p l e (gRx 8) s m args below meth c 0 0 Q A0 D (gO cL o fL :: wX) [some (.ref q), some (.ref o), none] 0 []
  refine g_aload_n E dL_latest_0 rfl rfl ?_
  refine g_iconst E dL_latest_1 ?_
  refine g_aload_n E dL_latest_2 rfl rfl ?_
  refine g_callCW E [0, 1] rfl (wr := [gO cL o fL]) hM hT htab [] ⟨0, 8, 11, 44⟩ [] rfl (fun z hz => nomatch hz) (by decide) (by decide) cl_latest_44 (by decide +kernel) (cwV 0 hts gL_latest_X0_latest rfl rfl rfl hdL_X0_latest ⟨(Nat.le_of_ble_eq_true rfl), (Nat.le_of_ble_eq_true rfl)⟩) rfl rfl rfl (Nat.le_of_ble_eq_true rfl) he rfl dL_latest_3 ⟨(Nat.le_of_ble_eq_true rfl), (Nat.le_of_ble_eq_true rfl)⟩ (fun a => ?_)
  refine g_astore_n E (lv' := [_, _, _]) dL_latest_11 rfl (Nat.le_of_ble_eq_true rfl) rfl ?_
  refine g_iconst E dL_latest_12 ?_
  exact hret _ _ dL_latest_13
set_option maxHeartbeats 4000000 in
set_option maxRecDepth 100000 in
theorem wL_passed0 {l : Launch} {D : va_G} {cI cZ cL : ClassId} {o q : Nat} {fL : Nat → Int64} {wX wX' : va_W} {fs : List Value} (he : wX[0]? = some (q, .inr (0, fs))) {x0 : Int} {rv : Int} (hM : gMI l yX0_passed wsX0_passed 6 D (gTy cI cZ) wX [.ref q, .int (iI x0)] rv wX') : gMW l yL_passed wsL_passed D (gTyL cI cZ cL) (gO cL o fL :: wX) [.ref q, .int (iI x0), .ref o] 0 (gO cL o (vp_updL fL 0 (iI rv).toInt64) :: wX') := by
  refine g_ofW (by decide +kernel) rfl rfl (Nat.le_of_ble_eq_true rfl) (g_cat1 rfl) ?_
  intro p e s m args below meth c Q A0 E hT htab hret
  have hts := E.1.2.2.2.2
  show gJ p l e (gRx 8) s m args below meth c 0 0 Q A0 D (gO cL o fL :: wX) [some (.ref q), some (.int (iI x0)), some (.ref o), none] 0 []
  refine g_aload_n E dL_passed_0 rfl rfl ?_
  refine g_iconst E dL_passed_1 ?_
  refine g_aload_n E dL_passed_2 rfl rfl ?_
  refine g_iload_n E dL_passed_3 rfl rfl ?_
  refine g_callIW E [0, 1] rfl (wr := [gO cL o fL]) hM (cwV 1 hts gL_passed_X0_passed rfl rfl rfl hdL_X0_passed ⟨(Nat.le_of_ble_eq_true rfl), (Nat.le_of_ble_eq_true rfl)⟩) rfl rfl rfl (Nat.le_of_ble_eq_true rfl) he rfl dL_passed_4 ⟨Nat.zero_le _, Nat.zero_le _⟩ ?_
  refine g_i2l E dL_passed_7 ?_
  refine g_last E 0 (ws' := gO cL o (vp_updL fL 0 (iI rv).toInt64) :: wX') rfl rfl dL_passed_8 ?_
  refine g_goto E dL_passed_9 (tgt := 15) (by decide) ?_
  refine g_iconst E dL_passed_15 ?_
  exact g_wid (Nat.zero_le _) (Nat.zero_le _) (hret _ _ dL_passed_16)
set_option maxHeartbeats 4000000 in
set_option maxRecDepth 100000 in
theorem wL_passed1 {l : Launch} {D : va_G} {cI cZ cL : ClassId} {o q : Nat} {fL : Nat → Int64} {wX : va_W} {fs : List Value} (he : wX[0]? = some (q, .inr (0, fs))) {x0 : Int} (hM : gMT l yX0_passed wsX0_passed 7 D (gTy cI cZ) wX [.ref q, .int (iI x0)] gIX) : gMW l yL_passed wsL_passed D (gTyL cI cZ cL) (gO cL o fL :: wX) [.ref q, .int (iI x0), .ref o] 1 (gO cL o fL :: wX) := by
  refine g_ofW (by decide +kernel) rfl rfl (Nat.le_of_ble_eq_true rfl) (g_cat1 rfl) ?_
  intro p e s m args below meth c Q A0 E hT htab hret
  have hts := E.1.2.2.2.2
  show gJ p l e (gRx 8) s m args below meth c 0 0 Q A0 D (gO cL o fL :: wX) [some (.ref q), some (.int (iI x0)), some (.ref o), none] 0 []
  refine g_aload_n E dL_passed_0 rfl rfl ?_
  refine g_iconst E dL_passed_1 ?_
  refine g_aload_n E dL_passed_2 rfl rfl ?_
  refine g_iload_n E dL_passed_3 rfl rfl ?_
  refine g_callCW E [0, 1] rfl (wr := [gO cL o fL]) hM hT htab [] ⟨0, 9, 12, 21⟩ [] rfl (fun z hz => nomatch hz) (by decide) (by decide) cl_passed_21 (by decide +kernel) (cwV 1 hts gL_passed_X0_passed rfl rfl rfl hdL_X0_passed ⟨(Nat.le_of_ble_eq_true rfl), (Nat.le_of_ble_eq_true rfl)⟩) rfl rfl rfl (Nat.le_of_ble_eq_true rfl) he rfl dL_passed_4 ⟨(Nat.le_of_ble_eq_true rfl), (Nat.le_of_ble_eq_true rfl)⟩ (fun a => ?_)
  refine g_astore_n E (lv' := [_, _, _, _]) dL_passed_12 rfl (Nat.le_of_ble_eq_true rfl) rfl ?_
  refine g_iconst E dL_passed_13 ?_
  exact hret _ _ dL_passed_14
set_option maxHeartbeats 4000000 in
set_option maxRecDepth 100000 in
theorem wL_distance0 {l : Launch} {D : va_G} {cI cZ cL : ClassId} {o q : Nat} {fL : Nat → Int64} {wX wX' : va_W} {fs : List Value} (he : wX[0]? = some (q, .inr (0, fs))) {x0 : Int} {rv : Int} (hM : gMI l yX0_distance wsX0_distance 6 D (gTy cI cZ) wX [.ref q, .int (iI x0)] rv wX') : gMW l yL_distance wsL_distance D (gTyL cI cZ cL) (gO cL o fL :: wX) [.ref q, .int (iI x0), .ref o] 0 (gO cL o (vp_updL fL 0 (iI rv).toInt64) :: wX') := by
  refine g_ofW (by decide +kernel) rfl rfl (Nat.le_of_ble_eq_true rfl) (g_cat1 rfl) ?_
  intro p e s m args below meth c Q A0 E hT htab hret
  have hts := E.1.2.2.2.2
  show gJ p l e (gRx 8) s m args below meth c 0 0 Q A0 D (gO cL o fL :: wX) [some (.ref q), some (.int (iI x0)), some (.ref o), none] 0 []
  refine g_aload_n E dL_distance_0 rfl rfl ?_
  refine g_iconst E dL_distance_1 ?_
  refine g_aload_n E dL_distance_2 rfl rfl ?_
  refine g_iload_n E dL_distance_3 rfl rfl ?_
  refine g_callIW E [0, 1] rfl (wr := [gO cL o fL]) hM (cwV 1 hts gL_distance_X0_distance rfl rfl rfl hdL_X0_distance ⟨(Nat.le_of_ble_eq_true rfl), (Nat.le_of_ble_eq_true rfl)⟩) rfl rfl rfl (Nat.le_of_ble_eq_true rfl) he rfl dL_distance_4 ⟨Nat.zero_le _, Nat.zero_le _⟩ ?_
  refine g_i2l E dL_distance_7 ?_
  refine g_last E 0 (ws' := gO cL o (vp_updL fL 0 (iI rv).toInt64) :: wX') rfl rfl dL_distance_8 ?_
  refine g_goto E dL_distance_9 (tgt := 18) (by decide) ?_
  refine g_iconst E dL_distance_18 ?_
  exact g_wid (Nat.zero_le _) (Nat.zero_le _) (hret _ _ dL_distance_19)
set_option maxHeartbeats 4000000 in
set_option maxRecDepth 100000 in
theorem wL_distance1 {l : Launch} {D : va_G} {cI cZ cL : ClassId} {o q : Nat} {fL : Nat → Int64} {wX : va_W} {fs : List Value} (he : wX[0]? = some (q, .inr (0, fs))) {x0 : Int} (hM : gMT l yX0_distance wsX0_distance 7 D (gTy cI cZ) wX [.ref q, .int (iI x0)] gIX) : gMW l yL_distance wsL_distance D (gTyL cI cZ cL) (gO cL o fL :: wX) [.ref q, .int (iI x0), .ref o] 1 (gO cL o fL :: wX) := by
  refine g_ofW (by decide +kernel) rfl rfl (Nat.le_of_ble_eq_true rfl) (g_cat1 rfl) ?_
  intro p e s m args below meth c Q A0 E hT htab hret
  have hts := E.1.2.2.2.2
  show gJ p l e (gRx 8) s m args below meth c 0 0 Q A0 D (gO cL o fL :: wX) [some (.ref q), some (.int (iI x0)), some (.ref o), none] 0 []
  refine g_aload_n E dL_distance_0 rfl rfl ?_
  refine g_iconst E dL_distance_1 ?_
  refine g_aload_n E dL_distance_2 rfl rfl ?_
  refine g_iload_n E dL_distance_3 rfl rfl ?_
  refine g_callCW E [0, 1] rfl (wr := [gO cL o fL]) hM hT htab [] ⟨0, 9, 12, 21⟩ [⟨0, 9, 15, 44⟩] rfl (fun z hz => nomatch hz) (by decide) (by decide) cl_distance_21 (by decide +kernel) (cwV 1 hts gL_distance_X0_distance rfl rfl rfl hdL_X0_distance ⟨(Nat.le_of_ble_eq_true rfl), (Nat.le_of_ble_eq_true rfl)⟩) rfl rfl rfl (Nat.le_of_ble_eq_true rfl) he rfl dL_distance_4 ⟨(Nat.le_of_ble_eq_true rfl), (Nat.le_of_ble_eq_true rfl)⟩ (fun a => ?_)
  refine g_astore_n E (lv' := [_, _, _, _]) dL_distance_12 rfl (Nat.le_of_ble_eq_true rfl) rfl ?_
  refine g_iconst E dL_distance_13 ?_
  exact hret _ _ dL_distance_14
set_option maxHeartbeats 4000000 in
set_option maxRecDepth 100000 in
theorem wL_distance2 {l : Launch} {D : va_G} {cI cZ cL : ClassId} {o q : Nat} {fL : Nat → Int64} {wX : va_W} {fs : List Value} (he : wX[0]? = some (q, .inr (0, fs))) {x0 : Int} (hM : gMT l yX0_distance wsX0_distance 7 D (gTy cI cZ) wX [.ref q, .int (iI x0)] gNS) : gMW l yL_distance wsL_distance D (gTyL cI cZ cL) (gO cL o fL :: wX) [.ref q, .int (iI x0), .ref o] 2 (gO cL o fL :: wX) := by
  refine g_ofW (by decide +kernel) rfl rfl (Nat.le_of_ble_eq_true rfl) (g_cat1 rfl) ?_
  intro p e s m args below meth c Q A0 E hT htab hret
  have hts := E.1.2.2.2.2
  show gJ p l e (gRx 8) s m args below meth c 0 0 Q A0 D (gO cL o fL :: wX) [some (.ref q), some (.int (iI x0)), some (.ref o), none] 0 []
  have hpass : ∀ z ∈ ([⟨0, 9, 12, 21⟩] : List ExceptionTableEntry), z.catchType ≠ 0 ∧ ∃ nm : String, Cond.classLink RL z.catchType nm ∈ wsL_distance ∧ (gNS, nm) ∈ gNcs := by
    intro z hz
    simp only [List.mem_cons, List.not_mem_nil, or_false] at hz
    subst hz
    exact ⟨by decide, gIX, cl_distance_21, by decide +kernel⟩
  refine g_aload_n E dL_distance_0 rfl rfl ?_
  refine g_iconst E dL_distance_1 ?_
  refine g_aload_n E dL_distance_2 rfl rfl ?_
  refine g_iload_n E dL_distance_3 rfl rfl ?_
  refine g_callCW E [0, 1] rfl (wr := [gO cL o fL]) hM hT htab [⟨0, 9, 12, 21⟩] ⟨0, 9, 15, 44⟩ [] rfl hpass (by decide) (by decide) cl_distance_44 (by decide +kernel) (cwV 1 hts gL_distance_X0_distance rfl rfl rfl hdL_X0_distance ⟨(Nat.le_of_ble_eq_true rfl), (Nat.le_of_ble_eq_true rfl)⟩) rfl rfl rfl (Nat.le_of_ble_eq_true rfl) he rfl dL_distance_4 ⟨(Nat.le_of_ble_eq_true rfl), (Nat.le_of_ble_eq_true rfl)⟩ (fun a => ?_)
  refine g_astore_n E (lv' := [_, _, _, _]) dL_distance_15 rfl (Nat.le_of_ble_eq_true rfl) rfl ?_
  refine g_iconst E dL_distance_16 ?_
  exact hret _ _ dL_distance_17
set_option maxHeartbeats 4000000 in
set_option maxRecDepth 100000 in
theorem wL_door0 {l : Launch} {D : va_G} {cI cZ cL : ClassId} {o q : Nat} {fL : Nat → Int64} {wX wX' : va_W} {fs : List Value} (he : wX[0]? = some (q, .inr (0, fs))) {x0 : Int} {rv : Int} (hM : gMI l yX0_door wsX0_door 6 D (gTy cI cZ) wX [.ref q, .int (iI x0)] rv wX') : gMW l yL_door wsL_door D (gTyL cI cZ cL) (gO cL o fL :: wX) [.ref q, .int (iI x0), .ref o] 0 (gO cL o (vp_updL fL 0 (iI rv).toInt64) :: wX') := by
  refine g_ofW (by decide +kernel) rfl rfl (Nat.le_of_ble_eq_true rfl) (g_cat1 rfl) ?_
  intro p e s m args below meth c Q A0 E hT htab hret
  have hts := E.1.2.2.2.2
  show gJ p l e (gRx 8) s m args below meth c 0 0 Q A0 D (gO cL o fL :: wX) [some (.ref q), some (.int (iI x0)), some (.ref o), none] 0 []
  refine g_aload_n E dL_door_0 rfl rfl ?_
  refine g_iconst E dL_door_1 ?_
  refine g_aload_n E dL_door_2 rfl rfl ?_
  refine g_iload_n E dL_door_3 rfl rfl ?_
  refine g_callIW E [0, 1] rfl (wr := [gO cL o fL]) hM (cwV 1 hts gL_door_X0_door rfl rfl rfl hdL_X0_door ⟨(Nat.le_of_ble_eq_true rfl), (Nat.le_of_ble_eq_true rfl)⟩) rfl rfl rfl (Nat.le_of_ble_eq_true rfl) he rfl dL_door_4 ⟨Nat.zero_le _, Nat.zero_le _⟩ ?_
  refine g_i2l E dL_door_7 ?_
  refine g_last E 0 (ws' := gO cL o (vp_updL fL 0 (iI rv).toInt64) :: wX') rfl rfl dL_door_8 ?_
  refine g_goto E dL_door_9 (tgt := 18) (by decide) ?_
  refine g_iconst E dL_door_18 ?_
  exact g_wid (Nat.zero_le _) (Nat.zero_le _) (hret _ _ dL_door_19)
set_option maxHeartbeats 4000000 in
set_option maxRecDepth 100000 in
theorem wL_door1 {l : Launch} {D : va_G} {cI cZ cL : ClassId} {o q : Nat} {fL : Nat → Int64} {wX : va_W} {fs : List Value} (he : wX[0]? = some (q, .inr (0, fs))) {x0 : Int} (hM : gMT l yX0_door wsX0_door 7 D (gTy cI cZ) wX [.ref q, .int (iI x0)] gIX) : gMW l yL_door wsL_door D (gTyL cI cZ cL) (gO cL o fL :: wX) [.ref q, .int (iI x0), .ref o] 1 (gO cL o fL :: wX) := by
  refine g_ofW (by decide +kernel) rfl rfl (Nat.le_of_ble_eq_true rfl) (g_cat1 rfl) ?_
  intro p e s m args below meth c Q A0 E hT htab hret
  have hts := E.1.2.2.2.2
  show gJ p l e (gRx 8) s m args below meth c 0 0 Q A0 D (gO cL o fL :: wX) [some (.ref q), some (.int (iI x0)), some (.ref o), none] 0 []
  refine g_aload_n E dL_door_0 rfl rfl ?_
  refine g_iconst E dL_door_1 ?_
  refine g_aload_n E dL_door_2 rfl rfl ?_
  refine g_iload_n E dL_door_3 rfl rfl ?_
  refine g_callCW E [0, 1] rfl (wr := [gO cL o fL]) hM hT htab [] ⟨0, 9, 12, 21⟩ [⟨0, 9, 15, 44⟩] rfl (fun z hz => nomatch hz) (by decide) (by decide) cl_door_21 (by decide +kernel) (cwV 1 hts gL_door_X0_door rfl rfl rfl hdL_X0_door ⟨(Nat.le_of_ble_eq_true rfl), (Nat.le_of_ble_eq_true rfl)⟩) rfl rfl rfl (Nat.le_of_ble_eq_true rfl) he rfl dL_door_4 ⟨(Nat.le_of_ble_eq_true rfl), (Nat.le_of_ble_eq_true rfl)⟩ (fun a => ?_)
  refine g_astore_n E (lv' := [_, _, _, _]) dL_door_12 rfl (Nat.le_of_ble_eq_true rfl) rfl ?_
  refine g_iconst E dL_door_13 ?_
  exact hret _ _ dL_door_14
set_option maxHeartbeats 4000000 in
set_option maxRecDepth 100000 in
theorem wL_door2 {l : Launch} {D : va_G} {cI cZ cL : ClassId} {o q : Nat} {fL : Nat → Int64} {wX : va_W} {fs : List Value} (he : wX[0]? = some (q, .inr (0, fs))) {x0 : Int} (hM : gMT l yX0_door wsX0_door 7 D (gTy cI cZ) wX [.ref q, .int (iI x0)] gNS) : gMW l yL_door wsL_door D (gTyL cI cZ cL) (gO cL o fL :: wX) [.ref q, .int (iI x0), .ref o] 2 (gO cL o fL :: wX) := by
  refine g_ofW (by decide +kernel) rfl rfl (Nat.le_of_ble_eq_true rfl) (g_cat1 rfl) ?_
  intro p e s m args below meth c Q A0 E hT htab hret
  have hts := E.1.2.2.2.2
  show gJ p l e (gRx 8) s m args below meth c 0 0 Q A0 D (gO cL o fL :: wX) [some (.ref q), some (.int (iI x0)), some (.ref o), none] 0 []
  have hpass : ∀ z ∈ ([⟨0, 9, 12, 21⟩] : List ExceptionTableEntry), z.catchType ≠ 0 ∧ ∃ nm : String, Cond.classLink RL z.catchType nm ∈ wsL_door ∧ (gNS, nm) ∈ gNcs := by
    intro z hz
    simp only [List.mem_cons, List.not_mem_nil, or_false] at hz
    subst hz
    exact ⟨by decide, gIX, cl_door_21, by decide +kernel⟩
  refine g_aload_n E dL_door_0 rfl rfl ?_
  refine g_iconst E dL_door_1 ?_
  refine g_aload_n E dL_door_2 rfl rfl ?_
  refine g_iload_n E dL_door_3 rfl rfl ?_
  refine g_callCW E [0, 1] rfl (wr := [gO cL o fL]) hM hT htab [⟨0, 9, 12, 21⟩] ⟨0, 9, 15, 44⟩ [] rfl hpass (by decide) (by decide) cl_door_44 (by decide +kernel) (cwV 1 hts gL_door_X0_door rfl rfl rfl hdL_X0_door ⟨(Nat.le_of_ble_eq_true rfl), (Nat.le_of_ble_eq_true rfl)⟩) rfl rfl rfl (Nat.le_of_ble_eq_true rfl) he rfl dL_door_4 ⟨(Nat.le_of_ble_eq_true rfl), (Nat.le_of_ble_eq_true rfl)⟩ (fun a => ?_)
  refine g_astore_n E (lv' := [_, _, _, _]) dL_door_15 rfl (Nat.le_of_ble_eq_true rfl) rfl ?_
  refine g_iconst E dL_door_16 ?_
  exact hret _ _ dL_door_17
set_option maxHeartbeats 4000000 in
set_option maxRecDepth 100000 in
theorem wL_wouldMove0 {l : Launch} {D : va_G} {cI cZ cL : ClassId} {o q : Nat} {fL : Nat → Int64} {wX wX' : va_W} {fs : List Value} (he : wX[0]? = some (q, .inr (0, fs))) {x0 : Int} {rv : Int} (hM : gMI l yX0_wouldMove wsX0_wouldMove 6 D (gTy cI cZ) wX [.ref q, .int (iI x0)] rv wX') : gMW l yL_wouldMove wsL_wouldMove D (gTyL cI cZ cL) (gO cL o fL :: wX) [.ref q, .int (iI x0), .ref o] 0 (gO cL o (vp_updL fL 0 (iI rv).toInt64) :: wX') := by
  refine g_ofW (by decide +kernel) rfl rfl (Nat.le_of_ble_eq_true rfl) (g_cat1 rfl) ?_
  intro p e s m args below meth c Q A0 E hT htab hret
  have hts := E.1.2.2.2.2
  show gJ p l e (gRx 8) s m args below meth c 0 0 Q A0 D (gO cL o fL :: wX) [some (.ref q), some (.int (iI x0)), some (.ref o), none] 0 []
  refine g_aload_n E dL_wouldMove_0 rfl rfl ?_
  refine g_iconst E dL_wouldMove_1 ?_
  refine g_aload_n E dL_wouldMove_2 rfl rfl ?_
  refine g_iload_n E dL_wouldMove_3 rfl rfl ?_
  refine g_callIW E [0, 1] rfl (wr := [gO cL o fL]) hM (cwV 1 hts gL_wouldMove_X0_wouldMove rfl rfl rfl hdL_X0_wouldMove ⟨(Nat.le_of_ble_eq_true rfl), (Nat.le_of_ble_eq_true rfl)⟩) rfl rfl rfl (Nat.le_of_ble_eq_true rfl) he rfl dL_wouldMove_4 ⟨Nat.zero_le _, Nat.zero_le _⟩ ?_
  refine g_i2l E dL_wouldMove_7 ?_
  refine g_last E 0 (ws' := gO cL o (vp_updL fL 0 (iI rv).toInt64) :: wX') rfl rfl dL_wouldMove_8 ?_
  refine g_goto E dL_wouldMove_9 (tgt := 15) (by decide) ?_
  refine g_iconst E dL_wouldMove_15 ?_
  exact g_wid (Nat.zero_le _) (Nat.zero_le _) (hret _ _ dL_wouldMove_16)
set_option maxHeartbeats 4000000 in
set_option maxRecDepth 100000 in
theorem wL_wouldMove1 {l : Launch} {D : va_G} {cI cZ cL : ClassId} {o q : Nat} {fL : Nat → Int64} {wX : va_W} {fs : List Value} (he : wX[0]? = some (q, .inr (0, fs))) {x0 : Int} (hM : gMT l yX0_wouldMove wsX0_wouldMove 7 D (gTy cI cZ) wX [.ref q, .int (iI x0)] gIX) : gMW l yL_wouldMove wsL_wouldMove D (gTyL cI cZ cL) (gO cL o fL :: wX) [.ref q, .int (iI x0), .ref o] 1 (gO cL o fL :: wX) := by
  refine g_ofW (by decide +kernel) rfl rfl (Nat.le_of_ble_eq_true rfl) (g_cat1 rfl) ?_
  intro p e s m args below meth c Q A0 E hT htab hret
  have hts := E.1.2.2.2.2
  show gJ p l e (gRx 8) s m args below meth c 0 0 Q A0 D (gO cL o fL :: wX) [some (.ref q), some (.int (iI x0)), some (.ref o), none] 0 []
  refine g_aload_n E dL_wouldMove_0 rfl rfl ?_
  refine g_iconst E dL_wouldMove_1 ?_
  refine g_aload_n E dL_wouldMove_2 rfl rfl ?_
  refine g_iload_n E dL_wouldMove_3 rfl rfl ?_
  refine g_callCW E [0, 1] rfl (wr := [gO cL o fL]) hM hT htab [] ⟨0, 9, 12, 21⟩ [] rfl (fun z hz => nomatch hz) (by decide) (by decide) cl_wouldMove_21 (by decide +kernel) (cwV 1 hts gL_wouldMove_X0_wouldMove rfl rfl rfl hdL_X0_wouldMove ⟨(Nat.le_of_ble_eq_true rfl), (Nat.le_of_ble_eq_true rfl)⟩) rfl rfl rfl (Nat.le_of_ble_eq_true rfl) he rfl dL_wouldMove_4 ⟨(Nat.le_of_ble_eq_true rfl), (Nat.le_of_ble_eq_true rfl)⟩ (fun a => ?_)
  refine g_astore_n E (lv' := [_, _, _, _]) dL_wouldMove_12 rfl (Nat.le_of_ble_eq_true rfl) rfl ?_
  refine g_iconst E dL_wouldMove_13 ?_
  exact hret _ _ dL_wouldMove_14
set_option maxHeartbeats 4000000 in
set_option maxRecDepth 100000 in
theorem wL_bound0 {l : Launch} {D : va_G} {cI cZ cL : ClassId} {o q : Nat} {fL : Nat → Int64} {wX wX' : va_W} {fs : List Value} (he : wX[0]? = some (q, .inr (0, fs))) {rv : Int} (hM : gMI l yX0_bound wsX0_bound 6 D (gTy cI cZ) wX [.ref q] rv wX') : gMW l yL_bound wsL_bound D (gTyL cI cZ cL) (gO cL o fL :: wX) [.ref q, .ref o] 0 (gO cL o (vp_updL fL 0 (iI rv).toInt64) :: wX') := by
  refine g_ofW (by decide +kernel) rfl rfl (Nat.le_of_ble_eq_true rfl) (g_cat1 rfl) ?_
  intro p e s m args below meth c Q A0 E hT htab hret
  have hts := E.1.2.2.2.2
  show gJ p l e (gRx 8) s m args below meth c 0 0 Q A0 D (gO cL o fL :: wX) [some (.ref q), some (.ref o), none] 0 []
  refine g_aload_n E dL_bound_0 rfl rfl ?_
  refine g_iconst E dL_bound_1 ?_
  refine g_aload_n E dL_bound_2 rfl rfl ?_
  refine g_callIW E [0, 1] rfl (wr := [gO cL o fL]) hM (cwV 0 hts gL_bound_X0_bound rfl rfl rfl hdL_X0_bound ⟨(Nat.le_of_ble_eq_true rfl), (Nat.le_of_ble_eq_true rfl)⟩) rfl rfl rfl (Nat.le_of_ble_eq_true rfl) he rfl dL_bound_3 ⟨Nat.zero_le _, Nat.zero_le _⟩ ?_
  refine g_i2l E dL_bound_6 ?_
  refine g_last E 0 (ws' := gO cL o (vp_updL fL 0 (iI rv).toInt64) :: wX') rfl rfl dL_bound_7 ?_
  refine g_goto E dL_bound_8 (tgt := 14) (by decide) ?_
  refine g_iconst E dL_bound_14 ?_
  exact g_wid (Nat.zero_le _) (Nat.zero_le _) (hret _ _ dL_bound_15)
set_option maxHeartbeats 4000000 in
set_option maxRecDepth 100000 in
theorem wL_bound1 {l : Launch} {D : va_G} {cI cZ cL : ClassId} {o q : Nat} {fL : Nat → Int64} {wX : va_W} {fs : List Value} (he : wX[0]? = some (q, .inr (0, fs))) (hM : gMT l yX0_bound wsX0_bound 7 D (gTy cI cZ) wX [.ref q] gIS) : gMW l yL_bound wsL_bound D (gTyL cI cZ cL) (gO cL o fL :: wX) [.ref q, .ref o] 1 (gO cL o fL :: wX) := by
  refine g_ofW (by decide +kernel) rfl rfl (Nat.le_of_ble_eq_true rfl) (g_cat1 rfl) ?_
  intro p e s m args below meth c Q A0 E hT htab hret
  have hts := E.1.2.2.2.2
  show gJ p l e (gRx 8) s m args below meth c 0 0 Q A0 D (gO cL o fL :: wX) [some (.ref q), some (.ref o), none] 0 []
  refine g_aload_n E dL_bound_0 rfl rfl ?_
  refine g_iconst E dL_bound_1 ?_
  refine g_aload_n E dL_bound_2 rfl rfl ?_
  refine g_callCW E [0, 1] rfl (wr := [gO cL o fL]) hM hT htab [] ⟨0, 8, 11, 15⟩ [] rfl (fun z hz => nomatch hz) (by decide) (by decide) cl_bound_15 (by decide +kernel) (cwV 0 hts gL_bound_X0_bound rfl rfl rfl hdL_X0_bound ⟨(Nat.le_of_ble_eq_true rfl), (Nat.le_of_ble_eq_true rfl)⟩) rfl rfl rfl (Nat.le_of_ble_eq_true rfl) he rfl dL_bound_3 ⟨(Nat.le_of_ble_eq_true rfl), (Nat.le_of_ble_eq_true rfl)⟩ (fun a => ?_)
  refine g_astore_n E (lv' := [_, _, _]) dL_bound_11 rfl (Nat.le_of_ble_eq_true rfl) rfl ?_
  refine g_iconst E dL_bound_12 ?_
  exact hret _ _ dL_bound_13
end
section
theorem zz_1 : True := trivial
end
