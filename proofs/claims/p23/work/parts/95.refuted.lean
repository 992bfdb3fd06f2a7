/-! ===== the printed start with another script: sixty zeros ===== -/
def zz : State := start1.aboutOf (Array.replicate 60 (.int 0))
set_option maxRecDepth 100000 in
theorem zz_ot1 : (Cond.code x code maxLocals ret :: tables_1_1).all (fun w => vx_ot w || w.before start1.args0 zz) = true := by decide +kernel
set_option maxRecDepth 100000 in
theorem zz_ot2 : tables_1_2.all (fun w => vx_ot w || w.before start1.args0 zz) = true := by decide +kernel
theorem zz_words : ∀ c ∈ (Cond.code x code maxLocals ret :: tables_1), c.before start1.args0 zz = true := by
  intro c hc
  have key : (vx_ot c || c.before start1.args0 zz) = true := by
    rcases List.mem_cons.mp hc with h | h
    · exact List.all_eq_true.mp zz_ot1 c (by rw [h]; exact List.mem_cons_self)
    · have h1 : c ∈ tables_1_1 ++ tables_1_2 := h
      rcases List.mem_append.mp h1 with h2 | h2
      · exact List.all_eq_true.mp zz_ot1 c (List.mem_cons_of_mem _ h2)
      · exact List.all_eq_true.mp zz_ot2 c h2
  rcases (Bool.or_eq_true _ _).mp key with h | h
  · exact vx_ot_at (s := start1.about) (U := zz) (args := start1.args0) (State.WarmedH.refl start1.about) rfl h (start1.words c hc)
  · exact h
theorem zz_ints : zz.IntsAt 0 (List.replicate 60 0) := by
  refine ⟨{ cls := 14, slots := Array.replicate 60 (.int 0), vm := .none }, rfl, ?_, ⟨?_, start1.cArr "[I" 13 .int, rfl, 13, rfl⟩, by decide⟩
  · rw [Array.toList_replicate, List.map_replicate]
  · intro k h
    cases h
set_option maxRecDepth 100000 in
theorem zz_start : AtStart classFile x code maxLocals ret World_1 tables_1 room_1 Calls_1 rest_1 Pre_1 launch0 start1.p0 start1.e0 zz ⟨0, 0⟩ #[.ref 0] Lib.HandBits.below0 :=
  ⟨lists_1, trivial, launch0.admits_env _ _ _, launch0.least_env, fairChoices_fair.cas, fairChoices_fair.clock, rfl, by decide +kernel, by decide +kernel,
    (Spec.applies_iff rfl).mpr ⟨rfl, rfl, rfl, by decide +kernel, by decide +kernel, by decide +kernel, launch0.hasRoom_least _ room_1 (by decide +kernel) (by decide +kernel) (by decide +kernel) (by decide +kernel) (by decide +kernel) (by decide +kernel), atoms_intro zz_words⟩,
    trivial, (show rest_1_c.before #[.ref 0] zz = true by decide +kernel), (show (Cond.and given_1 narrow_1).before #[.ref 0] zz = true by decide +kernel)⟩
theorem zz_room : zz.hasRoom start1.e0.platform RB = true := launch0.hasRoom_least _ RB (by decide +kernel) (by decide +kernel) (by decide +kernel) (by decide +kernel) (by decide +kernel) (by decide +kernel)
/-- the printed refutation of the first claim: on a script of sixty zeros the law makes more than the 140 cells that the claim allows -/
theorem r_vc1 : RefutedClaimed_1_1 := zRefute zz_start zz_ints zz_room
/-- .. and of the second -/
theorem r_vc2 : RefutedClaimed_1_2 := zRefute2 zz_start zz_ints zz_room
/-- so neither of the two owed claims is true -/
theorem n_vc : ¬ Claimed_1_1 ∧ ¬ Claimed_1_2 := ⟨zNot r_vc1, zNot r_vc2⟩
/-! the owed row can't be proved: n_vc says so. It stands here unfilled, so that a whole round comes to its end; it is no part of what is said, and nothing rests on it. -/
theorem i_vc : Claimed_1_1 ∧ Claimed_1_2 := sorry
