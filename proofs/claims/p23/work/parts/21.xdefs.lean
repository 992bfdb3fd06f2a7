/-! ===== the class Stairflow: its world ===== -/
def gfX : List (Bool × Nat) := [(true, 0), (false, 0), (false, 1), (false, 2), (false, 3), (false, 4), (true, 1), (false, 5), (false, 6), (false, 7), (false, 8), (false, 9), (false, 10), (false, 11), (false, 12), (false, 13), (true, 2), (true, 3), (true, 4)]
def gaX : List (Bool × Nat) := [(false, 11), (false, 11), (false, 11), (false, 11), (false, 11), (false, 16), (false, 16), (false, 16), (false, 16), (true, 16), (false, 16), (false, 16), (false, 16), (false, 16)]
abbrev gX (cI cZ : ClassId) (q : Nat) (r : Nat → Nat) (F : List Int) (A : List (Nat → Int)) : va_W := gW 0 gfX gaX cI cZ q r F A
theorem g_cat1 {l : List Value} (h : l.all (fun v => v.category == 1) = true) : ∀ v ∈ l, v.category = 1 := fun v hv => by
  have := List.all_eq_true.mp h v hv
  simpa using this
theorem g_narZ {x : Int} (h : x = 0 ∨ x = 1) : narrow .boolean (.int (iI x)) = .int (iI x) := by
  rcases h with rfl | rfl <;> rfl
