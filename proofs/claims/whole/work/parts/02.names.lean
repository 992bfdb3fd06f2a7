/-! ===== BEGIN printed: names, fields, word lists, decode rows ===== -/
def RX0 : String := "Stairflow"
def TX0 : u_T := fun k => match k with
  | 0 => ("Stairflow", "placeCount", "I", false)
  | 1 => ("Stairflow", "roomOf", "[I", true)
  | 2 => ("Stairflow", "peopleAt", "[I", true)
  | 3 => ("Stairflow", "releaseOf", "[I", true)
  | 4 => ("Stairflow", "distanceOf", "[I", true)
  | 5 => ("Stairflow", "doorOf", "[I", true)
  | 6 => ("Stairflow", "doorCount", "I", false)
  | 7 => ("Stairflow", "oneEnd", "[I", true)
  | 8 => ("Stairflow", "otherEnd", "[I", true)
  | 9 => ("Stairflow", "flowOf", "[I", true)
  | 10 => ("Stairflow", "shareOf", "[I", true)
  | 11 => ("Stairflow", "isOpen", "[Z", true)
  | 12 => ("Stairflow", "passedBy", "[I", true)
  | 13 => ("Stairflow", "sourceOf", "[I", true)
  | 14 => ("Stairflow", "targetOf", "[I", true)
  | 15 => ("Stairflow", "grantedTo", "[I", true)
  | 16 => ("Stairflow", "timeNow", "I", false)
  | 17 => ("Stairflow", "latestTime", "I", false)
  | _ => ("Stairflow", "waitedSum", "I", false)
def tyX0 : Nat → FieldType := fun k => match k with
  | 0 => .int
  | 1 => .array .int
  | 2 => .array .int
  | 3 => .array .int
  | 4 => .array .int
  | 5 => .array .int
  | 6 => .int
  | 7 => .array .int
  | 8 => .array .int
  | 9 => .array .int
  | 10 => .array .int
  | 11 => .array .boolean
  | 12 => .array .int
  | 13 => .array .int
  | 14 => .array .int
  | 15 => .array .int
  | 16 => .int
  | 17 => .int
  | _ => .int
abbrev wsX00 : List Cond := u_ws RX0 TX0 19
theorem nmX0 : ∀ a, a < 19 → ∀ b, b < 19 → a ≠ b → (TX0 a).2.1 ≠ (TX0 b).2.1 := by decide +kernel
theorem tyX0_ok : ∀ k, k < 19 → parseFieldDescriptor (TX0 k).2.2.1 = some (tyX0 k) := by decide +kernel
abbrev cX0_init : ByteArray := prog_1_method_1_code
def yX0_init : MethodName := ⟨RX0, "<init>", "()V"⟩
abbrev cX0_addPlace : ByteArray := prog_1_method_2_code
def yX0_addPlace : MethodName := ⟨RX0, "addPlace", "(I)I"⟩
abbrev cX0_addDoor : ByteArray := prog_1_method_3_code
def yX0_addDoor : MethodName := ⟨RX0, "addDoor", "(IIII)I"⟩
abbrev cX0_setDoor : ByteArray := prog_1_method_4_code
def yX0_setDoor : MethodName := ⟨RX0, "setDoor", "(IZ)Z"⟩
abbrev cX0_come : ByteArray := prog_1_method_5_code
def yX0_come : MethodName := ⟨RX0, "come", "(II)I"⟩
abbrev cX0_setRelease : ByteArray := prog_1_method_6_code
def yX0_setRelease : MethodName := ⟨RX0, "setRelease", "(II)I"⟩
abbrev cX0_places : ByteArray := prog_1_method_7_code
def yX0_places : MethodName := ⟨RX0, "places", "()I"⟩
abbrev cX0_doors : ByteArray := prog_1_method_8_code
def yX0_doors : MethodName := ⟨RX0, "doors", "()I"⟩
abbrev cX0_step : ByteArray := prog_1_method_9_code
def yX0_step : MethodName := ⟨RX0, "step", "(I)I"⟩
abbrev cX0_clear : ByteArray := prog_1_method_10_code
def yX0_clear : MethodName := ⟨RX0, "clear", "()I"⟩
abbrev cX0_now : ByteArray := prog_1_method_11_code
def yX0_now : MethodName := ⟨RX0, "now", "()I"⟩
abbrev cX0_people : ByteArray := prog_1_method_12_code
def yX0_people : MethodName := ⟨RX0, "people", "(I)I"⟩
abbrev cX0_inside : ByteArray := prog_1_method_13_code
def yX0_inside : MethodName := ⟨RX0, "inside", "()I"⟩
abbrev cX0_latest : ByteArray := prog_1_method_14_code
def yX0_latest : MethodName := ⟨RX0, "latest", "()I"⟩
abbrev cX0_passed : ByteArray := prog_1_method_15_code
def yX0_passed : MethodName := ⟨RX0, "passed", "(I)I"⟩
abbrev cX0_waited : ByteArray := prog_1_method_16_code
def yX0_waited : MethodName := ⟨RX0, "waited", "()I"⟩
abbrev cX0_distance : ByteArray := prog_1_method_17_code
def yX0_distance : MethodName := ⟨RX0, "distance", "(I)I"⟩
abbrev cX0_door : ByteArray := prog_1_method_18_code
def yX0_door : MethodName := ⟨RX0, "door", "(I)I"⟩
abbrev cX0_trapped : ByteArray := prog_1_method_19_code
def yX0_trapped : MethodName := ⟨RX0, "trapped", "()I"⟩
abbrev cX0_wouldMove : ByteArray := prog_1_method_20_code
def yX0_wouldMove : MethodName := ⟨RX0, "wouldMove", "(I)I"⟩
abbrev cX0_bound : ByteArray := prog_1_method_21_code
def yX0_bound : MethodName := ⟨RX0, "bound", "()I"⟩
abbrev cX0_boundAt : ByteArray := prog_1_method_22_code
def yX0_boundAt : MethodName := ⟨RX0, "boundAt", "(I)I"⟩
abbrev cX0_peopleFrom : ByteArray := prog_1_method_23_code
def yX0_peopleFrom : MethodName := ⟨RX0, "peopleFrom", "(I)I"⟩
abbrev cX0_flowInward : ByteArray := prog_1_method_24_code
def yX0_flowInward : MethodName := ⟨RX0, "flowInward", "(I)I"⟩
abbrev cX0_passOneStep : ByteArray := prog_1_method_25_code
def yX0_passOneStep : MethodName := ⟨RX0, "passOneStep", "()I"⟩
abbrev cX0_grantAll : ByteArray := prog_1_method_26_code
def yX0_grantAll : MethodName := ⟨RX0, "grantAll", "()V"⟩
abbrev cX0_grantAt : ByteArray := prog_1_method_27_code
def yX0_grantAt : MethodName := ⟨RX0, "grantAt", "(I)V"⟩
abbrev cX0_grantRound : ByteArray := prog_1_method_28_code
def yX0_grantRound : MethodName := ⟨RX0, "grantRound", "(II)I"⟩
abbrev cX0_wishBy : ByteArray := prog_1_method_29_code
def yX0_wishBy : MethodName := ⟨RX0, "wishBy", "(I)I"⟩
abbrev cX0_moveGranted : ByteArray := prog_1_method_30_code
def yX0_moveGranted : MethodName := ⟨RX0, "moveGranted", "()I"⟩
abbrev cX0_roomLeft : ByteArray := prog_1_method_31_code
def yX0_roomLeft : MethodName := ⟨RX0, "roomLeft", "(I)I"⟩
abbrev cX0_areAllReleased : ByteArray := prog_1_method_32_code
def yX0_areAllReleased : MethodName := ⟨RX0, "areAllReleased", "()Z"⟩
abbrev cX0_findWays : ByteArray := prog_1_method_33_code
def yX0_findWays : MethodName := ⟨RX0, "findWays", "()V"⟩
abbrev cX0_measureDistances : ByteArray := prog_1_method_34_code
def yX0_measureDistances : MethodName := ⟨RX0, "measureDistances", "()V"⟩
abbrev cX0_reach : ByteArray := prog_1_method_35_code
def yX0_reach : MethodName := ⟨RX0, "reach", "(III)V"⟩
abbrev cX0_offerDoor : ByteArray := prog_1_method_36_code
def yX0_offerDoor : MethodName := ⟨RX0, "offerDoor", "(III)V"⟩
abbrev cX0_isPlace : ByteArray := prog_1_method_37_code
def yX0_isPlace : MethodName := ⟨RX0, "isPlace", "(I)Z"⟩
abbrev cX0_isDoor : ByteArray := prog_1_method_38_code
def yX0_isDoor : MethodName := ⟨RX0, "isDoor", "(I)Z"⟩
abbrev cX0_isBetween : ByteArray := prog_1_method_39_code
def yX0_isBetween : MethodName := ⟨RX0, "isBetween", "(III)Z"⟩
abbrev cX0_requirePlace : ByteArray := prog_1_method_40_code
def yX0_requirePlace : MethodName := ⟨RX0, "requirePlace", "(I)V"⟩
abbrev cX0_requireDoor : ByteArray := prog_1_method_41_code
def yX0_requireDoor : MethodName := ⟨RX0, "requireDoor", "(I)V"⟩
abbrev cX0_requireArgument : ByteArray := prog_1_method_42_code
def yX0_requireArgument : MethodName := ⟨RX0, "requireArgument", "(Z)V"⟩
abbrev cX0_requireState : ByteArray := prog_1_method_43_code
def yX0_requireState : MethodName := ⟨RX0, "requireState", "(Z)V"⟩
abbrev cX0_requireElement : ByteArray := prog_1_method_44_code
def yX0_requireElement : MethodName := ⟨RX0, "requireElement", "(Z)V"⟩
def RX1 : String := "StairflowModel"
def TX1 : u_T := fun k => match k with
  | 0 => ("StairflowModel", "thrown", "I", false)
  | 1 => ("StairflowModel", "places", "I", false)
  | 2 => ("StairflowModel", "rooms", "[I", true)
  | 3 => ("StairflowModel", "people", "[I", true)
  | 4 => ("StairflowModel", "releases", "[I", true)
  | 5 => ("StairflowModel", "doors", "I", false)
  | 6 => ("StairflowModel", "ones", "[I", true)
  | 7 => ("StairflowModel", "others", "[I", true)
  | 8 => ("StairflowModel", "flows", "[I", true)
  | 9 => ("StairflowModel", "shares", "[I", true)
  | 10 => ("StairflowModel", "isOpen", "[Z", true)
  | 11 => ("StairflowModel", "passed", "[I", true)
  | 12 => ("StairflowModel", "time", "I", false)
  | 13 => ("StairflowModel", "lastOut", "I", false)
  | 14 => ("StairflowModel", "waited", "I", false)
  | 15 => ("StairflowModel", "far", "[I", true)
  | 16 => ("StairflowModel", "wishes", "[I", true)
  | 17 => ("StairflowModel", "grants", "[I", true)
  | _ => ("StairflowModel", "goals", "[I", true)
def tyX1 : Nat → FieldType := fun k => match k with
  | 0 => .int
  | 1 => .int
  | 2 => .array .int
  | 3 => .array .int
  | 4 => .array .int
  | 5 => .int
  | 6 => .array .int
  | 7 => .array .int
  | 8 => .array .int
  | 9 => .array .int
  | 10 => .array .boolean
  | 11 => .array .int
  | 12 => .int
  | 13 => .int
  | 14 => .int
  | 15 => .array .int
  | 16 => .array .int
  | 17 => .array .int
  | _ => .array .int
abbrev wsX10 : List Cond := u_ws RX1 TX1 19
theorem nmX1 : ∀ a, a < 19 → ∀ b, b < 19 → a ≠ b → (TX1 a).2.1 ≠ (TX1 b).2.1 := by decide +kernel
theorem tyX1_ok : ∀ k, k < 19 → parseFieldDescriptor (TX1 k).2.2.1 = some (tyX1 k) := by decide +kernel
abbrev cX1_init : ByteArray := prog_3_method_1_code
def yX1_init : MethodName := ⟨RX1, "<init>", "()V"⟩
abbrev cX1_thrown : ByteArray := prog_3_method_2_code
def yX1_thrown : MethodName := ⟨RX1, "thrown", "()I"⟩
abbrev cX1_goesWell : ByteArray := prog_3_method_3_code
def yX1_goesWell : MethodName := ⟨RX1, "goesWell", "(I)Z"⟩
abbrev cX1_in : ByteArray := prog_3_method_4_code
def yX1_in : MethodName := ⟨RX1, "in", "(III)Z"⟩
abbrev cX1_isPlace : ByteArray := prog_3_method_5_code
def yX1_isPlace : MethodName := ⟨RX1, "isPlace", "(I)Z"⟩
abbrev cX1_isDoor : ByteArray := prog_3_method_6_code
def yX1_isDoor : MethodName := ⟨RX1, "isDoor", "(I)Z"⟩
abbrev cX1_addPlace : ByteArray := prog_3_method_7_code
def yX1_addPlace : MethodName := ⟨RX1, "addPlace", "(I)I"⟩
abbrev cX1_addDoor : ByteArray := prog_3_method_8_code
def yX1_addDoor : MethodName := ⟨RX1, "addDoor", "(IIII)I"⟩
abbrev cX1_setDoor : ByteArray := prog_3_method_9_code
def yX1_setDoor : MethodName := ⟨RX1, "setDoor", "(IZ)Z"⟩
abbrev cX1_come : ByteArray := prog_3_method_10_code
def yX1_come : MethodName := ⟨RX1, "come", "(II)I"⟩
abbrev cX1_setRelease : ByteArray := prog_3_method_11_code
def yX1_setRelease : MethodName := ⟨RX1, "setRelease", "(II)I"⟩
abbrev cX1_places : ByteArray := prog_3_method_12_code
def yX1_places : MethodName := ⟨RX1, "places", "()I"⟩
abbrev cX1_doors : ByteArray := prog_3_method_13_code
def yX1_doors : MethodName := ⟨RX1, "doors", "()I"⟩
abbrev cX1_measure : ByteArray := prog_3_method_14_code
def yX1_measure : MethodName := ⟨RX1, "measure", "()V"⟩
abbrev cX1_reach : ByteArray := prog_3_method_15_code
def yX1_reach : MethodName := ⟨RX1, "reach", "(IIII)V"⟩
abbrev cX1_beyond : ByteArray := prog_3_method_16_code
def yX1_beyond : MethodName := ⟨RX1, "beyond", "(II)I"⟩
abbrev cX1_doorOf : ByteArray := prog_3_method_17_code
def yX1_doorOf : MethodName := ⟨RX1, "doorOf", "(I)I"⟩
abbrev cX1_wish : ByteArray := prog_3_method_18_code
def yX1_wish : MethodName := ⟨RX1, "wish", "()V"⟩
abbrev cX1_grant : ByteArray := prog_3_method_19_code
def yX1_grant : MethodName := ⟨RX1, "grant", "(I)V"⟩
abbrev cX1_decide : ByteArray := prog_3_method_20_code
def yX1_decide : MethodName := ⟨RX1, "decide", "()V"⟩
abbrev cX1_insideNow : ByteArray := prog_3_method_21_code
def yX1_insideNow : MethodName := ⟨RX1, "insideNow", "()I"⟩
abbrev cX1_go : ByteArray := prog_3_method_22_code
def yX1_go : MethodName := ⟨RX1, "go", "()I"⟩
abbrev cX1_step : ByteArray := prog_3_method_23_code
def yX1_step : MethodName := ⟨RX1, "step", "(I)I"⟩
abbrev cX1_clear : ByteArray := prog_3_method_24_code
def yX1_clear : MethodName := ⟨RX1, "clear", "()I"⟩
abbrev cX1_now : ByteArray := prog_3_method_25_code
def yX1_now : MethodName := ⟨RX1, "now", "()I"⟩
abbrev cX1_people : ByteArray := prog_3_method_26_code
def yX1_people : MethodName := ⟨RX1, "people", "(I)I"⟩
abbrev cX1_inside : ByteArray := prog_3_method_27_code
def yX1_inside : MethodName := ⟨RX1, "inside", "()I"⟩
abbrev cX1_latest : ByteArray := prog_3_method_28_code
def yX1_latest : MethodName := ⟨RX1, "latest", "()I"⟩
abbrev cX1_passed : ByteArray := prog_3_method_29_code
def yX1_passed : MethodName := ⟨RX1, "passed", "(I)I"⟩
abbrev cX1_waited : ByteArray := prog_3_method_30_code
def yX1_waited : MethodName := ⟨RX1, "waited", "()I"⟩
abbrev cX1_distance : ByteArray := prog_3_method_31_code
def yX1_distance : MethodName := ⟨RX1, "distance", "(I)I"⟩
abbrev cX1_door : ByteArray := prog_3_method_32_code
def yX1_door : MethodName := ⟨RX1, "door", "(I)I"⟩
abbrev cX1_trappedNow : ByteArray := prog_3_method_33_code
def yX1_trappedNow : MethodName := ⟨RX1, "trappedNow", "()I"⟩
abbrev cX1_trapped : ByteArray := prog_3_method_34_code
def yX1_trapped : MethodName := ⟨RX1, "trapped", "()I"⟩
abbrev cX1_wouldMove : ByteArray := prog_3_method_35_code
def yX1_wouldMove : MethodName := ⟨RX1, "wouldMove", "(I)I"⟩
abbrev cX1_bound : ByteArray := prog_3_method_36_code
def yX1_bound : MethodName := ⟨RX1, "bound", "()I"⟩
def RJx145de : String := "java/io/Serializable"
def TJx145de : u_T := fun k => match k with
  | _ => ("", "", "", false)
def tyJx145de : Nat → FieldType := fun k => match k with
  | _ => .int
abbrev wsJx145de0 : List Cond := u_ws RJx145de TJx145de 0
theorem nmJx145de : ∀ a, a < 0 → ∀ b, b < 0 → a ≠ b → (TJx145de a).2.1 ≠ (TJx145de b).2.1 := by decide +kernel
theorem tyJx145de_ok : ∀ k, k < 0 → parseFieldDescriptor (TJx145de k).2.2.1 = some (tyJx145de k) := by decide +kernel
def RJ9 : String := "java/lang/Math"
def TJ9 : u_T := fun k => match k with
  | _ => ("", "", "", false)
def tyJ9 : Nat → FieldType := fun k => match k with
  | _ => .int
abbrev wsJ90 : List Cond := u_ws RJ9 TJ9 0
theorem nmJ9 : ∀ a, a < 0 → ∀ b, b < 0 → a ≠ b → (TJ9 a).2.1 ≠ (TJ9 b).2.1 := by decide +kernel
theorem tyJ9_ok : ∀ k, k < 0 → parseFieldDescriptor (TJ9 k).2.2.1 = some (tyJ9 k) := by decide +kernel
abbrev cJ9_max_7cf53 : ByteArray := prog_9_method_65_code
def yJ9_max_7cf53 : MethodName := ⟨RJ9, "max", "(II)I"⟩
abbrev cJ9_min_7cf53 : ByteArray := prog_9_method_69_code
def yJ9_min_7cf53 : MethodName := ⟨RJ9, "min", "(II)I"⟩
def RJ0 : String := "java/lang/String"
def TJ0 : u_T := fun k => match k with
  | _ => ("", "", "", false)
def tyJ0 : Nat → FieldType := fun k => match k with
  | _ => .int
abbrev wsJ00 : List Cond := u_ws RJ0 TJ0 0
theorem nmJ0 : ∀ a, a < 0 → ∀ b, b < 0 → a ≠ b → (TJ0 a).2.1 ≠ (TJ0 b).2.1 := by decide +kernel
theorem tyJ0_ok : ∀ k, k < 0 → parseFieldDescriptor (TJ0 k).2.2.1 = some (tyJ0 k) := by decide +kernel
def RL : String := "StairflowLaw"
abbrev cL_addPlace : ByteArray := method_3_code
def yL_addPlace : MethodName := ⟨RL, "addPlace", "(LStairflow;I[J)I"⟩
abbrev cL_addDoor : ByteArray := method_4_code
def yL_addDoor : MethodName := ⟨RL, "addDoor", "(LStairflow;IIII[J)I"⟩
abbrev cL_setDoor : ByteArray := method_5_code
def yL_setDoor : MethodName := ⟨RL, "setDoor", "(LStairflow;IZ[J)I"⟩
abbrev cL_come : ByteArray := method_6_code
def yL_come : MethodName := ⟨RL, "come", "(LStairflow;II[J)I"⟩
abbrev cL_setRelease : ByteArray := method_7_code
def yL_setRelease : MethodName := ⟨RL, "setRelease", "(LStairflow;II[J)I"⟩
abbrev cL_step : ByteArray := method_8_code
def yL_step : MethodName := ⟨RL, "step", "(LStairflow;I[J)I"⟩
abbrev cL_people : ByteArray := method_9_code
def yL_people : MethodName := ⟨RL, "people", "(LStairflow;I[J)I"⟩
abbrev cL_latest : ByteArray := method_10_code
def yL_latest : MethodName := ⟨RL, "latest", "(LStairflow;[J)I"⟩
abbrev cL_passed : ByteArray := method_11_code
def yL_passed : MethodName := ⟨RL, "passed", "(LStairflow;I[J)I"⟩
abbrev cL_distance : ByteArray := method_12_code
def yL_distance : MethodName := ⟨RL, "distance", "(LStairflow;I[J)I"⟩
abbrev cL_door : ByteArray := method_13_code
def yL_door : MethodName := ⟨RL, "door", "(LStairflow;I[J)I"⟩
abbrev cL_wouldMove : ByteArray := method_14_code
def yL_wouldMove : MethodName := ⟨RL, "wouldMove", "(LStairflow;I[J)I"⟩
abbrev cL_bound : ByteArray := method_15_code
def yL_bound : MethodName := ⟨RL, "bound", "(LStairflow;[J)I"⟩
abbrev cL_law : ByteArray := code
def yL_law : MethodName := ⟨RL, "law", "([I)Z"⟩
def wsX0_init : List Cond := .code yX0_init cX0_init 1 none :: ([.methodLink RX0 1 objectInit, .instanceMethod objectInit, .code objectInit ⟨#[0xb1]⟩ 1 none, .arrayClass .int, .fieldLink RX0 9 "Stairflow" "roomOf" "[I", .fieldLink RX0 13 "Stairflow" "peopleAt" "[I", .fieldLink RX0 16 "Stairflow" "releaseOf" "[I", .fieldLink RX0 19 "Stairflow" "distanceOf" "[I", .fieldLink RX0 22 "Stairflow" "doorOf" "[I", .fieldLink RX0 25 "Stairflow" "oneEnd" "[I", .fieldLink RX0 28 "Stairflow" "otherEnd" "[I", .fieldLink RX0 31 "Stairflow" "flowOf" "[I", .fieldLink RX0 34 "Stairflow" "shareOf" "[I", .arrayClass .boolean, .fieldLink RX0 37 "Stairflow" "isOpen" "[Z", .fieldLink RX0 41 "Stairflow" "passedBy" "[I", .fieldLink RX0 44 "Stairflow" "sourceOf" "[I", .fieldLink RX0 47 "Stairflow" "targetOf" "[I", .fieldLink RX0 50 "Stairflow" "grantedTo" "[I", .fieldLink RX0 53 "Stairflow" "placeCount" "I", .fieldLink RX0 57 "Stairflow" "latestTime" "I"] ++ wsX00)
def wsX0_isBetween : List Cond := .code yX0_isBetween cX0_isBetween 3 (some .boolean) :: ([])
def wsX0_requireArgument : List Cond := .code yX0_requireArgument cX0_requireArgument 1 none :: ([.classLink RX0 171 "java/lang/IllegalArgumentException", .initialized "java/lang/IllegalArgumentException"] ++ (vx_atS RX0 175 "java/lang/IllegalArgumentException" ["java/lang/RuntimeException", "java/lang/Exception"]).filter goodWord)
def wsX0_requireState : List Cond := .code yX0_requireState cX0_requireState 1 none :: ([.classLink RX0 176 "java/lang/IllegalStateException", .initialized "java/lang/IllegalStateException"] ++ (vx_atS RX0 180 "java/lang/IllegalStateException" ["java/lang/RuntimeException", "java/lang/Exception"]).filter goodWord)
def wsX0_reach : List Cond := .code yX0_reach cX0_reach 4 none :: ([.fieldLink RX0 19 "Stairflow" "distanceOf" "[I"] ++ wsX00)
def wsX0_measureDistances : List Cond := .code yX0_measureDistances cX0_measureDistances 3 none :: ([.fieldLink RX0 19 "Stairflow" "distanceOf" "[I", .fieldLink RX0 53 "Stairflow" "placeCount" "I", .fieldLink RX0 78 "Stairflow" "doorCount" "I", .fieldLink RX0 37 "Stairflow" "isOpen" "[Z", .fieldLink RX0 25 "Stairflow" "oneEnd" "[I", .fieldLink RX0 28 "Stairflow" "otherEnd" "[I", .methodLink RX0 159 yX0_reach, .instanceMethod yX0_reach, .selects RX0 yX0_reach yX0_reach, .initialized RX0, .code yX0_reach cX0_reach 4 none] ++ wsX00)
def wsX0_offerDoor : List Cond := .code yX0_offerDoor cX0_offerDoor 5 none :: ([.fieldLink RX0 37 "Stairflow" "isOpen" "[Z", .fieldLink RX0 19 "Stairflow" "distanceOf" "[I", .fieldLink RX0 22 "Stairflow" "doorOf" "[I", .fieldLink RX0 44 "Stairflow" "sourceOf" "[I", .fieldLink RX0 47 "Stairflow" "targetOf" "[I"] ++ wsX00)
def wsX0_findWays : List Cond := .code yX0_findWays cX0_findWays 2 none :: ([.fieldLink RX0 53 "Stairflow" "placeCount" "I", .fieldLink RX0 22 "Stairflow" "doorOf" "[I", .fieldLink RX0 78 "Stairflow" "doorCount" "I", .fieldLink RX0 44 "Stairflow" "sourceOf" "[I", .fieldLink RX0 47 "Stairflow" "targetOf" "[I", .fieldLink RX0 25 "Stairflow" "oneEnd" "[I", .fieldLink RX0 28 "Stairflow" "otherEnd" "[I", .methodLink RX0 152 yX0_measureDistances, .instanceMethod yX0_measureDistances, .selects RX0 yX0_measureDistances yX0_measureDistances, .initialized RX0, .code yX0_measureDistances cX0_measureDistances 3 none, .fieldLink RX0 19 "Stairflow" "distanceOf" "[I", .fieldLink RX0 37 "Stairflow" "isOpen" "[Z", .methodLink RX0 159 yX0_reach, .instanceMethod yX0_reach, .selects RX0 yX0_reach yX0_reach, .code yX0_reach cX0_reach 4 none, .methodLink RX0 155 yX0_offerDoor, .instanceMethod yX0_offerDoor, .selects RX0 yX0_offerDoor yX0_offerDoor, .code yX0_offerDoor cX0_offerDoor 5 none] ++ wsX00)
def wsX0_addPlace_r1 : List Cond := [Cond.fieldLink RX0 53 "Stairflow" "placeCount" "I", Cond.fieldLink RX0 9 "Stairflow" "roomOf" "[I", Cond.methodLink RX0 60 yX0_isBetween, Cond.static yX0_isBetween, Cond.initialized RX0, Cond.code yX0_isBetween cX0_isBetween 3 (some .boolean), Cond.methodLink RX0 64 yX0_requireArgument, Cond.static yX0_requireArgument, Cond.code yX0_requireArgument cX0_requireArgument 1 none, Cond.classLink RX0 171 "java/lang/IllegalArgumentException", Cond.initialized "java/lang/IllegalArgumentException", Cond.methodLink RX0 68 yX0_requireState, Cond.static yX0_requireState, Cond.code yX0_requireState cX0_requireState 1 none, Cond.classLink RX0 176 "java/lang/IllegalStateException", Cond.initialized "java/lang/IllegalStateException", Cond.methodLink RX0 71 yX0_findWays, Cond.instanceMethod yX0_findWays, Cond.selects RX0 yX0_findWays yX0_findWays, Cond.code yX0_findWays cX0_findWays 2 none, Cond.fieldLink RX0 22 "Stairflow" "doorOf" "[I", Cond.fieldLink RX0 78 "Stairflow" "doorCount" "I", Cond.fieldLink RX0 44 "Stairflow" "sourceOf" "[I", Cond.fieldLink RX0 47 "Stairflow" "targetOf" "[I"]
def wsX0_addPlace_r2 : List Cond := [Cond.fieldLink RX0 25 "Stairflow" "oneEnd" "[I", Cond.fieldLink RX0 28 "Stairflow" "otherEnd" "[I", Cond.methodLink RX0 152 yX0_measureDistances, Cond.instanceMethod yX0_measureDistances, Cond.selects RX0 yX0_measureDistances yX0_measureDistances, Cond.code yX0_measureDistances cX0_measureDistances 3 none, Cond.fieldLink RX0 19 "Stairflow" "distanceOf" "[I", Cond.fieldLink RX0 37 "Stairflow" "isOpen" "[Z", Cond.methodLink RX0 159 yX0_reach, Cond.instanceMethod yX0_reach, Cond.selects RX0 yX0_reach yX0_reach, Cond.code yX0_reach cX0_reach 4 none, Cond.methodLink RX0 155 yX0_offerDoor, Cond.instanceMethod yX0_offerDoor, Cond.selects RX0 yX0_offerDoor yX0_offerDoor, Cond.code yX0_offerDoor cX0_offerDoor 5 none]
def wsX0_addPlace : List Cond := .code yX0_addPlace cX0_addPlace 3 (some .int) :: ((wsX0_addPlace_r1 ++ wsX0_addPlace_r2) ++ wsX00 ++ (vx_atS RX0 175 "java/lang/IllegalArgumentException" ["java/lang/RuntimeException", "java/lang/Exception"]).filter goodWord ++ (vx_atS RX0 180 "java/lang/IllegalStateException" ["java/lang/RuntimeException", "java/lang/Exception"]).filter goodWord)
def wsX0_isPlace : List Cond := .code yX0_isPlace cX0_isPlace 2 (some .boolean) :: ([.fieldLink RX0 53 "Stairflow" "placeCount" "I"] ++ wsX00)
def wsX0_requirePlace : List Cond := .code yX0_requirePlace cX0_requirePlace 2 none :: ([.classLink RX0 162 "java/lang/IndexOutOfBoundsException", .initialized "java/lang/IndexOutOfBoundsException", .methodLink RX0 148 yX0_isPlace, .instanceMethod yX0_isPlace, .selects RX0 yX0_isPlace yX0_isPlace, .initialized RX0, .code yX0_isPlace cX0_isPlace 2 (some .boolean), .fieldLink RX0 53 "Stairflow" "placeCount" "I"] ++ wsX00 ++ (vx_atS RX0 166 "java/lang/IndexOutOfBoundsException" ["java/lang/RuntimeException", "java/lang/Exception"]).filter goodWord)
def wsX0_addDoor_r1 : List Cond := [Cond.fieldLink RX0 78 "Stairflow" "doorCount" "I", Cond.fieldLink RX0 25 "Stairflow" "oneEnd" "[I", Cond.fieldLink RX0 28 "Stairflow" "otherEnd" "[I", Cond.fieldLink RX0 31 "Stairflow" "flowOf" "[I", Cond.fieldLink RX0 34 "Stairflow" "shareOf" "[I", Cond.fieldLink RX0 37 "Stairflow" "isOpen" "[Z", Cond.methodLink RX0 74 yX0_requirePlace, Cond.instanceMethod yX0_requirePlace, Cond.selects RX0 yX0_requirePlace yX0_requirePlace, Cond.initialized RX0, Cond.code yX0_requirePlace cX0_requirePlace 2 none, Cond.classLink RX0 162 "java/lang/IndexOutOfBoundsException", Cond.initialized "java/lang/IndexOutOfBoundsException", Cond.methodLink RX0 148 yX0_isPlace, Cond.instanceMethod yX0_isPlace, Cond.selects RX0 yX0_isPlace yX0_isPlace, Cond.code yX0_isPlace cX0_isPlace 2 (some .boolean), Cond.fieldLink RX0 53 "Stairflow" "placeCount" "I", Cond.methodLink RX0 60 yX0_isBetween, Cond.static yX0_isBetween, Cond.code yX0_isBetween cX0_isBetween 3 (some .boolean), Cond.methodLink RX0 64 yX0_requireArgument, Cond.static yX0_requireArgument, Cond.code yX0_requireArgument cX0_requireArgument 1 none]
def wsX0_addDoor_r2 : List Cond := [Cond.classLink RX0 171 "java/lang/IllegalArgumentException", Cond.initialized "java/lang/IllegalArgumentException", Cond.methodLink RX0 68 yX0_requireState, Cond.static yX0_requireState, Cond.code yX0_requireState cX0_requireState 1 none, Cond.classLink RX0 176 "java/lang/IllegalStateException", Cond.initialized "java/lang/IllegalStateException", Cond.methodLink RX0 71 yX0_findWays, Cond.instanceMethod yX0_findWays, Cond.selects RX0 yX0_findWays yX0_findWays, Cond.code yX0_findWays cX0_findWays 2 none, Cond.fieldLink RX0 22 "Stairflow" "doorOf" "[I", Cond.fieldLink RX0 44 "Stairflow" "sourceOf" "[I", Cond.fieldLink RX0 47 "Stairflow" "targetOf" "[I", Cond.methodLink RX0 152 yX0_measureDistances, Cond.instanceMethod yX0_measureDistances, Cond.selects RX0 yX0_measureDistances yX0_measureDistances, Cond.code yX0_measureDistances cX0_measureDistances 3 none, Cond.fieldLink RX0 19 "Stairflow" "distanceOf" "[I", Cond.methodLink RX0 159 yX0_reach, Cond.instanceMethod yX0_reach, Cond.selects RX0 yX0_reach yX0_reach, Cond.code yX0_reach cX0_reach 4 none, Cond.methodLink RX0 155 yX0_offerDoor]
def wsX0_addDoor_r3 : List Cond := [Cond.instanceMethod yX0_offerDoor, Cond.selects RX0 yX0_offerDoor yX0_offerDoor, Cond.code yX0_offerDoor cX0_offerDoor 5 none]
def wsX0_addDoor : List Cond := .code yX0_addDoor cX0_addDoor 6 (some .int) :: ((wsX0_addDoor_r1 ++ (wsX0_addDoor_r2 ++ wsX0_addDoor_r3)) ++ wsX00 ++ (vx_atS RX0 166 "java/lang/IndexOutOfBoundsException" ["java/lang/RuntimeException", "java/lang/Exception"]).filter goodWord ++ (vx_atS RX0 175 "java/lang/IllegalArgumentException" ["java/lang/RuntimeException", "java/lang/Exception"]).filter goodWord ++ (vx_atS RX0 180 "java/lang/IllegalStateException" ["java/lang/RuntimeException", "java/lang/Exception"]).filter goodWord)
def wsX0_isDoor : List Cond := .code yX0_isDoor cX0_isDoor 2 (some .boolean) :: ([.fieldLink RX0 78 "Stairflow" "doorCount" "I"] ++ wsX00)
def wsX0_requireDoor : List Cond := .code yX0_requireDoor cX0_requireDoor 2 none :: ([.classLink RX0 162 "java/lang/IndexOutOfBoundsException", .initialized "java/lang/IndexOutOfBoundsException", .methodLink RX0 108 yX0_isDoor, .instanceMethod yX0_isDoor, .selects RX0 yX0_isDoor yX0_isDoor, .initialized RX0, .code yX0_isDoor cX0_isDoor 2 (some .boolean), .fieldLink RX0 78 "Stairflow" "doorCount" "I"] ++ wsX00 ++ (vx_atS RX0 166 "java/lang/IndexOutOfBoundsException" ["java/lang/RuntimeException", "java/lang/Exception"]).filter goodWord)
def wsX0_setDoor_r1 : List Cond := [Cond.fieldLink RX0 37 "Stairflow" "isOpen" "[Z", Cond.methodLink RX0 81 yX0_requireDoor, Cond.instanceMethod yX0_requireDoor, Cond.selects RX0 yX0_requireDoor yX0_requireDoor, Cond.initialized RX0, Cond.code yX0_requireDoor cX0_requireDoor 2 none, Cond.classLink RX0 162 "java/lang/IndexOutOfBoundsException", Cond.initialized "java/lang/IndexOutOfBoundsException", Cond.methodLink RX0 108 yX0_isDoor, Cond.instanceMethod yX0_isDoor, Cond.selects RX0 yX0_isDoor yX0_isDoor, Cond.code yX0_isDoor cX0_isDoor 2 (some .boolean), Cond.fieldLink RX0 78 "Stairflow" "doorCount" "I", Cond.methodLink RX0 71 yX0_findWays, Cond.instanceMethod yX0_findWays, Cond.selects RX0 yX0_findWays yX0_findWays, Cond.code yX0_findWays cX0_findWays 2 none, Cond.fieldLink RX0 53 "Stairflow" "placeCount" "I", Cond.fieldLink RX0 22 "Stairflow" "doorOf" "[I", Cond.fieldLink RX0 44 "Stairflow" "sourceOf" "[I", Cond.fieldLink RX0 47 "Stairflow" "targetOf" "[I", Cond.fieldLink RX0 25 "Stairflow" "oneEnd" "[I", Cond.fieldLink RX0 28 "Stairflow" "otherEnd" "[I", Cond.methodLink RX0 152 yX0_measureDistances]
def wsX0_setDoor_r2 : List Cond := [Cond.instanceMethod yX0_measureDistances, Cond.selects RX0 yX0_measureDistances yX0_measureDistances, Cond.code yX0_measureDistances cX0_measureDistances 3 none, Cond.fieldLink RX0 19 "Stairflow" "distanceOf" "[I", Cond.methodLink RX0 159 yX0_reach, Cond.instanceMethod yX0_reach, Cond.selects RX0 yX0_reach yX0_reach, Cond.code yX0_reach cX0_reach 4 none, Cond.methodLink RX0 155 yX0_offerDoor, Cond.instanceMethod yX0_offerDoor, Cond.selects RX0 yX0_offerDoor yX0_offerDoor, Cond.code yX0_offerDoor cX0_offerDoor 5 none]
def wsX0_setDoor : List Cond := .code yX0_setDoor cX0_setDoor 4 (some .boolean) :: ((wsX0_setDoor_r1 ++ wsX0_setDoor_r2) ++ wsX00 ++ (vx_atS RX0 166 "java/lang/IndexOutOfBoundsException" ["java/lang/RuntimeException", "java/lang/Exception"]).filter goodWord)
def wsX0_roomLeft : List Cond := .code yX0_roomLeft cX0_roomLeft 2 (some .int) :: ([.constant RX0 151 (1000000), .fieldLink RX0 9 "Stairflow" "roomOf" "[I", .fieldLink RX0 13 "Stairflow" "peopleAt" "[I"] ++ wsX00)
def wsX0_come_r1 : List Cond := [Cond.fieldLink RX0 13 "Stairflow" "peopleAt" "[I", Cond.methodLink RX0 74 yX0_requirePlace, Cond.instanceMethod yX0_requirePlace, Cond.selects RX0 yX0_requirePlace yX0_requirePlace, Cond.initialized RX0, Cond.code yX0_requirePlace cX0_requirePlace 2 none, Cond.classLink RX0 162 "java/lang/IndexOutOfBoundsException", Cond.initialized "java/lang/IndexOutOfBoundsException", Cond.methodLink RX0 148 yX0_isPlace, Cond.instanceMethod yX0_isPlace, Cond.selects RX0 yX0_isPlace yX0_isPlace, Cond.code yX0_isPlace cX0_isPlace 2 (some .boolean), Cond.fieldLink RX0 53 "Stairflow" "placeCount" "I", Cond.methodLink RX0 60 yX0_isBetween, Cond.static yX0_isBetween, Cond.code yX0_isBetween cX0_isBetween 3 (some .boolean), Cond.methodLink RX0 64 yX0_requireArgument, Cond.static yX0_requireArgument, Cond.code yX0_requireArgument cX0_requireArgument 1 none, Cond.classLink RX0 171 "java/lang/IllegalArgumentException", Cond.initialized "java/lang/IllegalArgumentException", Cond.methodLink RX0 84 yX0_roomLeft, Cond.instanceMethod yX0_roomLeft, Cond.selects RX0 yX0_roomLeft yX0_roomLeft]
def wsX0_come_r2 : List Cond := [Cond.code yX0_roomLeft cX0_roomLeft 2 (some .int), Cond.constant RX0 151 (1000000), Cond.fieldLink RX0 9 "Stairflow" "roomOf" "[I", Cond.methodLink RX0 68 yX0_requireState, Cond.static yX0_requireState, Cond.code yX0_requireState cX0_requireState 1 none, Cond.classLink RX0 176 "java/lang/IllegalStateException", Cond.initialized "java/lang/IllegalStateException"]
def wsX0_come : List Cond := .code yX0_come cX0_come 3 (some .int) :: ((wsX0_come_r1 ++ wsX0_come_r2) ++ wsX00 ++ (vx_atS RX0 166 "java/lang/IndexOutOfBoundsException" ["java/lang/RuntimeException", "java/lang/Exception"]).filter goodWord ++ (vx_atS RX0 175 "java/lang/IllegalArgumentException" ["java/lang/RuntimeException", "java/lang/Exception"]).filter goodWord ++ (vx_atS RX0 180 "java/lang/IllegalStateException" ["java/lang/RuntimeException", "java/lang/Exception"]).filter goodWord)
def wsX0_setRelease : List Cond := .code yX0_setRelease cX0_setRelease 4 (some .int) :: ([.fieldLink RX0 16 "Stairflow" "releaseOf" "[I", .methodLink RX0 74 yX0_requirePlace, .instanceMethod yX0_requirePlace, .selects RX0 yX0_requirePlace yX0_requirePlace, .initialized RX0, .code yX0_requirePlace cX0_requirePlace 2 none, .classLink RX0 162 "java/lang/IndexOutOfBoundsException", .initialized "java/lang/IndexOutOfBoundsException", .methodLink RX0 148 yX0_isPlace, .instanceMethod yX0_isPlace, .selects RX0 yX0_isPlace yX0_isPlace, .code yX0_isPlace cX0_isPlace 2 (some .boolean), .fieldLink RX0 53 "Stairflow" "placeCount" "I", .methodLink RX0 60 yX0_isBetween, .static yX0_isBetween, .code yX0_isBetween cX0_isBetween 3 (some .boolean), .methodLink RX0 64 yX0_requireArgument, .static yX0_requireArgument, .code yX0_requireArgument cX0_requireArgument 1 none, .classLink RX0 171 "java/lang/IllegalArgumentException", .initialized "java/lang/IllegalArgumentException"] ++ wsX00 ++ (vx_atS RX0 166 "java/lang/IndexOutOfBoundsException" ["java/lang/RuntimeException", "java/lang/Exception"]).filter goodWord ++ (vx_atS RX0 175 "java/lang/IllegalArgumentException" ["java/lang/RuntimeException", "java/lang/Exception"]).filter goodWord)
def wsX0_places : List Cond := .code yX0_places cX0_places 1 (some .int) :: ([.fieldLink RX0 53 "Stairflow" "placeCount" "I"] ++ wsX00)
def wsX0_doors : List Cond := .code yX0_doors cX0_doors 1 (some .int) :: ([.fieldLink RX0 78 "Stairflow" "doorCount" "I"] ++ wsX00)
def wsX0_wishBy : List Cond := .code yX0_wishBy cX0_wishBy 3 (some .int) :: ([.fieldLink RX0 44 "Stairflow" "sourceOf" "[I", .fieldLink RX0 16 "Stairflow" "releaseOf" "[I", .fieldLink RX0 99 "Stairflow" "timeNow" "I", .fieldLink RX0 13 "Stairflow" "peopleAt" "[I", .fieldLink RX0 31 "Stairflow" "flowOf" "[I", .methodLink RX0 145 Lib.Math.min.name, .static Lib.Math.min.name, .initialized "java/lang/Math", .code Lib.Math.min.name Lib.Math.min.code 2 (some .int), .methodLink RX0 148 yX0_isPlace, .instanceMethod yX0_isPlace, .selects RX0 yX0_isPlace yX0_isPlace, .initialized RX0, .code yX0_isPlace cX0_isPlace 2 (some .boolean), .fieldLink RX0 53 "Stairflow" "placeCount" "I"] ++ wsX00)
def wsX0_grantRound : List Cond := .code yX0_grantRound cX0_grantRound 7 (some .int) :: ([.fieldLink RX0 78 "Stairflow" "doorCount" "I", .fieldLink RX0 47 "Stairflow" "targetOf" "[I", .fieldLink RX0 50 "Stairflow" "grantedTo" "[I", .fieldLink RX0 34 "Stairflow" "shareOf" "[I", .methodLink RX0 145 Lib.Math.min.name, .static Lib.Math.min.name, .initialized "java/lang/Math", .code Lib.Math.min.name Lib.Math.min.code 2 (some .int), .methodLink RX0 142 yX0_wishBy, .instanceMethod yX0_wishBy, .selects RX0 yX0_wishBy yX0_wishBy, .initialized RX0, .code yX0_wishBy cX0_wishBy 3 (some .int), .fieldLink RX0 44 "Stairflow" "sourceOf" "[I", .fieldLink RX0 16 "Stairflow" "releaseOf" "[I", .fieldLink RX0 99 "Stairflow" "timeNow" "I", .fieldLink RX0 13 "Stairflow" "peopleAt" "[I", .fieldLink RX0 31 "Stairflow" "flowOf" "[I", .methodLink RX0 148 yX0_isPlace, .instanceMethod yX0_isPlace, .selects RX0 yX0_isPlace yX0_isPlace, .code yX0_isPlace cX0_isPlace 2 (some .boolean), .fieldLink RX0 53 "Stairflow" "placeCount" "I"] ++ wsX00)
def wsX0_grantAt_r1 : List Cond := [Cond.methodLink RX0 84 yX0_roomLeft, Cond.instanceMethod yX0_roomLeft, Cond.selects RX0 yX0_roomLeft yX0_roomLeft, Cond.initialized RX0, Cond.code yX0_roomLeft cX0_roomLeft 2 (some .int), Cond.constant RX0 151 (1000000), Cond.fieldLink RX0 9 "Stairflow" "roomOf" "[I", Cond.fieldLink RX0 13 "Stairflow" "peopleAt" "[I", Cond.methodLink RX0 139 yX0_grantRound, Cond.instanceMethod yX0_grantRound, Cond.selects RX0 yX0_grantRound yX0_grantRound, Cond.code yX0_grantRound cX0_grantRound 7 (some .int), Cond.fieldLink RX0 78 "Stairflow" "doorCount" "I", Cond.fieldLink RX0 47 "Stairflow" "targetOf" "[I", Cond.fieldLink RX0 50 "Stairflow" "grantedTo" "[I", Cond.fieldLink RX0 34 "Stairflow" "shareOf" "[I", Cond.methodLink RX0 145 Lib.Math.min.name, Cond.static Lib.Math.min.name, Cond.initialized "java/lang/Math", Cond.code Lib.Math.min.name Lib.Math.min.code 2 (some .int), Cond.methodLink RX0 142 yX0_wishBy, Cond.instanceMethod yX0_wishBy, Cond.selects RX0 yX0_wishBy yX0_wishBy, Cond.code yX0_wishBy cX0_wishBy 3 (some .int)]
def wsX0_grantAt_r2 : List Cond := [Cond.fieldLink RX0 44 "Stairflow" "sourceOf" "[I", Cond.fieldLink RX0 16 "Stairflow" "releaseOf" "[I", Cond.fieldLink RX0 99 "Stairflow" "timeNow" "I", Cond.fieldLink RX0 31 "Stairflow" "flowOf" "[I", Cond.methodLink RX0 148 yX0_isPlace, Cond.instanceMethod yX0_isPlace, Cond.selects RX0 yX0_isPlace yX0_isPlace, Cond.code yX0_isPlace cX0_isPlace 2 (some .boolean), Cond.fieldLink RX0 53 "Stairflow" "placeCount" "I"]
def wsX0_grantAt : List Cond := .code yX0_grantAt cX0_grantAt 5 none :: ((wsX0_grantAt_r1 ++ wsX0_grantAt_r2) ++ wsX00)
def wsX0_grantAll_r1 : List Cond := [Cond.fieldLink RX0 78 "Stairflow" "doorCount" "I", Cond.fieldLink RX0 50 "Stairflow" "grantedTo" "[I", Cond.fieldLink RX0 53 "Stairflow" "placeCount" "I", Cond.methodLink RX0 136 yX0_grantAt, Cond.instanceMethod yX0_grantAt, Cond.selects RX0 yX0_grantAt yX0_grantAt, Cond.initialized RX0, Cond.code yX0_grantAt cX0_grantAt 5 none, Cond.methodLink RX0 84 yX0_roomLeft, Cond.instanceMethod yX0_roomLeft, Cond.selects RX0 yX0_roomLeft yX0_roomLeft, Cond.code yX0_roomLeft cX0_roomLeft 2 (some .int), Cond.constant RX0 151 (1000000), Cond.fieldLink RX0 9 "Stairflow" "roomOf" "[I", Cond.fieldLink RX0 13 "Stairflow" "peopleAt" "[I", Cond.methodLink RX0 139 yX0_grantRound, Cond.instanceMethod yX0_grantRound, Cond.selects RX0 yX0_grantRound yX0_grantRound, Cond.code yX0_grantRound cX0_grantRound 7 (some .int), Cond.fieldLink RX0 47 "Stairflow" "targetOf" "[I", Cond.fieldLink RX0 34 "Stairflow" "shareOf" "[I", Cond.methodLink RX0 145 Lib.Math.min.name, Cond.static Lib.Math.min.name, Cond.initialized "java/lang/Math"]
def wsX0_grantAll_r2 : List Cond := [Cond.code Lib.Math.min.name Lib.Math.min.code 2 (some .int), Cond.methodLink RX0 142 yX0_wishBy, Cond.instanceMethod yX0_wishBy, Cond.selects RX0 yX0_wishBy yX0_wishBy, Cond.code yX0_wishBy cX0_wishBy 3 (some .int), Cond.fieldLink RX0 44 "Stairflow" "sourceOf" "[I", Cond.fieldLink RX0 16 "Stairflow" "releaseOf" "[I", Cond.fieldLink RX0 99 "Stairflow" "timeNow" "I", Cond.fieldLink RX0 31 "Stairflow" "flowOf" "[I", Cond.methodLink RX0 148 yX0_isPlace, Cond.instanceMethod yX0_isPlace, Cond.selects RX0 yX0_isPlace yX0_isPlace, Cond.code yX0_isPlace cX0_isPlace 2 (some .boolean)]
def wsX0_grantAll : List Cond := .code yX0_grantAll cX0_grantAll 2 none :: ((wsX0_grantAll_r1 ++ wsX0_grantAll_r2) ++ wsX00)
def wsX0_moveGranted : List Cond := .code yX0_moveGranted cX0_moveGranted 5 (some .int) :: ([.fieldLink RX0 78 "Stairflow" "doorCount" "I", .fieldLink RX0 44 "Stairflow" "sourceOf" "[I", .fieldLink RX0 47 "Stairflow" "targetOf" "[I", .fieldLink RX0 13 "Stairflow" "peopleAt" "[I", .fieldLink RX0 50 "Stairflow" "grantedTo" "[I", .fieldLink RX0 41 "Stairflow" "passedBy" "[I", .methodLink RX0 148 yX0_isPlace, .instanceMethod yX0_isPlace, .selects RX0 yX0_isPlace yX0_isPlace, .initialized RX0, .code yX0_isPlace cX0_isPlace 2 (some .boolean), .fieldLink RX0 53 "Stairflow" "placeCount" "I"] ++ wsX00)
def wsX0_inside : List Cond := .code yX0_inside cX0_inside 3 (some .int) :: ([.fieldLink RX0 53 "Stairflow" "placeCount" "I", .fieldLink RX0 13 "Stairflow" "peopleAt" "[I"] ++ wsX00)
def wsX0_passOneStep_r1 : List Cond := [Cond.fieldLink RX0 13 "Stairflow" "peopleAt" "[I", Cond.fieldLink RX0 99 "Stairflow" "timeNow" "I", Cond.fieldLink RX0 57 "Stairflow" "latestTime" "I", Cond.fieldLink RX0 105 "Stairflow" "waitedSum" "I", Cond.methodLink RX0 112 yX0_grantAll, Cond.instanceMethod yX0_grantAll, Cond.selects RX0 yX0_grantAll yX0_grantAll, Cond.initialized RX0, Cond.code yX0_grantAll cX0_grantAll 2 none, Cond.fieldLink RX0 78 "Stairflow" "doorCount" "I", Cond.fieldLink RX0 50 "Stairflow" "grantedTo" "[I", Cond.fieldLink RX0 53 "Stairflow" "placeCount" "I", Cond.methodLink RX0 136 yX0_grantAt, Cond.instanceMethod yX0_grantAt, Cond.selects RX0 yX0_grantAt yX0_grantAt, Cond.code yX0_grantAt cX0_grantAt 5 none, Cond.methodLink RX0 84 yX0_roomLeft, Cond.instanceMethod yX0_roomLeft, Cond.selects RX0 yX0_roomLeft yX0_roomLeft, Cond.code yX0_roomLeft cX0_roomLeft 2 (some .int), Cond.constant RX0 151 (1000000), Cond.fieldLink RX0 9 "Stairflow" "roomOf" "[I", Cond.methodLink RX0 139 yX0_grantRound, Cond.instanceMethod yX0_grantRound]
def wsX0_passOneStep_r2 : List Cond := [Cond.selects RX0 yX0_grantRound yX0_grantRound, Cond.code yX0_grantRound cX0_grantRound 7 (some .int), Cond.fieldLink RX0 47 "Stairflow" "targetOf" "[I", Cond.fieldLink RX0 34 "Stairflow" "shareOf" "[I", Cond.methodLink RX0 145 Lib.Math.min.name, Cond.static Lib.Math.min.name, Cond.initialized "java/lang/Math", Cond.code Lib.Math.min.name Lib.Math.min.code 2 (some .int), Cond.methodLink RX0 142 yX0_wishBy, Cond.instanceMethod yX0_wishBy, Cond.selects RX0 yX0_wishBy yX0_wishBy, Cond.code yX0_wishBy cX0_wishBy 3 (some .int), Cond.fieldLink RX0 44 "Stairflow" "sourceOf" "[I", Cond.fieldLink RX0 16 "Stairflow" "releaseOf" "[I", Cond.fieldLink RX0 31 "Stairflow" "flowOf" "[I", Cond.methodLink RX0 148 yX0_isPlace, Cond.instanceMethod yX0_isPlace, Cond.selects RX0 yX0_isPlace yX0_isPlace, Cond.code yX0_isPlace cX0_isPlace 2 (some .boolean), Cond.methodLink RX0 133 yX0_moveGranted, Cond.instanceMethod yX0_moveGranted, Cond.selects RX0 yX0_moveGranted yX0_moveGranted, Cond.code yX0_moveGranted cX0_moveGranted 5 (some .int), Cond.fieldLink RX0 41 "Stairflow" "passedBy" "[I"]
def wsX0_passOneStep_r3 : List Cond := [Cond.methodLink RX0 92 yX0_inside, Cond.instanceMethod yX0_inside, Cond.selects RX0 yX0_inside yX0_inside, Cond.code yX0_inside cX0_inside 3 (some .int)]
def wsX0_passOneStep : List Cond := .code yX0_passOneStep cX0_passOneStep 3 (some .int) :: ((wsX0_passOneStep_r1 ++ (wsX0_passOneStep_r2 ++ wsX0_passOneStep_r3)) ++ wsX00)
def wsX0_step_r1 : List Cond := [Cond.fieldLink RX0 13 "Stairflow" "peopleAt" "[I", Cond.methodLink RX0 60 yX0_isBetween, Cond.static yX0_isBetween, Cond.initialized RX0, Cond.code yX0_isBetween cX0_isBetween 3 (some .boolean), Cond.methodLink RX0 64 yX0_requireArgument, Cond.static yX0_requireArgument, Cond.code yX0_requireArgument cX0_requireArgument 1 none, Cond.classLink RX0 171 "java/lang/IllegalArgumentException", Cond.initialized "java/lang/IllegalArgumentException", Cond.methodLink RX0 88 yX0_passOneStep, Cond.instanceMethod yX0_passOneStep, Cond.selects RX0 yX0_passOneStep yX0_passOneStep, Cond.code yX0_passOneStep cX0_passOneStep 3 (some .int), Cond.fieldLink RX0 99 "Stairflow" "timeNow" "I", Cond.fieldLink RX0 57 "Stairflow" "latestTime" "I", Cond.fieldLink RX0 105 "Stairflow" "waitedSum" "I", Cond.methodLink RX0 112 yX0_grantAll, Cond.instanceMethod yX0_grantAll, Cond.selects RX0 yX0_grantAll yX0_grantAll, Cond.code yX0_grantAll cX0_grantAll 2 none, Cond.fieldLink RX0 78 "Stairflow" "doorCount" "I", Cond.fieldLink RX0 50 "Stairflow" "grantedTo" "[I", Cond.fieldLink RX0 53 "Stairflow" "placeCount" "I"]
def wsX0_step_r2 : List Cond := [Cond.methodLink RX0 136 yX0_grantAt, Cond.instanceMethod yX0_grantAt, Cond.selects RX0 yX0_grantAt yX0_grantAt, Cond.code yX0_grantAt cX0_grantAt 5 none, Cond.methodLink RX0 84 yX0_roomLeft, Cond.instanceMethod yX0_roomLeft, Cond.selects RX0 yX0_roomLeft yX0_roomLeft, Cond.code yX0_roomLeft cX0_roomLeft 2 (some .int), Cond.constant RX0 151 (1000000), Cond.fieldLink RX0 9 "Stairflow" "roomOf" "[I", Cond.methodLink RX0 139 yX0_grantRound, Cond.instanceMethod yX0_grantRound, Cond.selects RX0 yX0_grantRound yX0_grantRound, Cond.code yX0_grantRound cX0_grantRound 7 (some .int), Cond.fieldLink RX0 47 "Stairflow" "targetOf" "[I", Cond.fieldLink RX0 34 "Stairflow" "shareOf" "[I", Cond.methodLink RX0 145 Lib.Math.min.name, Cond.static Lib.Math.min.name, Cond.initialized "java/lang/Math", Cond.code Lib.Math.min.name Lib.Math.min.code 2 (some .int), Cond.methodLink RX0 142 yX0_wishBy, Cond.instanceMethod yX0_wishBy, Cond.selects RX0 yX0_wishBy yX0_wishBy, Cond.code yX0_wishBy cX0_wishBy 3 (some .int)]
def wsX0_step_r3 : List Cond := [Cond.fieldLink RX0 44 "Stairflow" "sourceOf" "[I", Cond.fieldLink RX0 16 "Stairflow" "releaseOf" "[I", Cond.fieldLink RX0 31 "Stairflow" "flowOf" "[I", Cond.methodLink RX0 148 yX0_isPlace, Cond.instanceMethod yX0_isPlace, Cond.selects RX0 yX0_isPlace yX0_isPlace, Cond.code yX0_isPlace cX0_isPlace 2 (some .boolean), Cond.methodLink RX0 133 yX0_moveGranted, Cond.instanceMethod yX0_moveGranted, Cond.selects RX0 yX0_moveGranted yX0_moveGranted, Cond.code yX0_moveGranted cX0_moveGranted 5 (some .int), Cond.fieldLink RX0 41 "Stairflow" "passedBy" "[I", Cond.methodLink RX0 92 yX0_inside, Cond.instanceMethod yX0_inside, Cond.selects RX0 yX0_inside yX0_inside, Cond.code yX0_inside cX0_inside 3 (some .int)]
def wsX0_step : List Cond := .code yX0_step cX0_step 4 (some .int) :: ((wsX0_step_r1 ++ (wsX0_step_r2 ++ wsX0_step_r3)) ++ wsX00 ++ (vx_atS RX0 175 "java/lang/IllegalArgumentException" ["java/lang/RuntimeException", "java/lang/Exception"]).filter goodWord)
def wsX0_areAllReleased : List Cond := .code yX0_areAllReleased cX0_areAllReleased 2 (some .boolean) :: ([.fieldLink RX0 53 "Stairflow" "placeCount" "I", .fieldLink RX0 16 "Stairflow" "releaseOf" "[I", .fieldLink RX0 99 "Stairflow" "timeNow" "I"] ++ wsX00)
def wsX0_clear_r1 : List Cond := [Cond.methodLink RX0 92 yX0_inside, Cond.instanceMethod yX0_inside, Cond.selects RX0 yX0_inside yX0_inside, Cond.initialized RX0, Cond.code yX0_inside cX0_inside 3 (some .int), Cond.fieldLink RX0 53 "Stairflow" "placeCount" "I", Cond.fieldLink RX0 13 "Stairflow" "peopleAt" "[I", Cond.methodLink RX0 95 yX0_areAllReleased, Cond.instanceMethod yX0_areAllReleased, Cond.selects RX0 yX0_areAllReleased yX0_areAllReleased, Cond.code yX0_areAllReleased cX0_areAllReleased 2 (some .boolean), Cond.fieldLink RX0 16 "Stairflow" "releaseOf" "[I", Cond.fieldLink RX0 99 "Stairflow" "timeNow" "I", Cond.methodLink RX0 88 yX0_passOneStep, Cond.instanceMethod yX0_passOneStep, Cond.selects RX0 yX0_passOneStep yX0_passOneStep, Cond.code yX0_passOneStep cX0_passOneStep 3 (some .int), Cond.fieldLink RX0 57 "Stairflow" "latestTime" "I", Cond.fieldLink RX0 105 "Stairflow" "waitedSum" "I", Cond.methodLink RX0 112 yX0_grantAll, Cond.instanceMethod yX0_grantAll, Cond.selects RX0 yX0_grantAll yX0_grantAll, Cond.code yX0_grantAll cX0_grantAll 2 none, Cond.fieldLink RX0 78 "Stairflow" "doorCount" "I"]
def wsX0_clear_r2 : List Cond := [Cond.fieldLink RX0 50 "Stairflow" "grantedTo" "[I", Cond.methodLink RX0 136 yX0_grantAt, Cond.instanceMethod yX0_grantAt, Cond.selects RX0 yX0_grantAt yX0_grantAt, Cond.code yX0_grantAt cX0_grantAt 5 none, Cond.methodLink RX0 84 yX0_roomLeft, Cond.instanceMethod yX0_roomLeft, Cond.selects RX0 yX0_roomLeft yX0_roomLeft, Cond.code yX0_roomLeft cX0_roomLeft 2 (some .int), Cond.constant RX0 151 (1000000), Cond.fieldLink RX0 9 "Stairflow" "roomOf" "[I", Cond.methodLink RX0 139 yX0_grantRound, Cond.instanceMethod yX0_grantRound, Cond.selects RX0 yX0_grantRound yX0_grantRound, Cond.code yX0_grantRound cX0_grantRound 7 (some .int), Cond.fieldLink RX0 47 "Stairflow" "targetOf" "[I", Cond.fieldLink RX0 34 "Stairflow" "shareOf" "[I", Cond.methodLink RX0 145 Lib.Math.min.name, Cond.static Lib.Math.min.name, Cond.initialized "java/lang/Math", Cond.code Lib.Math.min.name Lib.Math.min.code 2 (some .int), Cond.methodLink RX0 142 yX0_wishBy, Cond.instanceMethod yX0_wishBy, Cond.selects RX0 yX0_wishBy yX0_wishBy]
def wsX0_clear_r3 : List Cond := [Cond.code yX0_wishBy cX0_wishBy 3 (some .int), Cond.fieldLink RX0 44 "Stairflow" "sourceOf" "[I", Cond.fieldLink RX0 31 "Stairflow" "flowOf" "[I", Cond.methodLink RX0 148 yX0_isPlace, Cond.instanceMethod yX0_isPlace, Cond.selects RX0 yX0_isPlace yX0_isPlace, Cond.code yX0_isPlace cX0_isPlace 2 (some .boolean), Cond.methodLink RX0 133 yX0_moveGranted, Cond.instanceMethod yX0_moveGranted, Cond.selects RX0 yX0_moveGranted yX0_moveGranted, Cond.code yX0_moveGranted cX0_moveGranted 5 (some .int), Cond.fieldLink RX0 41 "Stairflow" "passedBy" "[I"]
def wsX0_clear : List Cond := .code yX0_clear cX0_clear 5 (some .int) :: ((wsX0_clear_r1 ++ (wsX0_clear_r2 ++ wsX0_clear_r3)) ++ wsX00)
def wsX0_now : List Cond := .code yX0_now cX0_now 1 (some .int) :: ([.fieldLink RX0 99 "Stairflow" "timeNow" "I"] ++ wsX00)
def wsX0_people : List Cond := .code yX0_people cX0_people 2 (some .int) :: ([.fieldLink RX0 13 "Stairflow" "peopleAt" "[I", .methodLink RX0 74 yX0_requirePlace, .instanceMethod yX0_requirePlace, .selects RX0 yX0_requirePlace yX0_requirePlace, .initialized RX0, .code yX0_requirePlace cX0_requirePlace 2 none, .classLink RX0 162 "java/lang/IndexOutOfBoundsException", .initialized "java/lang/IndexOutOfBoundsException", .methodLink RX0 148 yX0_isPlace, .instanceMethod yX0_isPlace, .selects RX0 yX0_isPlace yX0_isPlace, .code yX0_isPlace cX0_isPlace 2 (some .boolean), .fieldLink RX0 53 "Stairflow" "placeCount" "I"] ++ wsX00 ++ (vx_atS RX0 166 "java/lang/IndexOutOfBoundsException" ["java/lang/RuntimeException", "java/lang/Exception"]).filter goodWord)
def wsX0_requireElement : List Cond := .code yX0_requireElement cX0_requireElement 1 none :: ([.classLink RX0 181 "java/util/NoSuchElementException", .initialized "java/util/NoSuchElementException"] ++ (gNSat).filter goodWord)
def wsX0_latest : List Cond := .code yX0_latest cX0_latest 1 (some .int) :: ([.fieldLink RX0 57 "Stairflow" "latestTime" "I", .methodLink RX0 102 yX0_requireElement, .static yX0_requireElement, .initialized RX0, .code yX0_requireElement cX0_requireElement 1 none, .classLink RX0 181 "java/util/NoSuchElementException", .initialized "java/util/NoSuchElementException"] ++ wsX00 ++ (gNSat).filter goodWord)
def wsX0_passed : List Cond := .code yX0_passed cX0_passed 2 (some .int) :: ([.fieldLink RX0 41 "Stairflow" "passedBy" "[I", .methodLink RX0 81 yX0_requireDoor, .instanceMethod yX0_requireDoor, .selects RX0 yX0_requireDoor yX0_requireDoor, .initialized RX0, .code yX0_requireDoor cX0_requireDoor 2 none, .classLink RX0 162 "java/lang/IndexOutOfBoundsException", .initialized "java/lang/IndexOutOfBoundsException", .methodLink RX0 108 yX0_isDoor, .instanceMethod yX0_isDoor, .selects RX0 yX0_isDoor yX0_isDoor, .code yX0_isDoor cX0_isDoor 2 (some .boolean), .fieldLink RX0 78 "Stairflow" "doorCount" "I"] ++ wsX00 ++ (vx_atS RX0 166 "java/lang/IndexOutOfBoundsException" ["java/lang/RuntimeException", "java/lang/Exception"]).filter goodWord)
def wsX0_waited : List Cond := .code yX0_waited cX0_waited 1 (some .int) :: ([.fieldLink RX0 105 "Stairflow" "waitedSum" "I"] ++ wsX00)
def wsX0_distance : List Cond := .code yX0_distance cX0_distance 2 (some .int) :: ([.fieldLink RX0 19 "Stairflow" "distanceOf" "[I", .methodLink RX0 74 yX0_requirePlace, .instanceMethod yX0_requirePlace, .selects RX0 yX0_requirePlace yX0_requirePlace, .initialized RX0, .code yX0_requirePlace cX0_requirePlace 2 none, .classLink RX0 162 "java/lang/IndexOutOfBoundsException", .initialized "java/lang/IndexOutOfBoundsException", .methodLink RX0 148 yX0_isPlace, .instanceMethod yX0_isPlace, .selects RX0 yX0_isPlace yX0_isPlace, .code yX0_isPlace cX0_isPlace 2 (some .boolean), .fieldLink RX0 53 "Stairflow" "placeCount" "I", .methodLink RX0 102 yX0_requireElement, .static yX0_requireElement, .code yX0_requireElement cX0_requireElement 1 none, .classLink RX0 181 "java/util/NoSuchElementException", .initialized "java/util/NoSuchElementException"] ++ wsX00 ++ (vx_atS RX0 166 "java/lang/IndexOutOfBoundsException" ["java/lang/RuntimeException", "java/lang/Exception"]).filter goodWord ++ (gNSat).filter goodWord)
def wsX0_door : List Cond := .code yX0_door cX0_door 2 (some .int) :: ([.fieldLink RX0 22 "Stairflow" "doorOf" "[I", .methodLink RX0 74 yX0_requirePlace, .instanceMethod yX0_requirePlace, .selects RX0 yX0_requirePlace yX0_requirePlace, .initialized RX0, .code yX0_requirePlace cX0_requirePlace 2 none, .classLink RX0 162 "java/lang/IndexOutOfBoundsException", .initialized "java/lang/IndexOutOfBoundsException", .methodLink RX0 148 yX0_isPlace, .instanceMethod yX0_isPlace, .selects RX0 yX0_isPlace yX0_isPlace, .code yX0_isPlace cX0_isPlace 2 (some .boolean), .fieldLink RX0 53 "Stairflow" "placeCount" "I", .methodLink RX0 102 yX0_requireElement, .static yX0_requireElement, .code yX0_requireElement cX0_requireElement 1 none, .classLink RX0 181 "java/util/NoSuchElementException", .initialized "java/util/NoSuchElementException"] ++ wsX00 ++ (vx_atS RX0 166 "java/lang/IndexOutOfBoundsException" ["java/lang/RuntimeException", "java/lang/Exception"]).filter goodWord ++ (gNSat).filter goodWord)
def wsX0_trapped : List Cond := .code yX0_trapped cX0_trapped 3 (some .int) :: ([.fieldLink RX0 53 "Stairflow" "placeCount" "I", .fieldLink RX0 19 "Stairflow" "distanceOf" "[I", .fieldLink RX0 13 "Stairflow" "peopleAt" "[I"] ++ wsX00)
def wsX0_wouldMove_r1 : List Cond := [Cond.fieldLink RX0 22 "Stairflow" "doorOf" "[I", Cond.fieldLink RX0 50 "Stairflow" "grantedTo" "[I", Cond.methodLink RX0 74 yX0_requirePlace, Cond.instanceMethod yX0_requirePlace, Cond.selects RX0 yX0_requirePlace yX0_requirePlace, Cond.initialized RX0, Cond.code yX0_requirePlace cX0_requirePlace 2 none, Cond.classLink RX0 162 "java/lang/IndexOutOfBoundsException", Cond.initialized "java/lang/IndexOutOfBoundsException", Cond.methodLink RX0 148 yX0_isPlace, Cond.instanceMethod yX0_isPlace, Cond.selects RX0 yX0_isPlace yX0_isPlace, Cond.code yX0_isPlace cX0_isPlace 2 (some .boolean), Cond.fieldLink RX0 53 "Stairflow" "placeCount" "I", Cond.methodLink RX0 108 yX0_isDoor, Cond.instanceMethod yX0_isDoor, Cond.selects RX0 yX0_isDoor yX0_isDoor, Cond.code yX0_isDoor cX0_isDoor 2 (some .boolean), Cond.fieldLink RX0 78 "Stairflow" "doorCount" "I", Cond.methodLink RX0 112 yX0_grantAll, Cond.instanceMethod yX0_grantAll, Cond.selects RX0 yX0_grantAll yX0_grantAll, Cond.code yX0_grantAll cX0_grantAll 2 none, Cond.methodLink RX0 136 yX0_grantAt]
def wsX0_wouldMove_r2 : List Cond := [Cond.instanceMethod yX0_grantAt, Cond.selects RX0 yX0_grantAt yX0_grantAt, Cond.code yX0_grantAt cX0_grantAt 5 none, Cond.methodLink RX0 84 yX0_roomLeft, Cond.instanceMethod yX0_roomLeft, Cond.selects RX0 yX0_roomLeft yX0_roomLeft, Cond.code yX0_roomLeft cX0_roomLeft 2 (some .int), Cond.constant RX0 151 (1000000), Cond.fieldLink RX0 9 "Stairflow" "roomOf" "[I", Cond.fieldLink RX0 13 "Stairflow" "peopleAt" "[I", Cond.methodLink RX0 139 yX0_grantRound, Cond.instanceMethod yX0_grantRound, Cond.selects RX0 yX0_grantRound yX0_grantRound, Cond.code yX0_grantRound cX0_grantRound 7 (some .int), Cond.fieldLink RX0 47 "Stairflow" "targetOf" "[I", Cond.fieldLink RX0 34 "Stairflow" "shareOf" "[I", Cond.methodLink RX0 145 Lib.Math.min.name, Cond.static Lib.Math.min.name, Cond.initialized "java/lang/Math", Cond.code Lib.Math.min.name Lib.Math.min.code 2 (some .int), Cond.methodLink RX0 142 yX0_wishBy, Cond.instanceMethod yX0_wishBy, Cond.selects RX0 yX0_wishBy yX0_wishBy, Cond.code yX0_wishBy cX0_wishBy 3 (some .int)]
def wsX0_wouldMove_r3 : List Cond := [Cond.fieldLink RX0 44 "Stairflow" "sourceOf" "[I", Cond.fieldLink RX0 16 "Stairflow" "releaseOf" "[I", Cond.fieldLink RX0 99 "Stairflow" "timeNow" "I", Cond.fieldLink RX0 31 "Stairflow" "flowOf" "[I"]
def wsX0_wouldMove : List Cond := .code yX0_wouldMove cX0_wouldMove 3 (some .int) :: ((wsX0_wouldMove_r1 ++ (wsX0_wouldMove_r2 ++ wsX0_wouldMove_r3)) ++ wsX00 ++ (vx_atS RX0 166 "java/lang/IndexOutOfBoundsException" ["java/lang/RuntimeException", "java/lang/Exception"]).filter goodWord)
def wsX0_peopleFrom : List Cond := .code yX0_peopleFrom cX0_peopleFrom 4 (some .int) :: ([.fieldLink RX0 53 "Stairflow" "placeCount" "I", .fieldLink RX0 19 "Stairflow" "distanceOf" "[I", .fieldLink RX0 13 "Stairflow" "peopleAt" "[I"] ++ wsX00)
def wsX0_flowInward : List Cond := .code yX0_flowInward cX0_flowInward 7 (some .int) :: ([.fieldLink RX0 78 "Stairflow" "doorCount" "I", .fieldLink RX0 19 "Stairflow" "distanceOf" "[I", .fieldLink RX0 25 "Stairflow" "oneEnd" "[I", .fieldLink RX0 28 "Stairflow" "otherEnd" "[I", .fieldLink RX0 37 "Stairflow" "isOpen" "[Z", .fieldLink RX0 31 "Stairflow" "flowOf" "[I"] ++ wsX00)
def wsX0_boundAt : List Cond := .code yX0_boundAt cX0_boundAt 4 (some .int) :: ([.methodLink RX0 127 yX0_peopleFrom, .instanceMethod yX0_peopleFrom, .selects RX0 yX0_peopleFrom yX0_peopleFrom, .initialized RX0, .code yX0_peopleFrom cX0_peopleFrom 4 (some .int), .fieldLink RX0 53 "Stairflow" "placeCount" "I", .fieldLink RX0 19 "Stairflow" "distanceOf" "[I", .fieldLink RX0 13 "Stairflow" "peopleAt" "[I", .methodLink RX0 130 yX0_flowInward, .instanceMethod yX0_flowInward, .selects RX0 yX0_flowInward yX0_flowInward, .code yX0_flowInward cX0_flowInward 7 (some .int), .fieldLink RX0 78 "Stairflow" "doorCount" "I", .fieldLink RX0 25 "Stairflow" "oneEnd" "[I", .fieldLink RX0 28 "Stairflow" "otherEnd" "[I", .fieldLink RX0 37 "Stairflow" "isOpen" "[Z", .fieldLink RX0 31 "Stairflow" "flowOf" "[I"] ++ wsX00)
def wsX0_bound_r1 : List Cond := [Cond.fieldLink RX0 53 "Stairflow" "placeCount" "I", Cond.methodLink RX0 121 Lib.Math.max.name, Cond.static Lib.Math.max.name, Cond.initialized "java/lang/Math", Cond.code Lib.Math.max.name Lib.Math.max.code 2 (some .int), Cond.methodLink RX0 115 yX0_trapped, Cond.instanceMethod yX0_trapped, Cond.selects RX0 yX0_trapped yX0_trapped, Cond.initialized RX0, Cond.code yX0_trapped cX0_trapped 3 (some .int), Cond.fieldLink RX0 19 "Stairflow" "distanceOf" "[I", Cond.fieldLink RX0 13 "Stairflow" "peopleAt" "[I", Cond.methodLink RX0 68 yX0_requireState, Cond.static yX0_requireState, Cond.code yX0_requireState cX0_requireState 1 none, Cond.classLink RX0 176 "java/lang/IllegalStateException", Cond.initialized "java/lang/IllegalStateException", Cond.methodLink RX0 118 yX0_boundAt, Cond.instanceMethod yX0_boundAt, Cond.selects RX0 yX0_boundAt yX0_boundAt, Cond.code yX0_boundAt cX0_boundAt 4 (some .int), Cond.methodLink RX0 127 yX0_peopleFrom, Cond.instanceMethod yX0_peopleFrom, Cond.selects RX0 yX0_peopleFrom yX0_peopleFrom]
def wsX0_bound_r2 : List Cond := [Cond.code yX0_peopleFrom cX0_peopleFrom 4 (some .int), Cond.methodLink RX0 130 yX0_flowInward, Cond.instanceMethod yX0_flowInward, Cond.selects RX0 yX0_flowInward yX0_flowInward, Cond.code yX0_flowInward cX0_flowInward 7 (some .int), Cond.fieldLink RX0 78 "Stairflow" "doorCount" "I", Cond.fieldLink RX0 25 "Stairflow" "oneEnd" "[I", Cond.fieldLink RX0 28 "Stairflow" "otherEnd" "[I", Cond.fieldLink RX0 37 "Stairflow" "isOpen" "[Z", Cond.fieldLink RX0 31 "Stairflow" "flowOf" "[I"]
def wsX0_bound : List Cond := .code yX0_bound cX0_bound 3 (some .int) :: ((wsX0_bound_r1 ++ wsX0_bound_r2) ++ wsX00 ++ (vx_atS RX0 180 "java/lang/IllegalStateException" ["java/lang/RuntimeException", "java/lang/Exception"]).filter goodWord)
def wsX1_init : List Cond := .code yX1_init cX1_init 1 none :: ([.methodLink RX1 1 objectInit, .instanceMethod objectInit, .code objectInit ⟨#[0xb1]⟩ 1 none, .fieldLink RX1 7 "StairflowModel" "places" "I", .arrayClass .int, .fieldLink RX1 13 "StairflowModel" "rooms" "[I", .fieldLink RX1 17 "StairflowModel" "people" "[I", .fieldLink RX1 20 "StairflowModel" "releases" "[I", .fieldLink RX1 23 "StairflowModel" "ones" "[I", .fieldLink RX1 26 "StairflowModel" "others" "[I", .fieldLink RX1 29 "StairflowModel" "flows" "[I", .fieldLink RX1 32 "StairflowModel" "shares" "[I", .arrayClass .boolean, .fieldLink RX1 35 "StairflowModel" "isOpen" "[Z", .fieldLink RX1 39 "StairflowModel" "passed" "[I", .fieldLink RX1 42 "StairflowModel" "lastOut" "I", .fieldLink RX1 45 "StairflowModel" "far" "[I", .fieldLink RX1 48 "StairflowModel" "wishes" "[I", .fieldLink RX1 51 "StairflowModel" "grants" "[I", .fieldLink RX1 54 "StairflowModel" "goals" "[I"] ++ wsX10)
def wsX1_thrown : List Cond := .code yX1_thrown cX1_thrown 1 (some .int) :: ([.fieldLink RX1 57 "StairflowModel" "thrown" "I"] ++ wsX10)
def wsX1_goesWell : List Cond := .code yX1_goesWell cX1_goesWell 2 (some .boolean) :: ([.fieldLink RX1 57 "StairflowModel" "thrown" "I"] ++ wsX10)
def wsX1_in : List Cond := .code yX1_in cX1_in 3 (some .boolean) :: ([])
def wsX1_isPlace : List Cond := .code yX1_isPlace cX1_isPlace 2 (some .boolean) :: ([.fieldLink RX1 7 "StairflowModel" "places" "I", .methodLink RX1 60 yX1_in, .static yX1_in, .initialized RX1, .code yX1_in cX1_in 3 (some .boolean)] ++ wsX10)
def wsX1_isDoor : List Cond := .code yX1_isDoor cX1_isDoor 2 (some .boolean) :: ([.fieldLink RX1 64 "StairflowModel" "doors" "I", .methodLink RX1 60 yX1_in, .static yX1_in, .initialized RX1, .code yX1_in cX1_in 3 (some .boolean)] ++ wsX10)
def wsX1_addPlace : List Cond := .code yX1_addPlace cX1_addPlace 2 (some .int) :: ([.fieldLink RX1 7 "StairflowModel" "places" "I", .fieldLink RX1 13 "StairflowModel" "rooms" "[I", .methodLink RX1 60 yX1_in, .static yX1_in, .initialized RX1, .code yX1_in cX1_in 3 (some .boolean), .methodLink RX1 67 yX1_goesWell, .instanceMethod yX1_goesWell, .selects RX1 yX1_goesWell yX1_goesWell, .code yX1_goesWell cX1_goesWell 2 (some .boolean), .fieldLink RX1 57 "StairflowModel" "thrown" "I"] ++ wsX10)
def wsX1_addDoor : List Cond := .code yX1_addDoor cX1_addDoor 6 (some .int) :: ([.fieldLink RX1 64 "StairflowModel" "doors" "I", .fieldLink RX1 23 "StairflowModel" "ones" "[I", .fieldLink RX1 26 "StairflowModel" "others" "[I", .fieldLink RX1 29 "StairflowModel" "flows" "[I", .fieldLink RX1 32 "StairflowModel" "shares" "[I", .fieldLink RX1 35 "StairflowModel" "isOpen" "[Z", .methodLink RX1 60 yX1_in, .static yX1_in, .initialized RX1, .code yX1_in cX1_in 3 (some .boolean), .methodLink RX1 71 yX1_isPlace, .instanceMethod yX1_isPlace, .selects RX1 yX1_isPlace yX1_isPlace, .code yX1_isPlace cX1_isPlace 2 (some .boolean), .fieldLink RX1 7 "StairflowModel" "places" "I", .methodLink RX1 67 yX1_goesWell, .instanceMethod yX1_goesWell, .selects RX1 yX1_goesWell yX1_goesWell, .code yX1_goesWell cX1_goesWell 2 (some .boolean), .fieldLink RX1 57 "StairflowModel" "thrown" "I"] ++ wsX10)
def wsX1_setDoor : List Cond := .code yX1_setDoor cX1_setDoor 4 (some .boolean) :: ([.fieldLink RX1 35 "StairflowModel" "isOpen" "[Z", .methodLink RX1 74 yX1_isDoor, .instanceMethod yX1_isDoor, .selects RX1 yX1_isDoor yX1_isDoor, .initialized RX1, .code yX1_isDoor cX1_isDoor 2 (some .boolean), .fieldLink RX1 64 "StairflowModel" "doors" "I", .methodLink RX1 60 yX1_in, .static yX1_in, .code yX1_in cX1_in 3 (some .boolean), .methodLink RX1 67 yX1_goesWell, .instanceMethod yX1_goesWell, .selects RX1 yX1_goesWell yX1_goesWell, .code yX1_goesWell cX1_goesWell 2 (some .boolean), .fieldLink RX1 57 "StairflowModel" "thrown" "I"] ++ wsX10)
def wsX1_come : List Cond := .code yX1_come cX1_come 5 (some .int) :: ([.fieldLink RX1 17 "StairflowModel" "people" "[I", .fieldLink RX1 13 "StairflowModel" "rooms" "[I", .methodLink RX1 60 yX1_in, .static yX1_in, .initialized RX1, .code yX1_in cX1_in 3 (some .boolean), .methodLink RX1 71 yX1_isPlace, .instanceMethod yX1_isPlace, .selects RX1 yX1_isPlace yX1_isPlace, .code yX1_isPlace cX1_isPlace 2 (some .boolean), .fieldLink RX1 7 "StairflowModel" "places" "I", .methodLink RX1 67 yX1_goesWell, .instanceMethod yX1_goesWell, .selects RX1 yX1_goesWell yX1_goesWell, .code yX1_goesWell cX1_goesWell 2 (some .boolean), .fieldLink RX1 57 "StairflowModel" "thrown" "I"] ++ wsX10)
def wsX1_setRelease : List Cond := .code yX1_setRelease cX1_setRelease 4 (some .int) :: ([.fieldLink RX1 20 "StairflowModel" "releases" "[I", .methodLink RX1 71 yX1_isPlace, .instanceMethod yX1_isPlace, .selects RX1 yX1_isPlace yX1_isPlace, .initialized RX1, .code yX1_isPlace cX1_isPlace 2 (some .boolean), .fieldLink RX1 7 "StairflowModel" "places" "I", .methodLink RX1 60 yX1_in, .static yX1_in, .code yX1_in cX1_in 3 (some .boolean), .methodLink RX1 67 yX1_goesWell, .instanceMethod yX1_goesWell, .selects RX1 yX1_goesWell yX1_goesWell, .code yX1_goesWell cX1_goesWell 2 (some .boolean), .fieldLink RX1 57 "StairflowModel" "thrown" "I"] ++ wsX10)
def wsX1_places : List Cond := .code yX1_places cX1_places 1 (some .int) :: ([.fieldLink RX1 57 "StairflowModel" "thrown" "I", .fieldLink RX1 7 "StairflowModel" "places" "I"] ++ wsX10)
def wsX1_doors : List Cond := .code yX1_doors cX1_doors 1 (some .int) :: ([.fieldLink RX1 57 "StairflowModel" "thrown" "I", .fieldLink RX1 64 "StairflowModel" "doors" "I"] ++ wsX10)
def wsX1_reach : List Cond := .code yX1_reach cX1_reach 5 none :: ([.fieldLink RX1 35 "StairflowModel" "isOpen" "[Z", .fieldLink RX1 45 "StairflowModel" "far" "[I"] ++ wsX10)
def wsX1_measure : List Cond := .code yX1_measure cX1_measure 3 none :: ([.fieldLink RX1 7 "StairflowModel" "places" "I", .fieldLink RX1 45 "StairflowModel" "far" "[I", .fieldLink RX1 64 "StairflowModel" "doors" "I", .fieldLink RX1 23 "StairflowModel" "ones" "[I", .fieldLink RX1 26 "StairflowModel" "others" "[I", .methodLink RX1 77 yX1_reach, .instanceMethod yX1_reach, .selects RX1 yX1_reach yX1_reach, .initialized RX1, .code yX1_reach cX1_reach 5 none, .fieldLink RX1 35 "StairflowModel" "isOpen" "[Z"] ++ wsX10)
def wsX1_beyond : List Cond := .code yX1_beyond cX1_beyond 3 (some .int) :: ([.fieldLink RX1 23 "StairflowModel" "ones" "[I", .fieldLink RX1 26 "StairflowModel" "others" "[I"] ++ wsX10)
def wsX1_doorOf : List Cond := .code yX1_doorOf cX1_doorOf 4 (some .int) :: ([.fieldLink RX1 64 "StairflowModel" "doors" "I", .fieldLink RX1 45 "StairflowModel" "far" "[I", .fieldLink RX1 35 "StairflowModel" "isOpen" "[Z", .methodLink RX1 81 yX1_beyond, .instanceMethod yX1_beyond, .selects RX1 yX1_beyond yX1_beyond, .initialized RX1, .code yX1_beyond cX1_beyond 3 (some .int), .fieldLink RX1 23 "StairflowModel" "ones" "[I", .fieldLink RX1 26 "StairflowModel" "others" "[I"] ++ wsX10)
def wsX1_wish_r1 : List Cond := [Cond.fieldLink RX1 64 "StairflowModel" "doors" "I", Cond.fieldLink RX1 48 "StairflowModel" "wishes" "[I", Cond.fieldLink RX1 51 "StairflowModel" "grants" "[I", Cond.fieldLink RX1 54 "StairflowModel" "goals" "[I", Cond.fieldLink RX1 7 "StairflowModel" "places" "I", Cond.fieldLink RX1 20 "StairflowModel" "releases" "[I", Cond.fieldLink RX1 92 "StairflowModel" "time" "I", Cond.fieldLink RX1 17 "StairflowModel" "people" "[I", Cond.fieldLink RX1 29 "StairflowModel" "flows" "[I", Cond.methodLink RX1 85 yX1_measure, Cond.instanceMethod yX1_measure, Cond.selects RX1 yX1_measure yX1_measure, Cond.initialized RX1, Cond.code yX1_measure cX1_measure 3 none, Cond.fieldLink RX1 45 "StairflowModel" "far" "[I", Cond.fieldLink RX1 23 "StairflowModel" "ones" "[I", Cond.fieldLink RX1 26 "StairflowModel" "others" "[I", Cond.methodLink RX1 77 yX1_reach, Cond.instanceMethod yX1_reach, Cond.selects RX1 yX1_reach yX1_reach, Cond.code yX1_reach cX1_reach 5 none, Cond.fieldLink RX1 35 "StairflowModel" "isOpen" "[Z", Cond.methodLink RX1 88 yX1_doorOf, Cond.instanceMethod yX1_doorOf]
def wsX1_wish_r2 : List Cond := [Cond.selects RX1 yX1_doorOf yX1_doorOf, Cond.code yX1_doorOf cX1_doorOf 4 (some .int), Cond.methodLink RX1 81 yX1_beyond, Cond.instanceMethod yX1_beyond, Cond.selects RX1 yX1_beyond yX1_beyond, Cond.code yX1_beyond cX1_beyond 3 (some .int)]
def wsX1_wish : List Cond := .code yX1_wish cX1_wish 3 none :: ((wsX1_wish_r1 ++ wsX1_wish_r2) ++ wsX10)
def wsX1_grant : List Cond := .code yX1_grant cX1_grant 7 none :: ([.fieldLink RX1 13 "StairflowModel" "rooms" "[I", .fieldLink RX1 17 "StairflowModel" "people" "[I", .fieldLink RX1 64 "StairflowModel" "doors" "I", .fieldLink RX1 54 "StairflowModel" "goals" "[I", .fieldLink RX1 48 "StairflowModel" "wishes" "[I", .fieldLink RX1 51 "StairflowModel" "grants" "[I", .fieldLink RX1 32 "StairflowModel" "shares" "[I"] ++ wsX10)
def wsX1_decide_r1 : List Cond := [Cond.fieldLink RX1 7 "StairflowModel" "places" "I", Cond.methodLink RX1 95 yX1_wish, Cond.instanceMethod yX1_wish, Cond.selects RX1 yX1_wish yX1_wish, Cond.initialized RX1, Cond.code yX1_wish cX1_wish 3 none, Cond.fieldLink RX1 64 "StairflowModel" "doors" "I", Cond.fieldLink RX1 48 "StairflowModel" "wishes" "[I", Cond.fieldLink RX1 51 "StairflowModel" "grants" "[I", Cond.fieldLink RX1 54 "StairflowModel" "goals" "[I", Cond.fieldLink RX1 20 "StairflowModel" "releases" "[I", Cond.fieldLink RX1 92 "StairflowModel" "time" "I", Cond.fieldLink RX1 17 "StairflowModel" "people" "[I", Cond.fieldLink RX1 29 "StairflowModel" "flows" "[I", Cond.methodLink RX1 85 yX1_measure, Cond.instanceMethod yX1_measure, Cond.selects RX1 yX1_measure yX1_measure, Cond.code yX1_measure cX1_measure 3 none, Cond.fieldLink RX1 45 "StairflowModel" "far" "[I", Cond.fieldLink RX1 23 "StairflowModel" "ones" "[I", Cond.fieldLink RX1 26 "StairflowModel" "others" "[I", Cond.methodLink RX1 77 yX1_reach, Cond.instanceMethod yX1_reach, Cond.selects RX1 yX1_reach yX1_reach]
def wsX1_decide_r2 : List Cond := [Cond.code yX1_reach cX1_reach 5 none, Cond.fieldLink RX1 35 "StairflowModel" "isOpen" "[Z", Cond.methodLink RX1 88 yX1_doorOf, Cond.instanceMethod yX1_doorOf, Cond.selects RX1 yX1_doorOf yX1_doorOf, Cond.code yX1_doorOf cX1_doorOf 4 (some .int), Cond.methodLink RX1 81 yX1_beyond, Cond.instanceMethod yX1_beyond, Cond.selects RX1 yX1_beyond yX1_beyond, Cond.code yX1_beyond cX1_beyond 3 (some .int), Cond.methodLink RX1 98 yX1_grant, Cond.instanceMethod yX1_grant, Cond.selects RX1 yX1_grant yX1_grant, Cond.code yX1_grant cX1_grant 7 none, Cond.fieldLink RX1 13 "StairflowModel" "rooms" "[I", Cond.fieldLink RX1 32 "StairflowModel" "shares" "[I"]
def wsX1_decide : List Cond := .code yX1_decide cX1_decide 2 none :: ((wsX1_decide_r1 ++ wsX1_decide_r2) ++ wsX10)
def wsX1_insideNow : List Cond := .code yX1_insideNow cX1_insideNow 3 (some .int) :: ([.fieldLink RX1 7 "StairflowModel" "places" "I", .fieldLink RX1 17 "StairflowModel" "people" "[I"] ++ wsX10)
def wsX1_go_r1 : List Cond := [Cond.fieldLink RX1 64 "StairflowModel" "doors" "I", Cond.fieldLink RX1 51 "StairflowModel" "grants" "[I", Cond.fieldLink RX1 17 "StairflowModel" "people" "[I", Cond.fieldLink RX1 54 "StairflowModel" "goals" "[I", Cond.fieldLink RX1 39 "StairflowModel" "passed" "[I", Cond.fieldLink RX1 92 "StairflowModel" "time" "I", Cond.fieldLink RX1 42 "StairflowModel" "lastOut" "I", Cond.fieldLink RX1 105 "StairflowModel" "waited" "I", Cond.methodLink RX1 102 yX1_decide, Cond.instanceMethod yX1_decide, Cond.selects RX1 yX1_decide yX1_decide, Cond.initialized RX1, Cond.code yX1_decide cX1_decide 2 none, Cond.fieldLink RX1 7 "StairflowModel" "places" "I", Cond.methodLink RX1 95 yX1_wish, Cond.instanceMethod yX1_wish, Cond.selects RX1 yX1_wish yX1_wish, Cond.code yX1_wish cX1_wish 3 none, Cond.fieldLink RX1 48 "StairflowModel" "wishes" "[I", Cond.fieldLink RX1 20 "StairflowModel" "releases" "[I", Cond.fieldLink RX1 29 "StairflowModel" "flows" "[I", Cond.methodLink RX1 85 yX1_measure, Cond.instanceMethod yX1_measure, Cond.selects RX1 yX1_measure yX1_measure]
def wsX1_go_r2 : List Cond := [Cond.code yX1_measure cX1_measure 3 none, Cond.fieldLink RX1 45 "StairflowModel" "far" "[I", Cond.fieldLink RX1 23 "StairflowModel" "ones" "[I", Cond.fieldLink RX1 26 "StairflowModel" "others" "[I", Cond.methodLink RX1 77 yX1_reach, Cond.instanceMethod yX1_reach, Cond.selects RX1 yX1_reach yX1_reach, Cond.code yX1_reach cX1_reach 5 none, Cond.fieldLink RX1 35 "StairflowModel" "isOpen" "[Z", Cond.methodLink RX1 88 yX1_doorOf, Cond.instanceMethod yX1_doorOf, Cond.selects RX1 yX1_doorOf yX1_doorOf, Cond.code yX1_doorOf cX1_doorOf 4 (some .int), Cond.methodLink RX1 81 yX1_beyond, Cond.instanceMethod yX1_beyond, Cond.selects RX1 yX1_beyond yX1_beyond, Cond.code yX1_beyond cX1_beyond 3 (some .int), Cond.methodLink RX1 98 yX1_grant, Cond.instanceMethod yX1_grant, Cond.selects RX1 yX1_grant yX1_grant, Cond.code yX1_grant cX1_grant 7 none, Cond.fieldLink RX1 13 "StairflowModel" "rooms" "[I", Cond.fieldLink RX1 32 "StairflowModel" "shares" "[I", Cond.methodLink RX1 108 yX1_insideNow]
def wsX1_go_r3 : List Cond := [Cond.instanceMethod yX1_insideNow, Cond.selects RX1 yX1_insideNow yX1_insideNow, Cond.code yX1_insideNow cX1_insideNow 3 (some .int)]
def wsX1_go : List Cond := .code yX1_go cX1_go 3 (some .int) :: ((wsX1_go_r1 ++ (wsX1_go_r2 ++ wsX1_go_r3)) ++ wsX10)
def wsX1_step_r1 : List Cond := [Cond.fieldLink RX1 17 "StairflowModel" "people" "[I", Cond.methodLink RX1 60 yX1_in, Cond.static yX1_in, Cond.initialized RX1, Cond.code yX1_in cX1_in 3 (some .boolean), Cond.methodLink RX1 67 yX1_goesWell, Cond.instanceMethod yX1_goesWell, Cond.selects RX1 yX1_goesWell yX1_goesWell, Cond.code yX1_goesWell cX1_goesWell 2 (some .boolean), Cond.fieldLink RX1 57 "StairflowModel" "thrown" "I", Cond.methodLink RX1 112 yX1_go, Cond.instanceMethod yX1_go, Cond.selects RX1 yX1_go yX1_go, Cond.code yX1_go cX1_go 3 (some .int), Cond.fieldLink RX1 64 "StairflowModel" "doors" "I", Cond.fieldLink RX1 51 "StairflowModel" "grants" "[I", Cond.fieldLink RX1 54 "StairflowModel" "goals" "[I", Cond.fieldLink RX1 39 "StairflowModel" "passed" "[I", Cond.fieldLink RX1 92 "StairflowModel" "time" "I", Cond.fieldLink RX1 42 "StairflowModel" "lastOut" "I", Cond.fieldLink RX1 105 "StairflowModel" "waited" "I", Cond.methodLink RX1 102 yX1_decide, Cond.instanceMethod yX1_decide, Cond.selects RX1 yX1_decide yX1_decide]
def wsX1_step_r2 : List Cond := [Cond.code yX1_decide cX1_decide 2 none, Cond.fieldLink RX1 7 "StairflowModel" "places" "I", Cond.methodLink RX1 95 yX1_wish, Cond.instanceMethod yX1_wish, Cond.selects RX1 yX1_wish yX1_wish, Cond.code yX1_wish cX1_wish 3 none, Cond.fieldLink RX1 48 "StairflowModel" "wishes" "[I", Cond.fieldLink RX1 20 "StairflowModel" "releases" "[I", Cond.fieldLink RX1 29 "StairflowModel" "flows" "[I", Cond.methodLink RX1 85 yX1_measure, Cond.instanceMethod yX1_measure, Cond.selects RX1 yX1_measure yX1_measure, Cond.code yX1_measure cX1_measure 3 none, Cond.fieldLink RX1 45 "StairflowModel" "far" "[I", Cond.fieldLink RX1 23 "StairflowModel" "ones" "[I", Cond.fieldLink RX1 26 "StairflowModel" "others" "[I", Cond.methodLink RX1 77 yX1_reach, Cond.instanceMethod yX1_reach, Cond.selects RX1 yX1_reach yX1_reach, Cond.code yX1_reach cX1_reach 5 none, Cond.fieldLink RX1 35 "StairflowModel" "isOpen" "[Z", Cond.methodLink RX1 88 yX1_doorOf, Cond.instanceMethod yX1_doorOf, Cond.selects RX1 yX1_doorOf yX1_doorOf]
def wsX1_step_r3 : List Cond := [Cond.code yX1_doorOf cX1_doorOf 4 (some .int), Cond.methodLink RX1 81 yX1_beyond, Cond.instanceMethod yX1_beyond, Cond.selects RX1 yX1_beyond yX1_beyond, Cond.code yX1_beyond cX1_beyond 3 (some .int), Cond.methodLink RX1 98 yX1_grant, Cond.instanceMethod yX1_grant, Cond.selects RX1 yX1_grant yX1_grant, Cond.code yX1_grant cX1_grant 7 none, Cond.fieldLink RX1 13 "StairflowModel" "rooms" "[I", Cond.fieldLink RX1 32 "StairflowModel" "shares" "[I", Cond.methodLink RX1 108 yX1_insideNow, Cond.instanceMethod yX1_insideNow, Cond.selects RX1 yX1_insideNow yX1_insideNow, Cond.code yX1_insideNow cX1_insideNow 3 (some .int)]
def wsX1_step : List Cond := .code yX1_step cX1_step 5 (some .int) :: ((wsX1_step_r1 ++ (wsX1_step_r2 ++ wsX1_step_r3)) ++ wsX10)
def wsX1_clear_r1 : List Cond := [Cond.fieldLink RX1 57 "StairflowModel" "thrown" "I", Cond.fieldLink RX1 7 "StairflowModel" "places" "I", Cond.fieldLink RX1 20 "StairflowModel" "releases" "[I", Cond.fieldLink RX1 92 "StairflowModel" "time" "I", Cond.methodLink RX1 108 yX1_insideNow, Cond.instanceMethod yX1_insideNow, Cond.selects RX1 yX1_insideNow yX1_insideNow, Cond.initialized RX1, Cond.code yX1_insideNow cX1_insideNow 3 (some .int), Cond.fieldLink RX1 17 "StairflowModel" "people" "[I", Cond.methodLink RX1 112 yX1_go, Cond.instanceMethod yX1_go, Cond.selects RX1 yX1_go yX1_go, Cond.code yX1_go cX1_go 3 (some .int), Cond.fieldLink RX1 64 "StairflowModel" "doors" "I", Cond.fieldLink RX1 51 "StairflowModel" "grants" "[I", Cond.fieldLink RX1 54 "StairflowModel" "goals" "[I", Cond.fieldLink RX1 39 "StairflowModel" "passed" "[I", Cond.fieldLink RX1 42 "StairflowModel" "lastOut" "I", Cond.fieldLink RX1 105 "StairflowModel" "waited" "I", Cond.methodLink RX1 102 yX1_decide, Cond.instanceMethod yX1_decide, Cond.selects RX1 yX1_decide yX1_decide, Cond.code yX1_decide cX1_decide 2 none]
def wsX1_clear_r2 : List Cond := [Cond.methodLink RX1 95 yX1_wish, Cond.instanceMethod yX1_wish, Cond.selects RX1 yX1_wish yX1_wish, Cond.code yX1_wish cX1_wish 3 none, Cond.fieldLink RX1 48 "StairflowModel" "wishes" "[I", Cond.fieldLink RX1 29 "StairflowModel" "flows" "[I", Cond.methodLink RX1 85 yX1_measure, Cond.instanceMethod yX1_measure, Cond.selects RX1 yX1_measure yX1_measure, Cond.code yX1_measure cX1_measure 3 none, Cond.fieldLink RX1 45 "StairflowModel" "far" "[I", Cond.fieldLink RX1 23 "StairflowModel" "ones" "[I", Cond.fieldLink RX1 26 "StairflowModel" "others" "[I", Cond.methodLink RX1 77 yX1_reach, Cond.instanceMethod yX1_reach, Cond.selects RX1 yX1_reach yX1_reach, Cond.code yX1_reach cX1_reach 5 none, Cond.fieldLink RX1 35 "StairflowModel" "isOpen" "[Z", Cond.methodLink RX1 88 yX1_doorOf, Cond.instanceMethod yX1_doorOf, Cond.selects RX1 yX1_doorOf yX1_doorOf, Cond.code yX1_doorOf cX1_doorOf 4 (some .int), Cond.methodLink RX1 81 yX1_beyond, Cond.instanceMethod yX1_beyond]
def wsX1_clear_r3 : List Cond := [Cond.selects RX1 yX1_beyond yX1_beyond, Cond.code yX1_beyond cX1_beyond 3 (some .int), Cond.methodLink RX1 98 yX1_grant, Cond.instanceMethod yX1_grant, Cond.selects RX1 yX1_grant yX1_grant, Cond.code yX1_grant cX1_grant 7 none, Cond.fieldLink RX1 13 "StairflowModel" "rooms" "[I", Cond.fieldLink RX1 32 "StairflowModel" "shares" "[I"]
def wsX1_clear : List Cond := .code yX1_clear cX1_clear 5 (some .int) :: ((wsX1_clear_r1 ++ (wsX1_clear_r2 ++ wsX1_clear_r3)) ++ wsX10)
def wsX1_now : List Cond := .code yX1_now cX1_now 1 (some .int) :: ([.fieldLink RX1 57 "StairflowModel" "thrown" "I", .fieldLink RX1 92 "StairflowModel" "time" "I"] ++ wsX10)
def wsX1_people : List Cond := .code yX1_people cX1_people 2 (some .int) :: ([.fieldLink RX1 17 "StairflowModel" "people" "[I", .methodLink RX1 71 yX1_isPlace, .instanceMethod yX1_isPlace, .selects RX1 yX1_isPlace yX1_isPlace, .initialized RX1, .code yX1_isPlace cX1_isPlace 2 (some .boolean), .fieldLink RX1 7 "StairflowModel" "places" "I", .methodLink RX1 60 yX1_in, .static yX1_in, .code yX1_in cX1_in 3 (some .boolean), .methodLink RX1 67 yX1_goesWell, .instanceMethod yX1_goesWell, .selects RX1 yX1_goesWell yX1_goesWell, .code yX1_goesWell cX1_goesWell 2 (some .boolean), .fieldLink RX1 57 "StairflowModel" "thrown" "I"] ++ wsX10)
def wsX1_inside : List Cond := .code yX1_inside cX1_inside 1 (some .int) :: ([.fieldLink RX1 57 "StairflowModel" "thrown" "I", .methodLink RX1 108 yX1_insideNow, .instanceMethod yX1_insideNow, .selects RX1 yX1_insideNow yX1_insideNow, .initialized RX1, .code yX1_insideNow cX1_insideNow 3 (some .int), .fieldLink RX1 7 "StairflowModel" "places" "I", .fieldLink RX1 17 "StairflowModel" "people" "[I"] ++ wsX10)
def wsX1_latest : List Cond := .code yX1_latest cX1_latest 1 (some .int) :: ([.fieldLink RX1 42 "StairflowModel" "lastOut" "I", .methodLink RX1 67 yX1_goesWell, .instanceMethod yX1_goesWell, .selects RX1 yX1_goesWell yX1_goesWell, .initialized RX1, .code yX1_goesWell cX1_goesWell 2 (some .boolean), .fieldLink RX1 57 "StairflowModel" "thrown" "I"] ++ wsX10)
def wsX1_passed : List Cond := .code yX1_passed cX1_passed 2 (some .int) :: ([.fieldLink RX1 39 "StairflowModel" "passed" "[I", .methodLink RX1 74 yX1_isDoor, .instanceMethod yX1_isDoor, .selects RX1 yX1_isDoor yX1_isDoor, .initialized RX1, .code yX1_isDoor cX1_isDoor 2 (some .boolean), .fieldLink RX1 64 "StairflowModel" "doors" "I", .methodLink RX1 60 yX1_in, .static yX1_in, .code yX1_in cX1_in 3 (some .boolean), .methodLink RX1 67 yX1_goesWell, .instanceMethod yX1_goesWell, .selects RX1 yX1_goesWell yX1_goesWell, .code yX1_goesWell cX1_goesWell 2 (some .boolean), .fieldLink RX1 57 "StairflowModel" "thrown" "I"] ++ wsX10)
def wsX1_waited : List Cond := .code yX1_waited cX1_waited 1 (some .int) :: ([.fieldLink RX1 57 "StairflowModel" "thrown" "I", .fieldLink RX1 105 "StairflowModel" "waited" "I"] ++ wsX10)
def wsX1_distance_r1 : List Cond := [Cond.fieldLink RX1 45 "StairflowModel" "far" "[I", Cond.methodLink RX1 85 yX1_measure, Cond.instanceMethod yX1_measure, Cond.selects RX1 yX1_measure yX1_measure, Cond.initialized RX1, Cond.code yX1_measure cX1_measure 3 none, Cond.fieldLink RX1 7 "StairflowModel" "places" "I", Cond.fieldLink RX1 64 "StairflowModel" "doors" "I", Cond.fieldLink RX1 23 "StairflowModel" "ones" "[I", Cond.fieldLink RX1 26 "StairflowModel" "others" "[I", Cond.methodLink RX1 77 yX1_reach, Cond.instanceMethod yX1_reach, Cond.selects RX1 yX1_reach yX1_reach, Cond.code yX1_reach cX1_reach 5 none, Cond.fieldLink RX1 35 "StairflowModel" "isOpen" "[Z", Cond.methodLink RX1 71 yX1_isPlace, Cond.instanceMethod yX1_isPlace, Cond.selects RX1 yX1_isPlace yX1_isPlace, Cond.code yX1_isPlace cX1_isPlace 2 (some .boolean), Cond.methodLink RX1 60 yX1_in, Cond.static yX1_in, Cond.code yX1_in cX1_in 3 (some .boolean), Cond.methodLink RX1 67 yX1_goesWell, Cond.instanceMethod yX1_goesWell]
def wsX1_distance_r2 : List Cond := [Cond.selects RX1 yX1_goesWell yX1_goesWell, Cond.code yX1_goesWell cX1_goesWell 2 (some .boolean), Cond.fieldLink RX1 57 "StairflowModel" "thrown" "I"]
def wsX1_distance : List Cond := .code yX1_distance cX1_distance 2 (some .int) :: ((wsX1_distance_r1 ++ wsX1_distance_r2) ++ wsX10)
def wsX1_door_r1 : List Cond := [Cond.methodLink RX1 85 yX1_measure, Cond.instanceMethod yX1_measure, Cond.selects RX1 yX1_measure yX1_measure, Cond.initialized RX1, Cond.code yX1_measure cX1_measure 3 none, Cond.fieldLink RX1 7 "StairflowModel" "places" "I", Cond.fieldLink RX1 45 "StairflowModel" "far" "[I", Cond.fieldLink RX1 64 "StairflowModel" "doors" "I", Cond.fieldLink RX1 23 "StairflowModel" "ones" "[I", Cond.fieldLink RX1 26 "StairflowModel" "others" "[I", Cond.methodLink RX1 77 yX1_reach, Cond.instanceMethod yX1_reach, Cond.selects RX1 yX1_reach yX1_reach, Cond.code yX1_reach cX1_reach 5 none, Cond.fieldLink RX1 35 "StairflowModel" "isOpen" "[Z", Cond.methodLink RX1 71 yX1_isPlace, Cond.instanceMethod yX1_isPlace, Cond.selects RX1 yX1_isPlace yX1_isPlace, Cond.code yX1_isPlace cX1_isPlace 2 (some .boolean), Cond.methodLink RX1 60 yX1_in, Cond.static yX1_in, Cond.code yX1_in cX1_in 3 (some .boolean), Cond.methodLink RX1 88 yX1_doorOf, Cond.instanceMethod yX1_doorOf]
def wsX1_door_r2 : List Cond := [Cond.selects RX1 yX1_doorOf yX1_doorOf, Cond.code yX1_doorOf cX1_doorOf 4 (some .int), Cond.methodLink RX1 81 yX1_beyond, Cond.instanceMethod yX1_beyond, Cond.selects RX1 yX1_beyond yX1_beyond, Cond.code yX1_beyond cX1_beyond 3 (some .int), Cond.methodLink RX1 67 yX1_goesWell, Cond.instanceMethod yX1_goesWell, Cond.selects RX1 yX1_goesWell yX1_goesWell, Cond.code yX1_goesWell cX1_goesWell 2 (some .boolean), Cond.fieldLink RX1 57 "StairflowModel" "thrown" "I"]
def wsX1_door : List Cond := .code yX1_door cX1_door 3 (some .int) :: ((wsX1_door_r1 ++ wsX1_door_r2) ++ wsX10)
def wsX1_trappedNow : List Cond := .code yX1_trappedNow cX1_trappedNow 3 (some .int) :: ([.fieldLink RX1 7 "StairflowModel" "places" "I", .fieldLink RX1 45 "StairflowModel" "far" "[I", .fieldLink RX1 17 "StairflowModel" "people" "[I", .methodLink RX1 85 yX1_measure, .instanceMethod yX1_measure, .selects RX1 yX1_measure yX1_measure, .initialized RX1, .code yX1_measure cX1_measure 3 none, .fieldLink RX1 64 "StairflowModel" "doors" "I", .fieldLink RX1 23 "StairflowModel" "ones" "[I", .fieldLink RX1 26 "StairflowModel" "others" "[I", .methodLink RX1 77 yX1_reach, .instanceMethod yX1_reach, .selects RX1 yX1_reach yX1_reach, .code yX1_reach cX1_reach 5 none, .fieldLink RX1 35 "StairflowModel" "isOpen" "[Z"] ++ wsX10)
def wsX1_trapped : List Cond := .code yX1_trapped cX1_trapped 1 (some .int) :: ([.fieldLink RX1 57 "StairflowModel" "thrown" "I", .methodLink RX1 115 yX1_trappedNow, .instanceMethod yX1_trappedNow, .selects RX1 yX1_trappedNow yX1_trappedNow, .initialized RX1, .code yX1_trappedNow cX1_trappedNow 3 (some .int), .fieldLink RX1 7 "StairflowModel" "places" "I", .fieldLink RX1 45 "StairflowModel" "far" "[I", .fieldLink RX1 17 "StairflowModel" "people" "[I", .methodLink RX1 85 yX1_measure, .instanceMethod yX1_measure, .selects RX1 yX1_measure yX1_measure, .code yX1_measure cX1_measure 3 none, .fieldLink RX1 64 "StairflowModel" "doors" "I", .fieldLink RX1 23 "StairflowModel" "ones" "[I", .fieldLink RX1 26 "StairflowModel" "others" "[I", .methodLink RX1 77 yX1_reach, .instanceMethod yX1_reach, .selects RX1 yX1_reach yX1_reach, .code yX1_reach cX1_reach 5 none, .fieldLink RX1 35 "StairflowModel" "isOpen" "[Z"] ++ wsX10)
def wsX1_wouldMove_r1 : List Cond := [Cond.fieldLink RX1 51 "StairflowModel" "grants" "[I", Cond.methodLink RX1 71 yX1_isPlace, Cond.instanceMethod yX1_isPlace, Cond.selects RX1 yX1_isPlace yX1_isPlace, Cond.initialized RX1, Cond.code yX1_isPlace cX1_isPlace 2 (some .boolean), Cond.fieldLink RX1 7 "StairflowModel" "places" "I", Cond.methodLink RX1 60 yX1_in, Cond.static yX1_in, Cond.code yX1_in cX1_in 3 (some .boolean), Cond.methodLink RX1 67 yX1_goesWell, Cond.instanceMethod yX1_goesWell, Cond.selects RX1 yX1_goesWell yX1_goesWell, Cond.code yX1_goesWell cX1_goesWell 2 (some .boolean), Cond.fieldLink RX1 57 "StairflowModel" "thrown" "I", Cond.methodLink RX1 102 yX1_decide, Cond.instanceMethod yX1_decide, Cond.selects RX1 yX1_decide yX1_decide, Cond.code yX1_decide cX1_decide 2 none, Cond.methodLink RX1 95 yX1_wish, Cond.instanceMethod yX1_wish, Cond.selects RX1 yX1_wish yX1_wish, Cond.code yX1_wish cX1_wish 3 none, Cond.fieldLink RX1 64 "StairflowModel" "doors" "I"]
def wsX1_wouldMove_r2 : List Cond := [Cond.fieldLink RX1 48 "StairflowModel" "wishes" "[I", Cond.fieldLink RX1 54 "StairflowModel" "goals" "[I", Cond.fieldLink RX1 20 "StairflowModel" "releases" "[I", Cond.fieldLink RX1 92 "StairflowModel" "time" "I", Cond.fieldLink RX1 17 "StairflowModel" "people" "[I", Cond.fieldLink RX1 29 "StairflowModel" "flows" "[I", Cond.methodLink RX1 85 yX1_measure, Cond.instanceMethod yX1_measure, Cond.selects RX1 yX1_measure yX1_measure, Cond.code yX1_measure cX1_measure 3 none, Cond.fieldLink RX1 45 "StairflowModel" "far" "[I", Cond.fieldLink RX1 23 "StairflowModel" "ones" "[I", Cond.fieldLink RX1 26 "StairflowModel" "others" "[I", Cond.methodLink RX1 77 yX1_reach, Cond.instanceMethod yX1_reach, Cond.selects RX1 yX1_reach yX1_reach, Cond.code yX1_reach cX1_reach 5 none, Cond.fieldLink RX1 35 "StairflowModel" "isOpen" "[Z", Cond.methodLink RX1 88 yX1_doorOf, Cond.instanceMethod yX1_doorOf, Cond.selects RX1 yX1_doorOf yX1_doorOf, Cond.code yX1_doorOf cX1_doorOf 4 (some .int), Cond.methodLink RX1 81 yX1_beyond, Cond.instanceMethod yX1_beyond]
def wsX1_wouldMove_r3 : List Cond := [Cond.selects RX1 yX1_beyond yX1_beyond, Cond.code yX1_beyond cX1_beyond 3 (some .int), Cond.methodLink RX1 98 yX1_grant, Cond.instanceMethod yX1_grant, Cond.selects RX1 yX1_grant yX1_grant, Cond.code yX1_grant cX1_grant 7 none, Cond.fieldLink RX1 13 "StairflowModel" "rooms" "[I", Cond.fieldLink RX1 32 "StairflowModel" "shares" "[I"]
def wsX1_wouldMove : List Cond := .code yX1_wouldMove cX1_wouldMove 3 (some .int) :: ((wsX1_wouldMove_r1 ++ (wsX1_wouldMove_r2 ++ wsX1_wouldMove_r3)) ++ wsX10)
def wsX1_bound_r1 : List Cond := [Cond.fieldLink RX1 7 "StairflowModel" "places" "I", Cond.fieldLink RX1 45 "StairflowModel" "far" "[I", Cond.fieldLink RX1 17 "StairflowModel" "people" "[I", Cond.fieldLink RX1 64 "StairflowModel" "doors" "I", Cond.fieldLink RX1 23 "StairflowModel" "ones" "[I", Cond.fieldLink RX1 26 "StairflowModel" "others" "[I", Cond.fieldLink RX1 35 "StairflowModel" "isOpen" "[Z", Cond.fieldLink RX1 29 "StairflowModel" "flows" "[I", Cond.methodLink RX1 115 yX1_trappedNow, Cond.instanceMethod yX1_trappedNow, Cond.selects RX1 yX1_trappedNow yX1_trappedNow, Cond.initialized RX1, Cond.code yX1_trappedNow cX1_trappedNow 3 (some .int), Cond.methodLink RX1 85 yX1_measure, Cond.instanceMethod yX1_measure, Cond.selects RX1 yX1_measure yX1_measure, Cond.code yX1_measure cX1_measure 3 none, Cond.methodLink RX1 77 yX1_reach, Cond.instanceMethod yX1_reach, Cond.selects RX1 yX1_reach yX1_reach, Cond.code yX1_reach cX1_reach 5 none, Cond.methodLink RX1 67 yX1_goesWell, Cond.instanceMethod yX1_goesWell, Cond.selects RX1 yX1_goesWell yX1_goesWell]
def wsX1_bound_r2 : List Cond := [Cond.code yX1_goesWell cX1_goesWell 2 (some .boolean), Cond.fieldLink RX1 57 "StairflowModel" "thrown" "I"]
def wsX1_bound : List Cond := .code yX1_bound cX1_bound 8 (some .int) :: ((wsX1_bound_r1 ++ wsX1_bound_r2) ++ wsX10)
def wsJ9_max_7cf53 : List Cond := .code yJ9_max_7cf53 cJ9_max_7cf53 2 (some .int) :: ([])
def wsJ9_min_7cf53 : List Cond := .code yJ9_min_7cf53 cJ9_min_7cf53 2 (some .int) :: ([])
def wsL_addPlace_r1 : List Cond := [Cond.classLink RL 13 "java/lang/IllegalArgumentException", Cond.classLink RL 15 "java/lang/IllegalStateException", Cond.methodLink RL 7 yX0_addPlace, Cond.instanceMethod yX0_addPlace, Cond.selects RX0 yX0_addPlace yX0_addPlace, Cond.initialized RX0, Cond.code yX0_addPlace cX0_addPlace 3 (some .int), Cond.fieldLink RX0 53 "Stairflow" "placeCount" "I", Cond.fieldLink RX0 9 "Stairflow" "roomOf" "[I", Cond.methodLink RX0 60 yX0_isBetween, Cond.static yX0_isBetween, Cond.code yX0_isBetween cX0_isBetween 3 (some .boolean), Cond.methodLink RX0 64 yX0_requireArgument, Cond.static yX0_requireArgument, Cond.code yX0_requireArgument cX0_requireArgument 1 none, Cond.classLink RX0 171 "java/lang/IllegalArgumentException", Cond.initialized "java/lang/IllegalArgumentException", Cond.methodLink RX0 68 yX0_requireState, Cond.static yX0_requireState, Cond.code yX0_requireState cX0_requireState 1 none, Cond.classLink RX0 176 "java/lang/IllegalStateException", Cond.initialized "java/lang/IllegalStateException", Cond.methodLink RX0 71 yX0_findWays, Cond.instanceMethod yX0_findWays]
def wsL_addPlace_r2 : List Cond := [Cond.selects RX0 yX0_findWays yX0_findWays, Cond.code yX0_findWays cX0_findWays 2 none, Cond.fieldLink RX0 22 "Stairflow" "doorOf" "[I", Cond.fieldLink RX0 78 "Stairflow" "doorCount" "I", Cond.fieldLink RX0 44 "Stairflow" "sourceOf" "[I", Cond.fieldLink RX0 47 "Stairflow" "targetOf" "[I", Cond.fieldLink RX0 25 "Stairflow" "oneEnd" "[I", Cond.fieldLink RX0 28 "Stairflow" "otherEnd" "[I", Cond.methodLink RX0 152 yX0_measureDistances, Cond.instanceMethod yX0_measureDistances, Cond.selects RX0 yX0_measureDistances yX0_measureDistances, Cond.code yX0_measureDistances cX0_measureDistances 3 none, Cond.fieldLink RX0 19 "Stairflow" "distanceOf" "[I", Cond.fieldLink RX0 37 "Stairflow" "isOpen" "[Z", Cond.methodLink RX0 159 yX0_reach, Cond.instanceMethod yX0_reach, Cond.selects RX0 yX0_reach yX0_reach, Cond.code yX0_reach cX0_reach 4 none, Cond.methodLink RX0 155 yX0_offerDoor, Cond.instanceMethod yX0_offerDoor, Cond.selects RX0 yX0_offerDoor yX0_offerDoor, Cond.code yX0_offerDoor cX0_offerDoor 5 none]
def wsL_addPlace : List Cond := .codeWith yL_addPlace cL_addPlace 4 (some .int) [(0, 9, 12, 13), (0, 9, 15, 15)] :: ((wsL_addPlace_r1 ++ wsL_addPlace_r2) ++ wsX00 ++ (vx_atS RX0 175 "java/lang/IllegalArgumentException" ["java/lang/RuntimeException", "java/lang/Exception"]).filter goodWord ++ (vx_atS RX0 180 "java/lang/IllegalStateException" ["java/lang/RuntimeException", "java/lang/Exception"]).filter goodWord)
def wsL_addDoor_r1 : List Cond := [Cond.classLink RL 21 "java/lang/IndexOutOfBoundsException", Cond.classLink RL 13 "java/lang/IllegalArgumentException", Cond.classLink RL 15 "java/lang/IllegalStateException", Cond.methodLink RL 17 yX0_addDoor, Cond.instanceMethod yX0_addDoor, Cond.selects RX0 yX0_addDoor yX0_addDoor, Cond.initialized RX0, Cond.code yX0_addDoor cX0_addDoor 6 (some .int), Cond.fieldLink RX0 78 "Stairflow" "doorCount" "I", Cond.fieldLink RX0 25 "Stairflow" "oneEnd" "[I", Cond.fieldLink RX0 28 "Stairflow" "otherEnd" "[I", Cond.fieldLink RX0 31 "Stairflow" "flowOf" "[I", Cond.fieldLink RX0 34 "Stairflow" "shareOf" "[I", Cond.fieldLink RX0 37 "Stairflow" "isOpen" "[Z", Cond.methodLink RX0 74 yX0_requirePlace, Cond.instanceMethod yX0_requirePlace, Cond.selects RX0 yX0_requirePlace yX0_requirePlace, Cond.code yX0_requirePlace cX0_requirePlace 2 none, Cond.classLink RX0 162 "java/lang/IndexOutOfBoundsException", Cond.initialized "java/lang/IndexOutOfBoundsException", Cond.methodLink RX0 148 yX0_isPlace, Cond.instanceMethod yX0_isPlace, Cond.selects RX0 yX0_isPlace yX0_isPlace, Cond.code yX0_isPlace cX0_isPlace 2 (some .boolean)]
def wsL_addDoor_r2 : List Cond := [Cond.fieldLink RX0 53 "Stairflow" "placeCount" "I", Cond.methodLink RX0 60 yX0_isBetween, Cond.static yX0_isBetween, Cond.code yX0_isBetween cX0_isBetween 3 (some .boolean), Cond.methodLink RX0 64 yX0_requireArgument, Cond.static yX0_requireArgument, Cond.code yX0_requireArgument cX0_requireArgument 1 none, Cond.classLink RX0 171 "java/lang/IllegalArgumentException", Cond.initialized "java/lang/IllegalArgumentException", Cond.methodLink RX0 68 yX0_requireState, Cond.static yX0_requireState, Cond.code yX0_requireState cX0_requireState 1 none, Cond.classLink RX0 176 "java/lang/IllegalStateException", Cond.initialized "java/lang/IllegalStateException", Cond.methodLink RX0 71 yX0_findWays, Cond.instanceMethod yX0_findWays, Cond.selects RX0 yX0_findWays yX0_findWays, Cond.code yX0_findWays cX0_findWays 2 none, Cond.fieldLink RX0 22 "Stairflow" "doorOf" "[I", Cond.fieldLink RX0 44 "Stairflow" "sourceOf" "[I", Cond.fieldLink RX0 47 "Stairflow" "targetOf" "[I", Cond.methodLink RX0 152 yX0_measureDistances, Cond.instanceMethod yX0_measureDistances, Cond.selects RX0 yX0_measureDistances yX0_measureDistances]
def wsL_addDoor_r3 : List Cond := [Cond.code yX0_measureDistances cX0_measureDistances 3 none, Cond.fieldLink RX0 19 "Stairflow" "distanceOf" "[I", Cond.methodLink RX0 159 yX0_reach, Cond.instanceMethod yX0_reach, Cond.selects RX0 yX0_reach yX0_reach, Cond.code yX0_reach cX0_reach 4 none, Cond.methodLink RX0 155 yX0_offerDoor, Cond.instanceMethod yX0_offerDoor, Cond.selects RX0 yX0_offerDoor yX0_offerDoor, Cond.code yX0_offerDoor cX0_offerDoor 5 none]
def wsL_addDoor : List Cond := .codeWith yL_addDoor cL_addDoor 7 (some .int) [(0, 14, 17, 21), (0, 14, 21, 13), (0, 14, 25, 15)] :: ((wsL_addDoor_r1 ++ (wsL_addDoor_r2 ++ wsL_addDoor_r3)) ++ wsX00 ++ (vx_atS RX0 166 "java/lang/IndexOutOfBoundsException" ["java/lang/RuntimeException", "java/lang/Exception"]).filter goodWord ++ (vx_atS RX0 175 "java/lang/IllegalArgumentException" ["java/lang/RuntimeException", "java/lang/Exception"]).filter goodWord ++ (vx_atS RX0 180 "java/lang/IllegalStateException" ["java/lang/RuntimeException", "java/lang/Exception"]).filter goodWord)
def wsL_setDoor_r1 : List Cond := [Cond.classLink RL 21 "java/lang/IndexOutOfBoundsException", Cond.methodLink RL 23 yX0_setDoor, Cond.instanceMethod yX0_setDoor, Cond.selects RX0 yX0_setDoor yX0_setDoor, Cond.initialized RX0, Cond.code yX0_setDoor cX0_setDoor 4 (some .boolean), Cond.fieldLink RX0 37 "Stairflow" "isOpen" "[Z", Cond.methodLink RX0 81 yX0_requireDoor, Cond.instanceMethod yX0_requireDoor, Cond.selects RX0 yX0_requireDoor yX0_requireDoor, Cond.code yX0_requireDoor cX0_requireDoor 2 none, Cond.classLink RX0 162 "java/lang/IndexOutOfBoundsException", Cond.initialized "java/lang/IndexOutOfBoundsException", Cond.methodLink RX0 108 yX0_isDoor, Cond.instanceMethod yX0_isDoor, Cond.selects RX0 yX0_isDoor yX0_isDoor, Cond.code yX0_isDoor cX0_isDoor 2 (some .boolean), Cond.fieldLink RX0 78 "Stairflow" "doorCount" "I", Cond.methodLink RX0 71 yX0_findWays, Cond.instanceMethod yX0_findWays, Cond.selects RX0 yX0_findWays yX0_findWays, Cond.code yX0_findWays cX0_findWays 2 none, Cond.fieldLink RX0 53 "Stairflow" "placeCount" "I", Cond.fieldLink RX0 22 "Stairflow" "doorOf" "[I"]
def wsL_setDoor_r2 : List Cond := [Cond.fieldLink RX0 44 "Stairflow" "sourceOf" "[I", Cond.fieldLink RX0 47 "Stairflow" "targetOf" "[I", Cond.fieldLink RX0 25 "Stairflow" "oneEnd" "[I", Cond.fieldLink RX0 28 "Stairflow" "otherEnd" "[I", Cond.methodLink RX0 152 yX0_measureDistances, Cond.instanceMethod yX0_measureDistances, Cond.selects RX0 yX0_measureDistances yX0_measureDistances, Cond.code yX0_measureDistances cX0_measureDistances 3 none, Cond.fieldLink RX0 19 "Stairflow" "distanceOf" "[I", Cond.methodLink RX0 159 yX0_reach, Cond.instanceMethod yX0_reach, Cond.selects RX0 yX0_reach yX0_reach, Cond.code yX0_reach cX0_reach 4 none, Cond.methodLink RX0 155 yX0_offerDoor, Cond.instanceMethod yX0_offerDoor, Cond.selects RX0 yX0_offerDoor yX0_offerDoor, Cond.code yX0_offerDoor cX0_offerDoor 5 none]
def wsL_setDoor : List Cond := .codeWith yL_setDoor cL_setDoor 5 (some .int) [(0, 17, 20, 21)] :: ((wsL_setDoor_r1 ++ wsL_setDoor_r2) ++ wsX00 ++ (vx_atS RX0 166 "java/lang/IndexOutOfBoundsException" ["java/lang/RuntimeException", "java/lang/Exception"]).filter goodWord)
def wsL_come_r1 : List Cond := [Cond.classLink RL 21 "java/lang/IndexOutOfBoundsException", Cond.classLink RL 13 "java/lang/IllegalArgumentException", Cond.classLink RL 15 "java/lang/IllegalStateException", Cond.methodLink RL 27 yX0_come, Cond.instanceMethod yX0_come, Cond.selects RX0 yX0_come yX0_come, Cond.initialized RX0, Cond.code yX0_come cX0_come 3 (some .int), Cond.fieldLink RX0 13 "Stairflow" "peopleAt" "[I", Cond.methodLink RX0 74 yX0_requirePlace, Cond.instanceMethod yX0_requirePlace, Cond.selects RX0 yX0_requirePlace yX0_requirePlace, Cond.code yX0_requirePlace cX0_requirePlace 2 none, Cond.classLink RX0 162 "java/lang/IndexOutOfBoundsException", Cond.initialized "java/lang/IndexOutOfBoundsException", Cond.methodLink RX0 148 yX0_isPlace, Cond.instanceMethod yX0_isPlace, Cond.selects RX0 yX0_isPlace yX0_isPlace, Cond.code yX0_isPlace cX0_isPlace 2 (some .boolean), Cond.fieldLink RX0 53 "Stairflow" "placeCount" "I", Cond.methodLink RX0 60 yX0_isBetween, Cond.static yX0_isBetween, Cond.code yX0_isBetween cX0_isBetween 3 (some .boolean), Cond.methodLink RX0 64 yX0_requireArgument]
def wsL_come_r2 : List Cond := [Cond.static yX0_requireArgument, Cond.code yX0_requireArgument cX0_requireArgument 1 none, Cond.classLink RX0 171 "java/lang/IllegalArgumentException", Cond.initialized "java/lang/IllegalArgumentException", Cond.methodLink RX0 84 yX0_roomLeft, Cond.instanceMethod yX0_roomLeft, Cond.selects RX0 yX0_roomLeft yX0_roomLeft, Cond.code yX0_roomLeft cX0_roomLeft 2 (some .int), Cond.constant RX0 151 (1000000), Cond.fieldLink RX0 9 "Stairflow" "roomOf" "[I", Cond.methodLink RX0 68 yX0_requireState, Cond.static yX0_requireState, Cond.code yX0_requireState cX0_requireState 1 none, Cond.classLink RX0 176 "java/lang/IllegalStateException", Cond.initialized "java/lang/IllegalStateException"]
def wsL_come : List Cond := .codeWith yL_come cL_come 5 (some .int) [(0, 10, 13, 21), (0, 10, 17, 13), (0, 10, 21, 15)] :: ((wsL_come_r1 ++ wsL_come_r2) ++ wsX00 ++ (vx_atS RX0 166 "java/lang/IndexOutOfBoundsException" ["java/lang/RuntimeException", "java/lang/Exception"]).filter goodWord ++ (vx_atS RX0 175 "java/lang/IllegalArgumentException" ["java/lang/RuntimeException", "java/lang/Exception"]).filter goodWord ++ (vx_atS RX0 180 "java/lang/IllegalStateException" ["java/lang/RuntimeException", "java/lang/Exception"]).filter goodWord)
def wsL_setRelease_r1 : List Cond := [Cond.classLink RL 21 "java/lang/IndexOutOfBoundsException", Cond.classLink RL 13 "java/lang/IllegalArgumentException", Cond.methodLink RL 31 yX0_setRelease, Cond.instanceMethod yX0_setRelease, Cond.selects RX0 yX0_setRelease yX0_setRelease, Cond.initialized RX0, Cond.code yX0_setRelease cX0_setRelease 4 (some .int), Cond.fieldLink RX0 16 "Stairflow" "releaseOf" "[I", Cond.methodLink RX0 74 yX0_requirePlace, Cond.instanceMethod yX0_requirePlace, Cond.selects RX0 yX0_requirePlace yX0_requirePlace, Cond.code yX0_requirePlace cX0_requirePlace 2 none, Cond.classLink RX0 162 "java/lang/IndexOutOfBoundsException", Cond.initialized "java/lang/IndexOutOfBoundsException", Cond.methodLink RX0 148 yX0_isPlace, Cond.instanceMethod yX0_isPlace, Cond.selects RX0 yX0_isPlace yX0_isPlace, Cond.code yX0_isPlace cX0_isPlace 2 (some .boolean), Cond.fieldLink RX0 53 "Stairflow" "placeCount" "I", Cond.methodLink RX0 60 yX0_isBetween, Cond.static yX0_isBetween, Cond.code yX0_isBetween cX0_isBetween 3 (some .boolean), Cond.methodLink RX0 64 yX0_requireArgument, Cond.static yX0_requireArgument]
def wsL_setRelease_r2 : List Cond := [Cond.code yX0_requireArgument cX0_requireArgument 1 none, Cond.classLink RX0 171 "java/lang/IllegalArgumentException", Cond.initialized "java/lang/IllegalArgumentException"]
def wsL_setRelease : List Cond := .codeWith yL_setRelease cL_setRelease 5 (some .int) [(0, 10, 13, 21), (0, 10, 17, 13)] :: ((wsL_setRelease_r1 ++ wsL_setRelease_r2) ++ wsX00 ++ (vx_atS RX0 166 "java/lang/IndexOutOfBoundsException" ["java/lang/RuntimeException", "java/lang/Exception"]).filter goodWord ++ (vx_atS RX0 175 "java/lang/IllegalArgumentException" ["java/lang/RuntimeException", "java/lang/Exception"]).filter goodWord)
def wsL_step_r1 : List Cond := [Cond.classLink RL 13 "java/lang/IllegalArgumentException", Cond.methodLink RL 34 yX0_step, Cond.instanceMethod yX0_step, Cond.selects RX0 yX0_step yX0_step, Cond.initialized RX0, Cond.code yX0_step cX0_step 4 (some .int), Cond.fieldLink RX0 13 "Stairflow" "peopleAt" "[I", Cond.methodLink RX0 60 yX0_isBetween, Cond.static yX0_isBetween, Cond.code yX0_isBetween cX0_isBetween 3 (some .boolean), Cond.methodLink RX0 64 yX0_requireArgument, Cond.static yX0_requireArgument, Cond.code yX0_requireArgument cX0_requireArgument 1 none, Cond.classLink RX0 171 "java/lang/IllegalArgumentException", Cond.initialized "java/lang/IllegalArgumentException", Cond.methodLink RX0 88 yX0_passOneStep, Cond.instanceMethod yX0_passOneStep, Cond.selects RX0 yX0_passOneStep yX0_passOneStep, Cond.code yX0_passOneStep cX0_passOneStep 3 (some .int), Cond.fieldLink RX0 99 "Stairflow" "timeNow" "I", Cond.fieldLink RX0 57 "Stairflow" "latestTime" "I", Cond.fieldLink RX0 105 "Stairflow" "waitedSum" "I", Cond.methodLink RX0 112 yX0_grantAll, Cond.instanceMethod yX0_grantAll]
def wsL_step_r2 : List Cond := [Cond.selects RX0 yX0_grantAll yX0_grantAll, Cond.code yX0_grantAll cX0_grantAll 2 none, Cond.fieldLink RX0 78 "Stairflow" "doorCount" "I", Cond.fieldLink RX0 50 "Stairflow" "grantedTo" "[I", Cond.fieldLink RX0 53 "Stairflow" "placeCount" "I", Cond.methodLink RX0 136 yX0_grantAt, Cond.instanceMethod yX0_grantAt, Cond.selects RX0 yX0_grantAt yX0_grantAt, Cond.code yX0_grantAt cX0_grantAt 5 none, Cond.methodLink RX0 84 yX0_roomLeft, Cond.instanceMethod yX0_roomLeft, Cond.selects RX0 yX0_roomLeft yX0_roomLeft, Cond.code yX0_roomLeft cX0_roomLeft 2 (some .int), Cond.constant RX0 151 (1000000), Cond.fieldLink RX0 9 "Stairflow" "roomOf" "[I", Cond.methodLink RX0 139 yX0_grantRound, Cond.instanceMethod yX0_grantRound, Cond.selects RX0 yX0_grantRound yX0_grantRound, Cond.code yX0_grantRound cX0_grantRound 7 (some .int), Cond.fieldLink RX0 47 "Stairflow" "targetOf" "[I", Cond.fieldLink RX0 34 "Stairflow" "shareOf" "[I", Cond.methodLink RX0 145 Lib.Math.min.name, Cond.static Lib.Math.min.name, Cond.initialized "java/lang/Math"]
def wsL_step_r3 : List Cond := [Cond.code Lib.Math.min.name Lib.Math.min.code 2 (some .int), Cond.methodLink RX0 142 yX0_wishBy, Cond.instanceMethod yX0_wishBy, Cond.selects RX0 yX0_wishBy yX0_wishBy, Cond.code yX0_wishBy cX0_wishBy 3 (some .int), Cond.fieldLink RX0 44 "Stairflow" "sourceOf" "[I", Cond.fieldLink RX0 16 "Stairflow" "releaseOf" "[I", Cond.fieldLink RX0 31 "Stairflow" "flowOf" "[I", Cond.methodLink RX0 148 yX0_isPlace, Cond.instanceMethod yX0_isPlace, Cond.selects RX0 yX0_isPlace yX0_isPlace, Cond.code yX0_isPlace cX0_isPlace 2 (some .boolean), Cond.methodLink RX0 133 yX0_moveGranted, Cond.instanceMethod yX0_moveGranted, Cond.selects RX0 yX0_moveGranted yX0_moveGranted, Cond.code yX0_moveGranted cX0_moveGranted 5 (some .int), Cond.fieldLink RX0 41 "Stairflow" "passedBy" "[I", Cond.methodLink RX0 92 yX0_inside, Cond.instanceMethod yX0_inside, Cond.selects RX0 yX0_inside yX0_inside, Cond.code yX0_inside cX0_inside 3 (some .int)]
def wsL_step : List Cond := .codeWith yL_step cL_step 4 (some .int) [(0, 9, 12, 13)] :: ((wsL_step_r1 ++ (wsL_step_r2 ++ wsL_step_r3)) ++ wsX00 ++ (vx_atS RX0 175 "java/lang/IllegalArgumentException" ["java/lang/RuntimeException", "java/lang/Exception"]).filter goodWord)
def wsL_people : List Cond := .codeWith yL_people cL_people 4 (some .int) [(0, 9, 12, 21)] :: ([.classLink RL 21 "java/lang/IndexOutOfBoundsException", .methodLink RL 37 yX0_people, .instanceMethod yX0_people, .selects RX0 yX0_people yX0_people, .initialized RX0, .code yX0_people cX0_people 2 (some .int), .fieldLink RX0 13 "Stairflow" "peopleAt" "[I", .methodLink RX0 74 yX0_requirePlace, .instanceMethod yX0_requirePlace, .selects RX0 yX0_requirePlace yX0_requirePlace, .code yX0_requirePlace cX0_requirePlace 2 none, .classLink RX0 162 "java/lang/IndexOutOfBoundsException", .initialized "java/lang/IndexOutOfBoundsException", .methodLink RX0 148 yX0_isPlace, .instanceMethod yX0_isPlace, .selects RX0 yX0_isPlace yX0_isPlace, .code yX0_isPlace cX0_isPlace 2 (some .boolean), .fieldLink RX0 53 "Stairflow" "placeCount" "I"] ++ wsX00 ++ (vx_atS RX0 166 "java/lang/IndexOutOfBoundsException" ["java/lang/RuntimeException", "java/lang/Exception"]).filter goodWord)
def wsL_latest : List Cond := .codeWith yL_latest cL_latest 3 (some .int) [(0, 8, 11, 44)] :: ([.classLink RL 44 "java/util/NoSuchElementException", .methodLink RL 40 yX0_latest, .instanceMethod yX0_latest, .selects RX0 yX0_latest yX0_latest, .initialized RX0, .code yX0_latest cX0_latest 1 (some .int), .fieldLink RX0 57 "Stairflow" "latestTime" "I", .methodLink RX0 102 yX0_requireElement, .static yX0_requireElement, .code yX0_requireElement cX0_requireElement 1 none, .classLink RX0 181 "java/util/NoSuchElementException", .initialized "java/util/NoSuchElementException"] ++ wsX00 ++ (gNSat).filter goodWord)
def wsL_passed : List Cond := .codeWith yL_passed cL_passed 4 (some .int) [(0, 9, 12, 21)] :: ([.classLink RL 21 "java/lang/IndexOutOfBoundsException", .methodLink RL 46 yX0_passed, .instanceMethod yX0_passed, .selects RX0 yX0_passed yX0_passed, .initialized RX0, .code yX0_passed cX0_passed 2 (some .int), .fieldLink RX0 41 "Stairflow" "passedBy" "[I", .methodLink RX0 81 yX0_requireDoor, .instanceMethod yX0_requireDoor, .selects RX0 yX0_requireDoor yX0_requireDoor, .code yX0_requireDoor cX0_requireDoor 2 none, .classLink RX0 162 "java/lang/IndexOutOfBoundsException", .initialized "java/lang/IndexOutOfBoundsException", .methodLink RX0 108 yX0_isDoor, .instanceMethod yX0_isDoor, .selects RX0 yX0_isDoor yX0_isDoor, .code yX0_isDoor cX0_isDoor 2 (some .boolean), .fieldLink RX0 78 "Stairflow" "doorCount" "I"] ++ wsX00 ++ (vx_atS RX0 166 "java/lang/IndexOutOfBoundsException" ["java/lang/RuntimeException", "java/lang/Exception"]).filter goodWord)
def wsL_distance : List Cond := .codeWith yL_distance cL_distance 4 (some .int) [(0, 9, 12, 21), (0, 9, 15, 44)] :: ([.classLink RL 21 "java/lang/IndexOutOfBoundsException", .classLink RL 44 "java/util/NoSuchElementException", .methodLink RL 49 yX0_distance, .instanceMethod yX0_distance, .selects RX0 yX0_distance yX0_distance, .initialized RX0, .code yX0_distance cX0_distance 2 (some .int), .fieldLink RX0 19 "Stairflow" "distanceOf" "[I", .methodLink RX0 74 yX0_requirePlace, .instanceMethod yX0_requirePlace, .selects RX0 yX0_requirePlace yX0_requirePlace, .code yX0_requirePlace cX0_requirePlace 2 none, .classLink RX0 162 "java/lang/IndexOutOfBoundsException", .initialized "java/lang/IndexOutOfBoundsException", .methodLink RX0 148 yX0_isPlace, .instanceMethod yX0_isPlace, .selects RX0 yX0_isPlace yX0_isPlace, .code yX0_isPlace cX0_isPlace 2 (some .boolean), .fieldLink RX0 53 "Stairflow" "placeCount" "I", .methodLink RX0 102 yX0_requireElement, .static yX0_requireElement, .code yX0_requireElement cX0_requireElement 1 none, .classLink RX0 181 "java/util/NoSuchElementException", .initialized "java/util/NoSuchElementException"] ++ wsX00 ++ (vx_atS RX0 166 "java/lang/IndexOutOfBoundsException" ["java/lang/RuntimeException", "java/lang/Exception"]).filter goodWord ++ (gNSat).filter goodWord)
def wsL_door : List Cond := .codeWith yL_door cL_door 4 (some .int) [(0, 9, 12, 21), (0, 9, 15, 44)] :: ([.classLink RL 21 "java/lang/IndexOutOfBoundsException", .classLink RL 44 "java/util/NoSuchElementException", .methodLink RL 52 yX0_door, .instanceMethod yX0_door, .selects RX0 yX0_door yX0_door, .initialized RX0, .code yX0_door cX0_door 2 (some .int), .fieldLink RX0 22 "Stairflow" "doorOf" "[I", .methodLink RX0 74 yX0_requirePlace, .instanceMethod yX0_requirePlace, .selects RX0 yX0_requirePlace yX0_requirePlace, .code yX0_requirePlace cX0_requirePlace 2 none, .classLink RX0 162 "java/lang/IndexOutOfBoundsException", .initialized "java/lang/IndexOutOfBoundsException", .methodLink RX0 148 yX0_isPlace, .instanceMethod yX0_isPlace, .selects RX0 yX0_isPlace yX0_isPlace, .code yX0_isPlace cX0_isPlace 2 (some .boolean), .fieldLink RX0 53 "Stairflow" "placeCount" "I", .methodLink RX0 102 yX0_requireElement, .static yX0_requireElement, .code yX0_requireElement cX0_requireElement 1 none, .classLink RX0 181 "java/util/NoSuchElementException", .initialized "java/util/NoSuchElementException"] ++ wsX00 ++ (vx_atS RX0 166 "java/lang/IndexOutOfBoundsException" ["java/lang/RuntimeException", "java/lang/Exception"]).filter goodWord ++ (gNSat).filter goodWord)
def wsL_wouldMove_r1 : List Cond := [Cond.classLink RL 21 "java/lang/IndexOutOfBoundsException", Cond.methodLink RL 55 yX0_wouldMove, Cond.instanceMethod yX0_wouldMove, Cond.selects RX0 yX0_wouldMove yX0_wouldMove, Cond.initialized RX0, Cond.code yX0_wouldMove cX0_wouldMove 3 (some .int), Cond.fieldLink RX0 22 "Stairflow" "doorOf" "[I", Cond.fieldLink RX0 50 "Stairflow" "grantedTo" "[I", Cond.methodLink RX0 74 yX0_requirePlace, Cond.instanceMethod yX0_requirePlace, Cond.selects RX0 yX0_requirePlace yX0_requirePlace, Cond.code yX0_requirePlace cX0_requirePlace 2 none, Cond.classLink RX0 162 "java/lang/IndexOutOfBoundsException", Cond.initialized "java/lang/IndexOutOfBoundsException", Cond.methodLink RX0 148 yX0_isPlace, Cond.instanceMethod yX0_isPlace, Cond.selects RX0 yX0_isPlace yX0_isPlace, Cond.code yX0_isPlace cX0_isPlace 2 (some .boolean), Cond.fieldLink RX0 53 "Stairflow" "placeCount" "I", Cond.methodLink RX0 108 yX0_isDoor, Cond.instanceMethod yX0_isDoor, Cond.selects RX0 yX0_isDoor yX0_isDoor, Cond.code yX0_isDoor cX0_isDoor 2 (some .boolean), Cond.fieldLink RX0 78 "Stairflow" "doorCount" "I"]
def wsL_wouldMove_r2 : List Cond := [Cond.methodLink RX0 112 yX0_grantAll, Cond.instanceMethod yX0_grantAll, Cond.selects RX0 yX0_grantAll yX0_grantAll, Cond.code yX0_grantAll cX0_grantAll 2 none, Cond.methodLink RX0 136 yX0_grantAt, Cond.instanceMethod yX0_grantAt, Cond.selects RX0 yX0_grantAt yX0_grantAt, Cond.code yX0_grantAt cX0_grantAt 5 none, Cond.methodLink RX0 84 yX0_roomLeft, Cond.instanceMethod yX0_roomLeft, Cond.selects RX0 yX0_roomLeft yX0_roomLeft, Cond.code yX0_roomLeft cX0_roomLeft 2 (some .int), Cond.constant RX0 151 (1000000), Cond.fieldLink RX0 9 "Stairflow" "roomOf" "[I", Cond.fieldLink RX0 13 "Stairflow" "peopleAt" "[I", Cond.methodLink RX0 139 yX0_grantRound, Cond.instanceMethod yX0_grantRound, Cond.selects RX0 yX0_grantRound yX0_grantRound, Cond.code yX0_grantRound cX0_grantRound 7 (some .int), Cond.fieldLink RX0 47 "Stairflow" "targetOf" "[I", Cond.fieldLink RX0 34 "Stairflow" "shareOf" "[I", Cond.methodLink RX0 145 Lib.Math.min.name, Cond.static Lib.Math.min.name, Cond.initialized "java/lang/Math"]
def wsL_wouldMove_r3 : List Cond := [Cond.code Lib.Math.min.name Lib.Math.min.code 2 (some .int), Cond.methodLink RX0 142 yX0_wishBy, Cond.instanceMethod yX0_wishBy, Cond.selects RX0 yX0_wishBy yX0_wishBy, Cond.code yX0_wishBy cX0_wishBy 3 (some .int), Cond.fieldLink RX0 44 "Stairflow" "sourceOf" "[I", Cond.fieldLink RX0 16 "Stairflow" "releaseOf" "[I", Cond.fieldLink RX0 99 "Stairflow" "timeNow" "I", Cond.fieldLink RX0 31 "Stairflow" "flowOf" "[I"]
def wsL_wouldMove : List Cond := .codeWith yL_wouldMove cL_wouldMove 4 (some .int) [(0, 9, 12, 21)] :: ((wsL_wouldMove_r1 ++ (wsL_wouldMove_r2 ++ wsL_wouldMove_r3)) ++ wsX00 ++ (vx_atS RX0 166 "java/lang/IndexOutOfBoundsException" ["java/lang/RuntimeException", "java/lang/Exception"]).filter goodWord)
def wsL_bound_r1 : List Cond := [Cond.classLink RL 15 "java/lang/IllegalStateException", Cond.methodLink RL 58 yX0_bound, Cond.instanceMethod yX0_bound, Cond.selects RX0 yX0_bound yX0_bound, Cond.initialized RX0, Cond.code yX0_bound cX0_bound 3 (some .int), Cond.fieldLink RX0 53 "Stairflow" "placeCount" "I", Cond.methodLink RX0 121 Lib.Math.max.name, Cond.static Lib.Math.max.name, Cond.initialized "java/lang/Math", Cond.code Lib.Math.max.name Lib.Math.max.code 2 (some .int), Cond.methodLink RX0 115 yX0_trapped, Cond.instanceMethod yX0_trapped, Cond.selects RX0 yX0_trapped yX0_trapped, Cond.code yX0_trapped cX0_trapped 3 (some .int), Cond.fieldLink RX0 19 "Stairflow" "distanceOf" "[I", Cond.fieldLink RX0 13 "Stairflow" "peopleAt" "[I", Cond.methodLink RX0 68 yX0_requireState, Cond.static yX0_requireState, Cond.code yX0_requireState cX0_requireState 1 none, Cond.classLink RX0 176 "java/lang/IllegalStateException", Cond.initialized "java/lang/IllegalStateException", Cond.methodLink RX0 118 yX0_boundAt, Cond.instanceMethod yX0_boundAt]
def wsL_bound_r2 : List Cond := [Cond.selects RX0 yX0_boundAt yX0_boundAt, Cond.code yX0_boundAt cX0_boundAt 4 (some .int), Cond.methodLink RX0 127 yX0_peopleFrom, Cond.instanceMethod yX0_peopleFrom, Cond.selects RX0 yX0_peopleFrom yX0_peopleFrom, Cond.code yX0_peopleFrom cX0_peopleFrom 4 (some .int), Cond.methodLink RX0 130 yX0_flowInward, Cond.instanceMethod yX0_flowInward, Cond.selects RX0 yX0_flowInward yX0_flowInward, Cond.code yX0_flowInward cX0_flowInward 7 (some .int), Cond.fieldLink RX0 78 "Stairflow" "doorCount" "I", Cond.fieldLink RX0 25 "Stairflow" "oneEnd" "[I", Cond.fieldLink RX0 28 "Stairflow" "otherEnd" "[I", Cond.fieldLink RX0 37 "Stairflow" "isOpen" "[Z", Cond.fieldLink RX0 31 "Stairflow" "flowOf" "[I"]
def wsL_bound : List Cond := .codeWith yL_bound cL_bound 3 (some .int) [(0, 8, 11, 15)] :: ((wsL_bound_r1 ++ wsL_bound_r2) ++ wsX00 ++ (vx_atS RX0 180 "java/lang/IllegalStateException" ["java/lang/RuntimeException", "java/lang/Exception"]).filter goodWord)
def wsL_law0_r1 : List Cond := [Cond.classLink RL 8 RX0, Cond.instantiable RX0 19, Cond.initialized RX0, Cond.classLink RL 62 RX1, Cond.instantiable RX1 19, Cond.initialized RX1, Cond.arrayClass .long, Cond.methodLink RL 61 yX0_init, Cond.instanceMethod yX0_init, Cond.code yX0_init cX0_init 1 none, Cond.methodLink RX0 1 objectInit, Cond.instanceMethod objectInit, Cond.code objectInit ⟨#[0xb1]⟩ 1 none, Cond.arrayClass .int, Cond.fieldLink RX0 9 "Stairflow" "roomOf" "[I", Cond.fieldLink RX0 13 "Stairflow" "peopleAt" "[I", Cond.fieldLink RX0 16 "Stairflow" "releaseOf" "[I", Cond.fieldLink RX0 19 "Stairflow" "distanceOf" "[I", Cond.fieldLink RX0 22 "Stairflow" "doorOf" "[I", Cond.fieldLink RX0 25 "Stairflow" "oneEnd" "[I", Cond.fieldLink RX0 28 "Stairflow" "otherEnd" "[I", Cond.fieldLink RX0 31 "Stairflow" "flowOf" "[I", Cond.fieldLink RX0 34 "Stairflow" "shareOf" "[I", Cond.arrayClass .boolean]
def wsL_law0_r2 : List Cond := [Cond.fieldLink RX0 37 "Stairflow" "isOpen" "[Z", Cond.fieldLink RX0 41 "Stairflow" "passedBy" "[I", Cond.fieldLink RX0 44 "Stairflow" "sourceOf" "[I", Cond.fieldLink RX0 47 "Stairflow" "targetOf" "[I", Cond.fieldLink RX0 50 "Stairflow" "grantedTo" "[I", Cond.fieldLink RX0 53 "Stairflow" "placeCount" "I", Cond.fieldLink RX0 57 "Stairflow" "latestTime" "I", Cond.methodLink RL 64 yX1_init, Cond.instanceMethod yX1_init, Cond.code yX1_init cX1_init 1 none, Cond.methodLink RX1 1 objectInit, Cond.fieldLink RX1 7 "StairflowModel" "places" "I", Cond.fieldLink RX1 13 "StairflowModel" "rooms" "[I", Cond.fieldLink RX1 17 "StairflowModel" "people" "[I", Cond.fieldLink RX1 20 "StairflowModel" "releases" "[I", Cond.fieldLink RX1 23 "StairflowModel" "ones" "[I", Cond.fieldLink RX1 26 "StairflowModel" "others" "[I", Cond.fieldLink RX1 29 "StairflowModel" "flows" "[I", Cond.fieldLink RX1 32 "StairflowModel" "shares" "[I", Cond.fieldLink RX1 35 "StairflowModel" "isOpen" "[Z", Cond.fieldLink RX1 39 "StairflowModel" "passed" "[I", Cond.fieldLink RX1 42 "StairflowModel" "lastOut" "I", Cond.fieldLink RX1 45 "StairflowModel" "far" "[I", Cond.fieldLink RX1 48 "StairflowModel" "wishes" "[I"]
def wsL_law0_r3 : List Cond := [Cond.fieldLink RX1 51 "StairflowModel" "grants" "[I", Cond.fieldLink RX1 54 "StairflowModel" "goals" "[I", Cond.methodLink RL 65 yL_addPlace, Cond.static yL_addPlace, Cond.initialized RL, Cond.codeWith yL_addPlace cL_addPlace 4 (some .int) [(0, 9, 12, 13), (0, 9, 15, 15)], Cond.classLink RL 13 "java/lang/IllegalArgumentException", Cond.classLink RL 15 "java/lang/IllegalStateException", Cond.methodLink RL 7 yX0_addPlace, Cond.instanceMethod yX0_addPlace, Cond.selects RX0 yX0_addPlace yX0_addPlace, Cond.code yX0_addPlace cX0_addPlace 3 (some .int), Cond.methodLink RX0 60 yX0_isBetween, Cond.static yX0_isBetween, Cond.code yX0_isBetween cX0_isBetween 3 (some .boolean), Cond.methodLink RX0 64 yX0_requireArgument, Cond.static yX0_requireArgument, Cond.code yX0_requireArgument cX0_requireArgument 1 none, Cond.classLink RX0 171 "java/lang/IllegalArgumentException", Cond.initialized "java/lang/IllegalArgumentException", Cond.methodLink RX0 68 yX0_requireState, Cond.static yX0_requireState, Cond.code yX0_requireState cX0_requireState 1 none, Cond.classLink RX0 176 "java/lang/IllegalStateException"]
def wsL_law0_r4 : List Cond := [Cond.initialized "java/lang/IllegalStateException", Cond.methodLink RX0 71 yX0_findWays, Cond.instanceMethod yX0_findWays, Cond.selects RX0 yX0_findWays yX0_findWays, Cond.code yX0_findWays cX0_findWays 2 none, Cond.fieldLink RX0 78 "Stairflow" "doorCount" "I", Cond.methodLink RX0 152 yX0_measureDistances, Cond.instanceMethod yX0_measureDistances, Cond.selects RX0 yX0_measureDistances yX0_measureDistances, Cond.code yX0_measureDistances cX0_measureDistances 3 none, Cond.methodLink RX0 159 yX0_reach, Cond.instanceMethod yX0_reach, Cond.selects RX0 yX0_reach yX0_reach, Cond.code yX0_reach cX0_reach 4 none, Cond.methodLink RX0 155 yX0_offerDoor, Cond.instanceMethod yX0_offerDoor, Cond.selects RX0 yX0_offerDoor yX0_offerDoor, Cond.code yX0_offerDoor cX0_offerDoor 5 none, Cond.methodLink RL 70 yX1_addPlace, Cond.instanceMethod yX1_addPlace, Cond.selects RX1 yX1_addPlace yX1_addPlace, Cond.code yX1_addPlace cX1_addPlace 2 (some .int), Cond.methodLink RX1 60 yX1_in, Cond.static yX1_in]
def wsL_law0_r5 : List Cond := [Cond.code yX1_in cX1_in 3 (some .boolean), Cond.methodLink RX1 67 yX1_goesWell, Cond.instanceMethod yX1_goesWell, Cond.selects RX1 yX1_goesWell yX1_goesWell, Cond.code yX1_goesWell cX1_goesWell 2 (some .boolean), Cond.fieldLink RX1 57 "StairflowModel" "thrown" "I", Cond.methodLink RL 71 yX1_thrown, Cond.instanceMethod yX1_thrown, Cond.selects RX1 yX1_thrown yX1_thrown, Cond.code yX1_thrown cX1_thrown 1 (some .int), Cond.methodLink RL 74 yL_addDoor, Cond.static yL_addDoor, Cond.codeWith yL_addDoor cL_addDoor 7 (some .int) [(0, 14, 17, 21), (0, 14, 21, 13), (0, 14, 25, 15)], Cond.classLink RL 21 "java/lang/IndexOutOfBoundsException", Cond.methodLink RL 17 yX0_addDoor, Cond.instanceMethod yX0_addDoor, Cond.selects RX0 yX0_addDoor yX0_addDoor, Cond.code yX0_addDoor cX0_addDoor 6 (some .int), Cond.methodLink RX0 74 yX0_requirePlace, Cond.instanceMethod yX0_requirePlace, Cond.selects RX0 yX0_requirePlace yX0_requirePlace, Cond.code yX0_requirePlace cX0_requirePlace 2 none, Cond.classLink RX0 162 "java/lang/IndexOutOfBoundsException", Cond.initialized "java/lang/IndexOutOfBoundsException"]
def wsL_law0_r6 : List Cond := [Cond.methodLink RX0 148 yX0_isPlace, Cond.instanceMethod yX0_isPlace, Cond.selects RX0 yX0_isPlace yX0_isPlace, Cond.code yX0_isPlace cX0_isPlace 2 (some .boolean), Cond.methodLink RL 77 yX1_addDoor, Cond.instanceMethod yX1_addDoor, Cond.selects RX1 yX1_addDoor yX1_addDoor, Cond.code yX1_addDoor cX1_addDoor 6 (some .int), Cond.fieldLink RX1 64 "StairflowModel" "doors" "I", Cond.methodLink RX1 71 yX1_isPlace, Cond.instanceMethod yX1_isPlace, Cond.selects RX1 yX1_isPlace yX1_isPlace, Cond.code yX1_isPlace cX1_isPlace 2 (some .boolean), Cond.methodLink RL 78 yL_setDoor, Cond.static yL_setDoor, Cond.codeWith yL_setDoor cL_setDoor 5 (some .int) [(0, 17, 20, 21)], Cond.methodLink RL 23 yX0_setDoor, Cond.instanceMethod yX0_setDoor, Cond.selects RX0 yX0_setDoor yX0_setDoor, Cond.code yX0_setDoor cX0_setDoor 4 (some .boolean), Cond.methodLink RX0 81 yX0_requireDoor, Cond.instanceMethod yX0_requireDoor, Cond.selects RX0 yX0_requireDoor yX0_requireDoor, Cond.code yX0_requireDoor cX0_requireDoor 2 none]
def wsL_law0_r7 : List Cond := [Cond.methodLink RX0 108 yX0_isDoor, Cond.instanceMethod yX0_isDoor, Cond.selects RX0 yX0_isDoor yX0_isDoor, Cond.code yX0_isDoor cX0_isDoor 2 (some .boolean), Cond.methodLink RL 81 yX1_setDoor, Cond.instanceMethod yX1_setDoor, Cond.selects RX1 yX1_setDoor yX1_setDoor, Cond.code yX1_setDoor cX1_setDoor 4 (some .boolean), Cond.methodLink RX1 74 yX1_isDoor, Cond.instanceMethod yX1_isDoor, Cond.selects RX1 yX1_isDoor yX1_isDoor, Cond.code yX1_isDoor cX1_isDoor 2 (some .boolean), Cond.methodLink RL 82 yL_come, Cond.static yL_come, Cond.codeWith yL_come cL_come 5 (some .int) [(0, 10, 13, 21), (0, 10, 17, 13), (0, 10, 21, 15)], Cond.methodLink RL 27 yX0_come, Cond.instanceMethod yX0_come, Cond.selects RX0 yX0_come yX0_come, Cond.code yX0_come cX0_come 3 (some .int), Cond.methodLink RX0 84 yX0_roomLeft, Cond.instanceMethod yX0_roomLeft, Cond.selects RX0 yX0_roomLeft yX0_roomLeft, Cond.code yX0_roomLeft cX0_roomLeft 2 (some .int), Cond.constant RX0 151 (1000000)]
def wsL_law0_r8 : List Cond := [Cond.methodLink RL 85 yX1_come, Cond.instanceMethod yX1_come, Cond.selects RX1 yX1_come yX1_come, Cond.code yX1_come cX1_come 5 (some .int), Cond.methodLink RL 86 yL_setRelease, Cond.static yL_setRelease, Cond.codeWith yL_setRelease cL_setRelease 5 (some .int) [(0, 10, 13, 21), (0, 10, 17, 13)], Cond.methodLink RL 31 yX0_setRelease, Cond.instanceMethod yX0_setRelease, Cond.selects RX0 yX0_setRelease yX0_setRelease, Cond.code yX0_setRelease cX0_setRelease 4 (some .int), Cond.methodLink RL 88 yX1_setRelease, Cond.instanceMethod yX1_setRelease, Cond.selects RX1 yX1_setRelease yX1_setRelease, Cond.code yX1_setRelease cX1_setRelease 4 (some .int), Cond.methodLink RL 89 yX0_places, Cond.instanceMethod yX0_places, Cond.selects RX0 yX0_places yX0_places, Cond.code yX0_places cX0_places 1 (some .int), Cond.methodLink RL 92 yX1_places, Cond.instanceMethod yX1_places, Cond.selects RX1 yX1_places yX1_places, Cond.code yX1_places cX1_places 1 (some .int), Cond.methodLink RL 93 yX0_doors]
def wsL_law0_r9 : List Cond := [Cond.instanceMethod yX0_doors, Cond.selects RX0 yX0_doors yX0_doors, Cond.code yX0_doors cX0_doors 1 (some .int), Cond.methodLink RL 96 yX1_doors, Cond.instanceMethod yX1_doors, Cond.selects RX1 yX1_doors yX1_doors, Cond.code yX1_doors cX1_doors 1 (some .int), Cond.methodLink RL 97 yL_step, Cond.static yL_step, Cond.codeWith yL_step cL_step 4 (some .int) [(0, 9, 12, 13)], Cond.methodLink RL 34 yX0_step, Cond.instanceMethod yX0_step, Cond.selects RX0 yX0_step yX0_step, Cond.code yX0_step cX0_step 4 (some .int), Cond.methodLink RX0 88 yX0_passOneStep, Cond.instanceMethod yX0_passOneStep, Cond.selects RX0 yX0_passOneStep yX0_passOneStep, Cond.code yX0_passOneStep cX0_passOneStep 3 (some .int), Cond.fieldLink RX0 99 "Stairflow" "timeNow" "I", Cond.fieldLink RX0 105 "Stairflow" "waitedSum" "I", Cond.methodLink RX0 112 yX0_grantAll, Cond.instanceMethod yX0_grantAll, Cond.selects RX0 yX0_grantAll yX0_grantAll, Cond.code yX0_grantAll cX0_grantAll 2 none]
def wsL_law0_r10 : List Cond := [Cond.methodLink RX0 136 yX0_grantAt, Cond.instanceMethod yX0_grantAt, Cond.selects RX0 yX0_grantAt yX0_grantAt, Cond.code yX0_grantAt cX0_grantAt 5 none, Cond.methodLink RX0 139 yX0_grantRound, Cond.instanceMethod yX0_grantRound, Cond.selects RX0 yX0_grantRound yX0_grantRound, Cond.code yX0_grantRound cX0_grantRound 7 (some .int), Cond.methodLink RX0 145 Lib.Math.min.name, Cond.static Lib.Math.min.name, Cond.initialized "java/lang/Math", Cond.code Lib.Math.min.name Lib.Math.min.code 2 (some .int), Cond.methodLink RX0 142 yX0_wishBy, Cond.instanceMethod yX0_wishBy, Cond.selects RX0 yX0_wishBy yX0_wishBy, Cond.code yX0_wishBy cX0_wishBy 3 (some .int), Cond.methodLink RX0 133 yX0_moveGranted, Cond.instanceMethod yX0_moveGranted, Cond.selects RX0 yX0_moveGranted yX0_moveGranted, Cond.code yX0_moveGranted cX0_moveGranted 5 (some .int), Cond.methodLink RX0 92 yX0_inside, Cond.instanceMethod yX0_inside, Cond.selects RX0 yX0_inside yX0_inside, Cond.code yX0_inside cX0_inside 3 (some .int)]
def wsL_law0_r11 : List Cond := [Cond.methodLink RL 99 yX1_step, Cond.instanceMethod yX1_step, Cond.selects RX1 yX1_step yX1_step, Cond.code yX1_step cX1_step 5 (some .int), Cond.methodLink RX1 112 yX1_go, Cond.instanceMethod yX1_go, Cond.selects RX1 yX1_go yX1_go, Cond.code yX1_go cX1_go 3 (some .int), Cond.fieldLink RX1 92 "StairflowModel" "time" "I", Cond.fieldLink RX1 105 "StairflowModel" "waited" "I", Cond.methodLink RX1 102 yX1_decide, Cond.instanceMethod yX1_decide, Cond.selects RX1 yX1_decide yX1_decide, Cond.code yX1_decide cX1_decide 2 none, Cond.methodLink RX1 95 yX1_wish, Cond.instanceMethod yX1_wish, Cond.selects RX1 yX1_wish yX1_wish, Cond.code yX1_wish cX1_wish 3 none, Cond.methodLink RX1 85 yX1_measure, Cond.instanceMethod yX1_measure, Cond.selects RX1 yX1_measure yX1_measure, Cond.code yX1_measure cX1_measure 3 none, Cond.methodLink RX1 77 yX1_reach, Cond.instanceMethod yX1_reach]
def wsL_law0_r12 : List Cond := [Cond.selects RX1 yX1_reach yX1_reach, Cond.code yX1_reach cX1_reach 5 none, Cond.methodLink RX1 88 yX1_doorOf, Cond.instanceMethod yX1_doorOf, Cond.selects RX1 yX1_doorOf yX1_doorOf, Cond.code yX1_doorOf cX1_doorOf 4 (some .int), Cond.methodLink RX1 81 yX1_beyond, Cond.instanceMethod yX1_beyond, Cond.selects RX1 yX1_beyond yX1_beyond, Cond.code yX1_beyond cX1_beyond 3 (some .int), Cond.methodLink RX1 98 yX1_grant, Cond.instanceMethod yX1_grant, Cond.selects RX1 yX1_grant yX1_grant, Cond.code yX1_grant cX1_grant 7 none, Cond.methodLink RX1 108 yX1_insideNow, Cond.instanceMethod yX1_insideNow, Cond.selects RX1 yX1_insideNow yX1_insideNow, Cond.code yX1_insideNow cX1_insideNow 3 (some .int), Cond.methodLink RL 100 yX0_clear, Cond.instanceMethod yX0_clear, Cond.selects RX0 yX0_clear yX0_clear, Cond.code yX0_clear cX0_clear 5 (some .int), Cond.methodLink RX0 95 yX0_areAllReleased, Cond.instanceMethod yX0_areAllReleased]
def wsL_law0_r13 : List Cond := [Cond.selects RX0 yX0_areAllReleased yX0_areAllReleased, Cond.code yX0_areAllReleased cX0_areAllReleased 2 (some .boolean), Cond.methodLink RL 103 yX1_clear, Cond.instanceMethod yX1_clear, Cond.selects RX1 yX1_clear yX1_clear, Cond.code yX1_clear cX1_clear 5 (some .int), Cond.methodLink RL 104 yX0_now, Cond.instanceMethod yX0_now, Cond.selects RX0 yX0_now yX0_now, Cond.code yX0_now cX0_now 1 (some .int), Cond.methodLink RL 107 yX1_now, Cond.instanceMethod yX1_now, Cond.selects RX1 yX1_now yX1_now, Cond.code yX1_now cX1_now 1 (some .int), Cond.methodLink RL 108 yL_people, Cond.static yL_people, Cond.codeWith yL_people cL_people 4 (some .int) [(0, 9, 12, 21)], Cond.methodLink RL 37 yX0_people, Cond.instanceMethod yX0_people, Cond.selects RX0 yX0_people yX0_people, Cond.code yX0_people cX0_people 2 (some .int), Cond.methodLink RL 110 yX1_people, Cond.instanceMethod yX1_people, Cond.selects RX1 yX1_people yX1_people]
def wsL_law0_r14 : List Cond := [Cond.code yX1_people cX1_people 2 (some .int), Cond.methodLink RL 111 yX0_inside, Cond.methodLink RL 114 yX1_inside, Cond.instanceMethod yX1_inside, Cond.selects RX1 yX1_inside yX1_inside, Cond.code yX1_inside cX1_inside 1 (some .int), Cond.methodLink RL 115 yL_latest, Cond.static yL_latest, Cond.codeWith yL_latest cL_latest 3 (some .int) [(0, 8, 11, 44)], Cond.classLink RL 44 "java/util/NoSuchElementException", Cond.methodLink RL 40 yX0_latest, Cond.instanceMethod yX0_latest, Cond.selects RX0 yX0_latest yX0_latest, Cond.code yX0_latest cX0_latest 1 (some .int), Cond.methodLink RX0 102 yX0_requireElement, Cond.static yX0_requireElement, Cond.code yX0_requireElement cX0_requireElement 1 none, Cond.classLink RX0 181 "java/util/NoSuchElementException", Cond.initialized "java/util/NoSuchElementException", Cond.methodLink RL 118 yX1_latest, Cond.instanceMethod yX1_latest, Cond.selects RX1 yX1_latest yX1_latest, Cond.code yX1_latest cX1_latest 1 (some .int), Cond.methodLink RL 119 yL_passed]
def wsL_law0_r15 : List Cond := [Cond.static yL_passed, Cond.codeWith yL_passed cL_passed 4 (some .int) [(0, 9, 12, 21)], Cond.methodLink RL 46 yX0_passed, Cond.instanceMethod yX0_passed, Cond.selects RX0 yX0_passed yX0_passed, Cond.code yX0_passed cX0_passed 2 (some .int), Cond.methodLink RL 121 yX1_passed, Cond.instanceMethod yX1_passed, Cond.selects RX1 yX1_passed yX1_passed, Cond.code yX1_passed cX1_passed 2 (some .int), Cond.methodLink RL 122 yX0_waited, Cond.instanceMethod yX0_waited, Cond.selects RX0 yX0_waited yX0_waited, Cond.code yX0_waited cX0_waited 1 (some .int), Cond.methodLink RL 125 yX1_waited, Cond.instanceMethod yX1_waited, Cond.selects RX1 yX1_waited yX1_waited, Cond.code yX1_waited cX1_waited 1 (some .int), Cond.methodLink RL 126 yL_distance, Cond.static yL_distance, Cond.codeWith yL_distance cL_distance 4 (some .int) [(0, 9, 12, 21), (0, 9, 15, 44)], Cond.methodLink RL 49 yX0_distance, Cond.instanceMethod yX0_distance, Cond.selects RX0 yX0_distance yX0_distance]
def wsL_law0_r16 : List Cond := [Cond.code yX0_distance cX0_distance 2 (some .int), Cond.methodLink RL 128 yX1_distance, Cond.instanceMethod yX1_distance, Cond.selects RX1 yX1_distance yX1_distance, Cond.code yX1_distance cX1_distance 2 (some .int), Cond.methodLink RL 129 yL_door, Cond.static yL_door, Cond.codeWith yL_door cL_door 4 (some .int) [(0, 9, 12, 21), (0, 9, 15, 44)], Cond.methodLink RL 52 yX0_door, Cond.instanceMethod yX0_door, Cond.selects RX0 yX0_door yX0_door, Cond.code yX0_door cX0_door 2 (some .int), Cond.methodLink RL 131 yX1_door, Cond.instanceMethod yX1_door, Cond.selects RX1 yX1_door yX1_door, Cond.code yX1_door cX1_door 3 (some .int), Cond.methodLink RL 132 yX0_trapped, Cond.instanceMethod yX0_trapped, Cond.selects RX0 yX0_trapped yX0_trapped, Cond.code yX0_trapped cX0_trapped 3 (some .int), Cond.methodLink RL 135 yX1_trapped, Cond.instanceMethod yX1_trapped, Cond.selects RX1 yX1_trapped yX1_trapped, Cond.code yX1_trapped cX1_trapped 1 (some .int)]
def wsL_law0_r17 : List Cond := [Cond.methodLink RX1 115 yX1_trappedNow, Cond.instanceMethod yX1_trappedNow, Cond.selects RX1 yX1_trappedNow yX1_trappedNow, Cond.code yX1_trappedNow cX1_trappedNow 3 (some .int), Cond.methodLink RL 136 yL_wouldMove, Cond.static yL_wouldMove, Cond.codeWith yL_wouldMove cL_wouldMove 4 (some .int) [(0, 9, 12, 21)], Cond.methodLink RL 55 yX0_wouldMove, Cond.instanceMethod yX0_wouldMove, Cond.selects RX0 yX0_wouldMove yX0_wouldMove, Cond.code yX0_wouldMove cX0_wouldMove 3 (some .int), Cond.methodLink RL 138 yX1_wouldMove, Cond.instanceMethod yX1_wouldMove, Cond.selects RX1 yX1_wouldMove yX1_wouldMove, Cond.code yX1_wouldMove cX1_wouldMove 3 (some .int), Cond.methodLink RL 139 yL_bound, Cond.static yL_bound, Cond.codeWith yL_bound cL_bound 3 (some .int) [(0, 8, 11, 15)], Cond.methodLink RL 58 yX0_bound, Cond.instanceMethod yX0_bound, Cond.selects RX0 yX0_bound yX0_bound, Cond.code yX0_bound cX0_bound 3 (some .int), Cond.methodLink RX0 121 Lib.Math.max.name, Cond.static Lib.Math.max.name]
def wsL_law0_r18 : List Cond := [Cond.code Lib.Math.max.name Lib.Math.max.code 2 (some .int), Cond.methodLink RX0 115 yX0_trapped, Cond.methodLink RX0 118 yX0_boundAt, Cond.instanceMethod yX0_boundAt, Cond.selects RX0 yX0_boundAt yX0_boundAt, Cond.code yX0_boundAt cX0_boundAt 4 (some .int), Cond.methodLink RX0 127 yX0_peopleFrom, Cond.instanceMethod yX0_peopleFrom, Cond.selects RX0 yX0_peopleFrom yX0_peopleFrom, Cond.code yX0_peopleFrom cX0_peopleFrom 4 (some .int), Cond.methodLink RX0 130 yX0_flowInward, Cond.instanceMethod yX0_flowInward, Cond.selects RX0 yX0_flowInward yX0_flowInward, Cond.code yX0_flowInward cX0_flowInward 7 (some .int), Cond.methodLink RL 141 yX1_bound, Cond.instanceMethod yX1_bound, Cond.selects RX1 yX1_bound yX1_bound, Cond.code yX1_bound cX1_bound 8 (some .int)]
def wsL_law0 : List Cond := (wsL_law0_r1 ++ (wsL_law0_r2 ++ (wsL_law0_r3 ++ (wsL_law0_r4 ++ (wsL_law0_r5 ++ (wsL_law0_r6 ++ (wsL_law0_r7 ++ (wsL_law0_r8 ++ (wsL_law0_r9 ++ (wsL_law0_r10 ++ (wsL_law0_r11 ++ (wsL_law0_r12 ++ (wsL_law0_r13 ++ (wsL_law0_r14 ++ (wsL_law0_r15 ++ (wsL_law0_r16 ++ (wsL_law0_r17 ++ wsL_law0_r18))))))))))))))))) ++ wsX00 ++ wsX10 ++ ([] : List Cond)
def wsL_law : List Cond := wsL_law0 ++ (vx_atS RX0 175 "java/lang/IllegalArgumentException" ["java/lang/RuntimeException", "java/lang/Exception"]).filter goodWord ++ (vx_atS RX0 180 "java/lang/IllegalStateException" ["java/lang/RuntimeException", "java/lang/Exception"]).filter goodWord ++ (vx_atS RX0 166 "java/lang/IndexOutOfBoundsException" ["java/lang/RuntimeException", "java/lang/Exception"]).filter goodWord ++ (gNSat).filter goodWord
theorem inJx145de : ∀ w ∈ wsJx145de0, w ∈ lw_tbl := by decide +kernel
theorem inJ9 : ∀ w ∈ wsJ90, w ∈ lw_tbl := by decide +kernel
theorem inJ0 : ∀ w ∈ wsJ00, w ∈ lw_tbl := by decide +kernel
set_option maxRecDepth 20000 in
theorem ggX0_addPlace_X0_isBetween : GoodIn wsX0_addPlace wsX0_isBetween := goodIn_r _ [6] (by decide +kernel) (by decide +kernel)
set_option maxRecDepth 20000 in
theorem gX0_addPlace_X0_isBetween : GoodIn wsX0_addPlace (va_wsS RX0 60 yX0_isBetween wsX0_isBetween) := goodIn_app (goodIn_of _ (by decide +kernel)) ggX0_addPlace_X0_isBetween
set_option maxRecDepth 20000 in
theorem ggX0_addPlace_X0_requireArgument : GoodIn wsX0_addPlace wsX0_requireArgument := goodIn_ca (goodIn_r _ [9, 10, 11] (by decide +kernel) (by decide +kernel)) (goodIn_sub (fun _ h => List.mem_cons_of_mem _ (List.mem_append_left _ (List.mem_append_right _ h))) (by decide +kernel))
set_option maxRecDepth 20000 in
theorem gX0_addPlace_X0_requireArgument : GoodIn wsX0_addPlace (va_wsS RX0 64 yX0_requireArgument wsX0_requireArgument) := goodIn_app (goodIn_of _ (by decide +kernel)) ggX0_addPlace_X0_requireArgument
set_option maxRecDepth 20000 in
theorem ggX0_addPlace_X0_requireState : GoodIn wsX0_addPlace wsX0_requireState := goodIn_ca (goodIn_r _ [14, 15, 16] (by decide +kernel) (by decide +kernel)) (goodIn_sub (fun _ h => List.mem_cons_of_mem _ (List.mem_append_right _ h)) (by decide +kernel))
set_option maxRecDepth 20000 in
theorem gX0_addPlace_X0_requireState : GoodIn wsX0_addPlace (va_wsS RX0 68 yX0_requireState wsX0_requireState) := goodIn_app (goodIn_of _ (by decide +kernel)) ggX0_addPlace_X0_requireState
set_option maxRecDepth 20000 in
theorem ggX0_addPlace_X0_findWays : GoodIn wsX0_addPlace wsX0_findWays := goodIn_r _ [20, 1, 21, 22, 23, 24, 25, 26, 27, 28, 29, 5, 30, 31, 32, 33, 34, 35, 36, 37, 38, 39, 40, 41, 42, 43, 44, 45, 46, 47, 48, 49, 50, 51, 52, 53, 54, 55, 56, 57, 58, 59] (by decide +kernel) (by decide +kernel)
set_option maxRecDepth 20000 in
theorem gX0_addPlace_X0_findWays : GoodIn wsX0_addPlace (wsV RX0 71 RX0 yX0_findWays wsX0_findWays) := goodIn_app (goodIn_of _ (by decide +kernel)) ggX0_addPlace_X0_findWays
set_option maxRecDepth 20000 in
theorem ggX0_addDoor_X0_requirePlace : GoodIn wsX0_addDoor wsX0_requirePlace := goodIn_ca (goodIn_r _ [11, 12, 13, 14, 15, 16, 10, 17, 18, 52, 53, 54, 55, 56, 57, 58, 59, 60, 61, 62, 63, 64, 65, 66, 67, 68, 69, 70] (by decide +kernel) (by decide +kernel)) (goodIn_sub (fun _ h => List.mem_cons_of_mem _ (List.mem_append_left _ (List.mem_append_left _ (List.mem_append_right _ h)))) (by decide +kernel))
set_option maxRecDepth 20000 in
theorem gX0_addDoor_X0_requirePlace : GoodIn wsX0_addDoor (wsV RX0 74 RX0 yX0_requirePlace wsX0_requirePlace) := goodIn_app (goodIn_of _ (by decide +kernel)) ggX0_addDoor_X0_requirePlace
set_option maxRecDepth 20000 in
theorem ggX0_addDoor_X0_isBetween : GoodIn wsX0_addDoor wsX0_isBetween := goodIn_r _ [21] (by decide +kernel) (by decide +kernel)
set_option maxRecDepth 20000 in
theorem gX0_addDoor_X0_isBetween : GoodIn wsX0_addDoor (va_wsS RX0 60 yX0_isBetween wsX0_isBetween) := goodIn_app (goodIn_of _ (by decide +kernel)) ggX0_addDoor_X0_isBetween
set_option maxRecDepth 20000 in
theorem ggX0_addDoor_X0_requireArgument : GoodIn wsX0_addDoor wsX0_requireArgument := goodIn_ca (goodIn_r _ [24, 25, 26] (by decide +kernel) (by decide +kernel)) (goodIn_sub (fun _ h => List.mem_cons_of_mem _ (List.mem_append_left _ (List.mem_append_right _ h))) (by decide +kernel))
set_option maxRecDepth 20000 in
theorem gX0_addDoor_X0_requireArgument : GoodIn wsX0_addDoor (va_wsS RX0 64 yX0_requireArgument wsX0_requireArgument) := goodIn_app (goodIn_of _ (by decide +kernel)) ggX0_addDoor_X0_requireArgument
set_option maxRecDepth 20000 in
theorem ggX0_addDoor_X0_requireState : GoodIn wsX0_addDoor wsX0_requireState := goodIn_ca (goodIn_r _ [29, 30, 31] (by decide +kernel) (by decide +kernel)) (goodIn_sub (fun _ h => List.mem_cons_of_mem _ (List.mem_append_right _ h)) (by decide +kernel))
set_option maxRecDepth 20000 in
theorem gX0_addDoor_X0_requireState : GoodIn wsX0_addDoor (va_wsS RX0 68 yX0_requireState wsX0_requireState) := goodIn_app (goodIn_of _ (by decide +kernel)) ggX0_addDoor_X0_requireState
set_option maxRecDepth 20000 in
theorem ggX0_addDoor_X0_findWays : GoodIn wsX0_addDoor wsX0_findWays := goodIn_r _ [35, 18, 36, 1, 37, 38, 2, 3, 39, 40, 41, 10, 42, 43, 6, 44, 45, 46, 47, 48, 49, 50, 51, 52, 53, 54, 55, 56, 57, 58, 59, 60, 61, 62, 63, 64, 65, 66, 67, 68, 69, 70] (by decide +kernel) (by decide +kernel)
set_option maxRecDepth 20000 in
theorem gX0_addDoor_X0_findWays : GoodIn wsX0_addDoor (wsV RX0 71 RX0 yX0_findWays wsX0_findWays) := goodIn_app (goodIn_of _ (by decide +kernel)) ggX0_addDoor_X0_findWays
set_option maxRecDepth 20000 in
theorem ggX0_setDoor_X0_requireDoor : GoodIn wsX0_setDoor wsX0_requireDoor := goodIn_ca (goodIn_r _ [6, 7, 8, 9, 10, 11, 5, 12, 13, 37, 38, 39, 40, 41, 42, 43, 44, 45, 46, 47, 48, 49, 50, 51, 52, 53, 54, 55] (by decide +kernel) (by decide +kernel)) (goodIn_sub (fun _ h => List.mem_cons_of_mem _ (List.mem_append_right _ h)) (by decide +kernel))
set_option maxRecDepth 20000 in
theorem gX0_setDoor_X0_requireDoor : GoodIn wsX0_setDoor (wsV RX0 81 RX0 yX0_requireDoor wsX0_requireDoor) := goodIn_app (goodIn_of _ (by decide +kernel)) ggX0_setDoor_X0_requireDoor
set_option maxRecDepth 20000 in
theorem ggX0_setDoor_X0_findWays : GoodIn wsX0_setDoor wsX0_findWays := goodIn_r _ [17, 18, 19, 13, 20, 21, 22, 23, 24, 25, 26, 5, 27, 28, 1, 29, 30, 31, 32, 33, 34, 35, 36, 37, 38, 39, 40, 41, 42, 43, 44, 45, 46, 47, 48, 49, 50, 51, 52, 53, 54, 55] (by decide +kernel) (by decide +kernel)
set_option maxRecDepth 20000 in
theorem gX0_setDoor_X0_findWays : GoodIn wsX0_setDoor (wsV RX0 71 RX0 yX0_findWays wsX0_findWays) := goodIn_app (goodIn_of _ (by decide +kernel)) ggX0_setDoor_X0_findWays
set_option maxRecDepth 20000 in
theorem ggX0_come_X0_requirePlace : GoodIn wsX0_come wsX0_requirePlace := goodIn_ca (goodIn_r _ [6, 7, 8, 9, 10, 11, 5, 12, 13, 33, 34, 35, 36, 37, 38, 39, 40, 41, 42, 43, 44, 45, 46, 47, 48, 49, 50, 51] (by decide +kernel) (by decide +kernel)) (goodIn_sub (fun _ h => List.mem_cons_of_mem _ (List.mem_append_left _ (List.mem_append_left _ (List.mem_append_right _ h)))) (by decide +kernel))
set_option maxRecDepth 20000 in
theorem gX0_come_X0_requirePlace : GoodIn wsX0_come (wsV RX0 74 RX0 yX0_requirePlace wsX0_requirePlace) := goodIn_app (goodIn_of _ (by decide +kernel)) ggX0_come_X0_requirePlace
set_option maxRecDepth 20000 in
theorem ggX0_come_X0_isBetween : GoodIn wsX0_come wsX0_isBetween := goodIn_r _ [16] (by decide +kernel) (by decide +kernel)
set_option maxRecDepth 20000 in
theorem gX0_come_X0_isBetween : GoodIn wsX0_come (va_wsS RX0 60 yX0_isBetween wsX0_isBetween) := goodIn_app (goodIn_of _ (by decide +kernel)) ggX0_come_X0_isBetween
set_option maxRecDepth 20000 in
theorem ggX0_come_X0_requireArgument : GoodIn wsX0_come wsX0_requireArgument := goodIn_ca (goodIn_r _ [19, 20, 21] (by decide +kernel) (by decide +kernel)) (goodIn_sub (fun _ h => List.mem_cons_of_mem _ (List.mem_append_left _ (List.mem_append_right _ h))) (by decide +kernel))
set_option maxRecDepth 20000 in
theorem gX0_come_X0_requireArgument : GoodIn wsX0_come (va_wsS RX0 64 yX0_requireArgument wsX0_requireArgument) := goodIn_app (goodIn_of _ (by decide +kernel)) ggX0_come_X0_requireArgument
set_option maxRecDepth 20000 in
theorem ggX0_come_X0_roomLeft : GoodIn wsX0_come wsX0_roomLeft := goodIn_r _ [25, 26, 27, 1, 33, 34, 35, 36, 37, 38, 39, 40, 41, 42, 43, 44, 45, 46, 47, 48, 49, 50, 51] (by decide +kernel) (by decide +kernel)
set_option maxRecDepth 20000 in
theorem gX0_come_X0_roomLeft : GoodIn wsX0_come (wsV RX0 84 RX0 yX0_roomLeft wsX0_roomLeft) := goodIn_app (goodIn_of _ (by decide +kernel)) ggX0_come_X0_roomLeft
set_option maxRecDepth 20000 in
theorem ggX0_come_X0_requireState : GoodIn wsX0_come wsX0_requireState := goodIn_ca (goodIn_r _ [30, 31, 32] (by decide +kernel) (by decide +kernel)) (goodIn_sub (fun _ h => List.mem_cons_of_mem _ (List.mem_append_right _ h)) (by decide +kernel))
set_option maxRecDepth 20000 in
theorem gX0_come_X0_requireState : GoodIn wsX0_come (va_wsS RX0 68 yX0_requireState wsX0_requireState) := goodIn_app (goodIn_of _ (by decide +kernel)) ggX0_come_X0_requireState
set_option maxRecDepth 20000 in
theorem ggX0_setRelease_X0_requirePlace : GoodIn wsX0_setRelease wsX0_requirePlace := goodIn_ca (goodIn_r _ [6, 7, 8, 9, 10, 11, 5, 12, 13, 22, 23, 24, 25, 26, 27, 28, 29, 30, 31, 32, 33, 34, 35, 36, 37, 38, 39, 40] (by decide +kernel) (by decide +kernel)) (goodIn_sub (fun _ h => List.mem_cons_of_mem _ (List.mem_append_left _ (List.mem_append_right _ h))) (by decide +kernel))
set_option maxRecDepth 20000 in
theorem gX0_setRelease_X0_requirePlace : GoodIn wsX0_setRelease (wsV RX0 74 RX0 yX0_requirePlace wsX0_requirePlace) := goodIn_app (goodIn_of _ (by decide +kernel)) ggX0_setRelease_X0_requirePlace
set_option maxRecDepth 20000 in
theorem ggX0_setRelease_X0_isBetween : GoodIn wsX0_setRelease wsX0_isBetween := goodIn_r _ [16] (by decide +kernel) (by decide +kernel)
set_option maxRecDepth 20000 in
theorem gX0_setRelease_X0_isBetween : GoodIn wsX0_setRelease (va_wsS RX0 60 yX0_isBetween wsX0_isBetween) := goodIn_app (goodIn_of _ (by decide +kernel)) ggX0_setRelease_X0_isBetween
set_option maxRecDepth 20000 in
theorem ggX0_setRelease_X0_requireArgument : GoodIn wsX0_setRelease wsX0_requireArgument := goodIn_ca (goodIn_r _ [19, 20, 21] (by decide +kernel) (by decide +kernel)) (goodIn_sub (fun _ h => List.mem_cons_of_mem _ (List.mem_append_right _ h)) (by decide +kernel))
set_option maxRecDepth 20000 in
theorem gX0_setRelease_X0_requireArgument : GoodIn wsX0_setRelease (va_wsS RX0 64 yX0_requireArgument wsX0_requireArgument) := goodIn_app (goodIn_of _ (by decide +kernel)) ggX0_setRelease_X0_requireArgument
set_option maxRecDepth 20000 in
theorem ggX0_step_X0_isBetween : GoodIn wsX0_step wsX0_isBetween := goodIn_r _ [5] (by decide +kernel) (by decide +kernel)
set_option maxRecDepth 20000 in
theorem gX0_step_X0_isBetween : GoodIn wsX0_step (va_wsS RX0 60 yX0_isBetween wsX0_isBetween) := goodIn_app (goodIn_of _ (by decide +kernel)) ggX0_step_X0_isBetween
set_option maxRecDepth 20000 in
theorem ggX0_step_X0_requireArgument : GoodIn wsX0_step wsX0_requireArgument := goodIn_ca (goodIn_r _ [8, 9, 10] (by decide +kernel) (by decide +kernel)) (goodIn_sub (fun _ h => List.mem_cons_of_mem _ (List.mem_append_right _ h)) (by decide +kernel))
set_option maxRecDepth 20000 in
theorem gX0_step_X0_requireArgument : GoodIn wsX0_step (va_wsS RX0 64 yX0_requireArgument wsX0_requireArgument) := goodIn_app (goodIn_of _ (by decide +kernel)) ggX0_step_X0_requireArgument
set_option maxRecDepth 20000 in
theorem ggX0_step_X0_passOneStep : GoodIn wsX0_step wsX0_passOneStep := goodIn_r _ [14, 1, 15, 16, 17, 18, 19, 20, 4, 21, 22, 23, 24, 25, 26, 27, 28, 29, 30, 31, 32, 33, 34, 35, 36, 37, 38, 39, 40, 41, 42, 43, 44, 45, 46, 47, 48, 49, 50, 51, 52, 53, 54, 55, 56, 57, 58, 59, 60, 61, 62, 63, 64, 65, 66, 67, 68, 69, 70, 71, 72, 73, 74, 75, 76, 77, 78, 79, 80, 81, 82, 83] (by decide +kernel) (by decide +kernel)
set_option maxRecDepth 20000 in
theorem gX0_step_X0_passOneStep : GoodIn wsX0_step (wsV RX0 88 RX0 yX0_passOneStep wsX0_passOneStep) := goodIn_app (goodIn_of _ (by decide +kernel)) ggX0_step_X0_passOneStep
set_option maxRecDepth 20000 in
theorem ggX0_clear_X0_inside : GoodIn wsX0_clear wsX0_inside := goodIn_r _ [5, 6, 7, 61, 62, 63, 64, 65, 66, 67, 68, 69, 70, 71, 72, 73, 74, 75, 76, 77, 78, 79] (by decide +kernel) (by decide +kernel)
set_option maxRecDepth 20000 in
theorem gX0_clear_X0_inside : GoodIn wsX0_clear (wsV RX0 92 RX0 yX0_inside wsX0_inside) := goodIn_app (goodIn_of _ (by decide +kernel)) ggX0_clear_X0_inside
set_option maxRecDepth 20000 in
theorem ggX0_clear_X0_areAllReleased : GoodIn wsX0_clear wsX0_areAllReleased := goodIn_r _ [11, 6, 12, 13, 61, 62, 63, 64, 65, 66, 67, 68, 69, 70, 71, 72, 73, 74, 75, 76, 77, 78, 79] (by decide +kernel) (by decide +kernel)
set_option maxRecDepth 20000 in
theorem gX0_clear_X0_areAllReleased : GoodIn wsX0_clear (wsV RX0 95 RX0 yX0_areAllReleased wsX0_areAllReleased) := goodIn_app (goodIn_of _ (by decide +kernel)) ggX0_clear_X0_areAllReleased
set_option maxRecDepth 20000 in
theorem ggX0_clear_X0_passOneStep : GoodIn wsX0_clear wsX0_passOneStep := goodIn_r _ [17, 7, 13, 18, 19, 20, 21, 22, 4, 23, 24, 25, 6, 26, 27, 28, 29, 30, 31, 32, 33, 34, 35, 36, 37, 38, 39, 40, 41, 42, 43, 44, 45, 46, 47, 48, 49, 50, 12, 51, 52, 53, 54, 55, 56, 57, 58, 59, 60, 1, 2, 3, 5, 61, 62, 63, 64, 65, 66, 67, 68, 69, 70, 71, 72, 73, 74, 75, 76, 77, 78, 79] (by decide +kernel) (by decide +kernel)
set_option maxRecDepth 20000 in
theorem gX0_clear_X0_passOneStep : GoodIn wsX0_clear (wsV RX0 88 RX0 yX0_passOneStep wsX0_passOneStep) := goodIn_app (goodIn_of _ (by decide +kernel)) ggX0_clear_X0_passOneStep
set_option maxRecDepth 20000 in
theorem ggX0_people_X0_requirePlace : GoodIn wsX0_people wsX0_requirePlace := goodIn_ca (goodIn_r _ [6, 7, 8, 9, 10, 11, 5, 12, 13, 14, 15, 16, 17, 18, 19, 20, 21, 22, 23, 24, 25, 26, 27, 28, 29, 30, 31, 32] (by decide +kernel) (by decide +kernel)) (goodIn_sub (fun _ h => List.mem_cons_of_mem _ (List.mem_append_right _ h)) (by decide +kernel))
set_option maxRecDepth 20000 in
theorem gX0_people_X0_requirePlace : GoodIn wsX0_people (wsV RX0 74 RX0 yX0_requirePlace wsX0_requirePlace) := goodIn_app (goodIn_of _ (by decide +kernel)) ggX0_people_X0_requirePlace
set_option maxRecDepth 20000 in
theorem ggX0_latest_X0_requireElement : GoodIn wsX0_latest wsX0_requireElement := goodIn_ca (goodIn_r _ [5, 6, 7] (by decide +kernel) (by decide +kernel)) (goodIn_sub (fun _ h => List.mem_cons_of_mem _ (List.mem_append_right _ h)) (by decide +kernel))
set_option maxRecDepth 20000 in
theorem gX0_latest_X0_requireElement : GoodIn wsX0_latest (va_wsS RX0 102 yX0_requireElement wsX0_requireElement) := goodIn_app (goodIn_of _ (by decide +kernel)) ggX0_latest_X0_requireElement
set_option maxRecDepth 20000 in
theorem ggX0_passed_X0_requireDoor : GoodIn wsX0_passed wsX0_requireDoor := goodIn_ca (goodIn_r _ [6, 7, 8, 9, 10, 11, 5, 12, 13, 14, 15, 16, 17, 18, 19, 20, 21, 22, 23, 24, 25, 26, 27, 28, 29, 30, 31, 32] (by decide +kernel) (by decide +kernel)) (goodIn_sub (fun _ h => List.mem_cons_of_mem _ (List.mem_append_right _ h)) (by decide +kernel))
set_option maxRecDepth 20000 in
theorem gX0_passed_X0_requireDoor : GoodIn wsX0_passed (wsV RX0 81 RX0 yX0_requireDoor wsX0_requireDoor) := goodIn_app (goodIn_of _ (by decide +kernel)) ggX0_passed_X0_requireDoor
set_option maxRecDepth 20000 in
theorem ggX0_distance_X0_requirePlace : GoodIn wsX0_distance wsX0_requirePlace := goodIn_ca (goodIn_r _ [6, 7, 8, 9, 10, 11, 5, 12, 13, 19, 20, 21, 22, 23, 24, 25, 26, 27, 28, 29, 30, 31, 32, 33, 34, 35, 36, 37] (by decide +kernel) (by decide +kernel)) (goodIn_sub (fun _ h => List.mem_cons_of_mem _ (List.mem_append_left _ (List.mem_append_right _ h))) (by decide +kernel))
set_option maxRecDepth 20000 in
theorem gX0_distance_X0_requirePlace : GoodIn wsX0_distance (wsV RX0 74 RX0 yX0_requirePlace wsX0_requirePlace) := goodIn_app (goodIn_of _ (by decide +kernel)) ggX0_distance_X0_requirePlace
set_option maxRecDepth 20000 in
theorem ggX0_distance_X0_requireElement : GoodIn wsX0_distance wsX0_requireElement := goodIn_ca (goodIn_r _ [16, 17, 18] (by decide +kernel) (by decide +kernel)) (goodIn_sub (fun _ h => List.mem_cons_of_mem _ (List.mem_append_right _ h)) (by decide +kernel))
set_option maxRecDepth 20000 in
theorem gX0_distance_X0_requireElement : GoodIn wsX0_distance (va_wsS RX0 102 yX0_requireElement wsX0_requireElement) := goodIn_app (goodIn_of _ (by decide +kernel)) ggX0_distance_X0_requireElement
set_option maxRecDepth 20000 in
theorem ggX0_door_X0_requirePlace : GoodIn wsX0_door wsX0_requirePlace := goodIn_ca (goodIn_r _ [6, 7, 8, 9, 10, 11, 5, 12, 13, 19, 20, 21, 22, 23, 24, 25, 26, 27, 28, 29, 30, 31, 32, 33, 34, 35, 36, 37] (by decide +kernel) (by decide +kernel)) (goodIn_sub (fun _ h => List.mem_cons_of_mem _ (List.mem_append_left _ (List.mem_append_right _ h))) (by decide +kernel))
set_option maxRecDepth 20000 in
theorem gX0_door_X0_requirePlace : GoodIn wsX0_door (wsV RX0 74 RX0 yX0_requirePlace wsX0_requirePlace) := goodIn_app (goodIn_of _ (by decide +kernel)) ggX0_door_X0_requirePlace
set_option maxRecDepth 20000 in
theorem ggX0_door_X0_requireElement : GoodIn wsX0_door wsX0_requireElement := goodIn_ca (goodIn_r _ [16, 17, 18] (by decide +kernel) (by decide +kernel)) (goodIn_sub (fun _ h => List.mem_cons_of_mem _ (List.mem_append_right _ h)) (by decide +kernel))
set_option maxRecDepth 20000 in
theorem gX0_door_X0_requireElement : GoodIn wsX0_door (va_wsS RX0 102 yX0_requireElement wsX0_requireElement) := goodIn_app (goodIn_of _ (by decide +kernel)) ggX0_door_X0_requireElement
set_option maxRecDepth 20000 in
theorem ggX0_wouldMove_X0_requirePlace : GoodIn wsX0_wouldMove wsX0_requirePlace := goodIn_ca (goodIn_r _ [7, 8, 9, 10, 11, 12, 6, 13, 14, 53, 54, 55, 56, 57, 58, 59, 60, 61, 62, 63, 64, 65, 66, 67, 68, 69, 70, 71] (by decide +kernel) (by decide +kernel)) (goodIn_sub (fun _ h => List.mem_cons_of_mem _ (List.mem_append_right _ h)) (by decide +kernel))
set_option maxRecDepth 20000 in
theorem gX0_wouldMove_X0_requirePlace : GoodIn wsX0_wouldMove (wsV RX0 74 RX0 yX0_requirePlace wsX0_requirePlace) := goodIn_app (goodIn_of _ (by decide +kernel)) ggX0_wouldMove_X0_requirePlace
set_option maxRecDepth 20000 in
theorem ggX0_wouldMove_X0_isDoor : GoodIn wsX0_wouldMove wsX0_isDoor := goodIn_r _ [18, 19, 53, 54, 55, 56, 57, 58, 59, 60, 61, 62, 63, 64, 65, 66, 67, 68, 69, 70, 71] (by decide +kernel) (by decide +kernel)
set_option maxRecDepth 20000 in
theorem gX0_wouldMove_X0_isDoor : GoodIn wsX0_wouldMove (wsV RX0 108 RX0 yX0_isDoor wsX0_isDoor) := goodIn_app (goodIn_of _ (by decide +kernel)) ggX0_wouldMove_X0_isDoor
set_option maxRecDepth 20000 in
theorem ggX0_wouldMove_X0_grantAll : GoodIn wsX0_wouldMove wsX0_grantAll := goodIn_r _ [23, 19, 2, 14, 24, 25, 26, 6, 27, 28, 29, 30, 31, 32, 33, 34, 35, 36, 37, 38, 39, 40, 41, 42, 43, 44, 45, 46, 47, 48, 49, 50, 51, 52, 10, 11, 12, 13, 53, 54, 55, 56, 57, 58, 59, 60, 61, 62, 63, 64, 65, 66, 67, 68, 69, 70, 71] (by decide +kernel) (by decide +kernel)
set_option maxRecDepth 20000 in
theorem gX0_wouldMove_X0_grantAll : GoodIn wsX0_wouldMove (wsV RX0 112 RX0 yX0_grantAll wsX0_grantAll) := goodIn_app (goodIn_of _ (by decide +kernel)) ggX0_wouldMove_X0_grantAll
set_option maxRecDepth 20000 in
theorem ggX0_bound_X0_trapped : GoodIn wsX0_bound wsX0_trapped := goodIn_r _ [10, 1, 11, 12, 35, 36, 37, 38, 39, 40, 41, 42, 43, 44, 45, 46, 47, 48, 49, 50, 51, 52, 53] (by decide +kernel) (by decide +kernel)
set_option maxRecDepth 20000 in
theorem gX0_bound_X0_trapped : GoodIn wsX0_bound (wsV RX0 115 RX0 yX0_trapped wsX0_trapped) := goodIn_app (goodIn_of _ (by decide +kernel)) ggX0_bound_X0_trapped
set_option maxRecDepth 20000 in
theorem ggX0_bound_X0_requireState : GoodIn wsX0_bound wsX0_requireState := goodIn_ca (goodIn_r _ [15, 16, 17] (by decide +kernel) (by decide +kernel)) (goodIn_sub (fun _ h => List.mem_cons_of_mem _ (List.mem_append_right _ h)) (by decide +kernel))
set_option maxRecDepth 20000 in
theorem gX0_bound_X0_requireState : GoodIn wsX0_bound (va_wsS RX0 68 yX0_requireState wsX0_requireState) := goodIn_app (goodIn_of _ (by decide +kernel)) ggX0_bound_X0_requireState
set_option maxRecDepth 20000 in
theorem ggX0_bound_X0_boundAt : GoodIn wsX0_bound wsX0_boundAt := goodIn_r _ [21, 22, 23, 24, 9, 25, 1, 11, 12, 26, 27, 28, 29, 30, 31, 32, 33, 34, 35, 36, 37, 38, 39, 40, 41, 42, 43, 44, 45, 46, 47, 48, 49, 50, 51, 52, 53] (by decide +kernel) (by decide +kernel)
set_option maxRecDepth 20000 in
theorem gX0_bound_X0_boundAt : GoodIn wsX0_bound (wsV RX0 118 RX0 yX0_boundAt wsX0_boundAt) := goodIn_app (goodIn_of _ (by decide +kernel)) ggX0_bound_X0_boundAt
set_option maxRecDepth 20000 in
theorem ggX0_boundAt_X0_peopleFrom : GoodIn wsX0_boundAt wsX0_peopleFrom := goodIn_r _ [5, 6, 7, 8, 18, 19, 20, 21, 22, 23, 24, 25, 26, 27, 28, 29, 30, 31, 32, 33, 34, 35, 36] (by decide +kernel) (by decide +kernel)
set_option maxRecDepth 20000 in
theorem gX0_boundAt_X0_peopleFrom : GoodIn wsX0_boundAt (wsV RX0 127 RX0 yX0_peopleFrom wsX0_peopleFrom) := goodIn_app (goodIn_of _ (by decide +kernel)) ggX0_boundAt_X0_peopleFrom
set_option maxRecDepth 20000 in
theorem ggX0_boundAt_X0_flowInward : GoodIn wsX0_boundAt wsX0_flowInward := goodIn_r _ [12, 13, 7, 14, 15, 16, 17, 18, 19, 20, 21, 22, 23, 24, 25, 26, 27, 28, 29, 30, 31, 32, 33, 34, 35, 36] (by decide +kernel) (by decide +kernel)
set_option maxRecDepth 20000 in
theorem gX0_boundAt_X0_flowInward : GoodIn wsX0_boundAt (wsV RX0 130 RX0 yX0_flowInward wsX0_flowInward) := goodIn_app (goodIn_of _ (by decide +kernel)) ggX0_boundAt_X0_flowInward
set_option maxRecDepth 20000 in
theorem ggX0_passOneStep_X0_grantAll : GoodIn wsX0_passOneStep wsX0_grantAll := goodIn_r _ [9, 10, 11, 12, 13, 14, 15, 8, 16, 17, 18, 19, 20, 21, 22, 1, 23, 24, 25, 26, 27, 28, 29, 30, 31, 32, 33, 34, 35, 36, 37, 38, 2, 39, 40, 41, 42, 43, 53, 54, 55, 56, 57, 58, 59, 60, 61, 62, 63, 64, 65, 66, 67, 68, 69, 70, 71] (by decide +kernel) (by decide +kernel)
set_option maxRecDepth 20000 in
theorem gX0_passOneStep_X0_grantAll : GoodIn wsX0_passOneStep (wsV RX0 112 RX0 yX0_grantAll wsX0_grantAll) := goodIn_app (goodIn_of _ (by decide +kernel)) ggX0_passOneStep_X0_grantAll
set_option maxRecDepth 20000 in
theorem ggX0_passOneStep_X0_moveGranted : GoodIn wsX0_passOneStep wsX0_moveGranted := goodIn_r _ [47, 10, 37, 27, 1, 11, 48, 40, 41, 42, 8, 43, 12, 53, 54, 55, 56, 57, 58, 59, 60, 61, 62, 63, 64, 65, 66, 67, 68, 69, 70, 71] (by decide +kernel) (by decide +kernel)
set_option maxRecDepth 20000 in
theorem gX0_passOneStep_X0_moveGranted : GoodIn wsX0_passOneStep (wsV RX0 133 RX0 yX0_moveGranted wsX0_moveGranted) := goodIn_app (goodIn_of _ (by decide +kernel)) ggX0_passOneStep_X0_moveGranted
set_option maxRecDepth 20000 in
theorem ggX0_passOneStep_X0_inside : GoodIn wsX0_passOneStep wsX0_inside := goodIn_r _ [52, 12, 1, 53, 54, 55, 56, 57, 58, 59, 60, 61, 62, 63, 64, 65, 66, 67, 68, 69, 70, 71] (by decide +kernel) (by decide +kernel)
set_option maxRecDepth 20000 in
theorem gX0_passOneStep_X0_inside : GoodIn wsX0_passOneStep (wsV RX0 92 RX0 yX0_inside wsX0_inside) := goodIn_app (goodIn_of _ (by decide +kernel)) ggX0_passOneStep_X0_inside
set_option maxRecDepth 20000 in
theorem ggX0_grantAll_X0_grantAt : GoodIn wsX0_grantAll wsX0_grantAt := goodIn_r _ [8, 9, 10, 11, 7, 12, 13, 14, 15, 16, 17, 18, 19, 1, 20, 2, 21, 22, 23, 24, 25, 26, 27, 28, 29, 30, 31, 32, 33, 34, 35, 36, 37, 3, 38, 39, 40, 41, 42, 43, 44, 45, 46, 47, 48, 49, 50, 51, 52, 53, 54, 55, 56] (by decide +kernel) (by decide +kernel)
set_option maxRecDepth 20000 in
theorem gX0_grantAll_X0_grantAt : GoodIn wsX0_grantAll (wsV RX0 136 RX0 yX0_grantAt wsX0_grantAt) := goodIn_app (goodIn_of _ (by decide +kernel)) ggX0_grantAll_X0_grantAt
set_option maxRecDepth 20000 in
theorem ggX0_grantAt_X0_roomLeft : GoodIn wsX0_grantAt wsX0_roomLeft := goodIn_r _ [5, 6, 7, 8, 34, 35, 36, 37, 38, 39, 40, 41, 42, 43, 44, 45, 46, 47, 48, 49, 50, 51, 52] (by decide +kernel) (by decide +kernel)
set_option maxRecDepth 20000 in
theorem gX0_grantAt_X0_roomLeft : GoodIn wsX0_grantAt (wsV RX0 84 RX0 yX0_roomLeft wsX0_roomLeft) := goodIn_app (goodIn_of _ (by decide +kernel)) ggX0_grantAt_X0_roomLeft
set_option maxRecDepth 20000 in
theorem ggX0_grantAt_X0_grantRound : GoodIn wsX0_grantAt wsX0_grantRound := goodIn_r _ [12, 13, 14, 15, 16, 17, 18, 19, 20, 21, 22, 23, 4, 24, 25, 26, 27, 8, 28, 29, 30, 31, 32, 33, 34, 35, 36, 37, 38, 39, 40, 41, 42, 43, 44, 45, 46, 47, 48, 49, 50, 51, 52] (by decide +kernel) (by decide +kernel)
set_option maxRecDepth 20000 in
theorem gX0_grantAt_X0_grantRound : GoodIn wsX0_grantAt (wsV RX0 139 RX0 yX0_grantRound wsX0_grantRound) := goodIn_app (goodIn_of _ (by decide +kernel)) ggX0_grantAt_X0_grantRound
set_option maxRecDepth 20000 in
theorem ggX0_grantRound_X0_wishBy : GoodIn wsX0_grantRound wsX0_wishBy := goodIn_r _ [13, 14, 15, 16, 17, 18, 5, 6, 7, 8, 19, 20, 21, 12, 22, 23, 24, 25, 26, 27, 28, 29, 30, 31, 32, 33, 34, 35, 36, 37, 38, 39, 40, 41, 42] (by decide +kernel) (by decide +kernel)
set_option maxRecDepth 20000 in
theorem gX0_grantRound_X0_wishBy : GoodIn wsX0_grantRound (wsV RX0 142 RX0 yX0_wishBy wsX0_wishBy) := goodIn_app (goodIn_of _ (by decide +kernel)) ggX0_grantRound_X0_wishBy
set_option maxRecDepth 20000 in
theorem ggX0_wishBy_X0_isPlace : GoodIn wsX0_wishBy wsX0_isPlace := goodIn_r _ [14, 15, 16, 17, 18, 19, 20, 21, 22, 23, 24, 25, 26, 27, 28, 29, 30, 31, 32, 33, 34] (by decide +kernel) (by decide +kernel)
set_option maxRecDepth 20000 in
theorem gX0_wishBy_X0_isPlace : GoodIn wsX0_wishBy (wsV RX0 148 RX0 yX0_isPlace wsX0_isPlace) := goodIn_app (goodIn_of _ (by decide +kernel)) ggX0_wishBy_X0_isPlace
set_option maxRecDepth 20000 in
theorem ggX0_moveGranted_X0_isPlace : GoodIn wsX0_moveGranted wsX0_isPlace := goodIn_r _ [11, 12, 13, 14, 15, 16, 17, 18, 19, 20, 21, 22, 23, 24, 25, 26, 27, 28, 29, 30, 31] (by decide +kernel) (by decide +kernel)
set_option maxRecDepth 20000 in
theorem gX0_moveGranted_X0_isPlace : GoodIn wsX0_moveGranted (wsV RX0 148 RX0 yX0_isPlace wsX0_isPlace) := goodIn_app (goodIn_of _ (by decide +kernel)) ggX0_moveGranted_X0_isPlace
set_option maxRecDepth 20000 in
theorem ggX0_findWays_X0_measureDistances : GoodIn wsX0_findWays wsX0_measureDistances := goodIn_r _ [12, 13, 1, 3, 14, 6, 7, 15, 16, 17, 11, 18, 23, 24, 25, 26, 27, 28, 29, 30, 31, 32, 33, 34, 35, 36, 37, 38, 39, 40, 41] (by decide +kernel) (by decide +kernel)
set_option maxRecDepth 20000 in
theorem gX0_findWays_X0_measureDistances : GoodIn wsX0_findWays (wsV RX0 152 RX0 yX0_measureDistances wsX0_measureDistances) := goodIn_app (goodIn_of _ (by decide +kernel)) ggX0_findWays_X0_measureDistances
set_option maxRecDepth 20000 in
theorem ggX0_findWays_X0_offerDoor : GoodIn wsX0_findWays wsX0_offerDoor := goodIn_r _ [22, 14, 13, 2, 4, 5, 23, 24, 25, 26, 27, 28, 29, 30, 31, 32, 33, 34, 35, 36, 37, 38, 39, 40, 41] (by decide +kernel) (by decide +kernel)
set_option maxRecDepth 20000 in
theorem gX0_findWays_X0_offerDoor : GoodIn wsX0_findWays (wsV RX0 155 RX0 yX0_offerDoor wsX0_offerDoor) := goodIn_app (goodIn_of _ (by decide +kernel)) ggX0_findWays_X0_offerDoor
set_option maxRecDepth 20000 in
theorem ggX0_measureDistances_X0_reach : GoodIn wsX0_measureDistances wsX0_reach := goodIn_r _ [11, 1, 12, 13, 14, 15, 16, 17, 18, 19, 20, 21, 22, 23, 24, 25, 26, 27, 28, 29, 30] (by decide +kernel) (by decide +kernel)
set_option maxRecDepth 20000 in
theorem gX0_measureDistances_X0_reach : GoodIn wsX0_measureDistances (wsV RX0 159 RX0 yX0_reach wsX0_reach) := goodIn_app (goodIn_of _ (by decide +kernel)) ggX0_measureDistances_X0_reach
set_option maxRecDepth 20000 in
theorem ggX0_requirePlace_X0_isPlace : GoodIn wsX0_requirePlace wsX0_isPlace := goodIn_r _ [7, 8, 9, 10, 11, 12, 13, 14, 15, 16, 17, 18, 19, 20, 21, 22, 23, 24, 25, 26, 27] (by decide +kernel) (by decide +kernel)
set_option maxRecDepth 20000 in
theorem gX0_requirePlace_X0_isPlace : GoodIn wsX0_requirePlace (wsV RX0 148 RX0 yX0_isPlace wsX0_isPlace) := goodIn_app (goodIn_of _ (by decide +kernel)) ggX0_requirePlace_X0_isPlace
set_option maxRecDepth 20000 in
theorem ggX0_requireDoor_X0_isDoor : GoodIn wsX0_requireDoor wsX0_isDoor := goodIn_r _ [7, 8, 9, 10, 11, 12, 13, 14, 15, 16, 17, 18, 19, 20, 21, 22, 23, 24, 25, 26, 27] (by decide +kernel) (by decide +kernel)
set_option maxRecDepth 20000 in
theorem gX0_requireDoor_X0_isDoor : GoodIn wsX0_requireDoor (wsV RX0 108 RX0 yX0_isDoor wsX0_isDoor) := goodIn_app (goodIn_of _ (by decide +kernel)) ggX0_requireDoor_X0_isDoor
set_option maxRecDepth 20000 in
theorem ggX1_isPlace_X1_in : GoodIn wsX1_isPlace wsX1_in := goodIn_r _ [5] (by decide +kernel) (by decide +kernel)
set_option maxRecDepth 20000 in
theorem gX1_isPlace_X1_in : GoodIn wsX1_isPlace (va_wsS RX1 60 yX1_in wsX1_in) := goodIn_app (goodIn_of _ (by decide +kernel)) ggX1_isPlace_X1_in
set_option maxRecDepth 20000 in
theorem ggX1_isDoor_X1_in : GoodIn wsX1_isDoor wsX1_in := goodIn_r _ [5] (by decide +kernel) (by decide +kernel)
set_option maxRecDepth 20000 in
theorem gX1_isDoor_X1_in : GoodIn wsX1_isDoor (va_wsS RX1 60 yX1_in wsX1_in) := goodIn_app (goodIn_of _ (by decide +kernel)) ggX1_isDoor_X1_in
set_option maxRecDepth 20000 in
theorem ggX1_addPlace_X1_in : GoodIn wsX1_addPlace wsX1_in := goodIn_r _ [6] (by decide +kernel) (by decide +kernel)
set_option maxRecDepth 20000 in
theorem gX1_addPlace_X1_in : GoodIn wsX1_addPlace (va_wsS RX1 60 yX1_in wsX1_in) := goodIn_app (goodIn_of _ (by decide +kernel)) ggX1_addPlace_X1_in
set_option maxRecDepth 20000 in
theorem ggX1_addPlace_X1_goesWell : GoodIn wsX1_addPlace wsX1_goesWell := goodIn_r _ [10, 11, 12, 13, 14, 15, 16, 17, 18, 19, 20, 21, 22, 23, 24, 25, 26, 27, 28, 29, 30] (by decide +kernel) (by decide +kernel)
set_option maxRecDepth 20000 in
theorem gX1_addPlace_X1_goesWell : GoodIn wsX1_addPlace (wsV RX1 67 RX1 yX1_goesWell wsX1_goesWell) := goodIn_app (goodIn_of _ (by decide +kernel)) ggX1_addPlace_X1_goesWell
set_option maxRecDepth 20000 in
theorem ggX1_addDoor_X1_in : GoodIn wsX1_addDoor wsX1_in := goodIn_r _ [10] (by decide +kernel) (by decide +kernel)
set_option maxRecDepth 20000 in
theorem gX1_addDoor_X1_in : GoodIn wsX1_addDoor (va_wsS RX1 60 yX1_in wsX1_in) := goodIn_app (goodIn_of _ (by decide +kernel)) ggX1_addDoor_X1_in
set_option maxRecDepth 20000 in
theorem ggX1_addDoor_X1_isPlace : GoodIn wsX1_addDoor wsX1_isPlace := goodIn_r _ [14, 15, 7, 8, 9, 10, 21, 22, 23, 24, 25, 26, 27, 28, 29, 30, 31, 32, 33, 34, 35, 36, 37, 38, 39] (by decide +kernel) (by decide +kernel)
set_option maxRecDepth 20000 in
theorem gX1_addDoor_X1_isPlace : GoodIn wsX1_addDoor (wsV RX1 71 RX1 yX1_isPlace wsX1_isPlace) := goodIn_app (goodIn_of _ (by decide +kernel)) ggX1_addDoor_X1_isPlace
set_option maxRecDepth 20000 in
theorem ggX1_addDoor_X1_goesWell : GoodIn wsX1_addDoor wsX1_goesWell := goodIn_r _ [19, 20, 21, 22, 23, 24, 25, 26, 27, 28, 29, 30, 31, 32, 33, 34, 35, 36, 37, 38, 39] (by decide +kernel) (by decide +kernel)
set_option maxRecDepth 20000 in
theorem gX1_addDoor_X1_goesWell : GoodIn wsX1_addDoor (wsV RX1 67 RX1 yX1_goesWell wsX1_goesWell) := goodIn_app (goodIn_of _ (by decide +kernel)) ggX1_addDoor_X1_goesWell
set_option maxRecDepth 20000 in
theorem ggX1_setDoor_X1_isDoor : GoodIn wsX1_setDoor wsX1_isDoor := goodIn_r _ [6, 7, 8, 9, 5, 10, 16, 17, 18, 19, 20, 21, 22, 23, 24, 25, 26, 27, 28, 29, 30, 31, 32, 33, 34] (by decide +kernel) (by decide +kernel)
set_option maxRecDepth 20000 in
theorem gX1_setDoor_X1_isDoor : GoodIn wsX1_setDoor (wsV RX1 74 RX1 yX1_isDoor wsX1_isDoor) := goodIn_app (goodIn_of _ (by decide +kernel)) ggX1_setDoor_X1_isDoor
set_option maxRecDepth 20000 in
theorem ggX1_setDoor_X1_goesWell : GoodIn wsX1_setDoor wsX1_goesWell := goodIn_r _ [14, 15, 16, 17, 18, 19, 20, 21, 22, 23, 24, 25, 26, 27, 28, 29, 30, 31, 32, 33, 34] (by decide +kernel) (by decide +kernel)
set_option maxRecDepth 20000 in
theorem gX1_setDoor_X1_goesWell : GoodIn wsX1_setDoor (wsV RX1 67 RX1 yX1_goesWell wsX1_goesWell) := goodIn_app (goodIn_of _ (by decide +kernel)) ggX1_setDoor_X1_goesWell
set_option maxRecDepth 20000 in
theorem ggX1_come_X1_in : GoodIn wsX1_come wsX1_in := goodIn_r _ [6] (by decide +kernel) (by decide +kernel)
set_option maxRecDepth 20000 in
theorem gX1_come_X1_in : GoodIn wsX1_come (va_wsS RX1 60 yX1_in wsX1_in) := goodIn_app (goodIn_of _ (by decide +kernel)) ggX1_come_X1_in
set_option maxRecDepth 20000 in
theorem ggX1_come_X1_isPlace : GoodIn wsX1_come wsX1_isPlace := goodIn_r _ [10, 11, 3, 4, 5, 6, 17, 18, 19, 20, 21, 22, 23, 24, 25, 26, 27, 28, 29, 30, 31, 32, 33, 34, 35] (by decide +kernel) (by decide +kernel)
set_option maxRecDepth 20000 in
theorem gX1_come_X1_isPlace : GoodIn wsX1_come (wsV RX1 71 RX1 yX1_isPlace wsX1_isPlace) := goodIn_app (goodIn_of _ (by decide +kernel)) ggX1_come_X1_isPlace
set_option maxRecDepth 20000 in
theorem ggX1_come_X1_goesWell : GoodIn wsX1_come wsX1_goesWell := goodIn_r _ [15, 16, 17, 18, 19, 20, 21, 22, 23, 24, 25, 26, 27, 28, 29, 30, 31, 32, 33, 34, 35] (by decide +kernel) (by decide +kernel)
set_option maxRecDepth 20000 in
theorem gX1_come_X1_goesWell : GoodIn wsX1_come (wsV RX1 67 RX1 yX1_goesWell wsX1_goesWell) := goodIn_app (goodIn_of _ (by decide +kernel)) ggX1_come_X1_goesWell
set_option maxRecDepth 20000 in
theorem ggX1_setRelease_X1_isPlace : GoodIn wsX1_setRelease wsX1_isPlace := goodIn_r _ [6, 7, 8, 9, 5, 10, 16, 17, 18, 19, 20, 21, 22, 23, 24, 25, 26, 27, 28, 29, 30, 31, 32, 33, 34] (by decide +kernel) (by decide +kernel)
set_option maxRecDepth 20000 in
theorem gX1_setRelease_X1_isPlace : GoodIn wsX1_setRelease (wsV RX1 71 RX1 yX1_isPlace wsX1_isPlace) := goodIn_app (goodIn_of _ (by decide +kernel)) ggX1_setRelease_X1_isPlace
set_option maxRecDepth 20000 in
theorem ggX1_setRelease_X1_in : GoodIn wsX1_setRelease wsX1_in := goodIn_r _ [10] (by decide +kernel) (by decide +kernel)
set_option maxRecDepth 20000 in
theorem gX1_setRelease_X1_in : GoodIn wsX1_setRelease (va_wsS RX1 60 yX1_in wsX1_in) := goodIn_app (goodIn_of _ (by decide +kernel)) ggX1_setRelease_X1_in
set_option maxRecDepth 20000 in
theorem ggX1_setRelease_X1_goesWell : GoodIn wsX1_setRelease wsX1_goesWell := goodIn_r _ [14, 15, 16, 17, 18, 19, 20, 21, 22, 23, 24, 25, 26, 27, 28, 29, 30, 31, 32, 33, 34] (by decide +kernel) (by decide +kernel)
set_option maxRecDepth 20000 in
theorem gX1_setRelease_X1_goesWell : GoodIn wsX1_setRelease (wsV RX1 67 RX1 yX1_goesWell wsX1_goesWell) := goodIn_app (goodIn_of _ (by decide +kernel)) ggX1_setRelease_X1_goesWell
set_option maxRecDepth 20000 in
theorem ggX1_measure_X1_reach : GoodIn wsX1_measure wsX1_reach := goodIn_r _ [10, 11, 2, 12, 13, 14, 15, 16, 17, 18, 19, 20, 21, 22, 23, 24, 25, 26, 27, 28, 29, 30] (by decide +kernel) (by decide +kernel)
set_option maxRecDepth 20000 in
theorem gX1_measure_X1_reach : GoodIn wsX1_measure (wsV RX1 77 RX1 yX1_reach wsX1_reach) := goodIn_app (goodIn_of _ (by decide +kernel)) ggX1_measure_X1_reach
set_option maxRecDepth 20000 in
theorem ggX1_doorOf_X1_beyond : GoodIn wsX1_doorOf wsX1_beyond := goodIn_r _ [8, 9, 10, 11, 12, 13, 14, 15, 16, 17, 18, 19, 20, 21, 22, 23, 24, 25, 26, 27, 28, 29] (by decide +kernel) (by decide +kernel)
set_option maxRecDepth 20000 in
theorem gX1_doorOf_X1_beyond : GoodIn wsX1_doorOf (wsV RX1 81 RX1 yX1_beyond wsX1_beyond) := goodIn_app (goodIn_of _ (by decide +kernel)) ggX1_doorOf_X1_beyond
set_option maxRecDepth 20000 in
theorem ggX1_wish_X1_measure : GoodIn wsX1_wish wsX1_measure := goodIn_r _ [14, 5, 15, 1, 16, 17, 18, 19, 20, 13, 21, 22, 31, 32, 33, 34, 35, 36, 37, 38, 39, 40, 41, 42, 43, 44, 45, 46, 47, 48, 49] (by decide +kernel) (by decide +kernel)
set_option maxRecDepth 20000 in
theorem gX1_wish_X1_measure : GoodIn wsX1_wish (wsV RX1 85 RX1 yX1_measure wsX1_measure) := goodIn_app (goodIn_of _ (by decide +kernel)) ggX1_wish_X1_measure
set_option maxRecDepth 20000 in
theorem ggX1_wish_X1_doorOf : GoodIn wsX1_wish wsX1_doorOf := goodIn_r _ [26, 1, 15, 22, 27, 28, 29, 13, 30, 16, 17, 31, 32, 33, 34, 35, 36, 37, 38, 39, 40, 41, 42, 43, 44, 45, 46, 47, 48, 49] (by decide +kernel) (by decide +kernel)
set_option maxRecDepth 20000 in
theorem gX1_wish_X1_doorOf : GoodIn wsX1_wish (wsV RX1 88 RX1 yX1_doorOf wsX1_doorOf) := goodIn_app (goodIn_of _ (by decide +kernel)) ggX1_wish_X1_doorOf
set_option maxRecDepth 20000 in
theorem ggX1_wish_X1_beyond : GoodIn wsX1_wish wsX1_beyond := goodIn_r _ [30, 16, 17, 31, 32, 33, 34, 35, 36, 37, 38, 39, 40, 41, 42, 43, 44, 45, 46, 47, 48, 49] (by decide +kernel) (by decide +kernel)
set_option maxRecDepth 20000 in
theorem gX1_wish_X1_beyond : GoodIn wsX1_wish (wsV RX1 81 RX1 yX1_beyond wsX1_beyond) := goodIn_app (goodIn_of _ (by decide +kernel)) ggX1_wish_X1_beyond
set_option maxRecDepth 20000 in
theorem ggX1_decide_X1_wish : GoodIn wsX1_decide wsX1_wish := goodIn_r _ [6, 7, 8, 9, 10, 1, 11, 12, 13, 14, 15, 16, 17, 5, 18, 19, 20, 21, 22, 23, 24, 25, 26, 27, 28, 29, 30, 31, 32, 33, 34, 41, 42, 43, 44, 45, 46, 47, 48, 49, 50, 51, 52, 53, 54, 55, 56, 57, 58, 59] (by decide +kernel) (by decide +kernel)
set_option maxRecDepth 20000 in
theorem gX1_decide_X1_wish : GoodIn wsX1_decide (wsV RX1 95 RX1 yX1_wish wsX1_wish) := goodIn_app (goodIn_of _ (by decide +kernel)) ggX1_decide_X1_wish
set_option maxRecDepth 20000 in
theorem ggX1_decide_X1_grant : GoodIn wsX1_decide wsX1_grant := goodIn_r _ [38, 39, 13, 7, 10, 8, 9, 40, 41, 42, 43, 44, 45, 46, 47, 48, 49, 50, 51, 52, 53, 54, 55, 56, 57, 58, 59] (by decide +kernel) (by decide +kernel)
set_option maxRecDepth 20000 in
theorem gX1_decide_X1_grant : GoodIn wsX1_decide (wsV RX1 98 RX1 yX1_grant wsX1_grant) := goodIn_app (goodIn_of _ (by decide +kernel)) ggX1_decide_X1_grant
set_option maxRecDepth 20000 in
theorem ggX1_go_X1_decide : GoodIn wsX1_go wsX1_decide := goodIn_r _ [13, 14, 15, 16, 17, 12, 18, 1, 19, 2, 4, 20, 6, 3, 21, 22, 23, 24, 25, 26, 27, 28, 29, 30, 31, 32, 33, 34, 35, 36, 37, 38, 39, 40, 41, 42, 43, 44, 45, 46, 47, 52, 53, 54, 55, 56, 57, 58, 59, 60, 61, 62, 63, 64, 65, 66, 67, 68, 69, 70] (by decide +kernel) (by decide +kernel)
set_option maxRecDepth 20000 in
theorem gX1_go_X1_decide : GoodIn wsX1_go (wsV RX1 102 RX1 yX1_decide wsX1_decide) := goodIn_app (goodIn_of _ (by decide +kernel)) ggX1_go_X1_decide
set_option maxRecDepth 20000 in
theorem ggX1_go_X1_beyond : GoodIn wsX1_go wsX1_beyond := goodIn_r _ [41, 27, 28, 52, 53, 54, 55, 56, 57, 58, 59, 60, 61, 62, 63, 64, 65, 66, 67, 68, 69, 70] (by decide +kernel) (by decide +kernel)
set_option maxRecDepth 20000 in
theorem gX1_go_X1_beyond : GoodIn wsX1_go (wsV RX1 81 RX1 yX1_beyond wsX1_beyond) := goodIn_app (goodIn_of _ (by decide +kernel)) ggX1_go_X1_beyond
set_option maxRecDepth 20000 in
theorem ggX1_go_X1_insideNow : GoodIn wsX1_go wsX1_insideNow := goodIn_r _ [51, 14, 3, 52, 53, 54, 55, 56, 57, 58, 59, 60, 61, 62, 63, 64, 65, 66, 67, 68, 69, 70] (by decide +kernel) (by decide +kernel)
set_option maxRecDepth 20000 in
theorem gX1_go_X1_insideNow : GoodIn wsX1_go (wsV RX1 108 RX1 yX1_insideNow wsX1_insideNow) := goodIn_app (goodIn_of _ (by decide +kernel)) ggX1_go_X1_insideNow
set_option maxRecDepth 20000 in
theorem ggX1_step_X1_in : GoodIn wsX1_step wsX1_in := goodIn_r _ [5] (by decide +kernel) (by decide +kernel)
set_option maxRecDepth 20000 in
theorem gX1_step_X1_in : GoodIn wsX1_step (va_wsS RX1 60 yX1_in wsX1_in) := goodIn_app (goodIn_of _ (by decide +kernel)) ggX1_step_X1_in
set_option maxRecDepth 20000 in
theorem ggX1_step_X1_goesWell : GoodIn wsX1_step wsX1_goesWell := goodIn_r _ [9, 10, 64, 65, 66, 67, 68, 69, 70, 71, 72, 73, 74, 75, 76, 77, 78, 79, 80, 81, 82] (by decide +kernel) (by decide +kernel)
set_option maxRecDepth 20000 in
theorem gX1_step_X1_goesWell : GoodIn wsX1_step (wsV RX1 67 RX1 yX1_goesWell wsX1_goesWell) := goodIn_app (goodIn_of _ (by decide +kernel)) ggX1_step_X1_goesWell
set_option maxRecDepth 20000 in
theorem ggX1_step_X1_go : GoodIn wsX1_step wsX1_go := goodIn_r _ [14, 15, 16, 1, 17, 18, 19, 20, 21, 22, 23, 24, 4, 25, 26, 27, 28, 29, 30, 31, 32, 33, 34, 35, 36, 37, 38, 39, 40, 41, 42, 43, 44, 45, 46, 47, 48, 49, 50, 51, 52, 53, 54, 55, 56, 57, 58, 59, 60, 61, 62, 63, 64, 65, 66, 67, 68, 69, 70, 71, 72, 73, 74, 75, 76, 77, 78, 79, 80, 81, 82] (by decide +kernel) (by decide +kernel)
set_option maxRecDepth 20000 in
theorem gX1_step_X1_go : GoodIn wsX1_step (wsV RX1 112 RX1 yX1_go wsX1_go) := goodIn_app (goodIn_of _ (by decide +kernel)) ggX1_step_X1_go
set_option maxRecDepth 20000 in
theorem ggX1_clear_X1_insideNow : GoodIn wsX1_clear wsX1_insideNow := goodIn_r _ [9, 2, 10, 57, 58, 59, 60, 61, 62, 63, 64, 65, 66, 67, 68, 69, 70, 71, 72, 73, 74, 75] (by decide +kernel) (by decide +kernel)
set_option maxRecDepth 20000 in
theorem gX1_clear_X1_insideNow : GoodIn wsX1_clear (wsV RX1 108 RX1 yX1_insideNow wsX1_insideNow) := goodIn_app (goodIn_of _ (by decide +kernel)) ggX1_clear_X1_insideNow
set_option maxRecDepth 20000 in
theorem ggX1_clear_X1_go : GoodIn wsX1_clear wsX1_go := goodIn_r _ [14, 15, 16, 10, 17, 18, 4, 19, 20, 21, 22, 23, 8, 24, 2, 25, 26, 27, 28, 29, 3, 30, 31, 32, 33, 34, 35, 36, 37, 38, 39, 40, 41, 42, 43, 44, 45, 46, 47, 48, 49, 50, 51, 52, 53, 54, 55, 56, 5, 6, 7, 9, 57, 58, 59, 60, 61, 62, 63, 64, 65, 66, 67, 68, 69, 70, 71, 72, 73, 74, 75] (by decide +kernel) (by decide +kernel)
set_option maxRecDepth 20000 in
theorem gX1_clear_X1_go : GoodIn wsX1_clear (wsV RX1 112 RX1 yX1_go wsX1_go) := goodIn_app (goodIn_of _ (by decide +kernel)) ggX1_clear_X1_go
set_option maxRecDepth 20000 in
theorem ggX1_people_X1_isPlace : GoodIn wsX1_people wsX1_isPlace := goodIn_r _ [6, 7, 8, 9, 5, 10, 16, 17, 18, 19, 20, 21, 22, 23, 24, 25, 26, 27, 28, 29, 30, 31, 32, 33, 34] (by decide +kernel) (by decide +kernel)
set_option maxRecDepth 20000 in
theorem gX1_people_X1_isPlace : GoodIn wsX1_people (wsV RX1 71 RX1 yX1_isPlace wsX1_isPlace) := goodIn_app (goodIn_of _ (by decide +kernel)) ggX1_people_X1_isPlace
set_option maxRecDepth 20000 in
theorem ggX1_people_X1_goesWell : GoodIn wsX1_people wsX1_goesWell := goodIn_r _ [14, 15, 16, 17, 18, 19, 20, 21, 22, 23, 24, 25, 26, 27, 28, 29, 30, 31, 32, 33, 34] (by decide +kernel) (by decide +kernel)
set_option maxRecDepth 20000 in
theorem gX1_people_X1_goesWell : GoodIn wsX1_people (wsV RX1 67 RX1 yX1_goesWell wsX1_goesWell) := goodIn_app (goodIn_of _ (by decide +kernel)) ggX1_people_X1_goesWell
set_option maxRecDepth 20000 in
theorem ggX1_inside_X1_insideNow : GoodIn wsX1_inside wsX1_insideNow := goodIn_r _ [6, 7, 8, 9, 10, 11, 12, 13, 14, 15, 16, 17, 18, 19, 20, 21, 22, 23, 24, 25, 26, 27] (by decide +kernel) (by decide +kernel)
set_option maxRecDepth 20000 in
theorem gX1_inside_X1_insideNow : GoodIn wsX1_inside (wsV RX1 108 RX1 yX1_insideNow wsX1_insideNow) := goodIn_app (goodIn_of _ (by decide +kernel)) ggX1_inside_X1_insideNow
set_option maxRecDepth 20000 in
theorem ggX1_latest_X1_goesWell : GoodIn wsX1_latest wsX1_goesWell := goodIn_r _ [6, 7, 8, 9, 10, 11, 12, 13, 14, 15, 16, 17, 18, 19, 20, 21, 22, 23, 24, 25, 26] (by decide +kernel) (by decide +kernel)
set_option maxRecDepth 20000 in
theorem gX1_latest_X1_goesWell : GoodIn wsX1_latest (wsV RX1 67 RX1 yX1_goesWell wsX1_goesWell) := goodIn_app (goodIn_of _ (by decide +kernel)) ggX1_latest_X1_goesWell
set_option maxRecDepth 20000 in
theorem ggX1_passed_X1_isDoor : GoodIn wsX1_passed wsX1_isDoor := goodIn_r _ [6, 7, 8, 9, 5, 10, 16, 17, 18, 19, 20, 21, 22, 23, 24, 25, 26, 27, 28, 29, 30, 31, 32, 33, 34] (by decide +kernel) (by decide +kernel)
set_option maxRecDepth 20000 in
theorem gX1_passed_X1_isDoor : GoodIn wsX1_passed (wsV RX1 74 RX1 yX1_isDoor wsX1_isDoor) := goodIn_app (goodIn_of _ (by decide +kernel)) ggX1_passed_X1_isDoor
set_option maxRecDepth 20000 in
theorem ggX1_passed_X1_goesWell : GoodIn wsX1_passed wsX1_goesWell := goodIn_r _ [14, 15, 16, 17, 18, 19, 20, 21, 22, 23, 24, 25, 26, 27, 28, 29, 30, 31, 32, 33, 34] (by decide +kernel) (by decide +kernel)
set_option maxRecDepth 20000 in
theorem gX1_passed_X1_goesWell : GoodIn wsX1_passed (wsV RX1 67 RX1 yX1_goesWell wsX1_goesWell) := goodIn_app (goodIn_of _ (by decide +kernel)) ggX1_passed_X1_goesWell
set_option maxRecDepth 20000 in
theorem ggX1_distance_X1_measure : GoodIn wsX1_distance wsX1_measure := goodIn_r _ [6, 7, 1, 8, 9, 10, 11, 12, 13, 5, 14, 15, 28, 29, 30, 31, 32, 33, 34, 35, 36, 37, 38, 39, 40, 41, 42, 43, 44, 45, 46] (by decide +kernel) (by decide +kernel)
set_option maxRecDepth 20000 in
theorem gX1_distance_X1_measure : GoodIn wsX1_distance (wsV RX1 85 RX1 yX1_measure wsX1_measure) := goodIn_app (goodIn_of _ (by decide +kernel)) ggX1_distance_X1_measure
set_option maxRecDepth 20000 in
theorem ggX1_distance_X1_isPlace : GoodIn wsX1_distance wsX1_isPlace := goodIn_r _ [19, 7, 20, 21, 5, 22, 28, 29, 30, 31, 32, 33, 34, 35, 36, 37, 38, 39, 40, 41, 42, 43, 44, 45, 46] (by decide +kernel) (by decide +kernel)
set_option maxRecDepth 20000 in
theorem gX1_distance_X1_isPlace : GoodIn wsX1_distance (wsV RX1 71 RX1 yX1_isPlace wsX1_isPlace) := goodIn_app (goodIn_of _ (by decide +kernel)) ggX1_distance_X1_isPlace
set_option maxRecDepth 20000 in
theorem ggX1_distance_X1_goesWell : GoodIn wsX1_distance wsX1_goesWell := goodIn_r _ [26, 27, 28, 29, 30, 31, 32, 33, 34, 35, 36, 37, 38, 39, 40, 41, 42, 43, 44, 45, 46] (by decide +kernel) (by decide +kernel)
set_option maxRecDepth 20000 in
theorem gX1_distance_X1_goesWell : GoodIn wsX1_distance (wsV RX1 67 RX1 yX1_goesWell wsX1_goesWell) := goodIn_app (goodIn_of _ (by decide +kernel)) ggX1_distance_X1_goesWell
set_option maxRecDepth 20000 in
theorem ggX1_door_X1_measure : GoodIn wsX1_door wsX1_measure := goodIn_r _ [5, 6, 7, 8, 9, 10, 11, 12, 13, 4, 14, 15, 36, 37, 38, 39, 40, 41, 42, 43, 44, 45, 46, 47, 48, 49, 50, 51, 52, 53, 54] (by decide +kernel) (by decide +kernel)
set_option maxRecDepth 20000 in
theorem gX1_door_X1_measure : GoodIn wsX1_door (wsV RX1 85 RX1 yX1_measure wsX1_measure) := goodIn_app (goodIn_of _ (by decide +kernel)) ggX1_door_X1_measure
set_option maxRecDepth 20000 in
theorem ggX1_door_X1_isPlace : GoodIn wsX1_door wsX1_isPlace := goodIn_r _ [19, 6, 20, 21, 4, 22, 36, 37, 38, 39, 40, 41, 42, 43, 44, 45, 46, 47, 48, 49, 50, 51, 52, 53, 54] (by decide +kernel) (by decide +kernel)
set_option maxRecDepth 20000 in
theorem gX1_door_X1_isPlace : GoodIn wsX1_door (wsV RX1 71 RX1 yX1_isPlace wsX1_isPlace) := goodIn_app (goodIn_of _ (by decide +kernel)) ggX1_door_X1_isPlace
set_option maxRecDepth 20000 in
theorem ggX1_door_X1_doorOf : GoodIn wsX1_door wsX1_doorOf := goodIn_r _ [26, 8, 7, 15, 27, 28, 29, 4, 30, 9, 10, 36, 37, 38, 39, 40, 41, 42, 43, 44, 45, 46, 47, 48, 49, 50, 51, 52, 53, 54] (by decide +kernel) (by decide +kernel)
set_option maxRecDepth 20000 in
theorem gX1_door_X1_doorOf : GoodIn wsX1_door (wsV RX1 88 RX1 yX1_doorOf wsX1_doorOf) := goodIn_app (goodIn_of _ (by decide +kernel)) ggX1_door_X1_doorOf
set_option maxRecDepth 20000 in
theorem ggX1_door_X1_goesWell : GoodIn wsX1_door wsX1_goesWell := goodIn_r _ [34, 35, 36, 37, 38, 39, 40, 41, 42, 43, 44, 45, 46, 47, 48, 49, 50, 51, 52, 53, 54] (by decide +kernel) (by decide +kernel)
set_option maxRecDepth 20000 in
theorem gX1_door_X1_goesWell : GoodIn wsX1_door (wsV RX1 67 RX1 yX1_goesWell wsX1_goesWell) := goodIn_app (goodIn_of _ (by decide +kernel)) ggX1_door_X1_goesWell
set_option maxRecDepth 20000 in
theorem ggX1_trappedNow_X1_measure : GoodIn wsX1_trappedNow wsX1_measure := goodIn_r _ [8, 1, 2, 9, 10, 11, 12, 13, 14, 7, 15, 16, 17, 18, 19, 20, 21, 22, 23, 24, 25, 26, 27, 28, 29, 30, 31, 32, 33, 34, 35] (by decide +kernel) (by decide +kernel)
set_option maxRecDepth 20000 in
theorem gX1_trappedNow_X1_measure : GoodIn wsX1_trappedNow (wsV RX1 85 RX1 yX1_measure wsX1_measure) := goodIn_app (goodIn_of _ (by decide +kernel)) ggX1_trappedNow_X1_measure
set_option maxRecDepth 20000 in
theorem ggX1_trapped_X1_trappedNow : GoodIn wsX1_trapped wsX1_trappedNow := goodIn_r _ [6, 7, 8, 9, 10, 11, 12, 5, 13, 14, 15, 16, 17, 18, 19, 20, 21, 22, 23, 24, 25, 26, 27, 28, 29, 30, 31, 32, 33, 34, 35, 36, 37, 38, 39, 40] (by decide +kernel) (by decide +kernel)
set_option maxRecDepth 20000 in
theorem gX1_trapped_X1_trappedNow : GoodIn wsX1_trapped (wsV RX1 115 RX1 yX1_trappedNow wsX1_trappedNow) := goodIn_app (goodIn_of _ (by decide +kernel)) ggX1_trapped_X1_trappedNow
set_option maxRecDepth 20000 in
theorem ggX1_wouldMove_X1_isPlace : GoodIn wsX1_wouldMove wsX1_isPlace := goodIn_r _ [6, 7, 8, 9, 5, 10, 57, 58, 59, 60, 61, 62, 63, 64, 65, 66, 67, 68, 69, 70, 71, 72, 73, 74, 75] (by decide +kernel) (by decide +kernel)
set_option maxRecDepth 20000 in
theorem gX1_wouldMove_X1_isPlace : GoodIn wsX1_wouldMove (wsV RX1 71 RX1 yX1_isPlace wsX1_isPlace) := goodIn_app (goodIn_of _ (by decide +kernel)) ggX1_wouldMove_X1_isPlace
set_option maxRecDepth 20000 in
theorem ggX1_wouldMove_X1_goesWell : GoodIn wsX1_wouldMove wsX1_goesWell := goodIn_r _ [14, 15, 57, 58, 59, 60, 61, 62, 63, 64, 65, 66, 67, 68, 69, 70, 71, 72, 73, 74, 75] (by decide +kernel) (by decide +kernel)
set_option maxRecDepth 20000 in
theorem gX1_wouldMove_X1_goesWell : GoodIn wsX1_wouldMove (wsV RX1 67 RX1 yX1_goesWell wsX1_goesWell) := goodIn_app (goodIn_of _ (by decide +kernel)) ggX1_wouldMove_X1_goesWell
set_option maxRecDepth 20000 in
theorem ggX1_wouldMove_X1_decide : GoodIn wsX1_wouldMove wsX1_decide := goodIn_r _ [19, 7, 20, 21, 22, 5, 23, 24, 25, 1, 26, 27, 28, 29, 30, 31, 32, 33, 34, 35, 36, 37, 38, 39, 40, 41, 42, 43, 44, 45, 46, 47, 48, 49, 50, 51, 52, 53, 54, 55, 56, 57, 58, 59, 60, 61, 62, 63, 64, 65, 66, 67, 68, 69, 70, 71, 72, 73, 74, 75] (by decide +kernel) (by decide +kernel)
set_option maxRecDepth 20000 in
theorem gX1_wouldMove_X1_decide : GoodIn wsX1_wouldMove (wsV RX1 102 RX1 yX1_decide wsX1_decide) := goodIn_app (goodIn_of _ (by decide +kernel)) ggX1_wouldMove_X1_decide
set_option maxRecDepth 20000 in
theorem ggX1_wouldMove_X1_doorOf : GoodIn wsX1_wouldMove wsX1_doorOf := goodIn_r _ [46, 24, 35, 42, 47, 48, 49, 5, 50, 36, 37, 57, 58, 59, 60, 61, 62, 63, 64, 65, 66, 67, 68, 69, 70, 71, 72, 73, 74, 75] (by decide +kernel) (by decide +kernel)
set_option maxRecDepth 20000 in
theorem gX1_wouldMove_X1_doorOf : GoodIn wsX1_wouldMove (wsV RX1 88 RX1 yX1_doorOf wsX1_doorOf) := goodIn_app (goodIn_of _ (by decide +kernel)) ggX1_wouldMove_X1_doorOf
set_option maxRecDepth 20000 in
theorem ggX1_bound_X1_trappedNow : GoodIn wsX1_bound wsX1_trappedNow := goodIn_r _ [13, 1, 2, 3, 14, 15, 16, 12, 17, 4, 5, 6, 18, 19, 20, 21, 7, 27, 28, 29, 30, 31, 32, 33, 34, 35, 36, 37, 38, 39, 40, 41, 42, 43, 44, 45] (by decide +kernel) (by decide +kernel)
set_option maxRecDepth 20000 in
theorem gX1_bound_X1_trappedNow : GoodIn wsX1_bound (wsV RX1 115 RX1 yX1_trappedNow wsX1_trappedNow) := goodIn_app (goodIn_of _ (by decide +kernel)) ggX1_bound_X1_trappedNow
set_option maxRecDepth 20000 in
theorem ggX1_bound_X1_goesWell : GoodIn wsX1_bound wsX1_goesWell := goodIn_r _ [25, 26, 27, 28, 29, 30, 31, 32, 33, 34, 35, 36, 37, 38, 39, 40, 41, 42, 43, 44, 45] (by decide +kernel) (by decide +kernel)
set_option maxRecDepth 20000 in
theorem gX1_bound_X1_goesWell : GoodIn wsX1_bound (wsV RX1 67 RX1 yX1_goesWell wsX1_goesWell) := goodIn_app (goodIn_of _ (by decide +kernel)) ggX1_bound_X1_goesWell
set_option maxRecDepth 20000 in
theorem ggL_addPlace_X0_addPlace : GoodIn wsL_addPlace wsX0_addPlace := goodIn_ca (goodIn_ca (goodIn_r _ [7, 8, 9, 10, 11, 6, 12, 13, 14, 15, 16, 17, 18, 19, 20, 21, 22, 23, 24, 25, 26, 27, 28, 29, 30, 31, 32, 33, 34, 35, 36, 37, 38, 39, 40, 41, 42, 43, 44, 45, 46, 47, 48, 49, 50, 51, 52, 53, 54, 55, 56, 57, 58, 59, 60, 61, 62, 63, 64, 65] (by decide +kernel) (by decide +kernel)) (goodIn_sub (fun _ h => List.mem_cons_of_mem _ (List.mem_append_left _ (List.mem_append_right _ h))) (by decide +kernel))) (goodIn_sub (fun _ h => List.mem_cons_of_mem _ (List.mem_append_right _ h)) (by decide +kernel))
set_option maxRecDepth 20000 in
theorem gL_addPlace_X0_addPlace : GoodIn wsL_addPlace (wsV RL 7 RX0 yX0_addPlace wsX0_addPlace) := goodIn_app (goodIn_of _ (by decide +kernel)) ggL_addPlace_X0_addPlace
set_option maxRecDepth 20000 in
theorem ggL_addDoor_X0_addDoor : GoodIn wsL_addDoor wsX0_addDoor := goodIn_ca (goodIn_ca (goodIn_ca (goodIn_r _ [8, 9, 10, 11, 12, 13, 14, 15, 16, 17, 7, 18, 19, 20, 21, 22, 23, 24, 25, 26, 27, 28, 29, 30, 31, 32, 33, 34, 35, 36, 37, 38, 39, 40, 41, 42, 43, 44, 45, 46, 47, 48, 49, 50, 51, 52, 53, 54, 55, 56, 57, 58, 59, 60, 61, 62, 63, 64, 65, 66, 67, 68, 69, 70, 71, 72, 73, 74, 75, 76, 77] (by decide +kernel) (by decide +kernel)) (goodIn_sub (fun _ h => List.mem_cons_of_mem _ (List.mem_append_left _ (List.mem_append_left _ (List.mem_append_right _ h)))) (by decide +kernel))) (goodIn_sub (fun _ h => List.mem_cons_of_mem _ (List.mem_append_left _ (List.mem_append_right _ h))) (by decide +kernel))) (goodIn_sub (fun _ h => List.mem_cons_of_mem _ (List.mem_append_right _ h)) (by decide +kernel))
set_option maxRecDepth 20000 in
theorem gL_addDoor_X0_addDoor : GoodIn wsL_addDoor (wsV RL 17 RX0 yX0_addDoor wsX0_addDoor) := goodIn_app (goodIn_of _ (by decide +kernel)) ggL_addDoor_X0_addDoor
set_option maxRecDepth 20000 in
theorem ggL_setDoor_X0_setDoor : GoodIn wsL_setDoor wsX0_setDoor := goodIn_ca (goodIn_r _ [6, 7, 8, 9, 10, 5, 11, 12, 13, 14, 15, 16, 17, 18, 19, 20, 21, 22, 23, 24, 25, 26, 27, 28, 29, 30, 31, 32, 33, 34, 35, 36, 37, 38, 39, 40, 41, 42, 43, 44, 45, 46, 47, 48, 49, 50, 51, 52, 53, 54, 55, 56, 57, 58, 59, 60] (by decide +kernel) (by decide +kernel)) (goodIn_sub (fun _ h => List.mem_cons_of_mem _ (List.mem_append_right _ h)) (by decide +kernel))
set_option maxRecDepth 20000 in
theorem gL_setDoor_X0_setDoor : GoodIn wsL_setDoor (wsV RL 23 RX0 yX0_setDoor wsX0_setDoor) := goodIn_app (goodIn_of _ (by decide +kernel)) ggL_setDoor_X0_setDoor
set_option maxRecDepth 20000 in
theorem ggL_come_X0_come : GoodIn wsL_come wsX0_come := goodIn_ca (goodIn_ca (goodIn_ca (goodIn_r _ [8, 9, 10, 11, 12, 7, 13, 14, 15, 16, 17, 18, 19, 20, 21, 22, 23, 24, 25, 26, 27, 28, 29, 30, 31, 32, 33, 34, 35, 36, 37, 38, 39, 40, 41, 42, 43, 44, 45, 46, 47, 48, 49, 50, 51, 52, 53, 54, 55, 56, 57, 58] (by decide +kernel) (by decide +kernel)) (goodIn_sub (fun _ h => List.mem_cons_of_mem _ (List.mem_append_left _ (List.mem_append_left _ (List.mem_append_right _ h)))) (by decide +kernel))) (goodIn_sub (fun _ h => List.mem_cons_of_mem _ (List.mem_append_left _ (List.mem_append_right _ h))) (by decide +kernel))) (goodIn_sub (fun _ h => List.mem_cons_of_mem _ (List.mem_append_right _ h)) (by decide +kernel))
set_option maxRecDepth 20000 in
theorem gL_come_X0_come : GoodIn wsL_come (wsV RL 27 RX0 yX0_come wsX0_come) := goodIn_app (goodIn_of _ (by decide +kernel)) ggL_come_X0_come
set_option maxRecDepth 20000 in
theorem ggL_setRelease_X0_setRelease : GoodIn wsL_setRelease wsX0_setRelease := goodIn_ca (goodIn_ca (goodIn_r _ [7, 8, 9, 10, 11, 6, 12, 13, 14, 15, 16, 17, 18, 19, 20, 21, 22, 23, 24, 25, 26, 27, 28, 29, 30, 31, 32, 33, 34, 35, 36, 37, 38, 39, 40, 41, 42, 43, 44, 45, 46] (by decide +kernel) (by decide +kernel)) (goodIn_sub (fun _ h => List.mem_cons_of_mem _ (List.mem_append_left _ (List.mem_append_right _ h))) (by decide +kernel))) (goodIn_sub (fun _ h => List.mem_cons_of_mem _ (List.mem_append_right _ h)) (by decide +kernel))
set_option maxRecDepth 20000 in
theorem gL_setRelease_X0_setRelease : GoodIn wsL_setRelease (wsV RL 31 RX0 yX0_setRelease wsX0_setRelease) := goodIn_app (goodIn_of _ (by decide +kernel)) ggL_setRelease_X0_setRelease
set_option maxRecDepth 20000 in
theorem ggL_step_X0_step : GoodIn wsL_step wsX0_step := goodIn_ca (goodIn_r _ [6, 7, 8, 9, 5, 10, 11, 12, 13, 14, 15, 16, 17, 18, 19, 20, 21, 22, 23, 24, 25, 26, 27, 28, 29, 30, 31, 32, 33, 34, 35, 36, 37, 38, 39, 40, 41, 42, 43, 44, 45, 46, 47, 48, 49, 50, 51, 52, 53, 54, 55, 56, 57, 58, 59, 60, 61, 62, 63, 64, 65, 66, 67, 68, 69, 70, 71, 72, 73, 74, 75, 76, 77, 78, 79, 80, 81, 82, 83, 84, 85, 86, 87, 88] (by decide +kernel) (by decide +kernel)) (goodIn_sub (fun _ h => List.mem_cons_of_mem _ (List.mem_append_right _ h)) (by decide +kernel))
set_option maxRecDepth 20000 in
theorem gL_step_X0_step : GoodIn wsL_step (wsV RL 34 RX0 yX0_step wsX0_step) := goodIn_app (goodIn_of _ (by decide +kernel)) ggL_step_X0_step
set_option maxRecDepth 20000 in
theorem ggL_people_X0_people : GoodIn wsL_people wsX0_people := goodIn_ca (goodIn_r _ [6, 7, 8, 9, 10, 5, 11, 12, 13, 14, 15, 16, 17, 18, 19, 20, 21, 22, 23, 24, 25, 26, 27, 28, 29, 30, 31, 32, 33, 34, 35, 36, 37] (by decide +kernel) (by decide +kernel)) (goodIn_sub (fun _ h => List.mem_cons_of_mem _ (List.mem_append_right _ h)) (by decide +kernel))
set_option maxRecDepth 20000 in
theorem gL_people_X0_people : GoodIn wsL_people (wsV RL 37 RX0 yX0_people wsX0_people) := goodIn_app (goodIn_of _ (by decide +kernel)) ggL_people_X0_people
set_option maxRecDepth 20000 in
theorem ggL_latest_X0_latest : GoodIn wsL_latest wsX0_latest := goodIn_ca (goodIn_r _ [6, 7, 8, 9, 5, 10, 11, 12, 13, 14, 15, 16, 17, 18, 19, 20, 21, 22, 23, 24, 25, 26, 27, 28, 29, 30, 31] (by decide +kernel) (by decide +kernel)) (goodIn_sub (fun _ h => List.mem_cons_of_mem _ (List.mem_append_right _ h)) (by decide +kernel))
set_option maxRecDepth 20000 in
theorem gL_latest_X0_latest : GoodIn wsL_latest (wsV RL 40 RX0 yX0_latest wsX0_latest) := goodIn_app (goodIn_of _ (by decide +kernel)) ggL_latest_X0_latest
set_option maxRecDepth 20000 in
theorem ggL_passed_X0_passed : GoodIn wsL_passed wsX0_passed := goodIn_ca (goodIn_r _ [6, 7, 8, 9, 10, 5, 11, 12, 13, 14, 15, 16, 17, 18, 19, 20, 21, 22, 23, 24, 25, 26, 27, 28, 29, 30, 31, 32, 33, 34, 35, 36, 37] (by decide +kernel) (by decide +kernel)) (goodIn_sub (fun _ h => List.mem_cons_of_mem _ (List.mem_append_right _ h)) (by decide +kernel))
set_option maxRecDepth 20000 in
theorem gL_passed_X0_passed : GoodIn wsL_passed (wsV RL 46 RX0 yX0_passed wsX0_passed) := goodIn_app (goodIn_of _ (by decide +kernel)) ggL_passed_X0_passed
set_option maxRecDepth 20000 in
theorem ggL_distance_X0_distance : GoodIn wsL_distance wsX0_distance := goodIn_ca (goodIn_ca (goodIn_r _ [7, 8, 9, 10, 11, 6, 12, 13, 14, 15, 16, 17, 18, 19, 20, 21, 22, 23, 24, 25, 26, 27, 28, 29, 30, 31, 32, 33, 34, 35, 36, 37, 38, 39, 40, 41, 42, 43] (by decide +kernel) (by decide +kernel)) (goodIn_sub (fun _ h => List.mem_cons_of_mem _ (List.mem_append_left _ (List.mem_append_right _ h))) (by decide +kernel))) (goodIn_sub (fun _ h => List.mem_cons_of_mem _ (List.mem_append_right _ h)) (by decide +kernel))
set_option maxRecDepth 20000 in
theorem gL_distance_X0_distance : GoodIn wsL_distance (wsV RL 49 RX0 yX0_distance wsX0_distance) := goodIn_app (goodIn_of _ (by decide +kernel)) ggL_distance_X0_distance
set_option maxRecDepth 20000 in
theorem ggL_door_X0_door : GoodIn wsL_door wsX0_door := goodIn_ca (goodIn_ca (goodIn_r _ [7, 8, 9, 10, 11, 6, 12, 13, 14, 15, 16, 17, 18, 19, 20, 21, 22, 23, 24, 25, 26, 27, 28, 29, 30, 31, 32, 33, 34, 35, 36, 37, 38, 39, 40, 41, 42, 43] (by decide +kernel) (by decide +kernel)) (goodIn_sub (fun _ h => List.mem_cons_of_mem _ (List.mem_append_left _ (List.mem_append_right _ h))) (by decide +kernel))) (goodIn_sub (fun _ h => List.mem_cons_of_mem _ (List.mem_append_right _ h)) (by decide +kernel))
set_option maxRecDepth 20000 in
theorem gL_door_X0_door : GoodIn wsL_door (wsV RL 52 RX0 yX0_door wsX0_door) := goodIn_app (goodIn_of _ (by decide +kernel)) ggL_door_X0_door
set_option maxRecDepth 20000 in
theorem ggL_wouldMove_X0_wouldMove : GoodIn wsL_wouldMove wsX0_wouldMove := goodIn_ca (goodIn_r _ [6, 7, 8, 9, 10, 11, 5, 12, 13, 14, 15, 16, 17, 18, 19, 20, 21, 22, 23, 24, 25, 26, 27, 28, 29, 30, 31, 32, 33, 34, 35, 36, 37, 38, 39, 40, 41, 42, 43, 44, 45, 46, 47, 48, 49, 50, 51, 52, 53, 54, 55, 56, 57, 58, 59, 60, 61, 62, 63, 64, 65, 66, 67, 68, 69, 70, 71, 72, 73, 74, 75, 76] (by decide +kernel) (by decide +kernel)) (goodIn_sub (fun _ h => List.mem_cons_of_mem _ (List.mem_append_right _ h)) (by decide +kernel))
set_option maxRecDepth 20000 in
theorem gL_wouldMove_X0_wouldMove : GoodIn wsL_wouldMove (wsV RL 55 RX0 yX0_wouldMove wsX0_wouldMove) := goodIn_app (goodIn_of _ (by decide +kernel)) ggL_wouldMove_X0_wouldMove
set_option maxRecDepth 20000 in
theorem ggL_bound_X0_bound : GoodIn wsL_bound wsX0_bound := goodIn_ca (goodIn_r _ [6, 7, 8, 9, 10, 11, 12, 13, 14, 5, 15, 16, 17, 18, 19, 20, 21, 22, 23, 24, 25, 26, 27, 28, 29, 30, 31, 32, 33, 34, 35, 36, 37, 38, 39, 40, 41, 42, 43, 44, 45, 46, 47, 48, 49, 50, 51, 52, 53, 54, 55, 56, 57, 58] (by decide +kernel) (by decide +kernel)) (goodIn_sub (fun _ h => List.mem_cons_of_mem _ (List.mem_append_right _ h)) (by decide +kernel))
set_option maxRecDepth 20000 in
theorem gL_bound_X0_bound : GoodIn wsL_bound (wsV RL 58 RX0 yX0_bound wsX0_bound) := goodIn_app (goodIn_of _ (by decide +kernel)) ggL_bound_X0_bound
set_option maxRecDepth 20000 in
theorem ggL_law_X0_init : GoodIn wsL_law wsX0_init := goodIn_r _ [9, 10, 11, 12, 13, 14, 15, 16, 17, 18, 19, 20, 21, 22, 23, 24, 25, 26, 27, 28, 29, 30, 426, 427, 428, 429, 430, 431, 432, 433, 434, 435, 436, 437, 438, 439, 440, 441, 442, 443, 444] (by decide +kernel) (by decide +kernel)
set_option maxRecDepth 20000 in
theorem gL_law_X0_init : GoodIn wsL_law (wsX0_init) := ggL_law_X0_init
set_option maxRecDepth 20000 in
theorem ggL_law_X1_init : GoodIn wsL_law wsX1_init := goodIn_r _ [33, 34, 11, 12, 35, 13, 36, 37, 38, 39, 40, 41, 42, 23, 43, 44, 45, 46, 47, 48, 49, 445, 446, 447, 448, 449, 450, 451, 452, 453, 454, 455, 456, 457, 458, 459, 460, 461, 462, 463] (by decide +kernel) (by decide +kernel)
set_option maxRecDepth 20000 in
theorem gL_law_X1_init : GoodIn wsL_law (wsX1_init) := ggL_law_X1_init
set_option maxRecDepth 20000 in
theorem ggL_law_L_addPlace : GoodIn wsL_law wsL_addPlace := goodIn_ca (goodIn_ca (goodIn_r _ [53, 54, 55, 56, 57, 58, 2, 59, 29, 14, 60, 61, 62, 63, 64, 65, 66, 67, 68, 69, 70, 71, 72, 73, 74, 75, 76, 18, 77, 26, 27, 19, 20, 78, 79, 80, 81, 17, 24, 82, 83, 84, 85, 86, 87, 88, 89, 426, 427, 428, 429, 430, 431, 432, 433, 434, 435, 436, 437, 438, 439, 440, 441, 442, 443, 444] (by decide +kernel) (by decide +kernel)) (goodIn_sub (fun _ h => List.mem_append_left _ (List.mem_append_left _ (List.mem_append_left _ (List.mem_append_right _ h)))) (by decide +kernel))) (goodIn_sub (fun _ h => List.mem_append_left _ (List.mem_append_left _ (List.mem_append_right _ h))) (by decide +kernel))
set_option maxRecDepth 20000 in
theorem gL_law_L_addPlace : GoodIn wsL_law (va_wsS RL 65 yL_addPlace wsL_addPlace) := goodIn_app (goodIn_of _ (by decide +kernel)) ggL_law_L_addPlace
set_option maxRecDepth 20000 in
theorem ggL_law_X1_addPlace : GoodIn wsL_law wsX1_addPlace := goodIn_r _ [93, 35, 36, 94, 95, 5, 96, 97, 98, 99, 100, 101, 445, 446, 447, 448, 449, 450, 451, 452, 453, 454, 455, 456, 457, 458, 459, 460, 461, 462, 463] (by decide +kernel) (by decide +kernel)
set_option maxRecDepth 20000 in
theorem gL_law_X1_addPlace : GoodIn wsL_law (wsV RL 70 RX1 yX1_addPlace wsX1_addPlace) := goodIn_app (goodIn_of _ (by decide +kernel)) ggL_law_X1_addPlace
set_option maxRecDepth 20000 in
theorem ggL_law_X1_thrown : GoodIn wsL_law wsX1_thrown := goodIn_r _ [105, 101, 445, 446, 447, 448, 449, 450, 451, 452, 453, 454, 455, 456, 457, 458, 459, 460, 461, 462, 463] (by decide +kernel) (by decide +kernel)
set_option maxRecDepth 20000 in
theorem gL_law_X1_thrown : GoodIn wsL_law (wsV RL 71 RX1 yX1_thrown wsX1_thrown) := goodIn_app (goodIn_of _ (by decide +kernel)) ggL_law_X1_thrown
set_option maxRecDepth 20000 in
theorem ggL_law_L_addDoor : GoodIn wsL_law wsL_addDoor := goodIn_ca (goodIn_ca (goodIn_ca (goodIn_r _ [108, 109, 54, 55, 110, 111, 112, 2, 113, 77, 19, 20, 21, 22, 24, 114, 115, 116, 117, 118, 119, 120, 121, 122, 123, 29, 60, 61, 62, 63, 64, 65, 66, 67, 68, 69, 70, 71, 72, 73, 74, 75, 76, 18, 26, 27, 78, 79, 80, 81, 17, 82, 83, 84, 85, 86, 87, 88, 89, 426, 427, 428, 429, 430, 431, 432, 433, 434, 435, 436, 437, 438, 439, 440, 441, 442, 443, 444] (by decide +kernel) (by decide +kernel)) (goodIn_sub (fun _ h => List.mem_append_left _ (List.mem_append_right _ h)) (by decide +kernel))) (goodIn_sub (fun _ h => List.mem_append_left _ (List.mem_append_left _ (List.mem_append_left _ (List.mem_append_right _ h)))) (by decide +kernel))) (goodIn_sub (fun _ h => List.mem_append_left _ (List.mem_append_left _ (List.mem_append_right _ h))) (by decide +kernel))
set_option maxRecDepth 20000 in
theorem gL_law_L_addDoor : GoodIn wsL_law (va_wsS RL 74 yL_addDoor wsL_addDoor) := goodIn_app (goodIn_of _ (by decide +kernel)) ggL_law_L_addDoor
set_option maxRecDepth 20000 in
theorem ggL_law_X1_addDoor : GoodIn wsL_law wsX1_addDoor := goodIn_r _ [127, 128, 39, 40, 41, 42, 43, 94, 95, 5, 96, 129, 130, 131, 132, 35, 97, 98, 99, 100, 101, 445, 446, 447, 448, 449, 450, 451, 452, 453, 454, 455, 456, 457, 458, 459, 460, 461, 462, 463] (by decide +kernel) (by decide +kernel)
set_option maxRecDepth 20000 in
theorem gL_law_X1_addDoor : GoodIn wsL_law (wsV RL 77 RX1 yX1_addDoor wsX1_addDoor) := goodIn_app (goodIn_of _ (by decide +kernel)) ggL_law_X1_addDoor
set_option maxRecDepth 20000 in
theorem ggL_law_L_setDoor : GoodIn wsL_law wsL_setDoor := goodIn_ca (goodIn_r _ [135, 109, 136, 137, 138, 2, 139, 24, 140, 141, 142, 143, 118, 119, 144, 145, 146, 147, 77, 73, 74, 75, 76, 29, 18, 26, 27, 19, 20, 78, 79, 80, 81, 17, 82, 83, 84, 85, 86, 87, 88, 89, 426, 427, 428, 429, 430, 431, 432, 433, 434, 435, 436, 437, 438, 439, 440, 441, 442, 443, 444] (by decide +kernel) (by decide +kernel)) (goodIn_sub (fun _ h => List.mem_append_left _ (List.mem_append_right _ h)) (by decide +kernel))
set_option maxRecDepth 20000 in
theorem gL_law_L_setDoor : GoodIn wsL_law (va_wsS RL 78 yL_setDoor wsL_setDoor) := goodIn_app (goodIn_of _ (by decide +kernel)) ggL_law_L_setDoor
set_option maxRecDepth 20000 in
theorem ggL_law_X1_setDoor : GoodIn wsL_law wsX1_setDoor := goodIn_r _ [151, 43, 152, 153, 154, 5, 155, 128, 94, 95, 96, 97, 98, 99, 100, 101, 445, 446, 447, 448, 449, 450, 451, 452, 453, 454, 455, 456, 457, 458, 459, 460, 461, 462, 463] (by decide +kernel) (by decide +kernel)
set_option maxRecDepth 20000 in
theorem gL_law_X1_setDoor : GoodIn wsL_law (wsV RL 81 RX1 yX1_setDoor wsX1_setDoor) := goodIn_app (goodIn_of _ (by decide +kernel)) ggL_law_X1_setDoor
set_option maxRecDepth 20000 in
theorem ggL_law_L_come : GoodIn wsL_law wsL_come := goodIn_ca (goodIn_ca (goodIn_ca (goodIn_r _ [158, 109, 54, 55, 159, 160, 161, 2, 162, 15, 114, 115, 116, 117, 118, 119, 120, 121, 122, 123, 29, 60, 61, 62, 63, 64, 65, 66, 67, 163, 164, 165, 166, 167, 14, 68, 69, 70, 71, 72, 426, 427, 428, 429, 430, 431, 432, 433, 434, 435, 436, 437, 438, 439, 440, 441, 442, 443, 444] (by decide +kernel) (by decide +kernel)) (goodIn_sub (fun _ h => List.mem_append_left _ (List.mem_append_right _ h)) (by decide +kernel))) (goodIn_sub (fun _ h => List.mem_append_left _ (List.mem_append_left _ (List.mem_append_left _ (List.mem_append_right _ h)))) (by decide +kernel))) (goodIn_sub (fun _ h => List.mem_append_left _ (List.mem_append_left _ (List.mem_append_right _ h))) (by decide +kernel))
set_option maxRecDepth 20000 in
theorem gL_law_L_come : GoodIn wsL_law (va_wsS RL 82 yL_come wsL_come) := goodIn_app (goodIn_of _ (by decide +kernel)) ggL_law_L_come
set_option maxRecDepth 20000 in
theorem ggL_law_X1_come : GoodIn wsL_law wsX1_come := goodIn_r _ [171, 37, 36, 94, 95, 5, 96, 129, 130, 131, 132, 35, 97, 98, 99, 100, 101, 445, 446, 447, 448, 449, 450, 451, 452, 453, 454, 455, 456, 457, 458, 459, 460, 461, 462, 463] (by decide +kernel) (by decide +kernel)
set_option maxRecDepth 20000 in
theorem gL_law_X1_come : GoodIn wsL_law (wsV RL 85 RX1 yX1_come wsX1_come) := goodIn_app (goodIn_of _ (by decide +kernel)) ggL_law_X1_come
set_option maxRecDepth 20000 in
theorem ggL_law_L_setRelease : GoodIn wsL_law wsL_setRelease := goodIn_ca (goodIn_ca (goodIn_r _ [174, 109, 54, 175, 176, 177, 2, 178, 16, 114, 115, 116, 117, 118, 119, 120, 121, 122, 123, 29, 60, 61, 62, 63, 64, 65, 66, 67, 426, 427, 428, 429, 430, 431, 432, 433, 434, 435, 436, 437, 438, 439, 440, 441, 442, 443, 444] (by decide +kernel) (by decide +kernel)) (goodIn_sub (fun _ h => List.mem_append_left _ (List.mem_append_right _ h)) (by decide +kernel))) (goodIn_sub (fun _ h => List.mem_append_left _ (List.mem_append_left _ (List.mem_append_left _ (List.mem_append_right _ h)))) (by decide +kernel))
set_option maxRecDepth 20000 in
theorem gL_law_L_setRelease : GoodIn wsL_law (va_wsS RL 86 yL_setRelease wsL_setRelease) := goodIn_app (goodIn_of _ (by decide +kernel)) ggL_law_L_setRelease
set_option maxRecDepth 20000 in
theorem ggL_law_X1_setRelease : GoodIn wsL_law wsX1_setRelease := goodIn_r _ [182, 38, 129, 130, 131, 5, 132, 35, 94, 95, 96, 97, 98, 99, 100, 101, 445, 446, 447, 448, 449, 450, 451, 452, 453, 454, 455, 456, 457, 458, 459, 460, 461, 462, 463] (by decide +kernel) (by decide +kernel)
set_option maxRecDepth 20000 in
theorem gL_law_X1_setRelease : GoodIn wsL_law (wsV RL 88 RX1 yX1_setRelease wsX1_setRelease) := goodIn_app (goodIn_of _ (by decide +kernel)) ggL_law_X1_setRelease
set_option maxRecDepth 20000 in
theorem ggL_law_X0_places : GoodIn wsL_law wsX0_places := goodIn_r _ [186, 29, 426, 427, 428, 429, 430, 431, 432, 433, 434, 435, 436, 437, 438, 439, 440, 441, 442, 443, 444] (by decide +kernel) (by decide +kernel)
set_option maxRecDepth 20000 in
theorem gL_law_X0_places : GoodIn wsL_law (wsV RL 89 RX0 yX0_places wsX0_places) := goodIn_app (goodIn_of _ (by decide +kernel)) ggL_law_X0_places
set_option maxRecDepth 20000 in
theorem ggL_law_X1_places : GoodIn wsL_law wsX1_places := goodIn_r _ [190, 101, 35, 445, 446, 447, 448, 449, 450, 451, 452, 453, 454, 455, 456, 457, 458, 459, 460, 461, 462, 463] (by decide +kernel) (by decide +kernel)
set_option maxRecDepth 20000 in
theorem gL_law_X1_places : GoodIn wsL_law (wsV RL 92 RX1 yX1_places wsX1_places) := goodIn_app (goodIn_of _ (by decide +kernel)) ggL_law_X1_places
set_option maxRecDepth 20000 in
theorem ggL_law_X0_doors : GoodIn wsL_law wsX0_doors := goodIn_r _ [194, 77, 426, 427, 428, 429, 430, 431, 432, 433, 434, 435, 436, 437, 438, 439, 440, 441, 442, 443, 444] (by decide +kernel) (by decide +kernel)
set_option maxRecDepth 20000 in
theorem gL_law_X0_doors : GoodIn wsL_law (wsV RL 93 RX0 yX0_doors wsX0_doors) := goodIn_app (goodIn_of _ (by decide +kernel)) ggL_law_X0_doors
set_option maxRecDepth 20000 in
theorem ggL_law_X1_doors : GoodIn wsL_law wsX1_doors := goodIn_r _ [198, 101, 128, 445, 446, 447, 448, 449, 450, 451, 452, 453, 454, 455, 456, 457, 458, 459, 460, 461, 462, 463] (by decide +kernel) (by decide +kernel)
set_option maxRecDepth 20000 in
theorem gL_law_X1_doors : GoodIn wsL_law (wsV RL 96 RX1 yX1_doors wsX1_doors) := goodIn_app (goodIn_of _ (by decide +kernel)) ggL_law_X1_doors
set_option maxRecDepth 20000 in
theorem ggL_law_L_step : GoodIn wsL_law wsL_step := goodIn_ca (goodIn_r _ [201, 54, 202, 203, 204, 2, 205, 15, 60, 61, 62, 63, 64, 65, 66, 67, 206, 207, 208, 209, 210, 30, 211, 212, 213, 214, 215, 77, 28, 29, 216, 217, 218, 219, 163, 164, 165, 166, 167, 14, 220, 221, 222, 223, 27, 22, 224, 225, 226, 227, 228, 229, 230, 231, 26, 16, 21, 120, 121, 122, 123, 232, 233, 234, 235, 25, 236, 237, 238, 239, 426, 427, 428, 429, 430, 431, 432, 433, 434, 435, 436, 437, 438, 439, 440, 441, 442, 443, 444] (by decide +kernel) (by decide +kernel)) (goodIn_sub (fun _ h => List.mem_append_left _ (List.mem_append_left _ (List.mem_append_left _ (List.mem_append_right _ h)))) (by decide +kernel))
set_option maxRecDepth 20000 in
theorem gL_law_L_step : GoodIn wsL_law (va_wsS RL 97 yL_step wsL_step) := goodIn_app (goodIn_of _ (by decide +kernel)) ggL_law_L_step
set_option maxRecDepth 20000 in
theorem ggL_law_X1_step : GoodIn wsL_law wsX1_step := goodIn_r _ [243, 37, 94, 95, 5, 96, 97, 98, 99, 100, 101, 244, 245, 246, 247, 128, 48, 49, 44, 248, 45, 249, 250, 251, 252, 253, 35, 254, 255, 256, 257, 47, 38, 41, 258, 259, 260, 261, 46, 39, 40, 262, 263, 264, 265, 43, 266, 267, 268, 269, 270, 271, 272, 273, 274, 275, 276, 277, 36, 42, 278, 279, 280, 281, 445, 446, 447, 448, 449, 450, 451, 452, 453, 454, 455, 456, 457, 458, 459, 460, 461, 462, 463] (by decide +kernel) (by decide +kernel)
set_option maxRecDepth 20000 in
theorem gL_law_X1_step : GoodIn wsL_law (wsV RL 99 RX1 yX1_step wsX1_step) := goodIn_app (goodIn_of _ (by decide +kernel)) ggL_law_X1_step
set_option maxRecDepth 20000 in
theorem ggL_law_X0_clear : GoodIn wsL_law wsX0_clear := goodIn_r _ [285, 236, 237, 238, 2, 239, 29, 15, 286, 287, 288, 289, 16, 210, 206, 207, 208, 209, 30, 211, 212, 213, 214, 215, 77, 28, 216, 217, 218, 219, 163, 164, 165, 166, 167, 14, 220, 221, 222, 223, 27, 22, 224, 225, 226, 227, 228, 229, 230, 231, 26, 21, 120, 121, 122, 123, 232, 233, 234, 235, 25, 426, 427, 428, 429, 430, 431, 432, 433, 434, 435, 436, 437, 438, 439, 440, 441, 442, 443, 444] (by decide +kernel) (by decide +kernel)
set_option maxRecDepth 20000 in
theorem gL_law_X0_clear : GoodIn wsL_law (wsV RL 100 RX0 yX0_clear wsX0_clear) := goodIn_app (goodIn_of _ (by decide +kernel)) ggL_law_X0_clear
set_option maxRecDepth 20000 in
theorem ggL_law_X1_clear : GoodIn wsL_law wsX1_clear := goodIn_r _ [293, 101, 35, 38, 248, 278, 279, 280, 5, 281, 37, 244, 245, 246, 247, 128, 48, 49, 44, 45, 249, 250, 251, 252, 253, 254, 255, 256, 257, 47, 41, 258, 259, 260, 261, 46, 39, 40, 262, 263, 264, 265, 43, 266, 267, 268, 269, 270, 271, 272, 273, 274, 275, 276, 277, 36, 42, 445, 446, 447, 448, 449, 450, 451, 452, 453, 454, 455, 456, 457, 458, 459, 460, 461, 462, 463] (by decide +kernel) (by decide +kernel)
set_option maxRecDepth 20000 in
theorem gL_law_X1_clear : GoodIn wsL_law (wsV RL 103 RX1 yX1_clear wsX1_clear) := goodIn_app (goodIn_of _ (by decide +kernel)) ggL_law_X1_clear
set_option maxRecDepth 20000 in
theorem ggL_law_X0_now : GoodIn wsL_law wsX0_now := goodIn_r _ [297, 210, 426, 427, 428, 429, 430, 431, 432, 433, 434, 435, 436, 437, 438, 439, 440, 441, 442, 443, 444] (by decide +kernel) (by decide +kernel)
set_option maxRecDepth 20000 in
theorem gL_law_X0_now : GoodIn wsL_law (wsV RL 104 RX0 yX0_now wsX0_now) := goodIn_app (goodIn_of _ (by decide +kernel)) ggL_law_X0_now
set_option maxRecDepth 20000 in
theorem ggL_law_X1_now : GoodIn wsL_law wsX1_now := goodIn_r _ [301, 101, 248, 445, 446, 447, 448, 449, 450, 451, 452, 453, 454, 455, 456, 457, 458, 459, 460, 461, 462, 463] (by decide +kernel) (by decide +kernel)
set_option maxRecDepth 20000 in
theorem gL_law_X1_now : GoodIn wsL_law (wsV RL 107 RX1 yX1_now wsX1_now) := goodIn_app (goodIn_of _ (by decide +kernel)) ggL_law_X1_now
set_option maxRecDepth 20000 in
theorem ggL_law_L_people : GoodIn wsL_law wsL_people := goodIn_ca (goodIn_r _ [304, 109, 305, 306, 307, 2, 308, 15, 114, 115, 116, 117, 118, 119, 120, 121, 122, 123, 29, 426, 427, 428, 429, 430, 431, 432, 433, 434, 435, 436, 437, 438, 439, 440, 441, 442, 443, 444] (by decide +kernel) (by decide +kernel)) (goodIn_sub (fun _ h => List.mem_append_left _ (List.mem_append_right _ h)) (by decide +kernel))
set_option maxRecDepth 20000 in
theorem gL_law_L_people : GoodIn wsL_law (va_wsS RL 108 yL_people wsL_people) := goodIn_app (goodIn_of _ (by decide +kernel)) ggL_law_L_people
set_option maxRecDepth 20000 in
theorem ggL_law_X1_people : GoodIn wsL_law wsX1_people := goodIn_r _ [312, 37, 129, 130, 131, 5, 132, 35, 94, 95, 96, 97, 98, 99, 100, 101, 445, 446, 447, 448, 449, 450, 451, 452, 453, 454, 455, 456, 457, 458, 459, 460, 461, 462, 463] (by decide +kernel) (by decide +kernel)
set_option maxRecDepth 20000 in
theorem gL_law_X1_people : GoodIn wsL_law (wsV RL 110 RX1 yX1_people wsX1_people) := goodIn_app (goodIn_of _ (by decide +kernel)) ggL_law_X1_people
set_option maxRecDepth 20000 in
theorem ggL_law_X0_inside : GoodIn wsL_law wsX0_inside := goodIn_r _ [239, 29, 15, 426, 427, 428, 429, 430, 431, 432, 433, 434, 435, 436, 437, 438, 439, 440, 441, 442, 443, 444] (by decide +kernel) (by decide +kernel)
set_option maxRecDepth 20000 in
theorem gL_law_X0_inside : GoodIn wsL_law (wsV RL 111 RX0 yX0_inside wsX0_inside) := goodIn_app (goodIn_of _ (by decide +kernel)) ggL_law_X0_inside
set_option maxRecDepth 20000 in
theorem ggL_law_X1_inside : GoodIn wsL_law wsX1_inside := goodIn_r _ [317, 101, 278, 279, 280, 5, 281, 35, 37, 445, 446, 447, 448, 449, 450, 451, 452, 453, 454, 455, 456, 457, 458, 459, 460, 461, 462, 463] (by decide +kernel) (by decide +kernel)
set_option maxRecDepth 20000 in
theorem gL_law_X1_inside : GoodIn wsL_law (wsV RL 114 RX1 yX1_inside wsX1_inside) := goodIn_app (goodIn_of _ (by decide +kernel)) ggL_law_X1_inside
set_option maxRecDepth 20000 in
theorem ggL_law_L_latest : GoodIn wsL_law wsL_latest := goodIn_ca (goodIn_r _ [320, 321, 322, 323, 324, 2, 325, 30, 326, 327, 328, 329, 330, 426, 427, 428, 429, 430, 431, 432, 433, 434, 435, 436, 437, 438, 439, 440, 441, 442, 443, 444] (by decide +kernel) (by decide +kernel)) (goodIn_sub (fun _ h => List.mem_append_right _ h) (by decide +kernel))
set_option maxRecDepth 20000 in
theorem gL_law_L_latest : GoodIn wsL_law (va_wsS RL 115 yL_latest wsL_latest) := goodIn_app (goodIn_of _ (by decide +kernel)) ggL_law_L_latest
set_option maxRecDepth 20000 in
theorem ggL_law_X1_latest : GoodIn wsL_law wsX1_latest := goodIn_r _ [334, 45, 97, 98, 99, 5, 100, 101, 445, 446, 447, 448, 449, 450, 451, 452, 453, 454, 455, 456, 457, 458, 459, 460, 461, 462, 463] (by decide +kernel) (by decide +kernel)
set_option maxRecDepth 20000 in
theorem gL_law_X1_latest : GoodIn wsL_law (wsV RL 118 RX1 yX1_latest wsX1_latest) := goodIn_app (goodIn_of _ (by decide +kernel)) ggL_law_X1_latest
set_option maxRecDepth 20000 in
theorem ggL_law_L_passed : GoodIn wsL_law wsL_passed := goodIn_ca (goodIn_r _ [337, 109, 338, 339, 340, 2, 341, 25, 140, 141, 142, 143, 118, 119, 144, 145, 146, 147, 77, 426, 427, 428, 429, 430, 431, 432, 433, 434, 435, 436, 437, 438, 439, 440, 441, 442, 443, 444] (by decide +kernel) (by decide +kernel)) (goodIn_sub (fun _ h => List.mem_append_left _ (List.mem_append_right _ h)) (by decide +kernel))
set_option maxRecDepth 20000 in
theorem gL_law_L_passed : GoodIn wsL_law (va_wsS RL 119 yL_passed wsL_passed) := goodIn_app (goodIn_of _ (by decide +kernel)) ggL_law_L_passed
set_option maxRecDepth 20000 in
theorem ggL_law_X1_passed : GoodIn wsL_law wsX1_passed := goodIn_r _ [345, 44, 152, 153, 154, 5, 155, 128, 94, 95, 96, 97, 98, 99, 100, 101, 445, 446, 447, 448, 449, 450, 451, 452, 453, 454, 455, 456, 457, 458, 459, 460, 461, 462, 463] (by decide +kernel) (by decide +kernel)
set_option maxRecDepth 20000 in
theorem gL_law_X1_passed : GoodIn wsL_law (wsV RL 121 RX1 yX1_passed wsX1_passed) := goodIn_app (goodIn_of _ (by decide +kernel)) ggL_law_X1_passed
set_option maxRecDepth 20000 in
theorem ggL_law_X0_waited : GoodIn wsL_law wsX0_waited := goodIn_r _ [349, 211, 426, 427, 428, 429, 430, 431, 432, 433, 434, 435, 436, 437, 438, 439, 440, 441, 442, 443, 444] (by decide +kernel) (by decide +kernel)
set_option maxRecDepth 20000 in
theorem gL_law_X0_waited : GoodIn wsL_law (wsV RL 122 RX0 yX0_waited wsX0_waited) := goodIn_app (goodIn_of _ (by decide +kernel)) ggL_law_X0_waited
set_option maxRecDepth 20000 in
theorem ggL_law_X1_waited : GoodIn wsL_law wsX1_waited := goodIn_r _ [353, 101, 249, 445, 446, 447, 448, 449, 450, 451, 452, 453, 454, 455, 456, 457, 458, 459, 460, 461, 462, 463] (by decide +kernel) (by decide +kernel)
set_option maxRecDepth 20000 in
theorem gL_law_X1_waited : GoodIn wsL_law (wsV RL 125 RX1 yX1_waited wsX1_waited) := goodIn_app (goodIn_of _ (by decide +kernel)) ggL_law_X1_waited
set_option maxRecDepth 20000 in
theorem ggL_law_L_distance : GoodIn wsL_law wsL_distance := goodIn_ca (goodIn_ca (goodIn_r _ [356, 109, 321, 357, 358, 359, 2, 360, 17, 114, 115, 116, 117, 118, 119, 120, 121, 122, 123, 29, 326, 327, 328, 329, 330, 426, 427, 428, 429, 430, 431, 432, 433, 434, 435, 436, 437, 438, 439, 440, 441, 442, 443, 444] (by decide +kernel) (by decide +kernel)) (goodIn_sub (fun _ h => List.mem_append_left _ (List.mem_append_right _ h)) (by decide +kernel))) (goodIn_sub (fun _ h => List.mem_append_right _ h) (by decide +kernel))
set_option maxRecDepth 20000 in
theorem gL_law_L_distance : GoodIn wsL_law (va_wsS RL 126 yL_distance wsL_distance) := goodIn_app (goodIn_of _ (by decide +kernel)) ggL_law_L_distance
set_option maxRecDepth 20000 in
theorem ggL_law_X1_distance : GoodIn wsL_law wsX1_distance := goodIn_r _ [364, 46, 258, 259, 260, 5, 261, 35, 128, 39, 40, 262, 263, 264, 265, 43, 129, 130, 131, 132, 94, 95, 96, 97, 98, 99, 100, 101, 445, 446, 447, 448, 449, 450, 451, 452, 453, 454, 455, 456, 457, 458, 459, 460, 461, 462, 463] (by decide +kernel) (by decide +kernel)
set_option maxRecDepth 20000 in
theorem gL_law_X1_distance : GoodIn wsL_law (wsV RL 128 RX1 yX1_distance wsX1_distance) := goodIn_app (goodIn_of _ (by decide +kernel)) ggL_law_X1_distance
set_option maxRecDepth 20000 in
theorem ggL_law_L_door : GoodIn wsL_law wsL_door := goodIn_ca (goodIn_ca (goodIn_r _ [367, 109, 321, 368, 369, 370, 2, 371, 18, 114, 115, 116, 117, 118, 119, 120, 121, 122, 123, 29, 326, 327, 328, 329, 330, 426, 427, 428, 429, 430, 431, 432, 433, 434, 435, 436, 437, 438, 439, 440, 441, 442, 443, 444] (by decide +kernel) (by decide +kernel)) (goodIn_sub (fun _ h => List.mem_append_left _ (List.mem_append_right _ h)) (by decide +kernel))) (goodIn_sub (fun _ h => List.mem_append_right _ h) (by decide +kernel))
set_option maxRecDepth 20000 in
theorem gL_law_L_door : GoodIn wsL_law (va_wsS RL 129 yL_door wsL_door) := goodIn_app (goodIn_of _ (by decide +kernel)) ggL_law_L_door
set_option maxRecDepth 20000 in
theorem ggL_law_X1_door : GoodIn wsL_law wsX1_door := goodIn_r _ [375, 258, 259, 260, 5, 261, 35, 46, 128, 39, 40, 262, 263, 264, 265, 43, 129, 130, 131, 132, 94, 95, 96, 266, 267, 268, 269, 270, 271, 272, 273, 97, 98, 99, 100, 101, 445, 446, 447, 448, 449, 450, 451, 452, 453, 454, 455, 456, 457, 458, 459, 460, 461, 462, 463] (by decide +kernel) (by decide +kernel)
set_option maxRecDepth 20000 in
theorem gL_law_X1_door : GoodIn wsL_law (wsV RL 131 RX1 yX1_door wsX1_door) := goodIn_app (goodIn_of _ (by decide +kernel)) ggL_law_X1_door
set_option maxRecDepth 20000 in
theorem ggL_law_X0_trapped : GoodIn wsL_law wsX0_trapped := goodIn_r _ [379, 29, 17, 15, 426, 427, 428, 429, 430, 431, 432, 433, 434, 435, 436, 437, 438, 439, 440, 441, 442, 443, 444] (by decide +kernel) (by decide +kernel)
set_option maxRecDepth 20000 in
theorem gL_law_X0_trapped : GoodIn wsL_law (wsV RL 132 RX0 yX0_trapped wsX0_trapped) := goodIn_app (goodIn_of _ (by decide +kernel)) ggL_law_X0_trapped
set_option maxRecDepth 20000 in
theorem ggL_law_X1_trapped : GoodIn wsL_law wsX1_trapped := goodIn_r _ [383, 101, 384, 385, 386, 5, 387, 35, 46, 37, 258, 259, 260, 261, 128, 39, 40, 262, 263, 264, 265, 43, 445, 446, 447, 448, 449, 450, 451, 452, 453, 454, 455, 456, 457, 458, 459, 460, 461, 462, 463] (by decide +kernel) (by decide +kernel)
set_option maxRecDepth 20000 in
theorem gL_law_X1_trapped : GoodIn wsL_law (wsV RL 135 RX1 yX1_trapped wsX1_trapped) := goodIn_app (goodIn_of _ (by decide +kernel)) ggL_law_X1_trapped
set_option maxRecDepth 20000 in
theorem ggL_law_L_wouldMove : GoodIn wsL_law wsL_wouldMove := goodIn_ca (goodIn_r _ [390, 109, 391, 392, 393, 2, 394, 18, 28, 114, 115, 116, 117, 118, 119, 120, 121, 122, 123, 29, 144, 145, 146, 147, 77, 212, 213, 214, 215, 216, 217, 218, 219, 163, 164, 165, 166, 167, 14, 15, 220, 221, 222, 223, 27, 22, 224, 225, 226, 227, 228, 229, 230, 231, 26, 16, 210, 21, 426, 427, 428, 429, 430, 431, 432, 433, 434, 435, 436, 437, 438, 439, 440, 441, 442, 443, 444] (by decide +kernel) (by decide +kernel)) (goodIn_sub (fun _ h => List.mem_append_left _ (List.mem_append_right _ h)) (by decide +kernel))
set_option maxRecDepth 20000 in
theorem gL_law_L_wouldMove : GoodIn wsL_law (va_wsS RL 136 yL_wouldMove wsL_wouldMove) := goodIn_app (goodIn_of _ (by decide +kernel)) ggL_law_L_wouldMove
set_option maxRecDepth 20000 in
theorem ggL_law_X1_wouldMove : GoodIn wsL_law wsX1_wouldMove := goodIn_r _ [398, 48, 129, 130, 131, 5, 132, 35, 94, 95, 96, 97, 98, 99, 100, 101, 250, 251, 252, 253, 254, 255, 256, 257, 128, 47, 49, 38, 248, 37, 41, 258, 259, 260, 261, 46, 39, 40, 262, 263, 264, 265, 43, 266, 267, 268, 269, 270, 271, 272, 273, 274, 275, 276, 277, 36, 42, 445, 446, 447, 448, 449, 450, 451, 452, 453, 454, 455, 456, 457, 458, 459, 460, 461, 462, 463] (by decide +kernel) (by decide +kernel)
set_option maxRecDepth 20000 in
theorem gL_law_X1_wouldMove : GoodIn wsL_law (wsV RL 138 RX1 yX1_wouldMove wsX1_wouldMove) := goodIn_app (goodIn_of _ (by decide +kernel)) ggL_law_X1_wouldMove
set_option maxRecDepth 20000 in
theorem ggL_law_L_bound : GoodIn wsL_law wsL_bound := goodIn_ca (goodIn_r _ [401, 55, 402, 403, 404, 2, 405, 29, 406, 407, 226, 408, 409, 377, 378, 379, 17, 15, 68, 69, 70, 71, 72, 410, 411, 412, 413, 414, 415, 416, 417, 418, 419, 420, 421, 77, 19, 20, 24, 21, 426, 427, 428, 429, 430, 431, 432, 433, 434, 435, 436, 437, 438, 439, 440, 441, 442, 443, 444] (by decide +kernel) (by decide +kernel)) (goodIn_sub (fun _ h => List.mem_append_left _ (List.mem_append_left _ (List.mem_append_right _ h))) (by decide +kernel))
set_option maxRecDepth 20000 in
theorem gL_law_L_bound : GoodIn wsL_law (va_wsS RL 139 yL_bound wsL_bound) := goodIn_app (goodIn_of _ (by decide +kernel)) ggL_law_L_bound
set_option maxRecDepth 20000 in
theorem ggL_law_X1_bound : GoodIn wsL_law wsX1_bound := goodIn_r _ [425, 35, 46, 37, 128, 39, 40, 43, 41, 384, 385, 386, 5, 387, 258, 259, 260, 261, 262, 263, 264, 265, 97, 98, 99, 100, 101, 445, 446, 447, 448, 449, 450, 451, 452, 453, 454, 455, 456, 457, 458, 459, 460, 461, 462, 463] (by decide +kernel) (by decide +kernel)
set_option maxRecDepth 20000 in
theorem gL_law_X1_bound : GoodIn wsL_law (wsV RL 141 RX1 yX1_bound wsX1_bound) := goodIn_app (goodIn_of _ (by decide +kernel)) ggL_law_X1_bound
abbrev vwCl : List vw_C := [(RX0, TX0, 19), (RX1, TX1, 19)]
