/-! ===== BEGIN words of one list among another's, by their places ===== -/
theorem goodIn_r {big : List Cond} (ws : List Cond) (ps : List Nat) (hp : ws = ps.filterMap (fun i => big[i]?)) (h : ws.all goodWord = true) : GoodIn big ws := by
  intro w hw
  have h1 := List.all_eq_true.mp h w hw
  rw [hp] at hw
  obtain ⟨i, -, hi⟩ := List.mem_filterMap.mp hw
  have hm : w ∈ big := by first | exact List.mem_of_getElem? hi | exact List.getElem?_mem hi
  exact ⟨hm, good_of_word h1⟩
theorem goodIn_app {big a b : List Cond} (ha : GoodIn big a) (hb : GoodIn big b) : GoodIn big (a ++ b) := fun w h => (List.mem_append.mp h).elim (ha w) (hb w)
theorem goodIn_ca {big a b : List Cond} {c : Cond} (ha : GoodIn big (c :: a)) (hb : GoodIn big b) : GoodIn big (c :: (a ++ b)) := fun w h => (List.mem_cons.mp h).elim (fun e => ha w (List.mem_cons.mpr (Or.inl e))) (fun h => (List.mem_append.mp h).elim (fun h => ha w (List.mem_cons.mpr (Or.inr h))) (hb w))
theorem goodIn_sub {big ws : List Cond} (hm : ∀ w ∈ ws, w ∈ big) (h : ws.all goodWord = true) : GoodIn big ws := fun w hw => ⟨hm w hw, good_of_word (List.all_eq_true.mp h w hw)⟩
/-! ===== END ===== -/

/-! ===== BEGIN printed: names, fields, word lists, decode rows ===== -/
def RX0 : String := "OperaGlasses$History"
def TX0 : u_T := fun k => match k with
  | 0 => ("OperaGlasses$History", "states", "[LOperaGlasses$House;", true)
  | 1 => ("OperaGlasses$History", "kept", "I", false)
  | _ => ("OperaGlasses$History", "next", "I", false)
def tyX0 : Nat → FieldType := fun k => match k with
  | 0 => .array (.object "OperaGlasses$House")
  | 1 => .int
  | _ => .int
abbrev wsX00 : List Cond := u_ws RX0 TX0 3
theorem nmX0 : ∀ a, a < 3 → ∀ b, b < 3 → a ≠ b → (TX0 a).2.1 ≠ (TX0 b).2.1 := by decide +kernel
theorem tyX0_ok : ∀ k, k < 3 → parseFieldDescriptor (TX0 k).2.2.1 = some (tyX0 k) := by decide +kernel
abbrev cX0_init : ByteArray := prog_2_method_1_code
def yX0_init : MethodName := ⟨RX0, "<init>", "()V"⟩
abbrev cX0_stateAt : ByteArray := prog_2_method_2_code
def yX0_stateAt : MethodName := ⟨RX0, "stateAt", "(I)LOperaGlasses$House;"⟩
abbrev cX0_record : ByteArray := prog_2_method_3_code
def yX0_record : MethodName := ⟨RX0, "record", "(LOperaGlasses$House;)V"⟩
def RX1 : String := "OperaGlasses$House"
def TX1 : u_T := fun k => match k with
  | 0 => ("OperaGlasses$House", "boxes", "I", false)
  | 1 => ("OperaGlasses$House", "act", "I", false)
  | 2 => ("OperaGlasses$House", "told", "I", false)
  | 3 => ("OperaGlasses$House", "looks", "[I", true)
  | 4 => ("OperaGlasses$House", "scores", "[I", true)
  | 5 => ("OperaGlasses$House", "guessed", "[I", true)
  | _ => ("OperaGlasses$House", "rumours", "[LOperaGlasses$Rumour;", true)
def tyX1 : Nat → FieldType := fun k => match k with
  | 0 => .int
  | 1 => .int
  | 2 => .int
  | 3 => .array .int
  | 4 => .array .int
  | 5 => .array .int
  | _ => .array (.object "OperaGlasses$Rumour")
abbrev wsX10 : List Cond := u_ws RX1 TX1 7
theorem nmX1 : ∀ a, a < 7 → ∀ b, b < 7 → a ≠ b → (TX1 a).2.1 ≠ (TX1 b).2.1 := by decide +kernel
theorem tyX1_ok : ∀ k, k < 7 → parseFieldDescriptor (TX1 k).2.2.1 = some (tyX1 k) := by decide +kernel
abbrev cX1_init : ByteArray := prog_3_method_1_code
def yX1_init : MethodName := ⟨RX1, "<init>", "()V"⟩
abbrev cX1_arrange : ByteArray := prog_3_method_2_code
def yX1_arrange : MethodName := ⟨RX1, "arrange", "(I)V"⟩
abbrev cX1_copyFrom : ByteArray := prog_3_method_3_code
def yX1_copyFrom : MethodName := ⟨RX1, "copyFrom", "(LOperaGlasses$House;)V"⟩
abbrev cX1_hasBox : ByteArray := prog_3_method_4_code
def yX1_hasBox : MethodName := ⟨RX1, "hasBox", "(I)Z"⟩
abbrev cX1_suits : ByteArray := prog_3_method_5_code
def yX1_suits : MethodName := ⟨RX1, "suits", "(III)Z"⟩
abbrev cX1_hasRoomFor : ByteArray := prog_3_method_6_code
def yX1_hasRoomFor : MethodName := ⟨RX1, "hasRoomFor", "(I)Z"⟩
abbrev cX1_rumourAt : ByteArray := prog_3_method_7_code
def yX1_rumourAt : MethodName := ⟨RX1, "rumourAt", "(I)LOperaGlasses$Rumour;"⟩
abbrev cX1_addRumour : ByteArray := prog_3_method_8_code
def yX1_addRumour : MethodName := ⟨RX1, "addRumour", "(IIII)V"⟩
abbrev cX1_openRumours : ByteArray := prog_3_method_9_code
def yX1_openRumours : MethodName := ⟨RX1, "openRumours", "()I"⟩
abbrev cX1_isOpen : ByteArray := prog_3_method_10_code
def yX1_isOpen : MethodName := ⟨RX1, "isOpen", "(I)Z"⟩
abbrev cX1_isTrue : ByteArray := prog_3_method_11_code
def yX1_isTrue : MethodName := ⟨RX1, "isTrue", "(I)Z"⟩
abbrev cX1_revealOpen : ByteArray := prog_3_method_12_code
def yX1_revealOpen : MethodName := ⟨RX1, "revealOpen", "()I"⟩
abbrev cX1_finishAct : ByteArray := prog_3_method_13_code
def yX1_finishAct : MethodName := ⟨RX1, "finishAct", "()V"⟩
abbrev cX1_tellerOf : ByteArray := prog_3_method_14_code
def yX1_tellerOf : MethodName := ⟨RX1, "tellerOf", "(I)I"⟩
abbrev cX1_toldBy : ByteArray := prog_3_method_15_code
def yX1_toldBy : MethodName := ⟨RX1, "toldBy", "(I)I"⟩
abbrev cX1_toldTrulyBy : ByteArray := prog_3_method_16_code
def yX1_toldTrulyBy : MethodName := ⟨RX1, "toldTrulyBy", "(I)I"⟩
abbrev cX1_firstBroken : ByteArray := prog_3_method_17_code
def yX1_firstBroken : MethodName := ⟨RX1, "firstBroken", "(I[I)I"⟩
def RX2 : String := "OperaGlasses$Pad"
def TX2 : u_T := fun k => match k with
  | 0 => ("OperaGlasses$Pad", "text", "[C", true)
  | _ => ("OperaGlasses$Pad", "length", "I", false)
def tyX2 : Nat → FieldType := fun k => match k with
  | 0 => .array .char
  | _ => .int
abbrev wsX20 : List Cond := u_ws RX2 TX2 2
theorem nmX2 : ∀ a, a < 2 → ∀ b, b < 2 → a ≠ b → (TX2 a).2.1 ≠ (TX2 b).2.1 := by decide +kernel
theorem tyX2_ok : ∀ k, k < 2 → parseFieldDescriptor (TX2 k).2.2.1 = some (tyX2 k) := by decide +kernel
abbrev cX2_init : ByteArray := prog_4_method_1_code
def yX2_init : MethodName := ⟨RX2, "<init>", "()V"⟩
def RX3 : String := "OperaGlasses$Rumour"
def TX3 : u_T := fun k => match k with
  | 0 => ("OperaGlasses$Rumour", "teller", "I", false)
  | 1 => ("OperaGlasses$Rumour", "kind", "I", false)
  | 2 => ("OperaGlasses$Rumour", "a", "I", false)
  | 3 => ("OperaGlasses$Rumour", "b", "I", false)
  | _ => ("OperaGlasses$Rumour", "status", "I", false)
def tyX3 : Nat → FieldType := fun k => match k with
  | 0 => .int
  | 1 => .int
  | 2 => .int
  | 3 => .int
  | _ => .int
abbrev wsX30 : List Cond := u_ws RX3 TX3 5
theorem nmX3 : ∀ a, a < 5 → ∀ b, b < 5 → a ≠ b → (TX3 a).2.1 ≠ (TX3 b).2.1 := by decide +kernel
theorem tyX3_ok : ∀ k, k < 5 → parseFieldDescriptor (TX3 k).2.2.1 = some (tyX3 k) := by decide +kernel
abbrev cX3_init : ByteArray := prog_5_method_1_code
def yX3_init : MethodName := ⟨RX3, "<init>", "()V"⟩
abbrev cX3_become : ByteArray := prog_5_method_2_code
def yX3_become : MethodName := ⟨RX3, "become", "(IIII)V"⟩
abbrev cX3_copyFrom : ByteArray := prog_5_method_3_code
def yX3_copyFrom : MethodName := ⟨RX3, "copyFrom", "(LOperaGlasses$Rumour;)V"⟩
abbrev cX3_decide : ByteArray := prog_5_method_4_code
def yX3_decide : MethodName := ⟨RX3, "decide", "(Z)V"⟩
abbrev cX3_holdsIn : ByteArray := prog_5_method_5_code
def yX3_holdsIn : MethodName := ⟨RX3, "holdsIn", "([I)Z"⟩
abbrev cX3_isBrokenIn : ByteArray := prog_5_method_6_code
def yX3_isBrokenIn : MethodName := ⟨RX3, "isBrokenIn", "([I)Z"⟩
def RX4 : String := "OperaGlasses$Slot"
def TX4 : u_T := fun k => match k with
  | 0 => ("OperaGlasses$Slot", "state", "LOperaGlasses$House;", true)
  | _ => ("OperaGlasses$Slot", "used", "Z", false)
def tyX4 : Nat → FieldType := fun k => match k with
  | 0 => .object "OperaGlasses$House"
  | _ => .boolean
abbrev wsX40 : List Cond := u_ws RX4 TX4 2
theorem nmX4 : ∀ a, a < 2 → ∀ b, b < 2 → a ≠ b → (TX4 a).2.1 ≠ (TX4 b).2.1 := by decide +kernel
theorem tyX4_ok : ∀ k, k < 2 → parseFieldDescriptor (TX4 k).2.2.1 = some (tyX4 k) := by decide +kernel
abbrev cX4_init : ByteArray := prog_6_method_1_code
def yX4_init : MethodName := ⟨RX4, "<init>", "()V"⟩
def RX5 : String := "OperaGlasses$Survey"
def TX5 : u_T := fun k => match k with
  | 0 => ("OperaGlasses$Survey", "walk", "LOperaGlasses$Walk;", true)
  | 1 => ("OperaGlasses$Survey", "worlds", "I", false)
  | 2 => ("OperaGlasses$Survey", "mostWatchedPerson", "I", false)
  | 3 => ("OperaGlasses$Survey", "mostWatchers", "I", false)
  | 4 => ("OperaGlasses$Survey", "looking", "[I", true)
  | 5 => ("OperaGlasses$Survey", "holding", "[I", true)
  | 6 => ("OperaGlasses$Survey", "onlyBroken", "[I", true)
  | _ => ("OperaGlasses$Survey", "supposed", "LOperaGlasses$Rumour;", true)
def tyX5 : Nat → FieldType := fun k => match k with
  | 0 => .object "OperaGlasses$Walk"
  | 1 => .int
  | 2 => .int
  | 3 => .int
  | 4 => .array .int
  | 5 => .array .int
  | 6 => .array .int
  | _ => .object "OperaGlasses$Rumour"
abbrev wsX50 : List Cond := u_ws RX5 TX5 8
theorem nmX5 : ∀ a, a < 8 → ∀ b, b < 8 → a ≠ b → (TX5 a).2.1 ≠ (TX5 b).2.1 := by decide +kernel
theorem tyX5_ok : ∀ k, k < 8 → parseFieldDescriptor (TX5 k).2.2.1 = some (tyX5 k) := by decide +kernel
abbrev cX5_init : ByteArray := prog_7_method_1_code
def yX5_init : MethodName := ⟨RX5, "<init>", "()V"⟩
abbrev cX5_take : ByteArray := prog_7_method_2_code
def yX5_take : MethodName := ⟨RX5, "take", "(LOperaGlasses$House;)V"⟩
abbrev cX5_forget : ByteArray := prog_7_method_3_code
def yX5_forget : MethodName := ⟨RX5, "forget", "()V"⟩
abbrev cX5_tally : ByteArray := prog_7_method_4_code
def yX5_tally : MethodName := ⟨RX5, "tally", "(LOperaGlasses$House;)V"⟩
abbrev cX5_lookingAt : ByteArray := prog_7_method_5_code
def yX5_lookingAt : MethodName := ⟨RX5, "lookingAt", "(II)I"⟩
abbrev cX5_isCertain : ByteArray := prog_7_method_6_code
def yX5_isCertain : MethodName := ⟨RX5, "isCertain", "(I)Z"⟩
abbrev cX5_isRuledOut : ByteArray := prog_7_method_7_code
def yX5_isRuledOut : MethodName := ⟨RX5, "isRuledOut", "(I)Z"⟩
abbrev cX5_certainBox : ByteArray := prog_7_method_8_code
def yX5_certainBox : MethodName := ⟨RX5, "certainBox", "(I)I"⟩
abbrev cX5_certainPersons : ByteArray := prog_7_method_9_code
def yX5_certainPersons : MethodName := ⟨RX5, "certainPersons", "(I)I"⟩
abbrev cX5_openCertain : ByteArray := prog_7_method_10_code
def yX5_openCertain : MethodName := ⟨RX5, "openCertain", "(LOperaGlasses$House;)I"⟩
abbrev cX5_openRuledOut : ByteArray := prog_7_method_11_code
def yX5_openRuledOut : MethodName := ⟨RX5, "openRuledOut", "(LOperaGlasses$House;)I"⟩
abbrev cX5_worseOutcome : ByteArray := prog_7_method_12_code
def yX5_worseOutcome : MethodName := ⟨RX5, "worseOutcome", "(I)I"⟩
abbrev cX5_sharpestRumour : ByteArray := prog_7_method_13_code
def yX5_sharpestRumour : MethodName := ⟨RX5, "sharpestRumour", "(LOperaGlasses$House;)I"⟩
abbrev cX5_mostToBlame : ByteArray := prog_7_method_14_code
def yX5_mostToBlame : MethodName := ⟨RX5, "mostToBlame", "(LOperaGlasses$House;)I"⟩
abbrev cX5_worldsWith : ByteArray := prog_7_method_15_code
def yX5_worldsWith : MethodName := ⟨RX5, "worldsWith", "(LOperaGlasses$House;III)I"⟩
abbrev cX5_findMostWatched : ByteArray := prog_7_method_16_code
def yX5_findMostWatched : MethodName := ⟨RX5, "findMostWatched", "(LOperaGlasses$House;)V"⟩
abbrev cX5_compareWatchers : ByteArray := prog_7_method_17_code
def yX5_compareWatchers : MethodName := ⟨RX5, "compareWatchers", "(II)V"⟩
abbrev cX5_boxInWorld : ByteArray := prog_7_method_18_code
def yX5_boxInWorld : MethodName := ⟨RX5, "boxInWorld", "(LOperaGlasses$House;II)I"⟩
def RX6 : String := "OperaGlasses$Walk"
def TX6 : u_T := fun k => match k with
  | 0 => ("OperaGlasses$Walk", "boxes", "I", false)
  | _ => ("OperaGlasses$Walk", "boxOf", "[I", true)
def tyX6 : Nat → FieldType := fun k => match k with
  | 0 => .int
  | _ => .array .int
abbrev wsX60 : List Cond := u_ws RX6 TX6 2
theorem nmX6 : ∀ a, a < 2 → ∀ b, b < 2 → a ≠ b → (TX6 a).2.1 ≠ (TX6 b).2.1 := by decide +kernel
theorem tyX6_ok : ∀ k, k < 2 → parseFieldDescriptor (TX6 k).2.2.1 = some (tyX6 k) := by decide +kernel
abbrev cX6_init : ByteArray := prog_8_method_1_code
def yX6_init : MethodName := ⟨RX6, "<init>", "()V"⟩
abbrev cX6_begin : ByteArray := prog_8_method_2_code
def yX6_begin : MethodName := ⟨RX6, "begin", "(I)I"⟩
abbrev cX6_step : ByteArray := prog_8_method_3_code
def yX6_step : MethodName := ⟨RX6, "step", "()V"⟩
abbrev cX6_firstBoxFor : ByteArray := prog_8_method_4_code
def yX6_firstBoxFor : MethodName := ⟨RX6, "firstBoxFor", "(I)I"⟩
def RX7 : String := "OperaGlasses"
def TX7 : u_T := fun k => match k with
  | 0 => ("OperaGlasses", "house", "LOperaGlasses$House;", true)
  | 1 => ("OperaGlasses", "history", "LOperaGlasses$History;", true)
  | 2 => ("OperaGlasses", "firstSlot", "LOperaGlasses$Slot;", true)
  | 3 => ("OperaGlasses", "secondSlot", "LOperaGlasses$Slot;", true)
  | 4 => ("OperaGlasses", "pad", "LOperaGlasses$Pad;", true)
  | 5 => ("OperaGlasses", "survey", "LOperaGlasses$Survey;", true)
  | _ => ("OperaGlasses", "surveyed", "Z", false)
def tyX7 : Nat → FieldType := fun k => match k with
  | 0 => .object "OperaGlasses$House"
  | 1 => .object "OperaGlasses$History"
  | 2 => .object "OperaGlasses$Slot"
  | 3 => .object "OperaGlasses$Slot"
  | 4 => .object "OperaGlasses$Pad"
  | 5 => .object "OperaGlasses$Survey"
  | _ => .boolean
abbrev wsX70 : List Cond := u_ws RX7 TX7 7
theorem nmX7 : ∀ a, a < 7 → ∀ b, b < 7 → a ≠ b → (TX7 a).2.1 ≠ (TX7 b).2.1 := by decide +kernel
theorem tyX7_ok : ∀ k, k < 7 → parseFieldDescriptor (TX7 k).2.2.1 = some (tyX7 k) := by decide +kernel
abbrev cX7_init : ByteArray := prog_1_method_1_code
def yX7_init : MethodName := ⟨RX7, "<init>", "()V"⟩
abbrev cX7_open : ByteArray := prog_1_method_2_code
def yX7_open : MethodName := ⟨RX7, "open", "(I)I"⟩
abbrev cX7_look : ByteArray := prog_1_method_3_code
def yX7_look : MethodName := ⟨RX7, "look", "(II)I"⟩
abbrev cX7_tell : ByteArray := prog_1_method_4_code
def yX7_tell : MethodName := ⟨RX7, "tell", "(IIII)I"⟩
abbrev cX7_prove : ByteArray := prog_1_method_6_code
def yX7_prove : MethodName := ⟨RX7, "prove", "(IZ)I"⟩
abbrev cX7_reveal : ByteArray := prog_1_method_7_code
def yX7_reveal : MethodName := ⟨RX7, "reveal", "()I"⟩
abbrev cX7_doubt : ByteArray := prog_1_method_8_code
def yX7_doubt : MethodName := ⟨RX7, "doubt", "(I)I"⟩
abbrev cX7_guess : ByteArray := prog_1_method_9_code
def yX7_guess : MethodName := ⟨RX7, "guess", "(III)I"⟩
abbrev cX7_endAct : ByteArray := prog_1_method_10_code
def yX7_endAct : MethodName := ⟨RX7, "endAct", "()I"⟩
abbrev cX7_person : ByteArray := prog_1_method_11_code
def yX7_person : MethodName := ⟨RX7, "person", "(II)I"⟩
abbrev cX7_rumour : ByteArray := prog_1_method_12_code
def yX7_rumour : MethodName := ⟨RX7, "rumour", "(II)I"⟩
abbrev cX7_count : ByteArray := prog_1_method_13_code
def yX7_count : MethodName := ⟨RX7, "count", "(I)I"⟩
abbrev cX7_possible : ByteArray := prog_1_method_14_code
def yX7_possible : MethodName := ⟨RX7, "possible", "(II)I"⟩
abbrev cX7_certain : ByteArray := prog_1_method_15_code
def yX7_certain : MethodName := ⟨RX7, "certain", "(I)I"⟩
abbrev cX7_world : ByteArray := prog_1_method_16_code
def yX7_world : MethodName := ⟨RX7, "world", "(II)I"⟩
abbrev cX7_ifProved : ByteArray := prog_1_method_17_code
def yX7_ifProved : MethodName := ⟨RX7, "ifProved", "(III)I"⟩
abbrev cX7_sharpest : ByteArray := prog_1_method_18_code
def yX7_sharpest : MethodName := ⟨RX7, "sharpest", "(I)I"⟩
abbrev cX7_blame : ByteArray := prog_1_method_19_code
def yX7_blame : MethodName := ⟨RX7, "blame", "(I)I"⟩
abbrev cX7_mostWatched : ByteArray := prog_1_method_20_code
def yX7_mostWatched : MethodName := ⟨RX7, "mostWatched", "(I)I"⟩
abbrev cX7_beginChange : ByteArray := prog_1_method_27_code
def yX7_beginChange : MethodName := ⟨RX7, "beginChange", "()V"⟩
abbrev cX7_surveyNow : ByteArray := prog_1_method_28_code
def yX7_surveyNow : MethodName := ⟨RX7, "surveyNow", "()LOperaGlasses$Survey;"⟩
abbrev cX7_pointsOfGuess : ByteArray := prog_1_method_32_code
def yX7_pointsOfGuess : MethodName := ⟨RX7, "pointsOfGuess", "(LOperaGlasses$Survey;II)I"⟩
abbrev cX7_watchers : ByteArray := prog_1_method_34_code
def yX7_watchers : MethodName := ⟨RX7, "watchers", "([II)I"⟩
abbrev cX7_at : ByteArray := prog_1_method_35_code
def yX7_at : MethodName := ⟨RX7, "at", "([II)I"⟩
abbrev cX7_setAt : ByteArray := prog_1_method_36_code
def yX7_setAt : MethodName := ⟨RX7, "setAt", "([III)V"⟩
abbrev cX7_addAt : ByteArray := prog_1_method_37_code
def yX7_addAt : MethodName := ⟨RX7, "addAt", "([III)V"⟩
abbrev cX7_fillRow : ByteArray := prog_1_method_38_code
def yX7_fillRow : MethodName := ⟨RX7, "fillRow", "([II)V"⟩
abbrev cX7_copyRow : ByteArray := prog_1_method_39_code
def yX7_copyRow : MethodName := ⟨RX7, "copyRow", "([I[I)V"⟩
def RX8 : String := "OperaGlassesModel"
def TX8 : u_T := fun k => match k with
  | _ => ("", "", "", false)
def tyX8 : Nat → FieldType := fun k => match k with
  | _ => .int
abbrev wsX80 : List Cond := u_ws RX8 TX8 0
theorem nmX8 : ∀ a, a < 0 → ∀ b, b < 0 → a ≠ b → (TX8 a).2.1 ≠ (TX8 b).2.1 := by decide +kernel
theorem tyX8_ok : ∀ k, k < 0 → parseFieldDescriptor (TX8 k).2.2.1 = some (tyX8 k) := by decide +kernel
def RJ9 : String := "java/lang/Math"
def TJ9 : u_T := fun k => match k with
  | _ => ("", "", "", false)
def tyJ9 : Nat → FieldType := fun k => match k with
  | _ => .int
abbrev wsJ90 : List Cond := u_ws RJ9 TJ9 0
theorem nmJ9 : ∀ a, a < 0 → ∀ b, b < 0 → a ≠ b → (TJ9 a).2.1 ≠ (TJ9 b).2.1 := by decide +kernel
theorem tyJ9_ok : ∀ k, k < 0 → parseFieldDescriptor (TJ9 k).2.2.1 = some (tyJ9 k) := by decide +kernel
abbrev cJ9_max_7cf53 : ByteArray := prog_11_method_65_code
def yJ9_max_7cf53 : MethodName := ⟨RJ9, "max", "(II)I"⟩
abbrev cJ9_min_7cf53 : ByteArray := prog_11_method_69_code
def yJ9_min_7cf53 : MethodName := ⟨RJ9, "min", "(II)I"⟩
def RL : String := "OperaGlassesLaw"
abbrev cL_cell : ByteArray := method_2_code
def yL_cell : MethodName := ⟨RL, "cell", "([II)I"⟩
abbrev cL_low : ByteArray := method_3_code
def yL_low : MethodName := ⟨RL, "low", "(II)I"⟩
abbrev cL_holds : ByteArray := method_4_code
def yL_holds : MethodName := ⟨RL, "holds", "(III[II)Z"⟩
abbrev cL_of : ByteArray := method_5_code
def yL_of : MethodName := ⟨RL, "of", "(I[I[II)Z"⟩
abbrev cL_may : ByteArray := method_6_code
def yL_may : MethodName := ⟨RL, "may", "([I[I[II)Z"⟩
abbrev cL_first : ByteArray := method_7_code
def yL_first : MethodName := ⟨RL, "first", "([I[I)V"⟩
abbrev cL_next : ByteArray := method_8_code
def yL_next : MethodName := ⟨RL, "next", "([I[I)Z"⟩
abbrev cL_all : ByteArray := method_9_code
def yL_all : MethodName := ⟨RL, "all", "([I[I[I[I)V"⟩
abbrev cL_without : ByteArray := method_10_code
def yL_without : MethodName := ⟨RL, "without", "(I[I[I[I)I"⟩
abbrev cL_same : ByteArray := method_11_code
def yL_same : MethodName := ⟨RL, "same", "(LOperaGlasses;I[I[I[I[I[I[I[I)Z"⟩
abbrev cL_law : ByteArray := code
def yL_law : MethodName := ⟨RL, "law", "([I)Z"⟩
def wsL_cell : List Cond := .code yL_cell cL_cell 2 (some .int) :: ([.constant RL 7 (983530859), .constant RL 8 (761063665)])
def wsL_low : List Cond := .code yL_low cL_low 2 (some .int) :: ([.constant RL 9 (2147483647)])
def wsL_holds : List Cond := .code yL_holds cL_holds 7 (some .boolean) :: ([])
def wsL_of : List Cond := .code yL_of cL_of 4 (some .boolean) :: ([.methodLink RL 10 yL_holds, .static yL_holds, .initialized RL, .code yL_holds cL_holds 7 (some .boolean)])
def wsL_may : List Cond := .code yL_may cL_may 5 (some .boolean) :: ([.methodLink RL 16 yL_of, .static yL_of, .initialized RL, .code yL_of cL_of 4 (some .boolean), .methodLink RL 10 yL_holds, .static yL_holds, .code yL_holds cL_holds 7 (some .boolean)])
def wsL_first : List Cond := .code yL_first cL_first 3 none :: ([])
def wsL_next : List Cond := .code yL_next cL_next 3 (some .boolean) :: ([])
def wsL_all : List Cond := .code yL_all cL_all 7 none :: ([.methodLink RL 20 yL_first, .static yL_first, .initialized RL, .code yL_first cL_first 3 none, .methodLink RL 24 yL_may, .static yL_may, .code yL_may cL_may 5 (some .boolean), .methodLink RL 16 yL_of, .static yL_of, .code yL_of cL_of 4 (some .boolean), .methodLink RL 10 yL_holds, .static yL_holds, .code yL_holds cL_holds 7 (some .boolean), .methodLink RL 28 yL_next, .static yL_next, .code yL_next cL_next 3 (some .boolean)])
def wsL_without : List Cond := .code yL_without cL_without 5 (some .int) :: ([.methodLink RL 20 yL_first, .static yL_first, .initialized RL, .code yL_first cL_first 3 none, .methodLink RL 24 yL_may, .static yL_may, .code yL_may cL_may 5 (some .boolean), .methodLink RL 16 yL_of, .static yL_of, .code yL_of cL_of 4 (some .boolean), .methodLink RL 10 yL_holds, .static yL_holds, .code yL_holds cL_holds 7 (some .boolean), .methodLink RL 28 yL_next, .static yL_next, .code yL_next cL_next 3 (some .boolean)])
def wsL_same_r1 : List Cond := [Cond.methodLink RL 32 yL_all, Cond.static yL_all, Cond.initialized RL, Cond.code yL_all cL_all 7 none, Cond.methodLink RL 20 yL_first, Cond.static yL_first, Cond.code yL_first cL_first 3 none, Cond.methodLink RL 24 yL_may, Cond.static yL_may, Cond.code yL_may cL_may 5 (some .boolean), Cond.methodLink RL 16 yL_of, Cond.static yL_of, Cond.code yL_of cL_of 4 (some .boolean), Cond.methodLink RL 10 yL_holds, Cond.static yL_holds, Cond.code yL_holds cL_holds 7 (some .boolean), Cond.methodLink RL 28 yL_next, Cond.static yL_next, Cond.code yL_next cL_next 3 (some .boolean), Cond.methodLink RL 36 yX7_rumour, Cond.instanceMethod yX7_rumour, Cond.selects RX7 yX7_rumour yX7_rumour, Cond.initialized RX7, Cond.code yX7_rumour cX7_rumour 4 (some .int)]
def wsL_same_r2 : List Cond := [Cond.fieldLink RX7 10 "OperaGlasses" "house" "LOperaGlasses$House;", Cond.methodLink RX7 118 yX1_rumourAt, Cond.instanceMethod yX1_rumourAt, Cond.selects RX1 yX1_rumourAt yX1_rumourAt, Cond.initialized RX1, Cond.code yX1_rumourAt cX1_rumourAt 2 (some (.object "OperaGlasses$Rumour")), Cond.fieldLink RX1 35 "OperaGlasses$House" "told" "I", Cond.fieldLink RX1 23 "OperaGlasses$House" "rumours" "[LOperaGlasses$Rumour;", Cond.methodLink RX7 181 yX3_holdsIn, Cond.instanceMethod yX3_holdsIn, Cond.selects RX3 yX3_holdsIn yX3_holdsIn, Cond.initialized RX3, Cond.code yX3_holdsIn cX3_holdsIn 3 (some .boolean), Cond.fieldLink RX3 18 "OperaGlasses$Rumour" "a" "I", Cond.fieldLink RX3 15 "OperaGlasses$Rumour" "kind" "I", Cond.fieldLink RX3 21 "OperaGlasses$Rumour" "b" "I", Cond.static yX7_at, Cond.code yX7_at cX7_at 2 (some .int), Cond.static yX7_watchers, Cond.code yX7_watchers cX7_watchers 4 (some .int), Cond.methodLink RX7 131 yX7_surveyNow, Cond.instanceMethod yX7_surveyNow, Cond.selects RX7 yX7_surveyNow yX7_surveyNow, Cond.code yX7_surveyNow cX7_surveyNow 1 (some (.object "OperaGlasses$Survey"))]
def wsL_same_r3 : List Cond := [Cond.fieldLink RX7 261 "OperaGlasses" "surveyed" "Z", Cond.fieldLink RX7 43 "OperaGlasses" "survey" "LOperaGlasses$Survey;", Cond.methodLink RX7 281 yX5_take, Cond.instanceMethod yX5_take, Cond.selects RX5 yX5_take yX5_take, Cond.initialized RX5, Cond.code yX5_take cX5_take 4 none, Cond.fieldLink RX5 12 "OperaGlasses$Survey" "walk" "LOperaGlasses$Walk;", Cond.fieldLink RX5 25 "OperaGlasses$Survey" "onlyBroken" "[I", Cond.methodLink RX5 35 yX5_forget, Cond.instanceMethod yX5_forget, Cond.selects RX5 yX5_forget yX5_forget, Cond.code yX5_forget cX5_forget 1 none, Cond.fieldLink RX5 66 "OperaGlasses$Survey" "worlds" "I", Cond.fieldLink RX5 18 "OperaGlasses$Survey" "looking" "[I", Cond.fieldLink RX5 22 "OperaGlasses$Survey" "holding" "[I", Cond.static yX7_fillRow, Cond.code yX7_fillRow cX7_fillRow 3 none, Cond.methodLink RX5 44 yX6_begin, Cond.instanceMethod yX6_begin, Cond.selects RX6 yX6_begin yX6_begin, Cond.initialized RX6, Cond.code yX6_begin cX6_begin 4 (some .int), Cond.fieldLink RX6 15 "OperaGlasses$Walk" "boxes" "I"]
def wsL_same_r4 : List Cond := [Cond.fieldLink RX6 9 "OperaGlasses$Walk" "boxOf" "[I", Cond.methodLink RX6 19 yX6_firstBoxFor, Cond.static yX6_firstBoxFor, Cond.code yX6_firstBoxFor cX6_firstBoxFor 1 (some .int), Cond.methodLink RX5 51 yX1_firstBroken, Cond.instanceMethod yX1_firstBroken, Cond.selects RX1 yX1_firstBroken yX1_firstBroken, Cond.code yX1_firstBroken cX1_firstBroken 5 (some .int), Cond.methodLink RX1 93 Lib.Math.max.name, Cond.static Lib.Math.max.name, Cond.initialized "java/lang/Math", Cond.code Lib.Math.max.name Lib.Math.max.code 2 (some .int), Cond.methodLink RX1 99 yX3_isBrokenIn, Cond.instanceMethod yX3_isBrokenIn, Cond.selects RX3 yX3_isBrokenIn yX3_isBrokenIn, Cond.code yX3_isBrokenIn cX3_isBrokenIn 2 (some .boolean), Cond.fieldLink RX3 24 "OperaGlasses$Rumour" "status" "I", Cond.methodLink RX3 38 yX3_holdsIn, Cond.methodLink RX5 55 yX5_tally, Cond.instanceMethod yX5_tally, Cond.selects RX5 yX5_tally yX5_tally, Cond.code yX5_tally cX5_tally 4 none, Cond.static yX7_addAt, Cond.code yX7_addAt cX7_addAt 3 none]
def wsL_same_r5 : List Cond := [Cond.methodLink RX5 80 yX1_rumourAt, Cond.methodLink RX5 84 yX3_holdsIn, Cond.methodLink RX5 63 yX6_step, Cond.instanceMethod yX6_step, Cond.selects RX6 yX6_step yX6_step, Cond.code yX6_step cX6_step 3 none, Cond.static yX7_setAt, Cond.code yX7_setAt cX7_setAt 3 none, Cond.methodLink RX7 66 yX7_at, Cond.methodLink RL 42 yL_without, Cond.static yL_without, Cond.code yL_without cL_without 5 (some .int), Cond.methodLink RL 46 yX7_possible, Cond.instanceMethod yX7_possible, Cond.selects RX7 yX7_possible yX7_possible, Cond.code yX7_possible cX7_possible 3 (some .int), Cond.methodLink RX7 58 yX1_hasBox, Cond.instanceMethod yX1_hasBox, Cond.selects RX1 yX1_hasBox yX1_hasBox, Cond.code yX1_hasBox cX1_hasBox 2 (some .boolean), Cond.fieldLink RX1 28 "OperaGlasses$House" "boxes" "I", Cond.methodLink RX7 211 yX5_lookingAt, Cond.instanceMethod yX5_lookingAt, Cond.selects RX5 yX5_lookingAt yX5_lookingAt]
def wsL_same_r6 : List Cond := [Cond.code yX5_lookingAt cX5_lookingAt 3 (some .int), Cond.methodLink RL 49 yX7_person, Cond.instanceMethod yX7_person, Cond.selects RX7 yX7_person yX7_person, Cond.code yX7_person cX7_person 3 (some .int), Cond.methodLink RX7 160 yX1_toldBy, Cond.instanceMethod yX1_toldBy, Cond.selects RX1 yX1_toldBy yX1_toldBy, Cond.code yX1_toldBy cX1_toldBy 4 (some .int), Cond.methodLink RX1 79 yX1_tellerOf, Cond.instanceMethod yX1_tellerOf, Cond.selects RX1 yX1_tellerOf yX1_tellerOf, Cond.code yX1_tellerOf cX1_tellerOf 3 (some .int), Cond.methodLink RX1 46 yX1_rumourAt, Cond.methodLink RX7 163 yX1_toldTrulyBy, Cond.instanceMethod yX1_toldTrulyBy, Cond.selects RX1 yX1_toldTrulyBy yX1_toldTrulyBy, Cond.code yX1_toldTrulyBy cX1_toldTrulyBy 4 (some .int), Cond.methodLink RX1 83 yX1_isTrue, Cond.instanceMethod yX1_isTrue, Cond.selects RX1 yX1_isTrue yX1_isTrue, Cond.code yX1_isTrue cX1_isTrue 3 (some .boolean), Cond.fieldLink RX1 9 "OperaGlasses$House" "looks" "[I", Cond.methodLink RX1 71 yX3_holdsIn]
def wsL_same_r7 : List Cond := [Cond.methodLink RX7 166 yX7_watchers, Cond.methodLink RL 52 yX7_certain, Cond.instanceMethod yX7_certain, Cond.selects RX7 yX7_certain yX7_certain, Cond.code yX7_certain cX7_certain 2 (some .int), Cond.methodLink RX7 215 yX5_certainBox, Cond.instanceMethod yX5_certainBox, Cond.selects RX5 yX5_certainBox yX5_certainBox, Cond.code yX5_certainBox cX5_certainBox 3 (some .int), Cond.methodLink RX5 88 yX5_lookingAt, Cond.methodLink RX5 92 yX5_isCertain, Cond.instanceMethod yX5_isCertain, Cond.selects RX5 yX5_isCertain yX5_isCertain, Cond.code yX5_isCertain cX5_isCertain 2 (some .boolean), Cond.methodLink RL 56 yX7_count, Cond.instanceMethod yX7_count, Cond.selects RX7 yX7_count yX7_count, Cond.code yX7_count cX7_count 2 (some .int), Cond.fieldLink RX7 36 "OperaGlasses" "pad" "LOperaGlasses$Pad;", Cond.fieldLink RX7 19 "OperaGlasses" "history" "LOperaGlasses$History;", Cond.methodLink RX7 188 yX1_openRumours, Cond.instanceMethod yX1_openRumours, Cond.selects RX1 yX1_openRumours yX1_openRumours, Cond.code yX1_openRumours cX1_openRumours 3 (some .int)]
def wsL_same_r8 : List Cond := [Cond.methodLink RX1 65 yX1_isOpen, Cond.instanceMethod yX1_isOpen, Cond.selects RX1 yX1_isOpen yX1_isOpen, Cond.code yX1_isOpen cX1_isOpen 3 (some .boolean), Cond.methodLink RX7 191 yX1_firstBroken, Cond.methodLink RX7 195 yX5_certainPersons, Cond.instanceMethod yX5_certainPersons, Cond.selects RX5 yX5_certainPersons yX5_certainPersons, Cond.code yX5_certainPersons cX5_certainPersons 4 (some .int), Cond.methodLink RX5 96 yX5_certainBox, Cond.methodLink RX7 198 yX5_openCertain, Cond.instanceMethod yX5_openCertain, Cond.selects RX5 yX5_openCertain yX5_openCertain, Cond.code yX5_openCertain cX5_openCertain 4 (some .int), Cond.methodLink RX5 99 yX1_isOpen, Cond.methodLink RX7 202 yX5_openRuledOut, Cond.instanceMethod yX5_openRuledOut, Cond.selects RX5 yX5_openRuledOut yX5_openRuledOut, Cond.code yX5_openRuledOut cX5_openRuledOut 4 (some .int), Cond.methodLink RX5 102 yX5_isRuledOut, Cond.instanceMethod yX5_isRuledOut, Cond.selects RX5 yX5_isRuledOut yX5_isRuledOut, Cond.code yX5_isRuledOut cX5_isRuledOut 2 (some .boolean), Cond.methodLink RL 59 yX7_sharpest]
def wsL_same_r9 : List Cond := [Cond.instanceMethod yX7_sharpest, Cond.selects RX7 yX7_sharpest yX7_sharpest, Cond.code yX7_sharpest cX7_sharpest 3 (some .int), Cond.methodLink RX7 226 yX5_sharpestRumour, Cond.instanceMethod yX5_sharpestRumour, Cond.selects RX5 yX5_sharpestRumour yX5_sharpestRumour, Cond.code yX5_sharpestRumour cX5_sharpestRumour 4 (some .int), Cond.methodLink RX5 110 yX5_worseOutcome, Cond.instanceMethod yX5_worseOutcome, Cond.selects RX5 yX5_worseOutcome yX5_worseOutcome, Cond.code yX5_worseOutcome cX5_worseOutcome 3 (some .int), Cond.methodLink RX5 105 Lib.Math.max.name, Cond.methodLink RX7 229 yX5_worseOutcome, Cond.methodLink RL 62 yX7_blame, Cond.instanceMethod yX7_blame, Cond.selects RX7 yX7_blame yX7_blame, Cond.code yX7_blame cX7_blame 3 (some .int), Cond.methodLink RX7 232 yX5_mostToBlame, Cond.instanceMethod yX5_mostToBlame, Cond.selects RX5 yX5_mostToBlame yX5_mostToBlame, Cond.code yX5_mostToBlame cX5_mostToBlame 4 (some .int), Cond.methodLink RL 65 yX7_mostWatched, Cond.instanceMethod yX7_mostWatched, Cond.selects RX7 yX7_mostWatched yX7_mostWatched]
def wsL_same_r10 : List Cond := [Cond.code yX7_mostWatched cX7_mostWatched 2 (some .int), Cond.methodLink RX7 238 yX5_findMostWatched, Cond.instanceMethod yX5_findMostWatched, Cond.selects RX5 yX5_findMostWatched yX5_findMostWatched, Cond.code yX5_findMostWatched cX5_findMostWatched 4 none, Cond.fieldLink RX5 117 "OperaGlasses$Survey" "mostWatchedPerson" "I", Cond.fieldLink RX5 120 "OperaGlasses$Survey" "mostWatchers" "I", Cond.methodLink RX5 126 yX5_compareWatchers, Cond.instanceMethod yX5_compareWatchers, Cond.selects RX5 yX5_compareWatchers yX5_compareWatchers, Cond.code yX5_compareWatchers cX5_compareWatchers 3 none, Cond.methodLink RL 68 yL_low, Cond.static yL_low, Cond.code yL_low cL_low 2 (some .int), Cond.constant RL 9 (2147483647), Cond.methodLink RL 71 yX7_world, Cond.instanceMethod yX7_world, Cond.selects RX7 yX7_world yX7_world, Cond.code yX7_world cX7_world 3 (some .int), Cond.methodLink RX7 218 yX5_boxInWorld, Cond.instanceMethod yX5_boxInWorld, Cond.selects RX5 yX5_boxInWorld yX5_boxInWorld, Cond.code yX5_boxInWorld cX5_boxInWorld 6 (some .int), Cond.methodLink RL 74 yX7_ifProved]
def wsL_same_r11 : List Cond := [Cond.instanceMethod yX7_ifProved, Cond.selects RX7 yX7_ifProved yX7_ifProved, Cond.code yX7_ifProved cX7_ifProved 4 (some .int), Cond.methodLink RX7 74 yX1_suits, Cond.instanceMethod yX1_suits, Cond.selects RX1 yX1_suits yX1_suits, Cond.code yX1_suits cX1_suits 4 (some .boolean), Cond.methodLink RX1 54 yX1_hasBox, Cond.methodLink RX7 222 yX5_worldsWith, Cond.instanceMethod yX5_worldsWith, Cond.selects RX5 yX5_worldsWith yX5_worldsWith, Cond.code yX5_worldsWith cX5_worldsWith 7 (some .int), Cond.fieldLink RX5 31 "OperaGlasses$Survey" "supposed" "LOperaGlasses$Rumour;", Cond.methodLink RX5 113 yX3_become, Cond.instanceMethod yX3_become, Cond.selects RX3 yX3_become yX3_become, Cond.code yX3_become cX3_become 5 none, Cond.fieldLink RX3 9 "OperaGlasses$Rumour" "teller" "I"]
def wsL_same : List Cond := .code yL_same cL_same 25 (some .boolean) :: ((wsL_same_r1 ++ (wsL_same_r2 ++ (wsL_same_r3 ++ (wsL_same_r4 ++ (wsL_same_r5 ++ (wsL_same_r6 ++ (wsL_same_r7 ++ (wsL_same_r8 ++ (wsL_same_r9 ++ (wsL_same_r10 ++ wsL_same_r11)))))))))) ++ wsX70 ++ wsX30 ++ wsX10 ++ wsX50 ++ wsX60 ++ wsX20 ++ wsX00)
def wsL_law_r1 : List Cond := [Cond.classLink RL 37 RX7, Cond.instantiable RX7 7, Cond.initialized RX7, Cond.arrayClass .int, Cond.methodLink RL 78 yX7_init, Cond.instanceMethod yX7_init, Cond.code yX7_init cX7_init 1 none, Cond.methodLink RX7 1 objectInit, Cond.instanceMethod objectInit, Cond.code objectInit ⟨#[0xb1]⟩ 1 none, Cond.classLink RX7 7 RX1, Cond.instantiable RX1 7, Cond.initialized RX1, Cond.fieldLink RX7 10 "OperaGlasses" "house" "LOperaGlasses$House;", Cond.classLink RX7 16 RX0, Cond.instantiable RX0 3, Cond.initialized RX0, Cond.fieldLink RX7 19 "OperaGlasses" "history" "LOperaGlasses$History;", Cond.classLink RX7 23 RX4, Cond.instantiable RX4 2, Cond.initialized RX4, Cond.fieldLink RX7 26 "OperaGlasses" "firstSlot" "LOperaGlasses$Slot;", Cond.fieldLink RX7 30 "OperaGlasses" "secondSlot" "LOperaGlasses$Slot;", Cond.classLink RX7 33 RX2]
def wsL_law_r2 : List Cond := [Cond.instantiable RX2 2, Cond.initialized RX2, Cond.fieldLink RX7 36 "OperaGlasses" "pad" "LOperaGlasses$Pad;", Cond.classLink RX7 40 RX5, Cond.instantiable RX5 8, Cond.initialized RX5, Cond.fieldLink RX7 43 "OperaGlasses" "survey" "LOperaGlasses$Survey;", Cond.methodLink RX7 9 yX1_init, Cond.instanceMethod yX1_init, Cond.code yX1_init cX1_init 2 none, Cond.methodLink RX1 3 objectInit, Cond.fieldLink RX1 9 "OperaGlasses$House" "looks" "[I", Cond.fieldLink RX1 15 "OperaGlasses$House" "scores" "[I", Cond.fieldLink RX1 18 "OperaGlasses$House" "guessed" "[I", Cond.classLink RX1 21 RX3, Cond.fieldLink RX1 23 "OperaGlasses$House" "rumours" "[LOperaGlasses$Rumour;", Cond.instantiable RX3 5, Cond.initialized RX3, Cond.instanceMethod yX3_init, Cond.code yX3_init cX3_init 1 none, Cond.methodLink RX3 3 objectInit, Cond.methodLink RX7 18 yX0_init, Cond.instanceMethod yX0_init, Cond.code yX0_init cX0_init 2 none]
def wsL_law_r3 : List Cond := [Cond.methodLink RX0 3 objectInit, Cond.classLink RX0 9 RX1, Cond.fieldLink RX0 11 "OperaGlasses$History" "states" "[LOperaGlasses$House;", Cond.methodLink RX0 17 yX1_init, Cond.instanceMethod yX4_init, Cond.code yX4_init cX4_init 1 none, Cond.methodLink RX4 1 objectInit, Cond.classLink RX4 7 RX1, Cond.fieldLink RX4 10 "OperaGlasses$Slot" "state" "LOperaGlasses$House;", Cond.methodLink RX4 9 yX1_init, Cond.instanceMethod yX2_init, Cond.code yX2_init cX2_init 1 none, Cond.methodLink RX2 3 objectInit, Cond.arrayClass .char, Cond.fieldLink RX2 9 "OperaGlasses$Pad" "text" "[C", Cond.instanceMethod yX5_init, Cond.code yX5_init cX5_init 1 none, Cond.methodLink RX5 3 objectInit, Cond.classLink RX5 9 RX6, Cond.instantiable RX6 2, Cond.initialized RX6, Cond.fieldLink RX5 12 "OperaGlasses$Survey" "walk" "LOperaGlasses$Walk;", Cond.fieldLink RX5 18 "OperaGlasses$Survey" "looking" "[I", Cond.fieldLink RX5 22 "OperaGlasses$Survey" "holding" "[I"]
def wsL_law_r4 : List Cond := [Cond.fieldLink RX5 25 "OperaGlasses$Survey" "onlyBroken" "[I", Cond.classLink RX5 28 RX3, Cond.fieldLink RX5 31 "OperaGlasses$Survey" "supposed" "LOperaGlasses$Rumour;", Cond.instanceMethod yX6_init, Cond.code yX6_init cX6_init 1 none, Cond.methodLink RX6 3 objectInit, Cond.fieldLink RX6 9 "OperaGlasses$Walk" "boxOf" "[I", Cond.methodLink RX7 47 yX1_arrange, Cond.instanceMethod yX1_arrange, Cond.selects RX1 yX1_arrange yX1_arrange, Cond.code yX1_arrange cX1_arrange 3 none, Cond.fieldLink RX1 28 "OperaGlasses$House" "boxes" "I", Cond.fieldLink RX1 32 "OperaGlasses$House" "act" "I", Cond.fieldLink RX1 35 "OperaGlasses$House" "told" "I", Cond.static yX7_fillRow, Cond.code yX7_fillRow cX7_fillRow 3 none, Cond.methodLink RL 79 yL_cell, Cond.static yL_cell, Cond.initialized RL, Cond.code yL_cell cL_cell 2 (some .int), Cond.constant RL 7 (983530859), Cond.constant RL 8 (761063665), Cond.methodLink RL 68 yL_low, Cond.static yL_low]
def wsL_law_r5 : List Cond := [Cond.code yL_low cL_low 2 (some .int), Cond.constant RL 9 (2147483647), Cond.methodLink RL 83 yX7_open, Cond.instanceMethod yX7_open, Cond.selects RX7 yX7_open yX7_open, Cond.code yX7_open cX7_open 3 (some .int), Cond.methodLink RX7 55 yX7_beginChange, Cond.instanceMethod yX7_beginChange, Cond.selects RX7 yX7_beginChange yX7_beginChange, Cond.code yX7_beginChange cX7_beginChange 1 none, Cond.fieldLink RX7 261 "OperaGlasses" "surveyed" "Z", Cond.methodLink RX7 278 yX0_record, Cond.instanceMethod yX0_record, Cond.selects RX0 yX0_record yX0_record, Cond.code yX0_record cX0_record 3 none, Cond.fieldLink RX0 18 "OperaGlasses$History" "next" "I", Cond.fieldLink RX0 30 "OperaGlasses$History" "kept" "I", Cond.methodLink RX0 33 Lib.Math.min.name, Cond.static Lib.Math.min.name, Cond.initialized "java/lang/Math", Cond.code Lib.Math.min.name Lib.Math.min.code 2 (some .int), Cond.methodLink RX0 22 yX0_stateAt, Cond.instanceMethod yX0_stateAt, Cond.selects RX0 yX0_stateAt yX0_stateAt]
def wsL_law_r6 : List Cond := [Cond.code yX0_stateAt cX0_stateAt 2 (some (.object "OperaGlasses$House")), Cond.methodLink RX0 26 yX1_copyFrom, Cond.instanceMethod yX1_copyFrom, Cond.selects RX1 yX1_copyFrom yX1_copyFrom, Cond.code yX1_copyFrom cX1_copyFrom 5 none, Cond.static yX7_copyRow, Cond.code yX7_copyRow cX7_copyRow 3 none, Cond.methodLink RX1 46 yX1_rumourAt, Cond.instanceMethod yX1_rumourAt, Cond.selects RX1 yX1_rumourAt yX1_rumourAt, Cond.code yX1_rumourAt cX1_rumourAt 2 (some (.object "OperaGlasses$Rumour")), Cond.methodLink RX1 50 yX3_copyFrom, Cond.instanceMethod yX3_copyFrom, Cond.selects RX3 yX3_copyFrom yX3_copyFrom, Cond.code yX3_copyFrom cX3_copyFrom 2 none, Cond.fieldLink RX3 9 "OperaGlasses$Rumour" "teller" "I", Cond.fieldLink RX3 15 "OperaGlasses$Rumour" "kind" "I", Cond.fieldLink RX3 18 "OperaGlasses$Rumour" "a" "I", Cond.fieldLink RX3 21 "OperaGlasses$Rumour" "b" "I", Cond.fieldLink RX3 24 "OperaGlasses$Rumour" "status" "I", Cond.methodLink RX3 27 yX3_become, Cond.instanceMethod yX3_become, Cond.selects RX3 yX3_become yX3_become, Cond.code yX3_become cX3_become 5 none]
def wsL_law_r7 : List Cond := [Cond.methodLink RL 86 yX7_tell, Cond.instanceMethod yX7_tell, Cond.selects RX7 yX7_tell yX7_tell, Cond.code yX7_tell cX7_tell 5 (some .int), Cond.methodLink RX7 58 yX1_hasBox, Cond.instanceMethod yX1_hasBox, Cond.selects RX1 yX1_hasBox yX1_hasBox, Cond.code yX1_hasBox cX1_hasBox 2 (some .boolean), Cond.methodLink RX7 74 yX1_suits, Cond.instanceMethod yX1_suits, Cond.selects RX1 yX1_suits yX1_suits, Cond.code yX1_suits cX1_suits 4 (some .boolean), Cond.methodLink RX1 54 yX1_hasBox, Cond.methodLink RX7 78 yX1_hasRoomFor, Cond.instanceMethod yX1_hasRoomFor, Cond.selects RX1 yX1_hasRoomFor yX1_hasRoomFor, Cond.code yX1_hasRoomFor cX1_hasRoomFor 2 (some .boolean), Cond.methodLink RX7 81 yX1_addRumour, Cond.instanceMethod yX1_addRumour, Cond.selects RX1 yX1_addRumour yX1_addRumour, Cond.code yX1_addRumour cX1_addRumour 6 none, Cond.methodLink RX1 58 yX1_hasRoomFor, Cond.methodLink RX1 61 yX3_become, Cond.methodLink RL 16 yL_of]
def wsL_law_r8 : List Cond := [Cond.static yL_of, Cond.code yL_of cL_of 4 (some .boolean), Cond.methodLink RL 10 yL_holds, Cond.static yL_holds, Cond.code yL_holds cL_holds 7 (some .boolean), Cond.methodLink RL 32 yL_all, Cond.static yL_all, Cond.code yL_all cL_all 7 none, Cond.methodLink RL 20 yL_first, Cond.static yL_first, Cond.code yL_first cL_first 3 none, Cond.methodLink RL 24 yL_may, Cond.static yL_may, Cond.code yL_may cL_may 5 (some .boolean), Cond.methodLink RL 28 yL_next, Cond.static yL_next, Cond.code yL_next cL_next 3 (some .boolean), Cond.methodLink RL 90 yX7_prove, Cond.instanceMethod yX7_prove, Cond.selects RX7 yX7_prove yX7_prove, Cond.code yX7_prove cX7_prove 4 (some .int), Cond.methodLink RX7 118 yX1_rumourAt, Cond.methodLink RX7 127 yX3_decide, Cond.instanceMethod yX3_decide]
def wsL_law_r9 : List Cond := [Cond.selects RX3 yX3_decide yX3_decide, Cond.code yX3_decide cX3_decide 2 none, Cond.methodLink RX7 131 yX7_surveyNow, Cond.instanceMethod yX7_surveyNow, Cond.selects RX7 yX7_surveyNow yX7_surveyNow, Cond.code yX7_surveyNow cX7_surveyNow 1 (some (.object "OperaGlasses$Survey")), Cond.methodLink RX7 281 yX5_take, Cond.instanceMethod yX5_take, Cond.selects RX5 yX5_take yX5_take, Cond.code yX5_take cX5_take 4 none, Cond.methodLink RX5 35 yX5_forget, Cond.instanceMethod yX5_forget, Cond.selects RX5 yX5_forget yX5_forget, Cond.code yX5_forget cX5_forget 1 none, Cond.fieldLink RX5 66 "OperaGlasses$Survey" "worlds" "I", Cond.methodLink RX5 44 yX6_begin, Cond.instanceMethod yX6_begin, Cond.selects RX6 yX6_begin yX6_begin, Cond.code yX6_begin cX6_begin 4 (some .int), Cond.fieldLink RX6 15 "OperaGlasses$Walk" "boxes" "I", Cond.methodLink RX6 19 yX6_firstBoxFor, Cond.static yX6_firstBoxFor, Cond.code yX6_firstBoxFor cX6_firstBoxFor 1 (some .int), Cond.methodLink RX5 51 yX1_firstBroken]
def wsL_law_r10 : List Cond := [Cond.instanceMethod yX1_firstBroken, Cond.selects RX1 yX1_firstBroken yX1_firstBroken, Cond.code yX1_firstBroken cX1_firstBroken 5 (some .int), Cond.methodLink RX1 93 Lib.Math.max.name, Cond.static Lib.Math.max.name, Cond.code Lib.Math.max.name Lib.Math.max.code 2 (some .int), Cond.methodLink RX1 99 yX3_isBrokenIn, Cond.instanceMethod yX3_isBrokenIn, Cond.selects RX3 yX3_isBrokenIn yX3_isBrokenIn, Cond.code yX3_isBrokenIn cX3_isBrokenIn 2 (some .boolean), Cond.methodLink RX3 38 yX3_holdsIn, Cond.instanceMethod yX3_holdsIn, Cond.selects RX3 yX3_holdsIn yX3_holdsIn, Cond.code yX3_holdsIn cX3_holdsIn 3 (some .boolean), Cond.static yX7_at, Cond.code yX7_at cX7_at 2 (some .int), Cond.static yX7_watchers, Cond.code yX7_watchers cX7_watchers 4 (some .int), Cond.methodLink RX5 55 yX5_tally, Cond.instanceMethod yX5_tally, Cond.selects RX5 yX5_tally yX5_tally, Cond.code yX5_tally cX5_tally 4 none, Cond.static yX7_addAt, Cond.code yX7_addAt cX7_addAt 3 none]
def wsL_law_r11 : List Cond := [Cond.methodLink RX5 80 yX1_rumourAt, Cond.methodLink RX5 84 yX3_holdsIn, Cond.methodLink RX5 63 yX6_step, Cond.instanceMethod yX6_step, Cond.selects RX6 yX6_step yX6_step, Cond.code yX6_step cX6_step 3 none, Cond.static yX7_setAt, Cond.code yX7_setAt cX7_setAt 3 none, Cond.methodLink RL 94 yX7_doubt, Cond.instanceMethod yX7_doubt, Cond.selects RX7 yX7_doubt yX7_doubt, Cond.code yX7_doubt cX7_doubt 3 (some .int), Cond.methodLink RL 97 yX7_guess, Cond.instanceMethod yX7_guess, Cond.selects RX7 yX7_guess yX7_guess, Cond.code yX7_guess cX7_guess 5 (some .int), Cond.methodLink RX7 66 yX7_at, Cond.methodLink RX7 144 yX7_pointsOfGuess, Cond.instanceMethod yX7_pointsOfGuess, Cond.selects RX7 yX7_pointsOfGuess yX7_pointsOfGuess, Cond.code yX7_pointsOfGuess cX7_pointsOfGuess 4 (some .int), Cond.methodLink RX7 211 yX5_lookingAt, Cond.instanceMethod yX5_lookingAt, Cond.selects RX5 yX5_lookingAt yX5_lookingAt]
def wsL_law_r12 : List Cond := [Cond.code yX5_lookingAt cX5_lookingAt 3 (some .int), Cond.methodLink RX7 284 yX5_isCertain, Cond.instanceMethod yX5_isCertain, Cond.selects RX5 yX5_isCertain yX5_isCertain, Cond.code yX5_isCertain cX5_isCertain 2 (some .boolean), Cond.methodLink RX7 287 yX5_isRuledOut, Cond.instanceMethod yX5_isRuledOut, Cond.selects RX5 yX5_isRuledOut yX5_isRuledOut, Cond.code yX5_isRuledOut cX5_isRuledOut 2 (some .boolean), Cond.methodLink RX7 151 yX7_addAt, Cond.methodLink RX7 70 yX7_setAt, Cond.methodLink RL 100 yX7_look, Cond.instanceMethod yX7_look, Cond.selects RX7 yX7_look yX7_look, Cond.code yX7_look cX7_look 4 (some .int), Cond.methodLink RL 103 yX7_reveal, Cond.instanceMethod yX7_reveal, Cond.selects RX7 yX7_reveal yX7_reveal, Cond.code yX7_reveal cX7_reveal 1 (some .int), Cond.methodLink RX7 138 yX1_revealOpen, Cond.instanceMethod yX1_revealOpen, Cond.selects RX1 yX1_revealOpen yX1_revealOpen, Cond.code yX1_revealOpen cX1_revealOpen 4 (some .int), Cond.methodLink RX1 71 yX3_holdsIn]
def wsL_law_r13 : List Cond := [Cond.methodLink RX1 75 yX3_decide, Cond.methodLink RL 107 yX7_endAct, Cond.instanceMethod yX7_endAct, Cond.selects RX7 yX7_endAct yX7_endAct, Cond.code yX7_endAct cX7_endAct 1 (some .int), Cond.methodLink RX7 154 yX1_finishAct, Cond.instanceMethod yX1_finishAct, Cond.selects RX1 yX1_finishAct yX1_finishAct, Cond.code yX1_finishAct cX1_finishAct 2 none, Cond.methodLink RX1 79 yX1_tellerOf, Cond.instanceMethod yX1_tellerOf, Cond.selects RX1 yX1_tellerOf yX1_tellerOf, Cond.code yX1_tellerOf cX1_tellerOf 3 (some .int), Cond.methodLink RX1 83 yX1_isTrue, Cond.instanceMethod yX1_isTrue, Cond.selects RX1 yX1_isTrue yX1_isTrue, Cond.code yX1_isTrue cX1_isTrue 3 (some .boolean), Cond.methodLink RL 110 yL_same, Cond.static yL_same, Cond.code yL_same cL_same 25 (some .boolean), Cond.methodLink RL 36 yX7_rumour, Cond.instanceMethod yX7_rumour, Cond.selects RX7 yX7_rumour yX7_rumour, Cond.code yX7_rumour cX7_rumour 4 (some .int)]
def wsL_law_r14 : List Cond := [Cond.methodLink RX7 181 yX3_holdsIn, Cond.methodLink RL 42 yL_without, Cond.static yL_without, Cond.code yL_without cL_without 5 (some .int), Cond.methodLink RL 46 yX7_possible, Cond.instanceMethod yX7_possible, Cond.selects RX7 yX7_possible yX7_possible, Cond.code yX7_possible cX7_possible 3 (some .int), Cond.methodLink RL 49 yX7_person, Cond.instanceMethod yX7_person, Cond.selects RX7 yX7_person yX7_person, Cond.code yX7_person cX7_person 3 (some .int), Cond.methodLink RX7 160 yX1_toldBy, Cond.instanceMethod yX1_toldBy, Cond.selects RX1 yX1_toldBy yX1_toldBy, Cond.code yX1_toldBy cX1_toldBy 4 (some .int), Cond.methodLink RX7 163 yX1_toldTrulyBy, Cond.instanceMethod yX1_toldTrulyBy, Cond.selects RX1 yX1_toldTrulyBy yX1_toldTrulyBy, Cond.code yX1_toldTrulyBy cX1_toldTrulyBy 4 (some .int), Cond.methodLink RX7 166 yX7_watchers, Cond.methodLink RL 52 yX7_certain, Cond.instanceMethod yX7_certain, Cond.selects RX7 yX7_certain yX7_certain]
def wsL_law_r15 : List Cond := [Cond.code yX7_certain cX7_certain 2 (some .int), Cond.methodLink RX7 215 yX5_certainBox, Cond.instanceMethod yX5_certainBox, Cond.selects RX5 yX5_certainBox yX5_certainBox, Cond.code yX5_certainBox cX5_certainBox 3 (some .int), Cond.methodLink RX5 88 yX5_lookingAt, Cond.methodLink RX5 92 yX5_isCertain, Cond.methodLink RL 56 yX7_count, Cond.instanceMethod yX7_count, Cond.selects RX7 yX7_count yX7_count, Cond.code yX7_count cX7_count 2 (some .int), Cond.methodLink RX7 188 yX1_openRumours, Cond.instanceMethod yX1_openRumours, Cond.selects RX1 yX1_openRumours yX1_openRumours, Cond.code yX1_openRumours cX1_openRumours 3 (some .int), Cond.methodLink RX1 65 yX1_isOpen, Cond.instanceMethod yX1_isOpen, Cond.selects RX1 yX1_isOpen yX1_isOpen, Cond.code yX1_isOpen cX1_isOpen 3 (some .boolean), Cond.methodLink RX7 191 yX1_firstBroken, Cond.methodLink RX7 195 yX5_certainPersons, Cond.instanceMethod yX5_certainPersons, Cond.selects RX5 yX5_certainPersons yX5_certainPersons, Cond.code yX5_certainPersons cX5_certainPersons 4 (some .int)]
def wsL_law_r16 : List Cond := [Cond.methodLink RX5 96 yX5_certainBox, Cond.methodLink RX7 198 yX5_openCertain, Cond.instanceMethod yX5_openCertain, Cond.selects RX5 yX5_openCertain yX5_openCertain, Cond.code yX5_openCertain cX5_openCertain 4 (some .int), Cond.methodLink RX5 99 yX1_isOpen, Cond.methodLink RX7 202 yX5_openRuledOut, Cond.instanceMethod yX5_openRuledOut, Cond.selects RX5 yX5_openRuledOut yX5_openRuledOut, Cond.code yX5_openRuledOut cX5_openRuledOut 4 (some .int), Cond.methodLink RX5 102 yX5_isRuledOut, Cond.methodLink RL 59 yX7_sharpest, Cond.instanceMethod yX7_sharpest, Cond.selects RX7 yX7_sharpest yX7_sharpest, Cond.code yX7_sharpest cX7_sharpest 3 (some .int), Cond.methodLink RX7 226 yX5_sharpestRumour, Cond.instanceMethod yX5_sharpestRumour, Cond.selects RX5 yX5_sharpestRumour yX5_sharpestRumour, Cond.code yX5_sharpestRumour cX5_sharpestRumour 4 (some .int), Cond.methodLink RX5 110 yX5_worseOutcome, Cond.instanceMethod yX5_worseOutcome, Cond.selects RX5 yX5_worseOutcome yX5_worseOutcome, Cond.code yX5_worseOutcome cX5_worseOutcome 3 (some .int), Cond.methodLink RX5 105 Lib.Math.max.name]
def wsL_law_r17 : List Cond := [Cond.methodLink RX7 229 yX5_worseOutcome, Cond.methodLink RL 62 yX7_blame, Cond.instanceMethod yX7_blame, Cond.selects RX7 yX7_blame yX7_blame, Cond.code yX7_blame cX7_blame 3 (some .int), Cond.methodLink RX7 232 yX5_mostToBlame, Cond.instanceMethod yX5_mostToBlame, Cond.selects RX5 yX5_mostToBlame yX5_mostToBlame, Cond.code yX5_mostToBlame cX5_mostToBlame 4 (some .int), Cond.methodLink RL 65 yX7_mostWatched, Cond.instanceMethod yX7_mostWatched, Cond.selects RX7 yX7_mostWatched yX7_mostWatched, Cond.code yX7_mostWatched cX7_mostWatched 2 (some .int), Cond.methodLink RX7 238 yX5_findMostWatched, Cond.instanceMethod yX5_findMostWatched, Cond.selects RX5 yX5_findMostWatched yX5_findMostWatched, Cond.code yX5_findMostWatched cX5_findMostWatched 4 none, Cond.fieldLink RX5 117 "OperaGlasses$Survey" "mostWatchedPerson" "I", Cond.fieldLink RX5 120 "OperaGlasses$Survey" "mostWatchers" "I", Cond.methodLink RX5 126 yX5_compareWatchers, Cond.instanceMethod yX5_compareWatchers, Cond.selects RX5 yX5_compareWatchers yX5_compareWatchers, Cond.code yX5_compareWatchers cX5_compareWatchers 3 none, Cond.methodLink RL 71 yX7_world]
def wsL_law_r18 : List Cond := [Cond.instanceMethod yX7_world, Cond.selects RX7 yX7_world yX7_world, Cond.code yX7_world cX7_world 3 (some .int), Cond.methodLink RX7 218 yX5_boxInWorld, Cond.instanceMethod yX5_boxInWorld, Cond.selects RX5 yX5_boxInWorld yX5_boxInWorld, Cond.code yX5_boxInWorld cX5_boxInWorld 6 (some .int), Cond.methodLink RL 74 yX7_ifProved, Cond.instanceMethod yX7_ifProved, Cond.selects RX7 yX7_ifProved yX7_ifProved, Cond.code yX7_ifProved cX7_ifProved 4 (some .int), Cond.methodLink RX7 222 yX5_worldsWith, Cond.instanceMethod yX5_worldsWith, Cond.selects RX5 yX5_worldsWith yX5_worldsWith, Cond.code yX5_worldsWith cX5_worldsWith 7 (some .int), Cond.methodLink RX5 113 yX3_become]
def wsL_law : List Cond := (wsL_law_r1 ++ (wsL_law_r2 ++ (wsL_law_r3 ++ (wsL_law_r4 ++ (wsL_law_r5 ++ (wsL_law_r6 ++ (wsL_law_r7 ++ (wsL_law_r8 ++ (wsL_law_r9 ++ (wsL_law_r10 ++ (wsL_law_r11 ++ (wsL_law_r12 ++ (wsL_law_r13 ++ (wsL_law_r14 ++ (wsL_law_r15 ++ (wsL_law_r16 ++ (wsL_law_r17 ++ wsL_law_r18))))))))))))))))) ++ wsX70 ++ wsX10 ++ wsX00 ++ wsX40 ++ wsX20 ++ wsX50 ++ wsX30 ++ wsX60 ++ ([] : List Cond)
theorem tmS : ∀ w ∈ k2_sels lw_privs, w ∈ lw_tbl := fun _ h => List.mem_append_left _ h
theorem tm1 : ∀ w ∈ tables_1_1, w ∈ lw_tbl := fun _ h => List.mem_append_right _ (List.mem_append_left _ h)
theorem tm2 : ∀ w ∈ tables_1_2, w ∈ lw_tbl := fun _ h => List.mem_append_right _ (List.mem_append_right _ (List.mem_append_left _ h))
theorem tm3 : ∀ w ∈ tables_1_3, w ∈ lw_tbl := fun _ h => List.mem_append_right _ (List.mem_append_right _ (List.mem_append_right _ (h)))
theorem tmI {A : List Cond} (hA : ∀ w ∈ A, w ∈ lw_tbl) {i : Nat} {w : Cond} (h : A[i]? = some w) : w ∈ lw_tbl := hA w (List.mem_of_getElem? h)
set_option maxRecDepth 20000 in
theorem wi_1 : ∀ w ∈ wsL_law_r1, w ∈ lw_tbl := List.forall_mem_cons.mpr ⟨tmI tm1 (i := 10) rfl, List.forall_mem_cons.mpr ⟨tmI tm1 (i := 11) rfl, List.forall_mem_cons.mpr ⟨tmI tm1 (i := 1) rfl, List.forall_mem_cons.mpr ⟨tmI tm1 (i := 54) rfl, List.forall_mem_cons.mpr ⟨tmI tm1 (i := 12) rfl, List.forall_mem_cons.mpr ⟨tmI tm1 (i := 13) rfl, List.forall_mem_cons.mpr ⟨tmI tm1 (i := 14) rfl, List.forall_mem_cons.mpr ⟨tmI tm1 (i := 15) rfl, List.forall_mem_cons.mpr ⟨tmI tm1 (i := 16) rfl, List.forall_mem_cons.mpr ⟨tmI tm1 (i := 17) rfl, List.forall_mem_cons.mpr ⟨tmI tm1 (i := 18) rfl, List.forall_mem_cons.mpr ⟨tmI tm1 (i := 19) rfl, List.forall_mem_cons.mpr ⟨tmI tm1 (i := 2) rfl, List.forall_mem_cons.mpr ⟨tmI tm1 (i := 192) rfl, List.forall_mem_cons.mpr ⟨tmI tm1 (i := 85) rfl, List.forall_mem_cons.mpr ⟨tmI tm1 (i := 86) rfl, List.forall_mem_cons.mpr ⟨tmI tm1 (i := 4) rfl, List.forall_mem_cons.mpr ⟨tmI tm1 (i := 193) rfl, List.forall_mem_cons.mpr ⟨tmI tm1 (i := 105) rfl, List.forall_mem_cons.mpr ⟨tmI tm1 (i := 106) rfl, List.forall_mem_cons.mpr ⟨tmI tm1 (i := 5) rfl, List.forall_mem_cons.mpr ⟨tmI tm1 (i := 194) rfl, List.forall_mem_cons.mpr ⟨tmI tm1 (i := 195) rfl, List.forall_mem_cons.mpr ⟨tmI tm1 (i := 119) rfl, fun _ h => absurd h List.not_mem_nil⟩⟩⟩⟩⟩⟩⟩⟩⟩⟩⟩⟩⟩⟩⟩⟩⟩⟩⟩⟩⟩⟩⟩⟩
set_option maxRecDepth 20000 in
theorem wi_2 : ∀ w ∈ wsL_law_r2, w ∈ lw_tbl := List.forall_mem_cons.mpr ⟨tmI tm1 (i := 120) rfl, List.forall_mem_cons.mpr ⟨tmI tm1 (i := 6) rfl, List.forall_mem_cons.mpr ⟨tmI tm1 (i := 196) rfl, List.forall_mem_cons.mpr ⟨tmI tm1 (i := 133) rfl, List.forall_mem_cons.mpr ⟨tmI tm1 (i := 134) rfl, List.forall_mem_cons.mpr ⟨tmI tm1 (i := 7) rfl, List.forall_mem_cons.mpr ⟨tmI tm1 (i := 197) rfl, List.forall_mem_cons.mpr ⟨tmI tm1 (i := 20) rfl, List.forall_mem_cons.mpr ⟨tmI tm1 (i := 21) rfl, List.forall_mem_cons.mpr ⟨tmI tm1 (i := 22) rfl, List.forall_mem_cons.mpr ⟨tmI tm1 (i := 23) rfl, List.forall_mem_cons.mpr ⟨tmI tm1 (i := 63) rfl, List.forall_mem_cons.mpr ⟨tmI tm1 (i := 65) rfl, List.forall_mem_cons.mpr ⟨tmI tm1 (i := 67) rfl, List.forall_mem_cons.mpr ⟨tmI tm1 (i := 24) rfl, List.forall_mem_cons.mpr ⟨tmI tm1 (i := 69) rfl, List.forall_mem_cons.mpr ⟨tmI tm1 (i := 26) rfl, List.forall_mem_cons.mpr ⟨tmI tm1 (i := 3) rfl, List.forall_mem_cons.mpr ⟨tmI tm1 (i := 28) rfl, List.forall_mem_cons.mpr ⟨tmI tm1 (i := 29) rfl, List.forall_mem_cons.mpr ⟨tmI tm1 (i := 30) rfl, List.forall_mem_cons.mpr ⟨tmI tm1 (i := 87) rfl, List.forall_mem_cons.mpr ⟨tmI tm1 (i := 88) rfl, List.forall_mem_cons.mpr ⟨tmI tm1 (i := 89) rfl, fun _ h => absurd h List.not_mem_nil⟩⟩⟩⟩⟩⟩⟩⟩⟩⟩⟩⟩⟩⟩⟩⟩⟩⟩⟩⟩⟩⟩⟩⟩
set_option maxRecDepth 20000 in
theorem wi_3 : ∀ w ∈ wsL_law_r3, w ∈ lw_tbl := List.forall_mem_cons.mpr ⟨tmI tm1 (i := 90) rfl, List.forall_mem_cons.mpr ⟨tmI tm1 (i := 91) rfl, List.forall_mem_cons.mpr ⟨tmI tm1 (i := 94) rfl, List.forall_mem_cons.mpr ⟨tmI tm1 (i := 93) rfl, List.forall_mem_cons.mpr ⟨tmI tm1 (i := 108) rfl, List.forall_mem_cons.mpr ⟨tmI tm1 (i := 109) rfl, List.forall_mem_cons.mpr ⟨tmI tm1 (i := 110) rfl, List.forall_mem_cons.mpr ⟨tmI tm1 (i := 111) rfl, List.forall_mem_cons.mpr ⟨tmI tm1 (i := 113) rfl, List.forall_mem_cons.mpr ⟨tmI tm1 (i := 112) rfl, List.forall_mem_cons.mpr ⟨tmI tm1 (i := 122) rfl, List.forall_mem_cons.mpr ⟨tmI tm1 (i := 123) rfl, List.forall_mem_cons.mpr ⟨tmI tm1 (i := 124) rfl, List.forall_mem_cons.mpr ⟨tmI tm1 (i := 132) rfl, List.forall_mem_cons.mpr ⟨tmI tm1 (i := 125) rfl, List.forall_mem_cons.mpr ⟨tmI tm1 (i := 136) rfl, List.forall_mem_cons.mpr ⟨tmI tm1 (i := 137) rfl, List.forall_mem_cons.mpr ⟨tmI tm1 (i := 138) rfl, List.forall_mem_cons.mpr ⟨tmI tm1 (i := 139) rfl, List.forall_mem_cons.mpr ⟨tmI tm1 (i := 140) rfl, List.forall_mem_cons.mpr ⟨tmI tm1 (i := 8) rfl, List.forall_mem_cons.mpr ⟨tmI tm1 (i := 155) rfl, List.forall_mem_cons.mpr ⟨tmI tm1 (i := 162) rfl, List.forall_mem_cons.mpr ⟨tmI tm1 (i := 163) rfl, fun _ h => absurd h List.not_mem_nil⟩⟩⟩⟩⟩⟩⟩⟩⟩⟩⟩⟩⟩⟩⟩⟩⟩⟩⟩⟩⟩⟩⟩⟩
set_option maxRecDepth 20000 in
theorem wi_4 : ∀ w ∈ wsL_law_r4, w ∈ lw_tbl := List.forall_mem_cons.mpr ⟨tmI tm1 (i := 165) rfl, List.forall_mem_cons.mpr ⟨tmI tm1 (i := 153) rfl, List.forall_mem_cons.mpr ⟨tmI tm1 (i := 167) rfl, List.forall_mem_cons.mpr ⟨tmI tm1 (i := 142) rfl, List.forall_mem_cons.mpr ⟨tmI tm1 (i := 143) rfl, List.forall_mem_cons.mpr ⟨tmI tm1 (i := 144) rfl, List.forall_mem_cons.mpr ⟨tmI tm1 (i := 146) rfl, List.forall_mem_cons.mpr ⟨tmI tm1 (i := 185) rfl, List.forall_mem_cons.mpr ⟨tmI tm1 (i := 186) rfl, List.forall_mem_cons.mpr ⟨tmI tm1 (i := 187) rfl, List.forall_mem_cons.mpr ⟨tmI tm1 (i := 188) rfl, List.forall_mem_cons.mpr ⟨tmI tm1 (i := 55) rfl, List.forall_mem_cons.mpr ⟨tmI tm1 (i := 58) rfl, List.forall_mem_cons.mpr ⟨tmI tm1 (i := 60) rfl, List.forall_mem_cons.mpr ⟨tmI tm1 (i := 190) rfl, List.forall_mem_cons.mpr ⟨tmI tm1 (i := 191) rfl, List.forall_mem_cons.mpr ⟨tmI tm2 (i := 161) rfl, List.forall_mem_cons.mpr ⟨tmI tm2 (i := 162) rfl, List.forall_mem_cons.mpr ⟨tmI tm1 (i := 0) rfl, List.forall_mem_cons.mpr ⟨tmI tm2 (i := 163) rfl, List.forall_mem_cons.mpr ⟨tmI tm2 (i := 164) rfl, List.forall_mem_cons.mpr ⟨tmI tm2 (i := 165) rfl, List.forall_mem_cons.mpr ⟨tmI tm2 (i := 166) rfl, List.forall_mem_cons.mpr ⟨tmI tm2 (i := 167) rfl, fun _ h => absurd h List.not_mem_nil⟩⟩⟩⟩⟩⟩⟩⟩⟩⟩⟩⟩⟩⟩⟩⟩⟩⟩⟩⟩⟩⟩⟩⟩
set_option maxRecDepth 20000 in
theorem wi_5 : ∀ w ∈ wsL_law_r5, w ∈ lw_tbl := List.forall_mem_cons.mpr ⟨tmI tm2 (i := 168) rfl, List.forall_mem_cons.mpr ⟨tmI tm2 (i := 169) rfl, List.forall_mem_cons.mpr ⟨tmI tm1 (i := 214) rfl, List.forall_mem_cons.mpr ⟨tmI tm1 (i := 215) rfl, List.forall_mem_cons.mpr ⟨tmI tm1 (i := 216) rfl, List.forall_mem_cons.mpr ⟨tmI tm1 (i := 217) rfl, List.forall_mem_cons.mpr ⟨tmI tm1 (i := 218) rfl, List.forall_mem_cons.mpr ⟨tmI tm1 (i := 220) rfl, List.forall_mem_cons.mpr ⟨tmI tmS (i := 0) rfl, List.forall_mem_cons.mpr ⟨tmI tm1 (i := 221) rfl, List.forall_mem_cons.mpr ⟨tmI tm1 (i := 198) rfl, List.forall_mem_cons.mpr ⟨tmI tm1 (i := 222) rfl, List.forall_mem_cons.mpr ⟨tmI tm1 (i := 223) rfl, List.forall_mem_cons.mpr ⟨tmI tm1 (i := 224) rfl, List.forall_mem_cons.mpr ⟨tmI tm1 (i := 225) rfl, List.forall_mem_cons.mpr ⟨tmI tm1 (i := 97) rfl, List.forall_mem_cons.mpr ⟨tmI tm1 (i := 95) rfl, List.forall_mem_cons.mpr ⟨tmI tm2 (i := 9) rfl, List.forall_mem_cons.mpr ⟨tmI tm2 (i := 10) rfl, List.forall_mem_cons.mpr ⟨tmI tm1 (i := 9) rfl, List.forall_mem_cons.mpr ⟨tmI tm2 (i := 11) rfl, List.forall_mem_cons.mpr ⟨tmI tm1 (i := 226) rfl, List.forall_mem_cons.mpr ⟨tmI tm1 (i := 228) rfl, List.forall_mem_cons.mpr ⟨tmI tmS (i := 1) rfl, fun _ h => absurd h List.not_mem_nil⟩⟩⟩⟩⟩⟩⟩⟩⟩⟩⟩⟩⟩⟩⟩⟩⟩⟩⟩⟩⟩⟩⟩⟩
set_option maxRecDepth 20000 in
theorem wi_6 : ∀ w ∈ wsL_law_r6, w ∈ lw_tbl := List.forall_mem_cons.mpr ⟨tmI tm1 (i := 229) rfl, List.forall_mem_cons.mpr ⟨tmI tm1 (i := 230) rfl, List.forall_mem_cons.mpr ⟨tmI tm1 (i := 231) rfl, List.forall_mem_cons.mpr ⟨tmI tm1 (i := 232) rfl, List.forall_mem_cons.mpr ⟨tmI tm1 (i := 233) rfl, List.forall_mem_cons.mpr ⟨tmI tm1 (i := 235) rfl, List.forall_mem_cons.mpr ⟨tmI tm1 (i := 236) rfl, List.forall_mem_cons.mpr ⟨tmI tm1 (i := 237) rfl, List.forall_mem_cons.mpr ⟨tmI tm1 (i := 238) rfl, List.forall_mem_cons.mpr ⟨tmI tm1 (i := 239) rfl, List.forall_mem_cons.mpr ⟨tmI tm2 (i := 0) rfl, List.forall_mem_cons.mpr ⟨tmI tm2 (i := 1) rfl, List.forall_mem_cons.mpr ⟨tmI tm2 (i := 2) rfl, List.forall_mem_cons.mpr ⟨tmI tm2 (i := 3) rfl, List.forall_mem_cons.mpr ⟨tmI tm2 (i := 4) rfl, List.forall_mem_cons.mpr ⟨tmI tm1 (i := 31) rfl, List.forall_mem_cons.mpr ⟨tmI tm1 (i := 34) rfl, List.forall_mem_cons.mpr ⟨tmI tm1 (i := 36) rfl, List.forall_mem_cons.mpr ⟨tmI tm1 (i := 38) rfl, List.forall_mem_cons.mpr ⟨tmI tm1 (i := 40) rfl, List.forall_mem_cons.mpr ⟨tmI tm2 (i := 5) rfl, List.forall_mem_cons.mpr ⟨tmI tm2 (i := 6) rfl, List.forall_mem_cons.mpr ⟨tmI tm2 (i := 7) rfl, List.forall_mem_cons.mpr ⟨tmI tm2 (i := 8) rfl, fun _ h => absurd h List.not_mem_nil⟩⟩⟩⟩⟩⟩⟩⟩⟩⟩⟩⟩⟩⟩⟩⟩⟩⟩⟩⟩⟩⟩⟩⟩
set_option maxRecDepth 20000 in
theorem wi_7 : ∀ w ∈ wsL_law_r7, w ∈ lw_tbl := List.forall_mem_cons.mpr ⟨tmI tm2 (i := 26) rfl, List.forall_mem_cons.mpr ⟨tmI tm2 (i := 27) rfl, List.forall_mem_cons.mpr ⟨tmI tm2 (i := 28) rfl, List.forall_mem_cons.mpr ⟨tmI tm2 (i := 29) rfl, List.forall_mem_cons.mpr ⟨tmI tm2 (i := 16) rfl, List.forall_mem_cons.mpr ⟨tmI tm2 (i := 17) rfl, List.forall_mem_cons.mpr ⟨tmI tm2 (i := 18) rfl, List.forall_mem_cons.mpr ⟨tmI tm2 (i := 19) rfl, List.forall_mem_cons.mpr ⟨tmI tm2 (i := 30) rfl, List.forall_mem_cons.mpr ⟨tmI tm2 (i := 31) rfl, List.forall_mem_cons.mpr ⟨tmI tm2 (i := 32) rfl, List.forall_mem_cons.mpr ⟨tmI tm2 (i := 33) rfl, List.forall_mem_cons.mpr ⟨tmI tm2 (i := 34) rfl, List.forall_mem_cons.mpr ⟨tmI tm2 (i := 35) rfl, List.forall_mem_cons.mpr ⟨tmI tm2 (i := 36) rfl, List.forall_mem_cons.mpr ⟨tmI tm2 (i := 37) rfl, List.forall_mem_cons.mpr ⟨tmI tm2 (i := 38) rfl, List.forall_mem_cons.mpr ⟨tmI tm2 (i := 39) rfl, List.forall_mem_cons.mpr ⟨tmI tm2 (i := 40) rfl, List.forall_mem_cons.mpr ⟨tmI tm2 (i := 41) rfl, List.forall_mem_cons.mpr ⟨tmI tm2 (i := 42) rfl, List.forall_mem_cons.mpr ⟨tmI tm2 (i := 43) rfl, List.forall_mem_cons.mpr ⟨tmI tm2 (i := 44) rfl, List.forall_mem_cons.mpr ⟨tmI tm2 (i := 170) rfl, fun _ h => absurd h List.not_mem_nil⟩⟩⟩⟩⟩⟩⟩⟩⟩⟩⟩⟩⟩⟩⟩⟩⟩⟩⟩⟩⟩⟩⟩⟩
set_option maxRecDepth 20000 in
theorem wi_8 : ∀ w ∈ wsL_law_r8, w ∈ lw_tbl := List.forall_mem_cons.mpr ⟨tmI tm2 (i := 171) rfl, List.forall_mem_cons.mpr ⟨tmI tm2 (i := 172) rfl, List.forall_mem_cons.mpr ⟨tmI tm2 (i := 173) rfl, List.forall_mem_cons.mpr ⟨tmI tm2 (i := 174) rfl, List.forall_mem_cons.mpr ⟨tmI tm2 (i := 175) rfl, List.forall_mem_cons.mpr ⟨tmI tm2 (i := 176) rfl, List.forall_mem_cons.mpr ⟨tmI tm2 (i := 177) rfl, List.forall_mem_cons.mpr ⟨tmI tm2 (i := 178) rfl, List.forall_mem_cons.mpr ⟨tmI tm2 (i := 179) rfl, List.forall_mem_cons.mpr ⟨tmI tm2 (i := 180) rfl, List.forall_mem_cons.mpr ⟨tmI tm2 (i := 181) rfl, List.forall_mem_cons.mpr ⟨tmI tm2 (i := 182) rfl, List.forall_mem_cons.mpr ⟨tmI tm2 (i := 183) rfl, List.forall_mem_cons.mpr ⟨tmI tm2 (i := 184) rfl, List.forall_mem_cons.mpr ⟨tmI tm2 (i := 185) rfl, List.forall_mem_cons.mpr ⟨tmI tm2 (i := 186) rfl, List.forall_mem_cons.mpr ⟨tmI tm2 (i := 187) rfl, List.forall_mem_cons.mpr ⟨tmI tm2 (i := 45) rfl, List.forall_mem_cons.mpr ⟨tmI tm2 (i := 46) rfl, List.forall_mem_cons.mpr ⟨tmI tm2 (i := 47) rfl, List.forall_mem_cons.mpr ⟨tmI tm2 (i := 48) rfl, List.forall_mem_cons.mpr ⟨tmI tm2 (i := 49) rfl, List.forall_mem_cons.mpr ⟨tmI tm2 (i := 50) rfl, List.forall_mem_cons.mpr ⟨tmI tm2 (i := 51) rfl, fun _ h => absurd h List.not_mem_nil⟩⟩⟩⟩⟩⟩⟩⟩⟩⟩⟩⟩⟩⟩⟩⟩⟩⟩⟩⟩⟩⟩⟩⟩
set_option maxRecDepth 20000 in
theorem wi_9 : ∀ w ∈ wsL_law_r9, w ∈ lw_tbl := List.forall_mem_cons.mpr ⟨tmI tm2 (i := 52) rfl, List.forall_mem_cons.mpr ⟨tmI tm2 (i := 53) rfl, List.forall_mem_cons.mpr ⟨tmI tm2 (i := 54) rfl, List.forall_mem_cons.mpr ⟨tmI tm2 (i := 56) rfl, List.forall_mem_cons.mpr ⟨tmI tmS (i := 2) rfl, List.forall_mem_cons.mpr ⟨tmI tm2 (i := 57) rfl, List.forall_mem_cons.mpr ⟨tmI tm2 (i := 58) rfl, List.forall_mem_cons.mpr ⟨tmI tm2 (i := 59) rfl, List.forall_mem_cons.mpr ⟨tmI tm2 (i := 60) rfl, List.forall_mem_cons.mpr ⟨tmI tm2 (i := 61) rfl, List.forall_mem_cons.mpr ⟨tmI tm2 (i := 62) rfl, List.forall_mem_cons.mpr ⟨tmI tm2 (i := 64) rfl, List.forall_mem_cons.mpr ⟨tmI tmS (i := 3) rfl, List.forall_mem_cons.mpr ⟨tmI tm2 (i := 65) rfl, List.forall_mem_cons.mpr ⟨tmI tm1 (i := 156) rfl, List.forall_mem_cons.mpr ⟨tmI tm2 (i := 67) rfl, List.forall_mem_cons.mpr ⟨tmI tm2 (i := 68) rfl, List.forall_mem_cons.mpr ⟨tmI tm2 (i := 69) rfl, List.forall_mem_cons.mpr ⟨tmI tm2 (i := 70) rfl, List.forall_mem_cons.mpr ⟨tmI tm1 (i := 145) rfl, List.forall_mem_cons.mpr ⟨tmI tm2 (i := 71) rfl, List.forall_mem_cons.mpr ⟨tmI tm2 (i := 72) rfl, List.forall_mem_cons.mpr ⟨tmI tm2 (i := 73) rfl, List.forall_mem_cons.mpr ⟨tmI tm2 (i := 74) rfl, fun _ h => absurd h List.not_mem_nil⟩⟩⟩⟩⟩⟩⟩⟩⟩⟩⟩⟩⟩⟩⟩⟩⟩⟩⟩⟩⟩⟩⟩⟩
set_option maxRecDepth 20000 in
theorem wi_10 : ∀ w ∈ wsL_law_r10, w ∈ lw_tbl := List.forall_mem_cons.mpr ⟨tmI tm2 (i := 75) rfl, List.forall_mem_cons.mpr ⟨tmI tm2 (i := 76) rfl, List.forall_mem_cons.mpr ⟨tmI tm2 (i := 77) rfl, List.forall_mem_cons.mpr ⟨tmI tm2 (i := 78) rfl, List.forall_mem_cons.mpr ⟨tmI tm2 (i := 79) rfl, List.forall_mem_cons.mpr ⟨tmI tm2 (i := 80) rfl, List.forall_mem_cons.mpr ⟨tmI tm2 (i := 81) rfl, List.forall_mem_cons.mpr ⟨tmI tm2 (i := 82) rfl, List.forall_mem_cons.mpr ⟨tmI tm2 (i := 83) rfl, List.forall_mem_cons.mpr ⟨tmI tm2 (i := 84) rfl, List.forall_mem_cons.mpr ⟨tmI tm2 (i := 85) rfl, List.forall_mem_cons.mpr ⟨tmI tm2 (i := 86) rfl, List.forall_mem_cons.mpr ⟨tmI tm2 (i := 87) rfl, List.forall_mem_cons.mpr ⟨tmI tm2 (i := 88) rfl, List.forall_mem_cons.mpr ⟨tmI tm2 (i := 21) rfl, List.forall_mem_cons.mpr ⟨tmI tm2 (i := 22) rfl, List.forall_mem_cons.mpr ⟨tmI tm2 (i := 91) rfl, List.forall_mem_cons.mpr ⟨tmI tm2 (i := 92) rfl, List.forall_mem_cons.mpr ⟨tmI tm2 (i := 93) rfl, List.forall_mem_cons.mpr ⟨tmI tm2 (i := 95) rfl, List.forall_mem_cons.mpr ⟨tmI tmS (i := 4) rfl, List.forall_mem_cons.mpr ⟨tmI tm2 (i := 96) rfl, List.forall_mem_cons.mpr ⟨tmI tm2 (i := 99) rfl, List.forall_mem_cons.mpr ⟨tmI tm2 (i := 100) rfl, fun _ h => absurd h List.not_mem_nil⟩⟩⟩⟩⟩⟩⟩⟩⟩⟩⟩⟩⟩⟩⟩⟩⟩⟩⟩⟩⟩⟩⟩⟩
set_option maxRecDepth 20000 in
theorem wi_11 : ∀ w ∈ wsL_law_r11, w ∈ lw_tbl := List.forall_mem_cons.mpr ⟨tmI tm2 (i := 101) rfl, List.forall_mem_cons.mpr ⟨tmI tm2 (i := 102) rfl, List.forall_mem_cons.mpr ⟨tmI tm2 (i := 103) rfl, List.forall_mem_cons.mpr ⟨tmI tm2 (i := 104) rfl, List.forall_mem_cons.mpr ⟨tmI tm2 (i := 105) rfl, List.forall_mem_cons.mpr ⟨tmI tm2 (i := 106) rfl, List.forall_mem_cons.mpr ⟨tmI tm2 (i := 24) rfl, List.forall_mem_cons.mpr ⟨tmI tm2 (i := 25) rfl, List.forall_mem_cons.mpr ⟨tmI tm2 (i := 119) rfl, List.forall_mem_cons.mpr ⟨tmI tm2 (i := 120) rfl, List.forall_mem_cons.mpr ⟨tmI tm2 (i := 121) rfl, List.forall_mem_cons.mpr ⟨tmI tm2 (i := 122) rfl, List.forall_mem_cons.mpr ⟨tmI tm2 (i := 123) rfl, List.forall_mem_cons.mpr ⟨tmI tm2 (i := 124) rfl, List.forall_mem_cons.mpr ⟨tmI tm2 (i := 125) rfl, List.forall_mem_cons.mpr ⟨tmI tm2 (i := 126) rfl, List.forall_mem_cons.mpr ⟨tmI tm2 (i := 20) rfl, List.forall_mem_cons.mpr ⟨tmI tm2 (i := 127) rfl, List.forall_mem_cons.mpr ⟨tmI tm2 (i := 129) rfl, List.forall_mem_cons.mpr ⟨tmI tmS (i := 5) rfl, List.forall_mem_cons.mpr ⟨tmI tm2 (i := 130) rfl, List.forall_mem_cons.mpr ⟨tmI tm2 (i := 131) rfl, List.forall_mem_cons.mpr ⟨tmI tm2 (i := 132) rfl, List.forall_mem_cons.mpr ⟨tmI tm2 (i := 133) rfl, fun _ h => absurd h List.not_mem_nil⟩⟩⟩⟩⟩⟩⟩⟩⟩⟩⟩⟩⟩⟩⟩⟩⟩⟩⟩⟩⟩⟩⟩⟩
set_option maxRecDepth 20000 in
theorem wi_12 : ∀ w ∈ wsL_law_r12, w ∈ lw_tbl := List.forall_mem_cons.mpr ⟨tmI tm2 (i := 134) rfl, List.forall_mem_cons.mpr ⟨tmI tm2 (i := 135) rfl, List.forall_mem_cons.mpr ⟨tmI tm2 (i := 136) rfl, List.forall_mem_cons.mpr ⟨tmI tm2 (i := 137) rfl, List.forall_mem_cons.mpr ⟨tmI tm2 (i := 138) rfl, List.forall_mem_cons.mpr ⟨tmI tm2 (i := 139) rfl, List.forall_mem_cons.mpr ⟨tmI tm2 (i := 140) rfl, List.forall_mem_cons.mpr ⟨tmI tm2 (i := 141) rfl, List.forall_mem_cons.mpr ⟨tmI tm2 (i := 142) rfl, List.forall_mem_cons.mpr ⟨tmI tm2 (i := 143) rfl, List.forall_mem_cons.mpr ⟨tmI tm2 (i := 23) rfl, List.forall_mem_cons.mpr ⟨tmI tm2 (i := 12) rfl, List.forall_mem_cons.mpr ⟨tmI tm2 (i := 13) rfl, List.forall_mem_cons.mpr ⟨tmI tm2 (i := 14) rfl, List.forall_mem_cons.mpr ⟨tmI tm2 (i := 15) rfl, List.forall_mem_cons.mpr ⟨tmI tm2 (i := 109) rfl, List.forall_mem_cons.mpr ⟨tmI tm2 (i := 110) rfl, List.forall_mem_cons.mpr ⟨tmI tm2 (i := 111) rfl, List.forall_mem_cons.mpr ⟨tmI tm2 (i := 112) rfl, List.forall_mem_cons.mpr ⟨tmI tm2 (i := 113) rfl, List.forall_mem_cons.mpr ⟨tmI tm2 (i := 114) rfl, List.forall_mem_cons.mpr ⟨tmI tm2 (i := 115) rfl, List.forall_mem_cons.mpr ⟨tmI tm2 (i := 116) rfl, List.forall_mem_cons.mpr ⟨tmI tm2 (i := 117) rfl, fun _ h => absurd h List.not_mem_nil⟩⟩⟩⟩⟩⟩⟩⟩⟩⟩⟩⟩⟩⟩⟩⟩⟩⟩⟩⟩⟩⟩⟩⟩
set_option maxRecDepth 20000 in
theorem wi_13 : ∀ w ∈ wsL_law_r13, w ∈ lw_tbl := List.forall_mem_cons.mpr ⟨tmI tm2 (i := 118) rfl, List.forall_mem_cons.mpr ⟨tmI tm2 (i := 144) rfl, List.forall_mem_cons.mpr ⟨tmI tm2 (i := 145) rfl, List.forall_mem_cons.mpr ⟨tmI tm2 (i := 146) rfl, List.forall_mem_cons.mpr ⟨tmI tm2 (i := 147) rfl, List.forall_mem_cons.mpr ⟨tmI tm2 (i := 148) rfl, List.forall_mem_cons.mpr ⟨tmI tm2 (i := 149) rfl, List.forall_mem_cons.mpr ⟨tmI tm2 (i := 150) rfl, List.forall_mem_cons.mpr ⟨tmI tm2 (i := 151) rfl, List.forall_mem_cons.mpr ⟨tmI tm2 (i := 152) rfl, List.forall_mem_cons.mpr ⟨tmI tm2 (i := 153) rfl, List.forall_mem_cons.mpr ⟨tmI tm2 (i := 154) rfl, List.forall_mem_cons.mpr ⟨tmI tm2 (i := 155) rfl, List.forall_mem_cons.mpr ⟨tmI tm2 (i := 156) rfl, List.forall_mem_cons.mpr ⟨tmI tm2 (i := 157) rfl, List.forall_mem_cons.mpr ⟨tmI tm2 (i := 158) rfl, List.forall_mem_cons.mpr ⟨tmI tm2 (i := 159) rfl, List.forall_mem_cons.mpr ⟨tmI tm2 (i := 188) rfl, List.forall_mem_cons.mpr ⟨tmI tm2 (i := 189) rfl, List.forall_mem_cons.mpr ⟨tmI tm2 (i := 190) rfl, List.forall_mem_cons.mpr ⟨tmI tm2 (i := 191) rfl, List.forall_mem_cons.mpr ⟨tmI tm2 (i := 192) rfl, List.forall_mem_cons.mpr ⟨tmI tm2 (i := 193) rfl, List.forall_mem_cons.mpr ⟨tmI tm2 (i := 194) rfl, fun _ h => absurd h List.not_mem_nil⟩⟩⟩⟩⟩⟩⟩⟩⟩⟩⟩⟩⟩⟩⟩⟩⟩⟩⟩⟩⟩⟩⟩⟩
set_option maxRecDepth 20000 in
theorem wi_14 : ∀ w ∈ wsL_law_r14, w ∈ lw_tbl := List.forall_mem_cons.mpr ⟨tmI tm2 (i := 195) rfl, List.forall_mem_cons.mpr ⟨tmI tm2 (i := 196) rfl, List.forall_mem_cons.mpr ⟨tmI tm2 (i := 197) rfl, List.forall_mem_cons.mpr ⟨tmI tm2 (i := 198) rfl, List.forall_mem_cons.mpr ⟨tmI tm2 (i := 199) rfl, List.forall_mem_cons.mpr ⟨tmI tm2 (i := 200) rfl, List.forall_mem_cons.mpr ⟨tmI tm2 (i := 201) rfl, List.forall_mem_cons.mpr ⟨tmI tm2 (i := 202) rfl, List.forall_mem_cons.mpr ⟨tmI tm2 (i := 203) rfl, List.forall_mem_cons.mpr ⟨tmI tm2 (i := 204) rfl, List.forall_mem_cons.mpr ⟨tmI tm2 (i := 205) rfl, List.forall_mem_cons.mpr ⟨tmI tm2 (i := 206) rfl, List.forall_mem_cons.mpr ⟨tmI tm2 (i := 207) rfl, List.forall_mem_cons.mpr ⟨tmI tm2 (i := 208) rfl, List.forall_mem_cons.mpr ⟨tmI tm2 (i := 209) rfl, List.forall_mem_cons.mpr ⟨tmI tm2 (i := 210) rfl, List.forall_mem_cons.mpr ⟨tmI tm2 (i := 211) rfl, List.forall_mem_cons.mpr ⟨tmI tm2 (i := 212) rfl, List.forall_mem_cons.mpr ⟨tmI tm2 (i := 213) rfl, List.forall_mem_cons.mpr ⟨tmI tm2 (i := 214) rfl, List.forall_mem_cons.mpr ⟨tmI tm2 (i := 215) rfl, List.forall_mem_cons.mpr ⟨tmI tm2 (i := 216) rfl, List.forall_mem_cons.mpr ⟨tmI tm2 (i := 217) rfl, List.forall_mem_cons.mpr ⟨tmI tm2 (i := 218) rfl, fun _ h => absurd h List.not_mem_nil⟩⟩⟩⟩⟩⟩⟩⟩⟩⟩⟩⟩⟩⟩⟩⟩⟩⟩⟩⟩⟩⟩⟩⟩
set_option maxRecDepth 20000 in
theorem wi_15 : ∀ w ∈ wsL_law_r15, w ∈ lw_tbl := List.forall_mem_cons.mpr ⟨tmI tm2 (i := 219) rfl, List.forall_mem_cons.mpr ⟨tmI tm2 (i := 220) rfl, List.forall_mem_cons.mpr ⟨tmI tm2 (i := 221) rfl, List.forall_mem_cons.mpr ⟨tmI tm2 (i := 222) rfl, List.forall_mem_cons.mpr ⟨tmI tm2 (i := 223) rfl, List.forall_mem_cons.mpr ⟨tmI tm2 (i := 224) rfl, List.forall_mem_cons.mpr ⟨tmI tm2 (i := 225) rfl, List.forall_mem_cons.mpr ⟨tmI tm2 (i := 226) rfl, List.forall_mem_cons.mpr ⟨tmI tm2 (i := 227) rfl, List.forall_mem_cons.mpr ⟨tmI tm2 (i := 228) rfl, List.forall_mem_cons.mpr ⟨tmI tm2 (i := 229) rfl, List.forall_mem_cons.mpr ⟨tmI tm2 (i := 230) rfl, List.forall_mem_cons.mpr ⟨tmI tm2 (i := 231) rfl, List.forall_mem_cons.mpr ⟨tmI tm2 (i := 232) rfl, List.forall_mem_cons.mpr ⟨tmI tm2 (i := 233) rfl, List.forall_mem_cons.mpr ⟨tmI tm2 (i := 234) rfl, List.forall_mem_cons.mpr ⟨tmI tm2 (i := 235) rfl, List.forall_mem_cons.mpr ⟨tmI tm2 (i := 236) rfl, List.forall_mem_cons.mpr ⟨tmI tm2 (i := 237) rfl, List.forall_mem_cons.mpr ⟨tmI tm2 (i := 238) rfl, List.forall_mem_cons.mpr ⟨tmI tm2 (i := 239) rfl, List.forall_mem_cons.mpr ⟨tmI tm3 (i := 0) rfl, List.forall_mem_cons.mpr ⟨tmI tm3 (i := 1) rfl, List.forall_mem_cons.mpr ⟨tmI tm3 (i := 2) rfl, fun _ h => absurd h List.not_mem_nil⟩⟩⟩⟩⟩⟩⟩⟩⟩⟩⟩⟩⟩⟩⟩⟩⟩⟩⟩⟩⟩⟩⟩⟩
set_option maxRecDepth 20000 in
theorem wi_16 : ∀ w ∈ wsL_law_r16, w ∈ lw_tbl := List.forall_mem_cons.mpr ⟨tmI tm3 (i := 3) rfl, List.forall_mem_cons.mpr ⟨tmI tm3 (i := 4) rfl, List.forall_mem_cons.mpr ⟨tmI tm3 (i := 5) rfl, List.forall_mem_cons.mpr ⟨tmI tm3 (i := 6) rfl, List.forall_mem_cons.mpr ⟨tmI tm3 (i := 7) rfl, List.forall_mem_cons.mpr ⟨tmI tm3 (i := 8) rfl, List.forall_mem_cons.mpr ⟨tmI tm3 (i := 9) rfl, List.forall_mem_cons.mpr ⟨tmI tm3 (i := 10) rfl, List.forall_mem_cons.mpr ⟨tmI tm3 (i := 11) rfl, List.forall_mem_cons.mpr ⟨tmI tm3 (i := 12) rfl, List.forall_mem_cons.mpr ⟨tmI tm3 (i := 13) rfl, List.forall_mem_cons.mpr ⟨tmI tm3 (i := 14) rfl, List.forall_mem_cons.mpr ⟨tmI tm3 (i := 15) rfl, List.forall_mem_cons.mpr ⟨tmI tm3 (i := 16) rfl, List.forall_mem_cons.mpr ⟨tmI tm3 (i := 17) rfl, List.forall_mem_cons.mpr ⟨tmI tm3 (i := 18) rfl, List.forall_mem_cons.mpr ⟨tmI tm3 (i := 19) rfl, List.forall_mem_cons.mpr ⟨tmI tm3 (i := 20) rfl, List.forall_mem_cons.mpr ⟨tmI tm3 (i := 21) rfl, List.forall_mem_cons.mpr ⟨tmI tm3 (i := 22) rfl, List.forall_mem_cons.mpr ⟨tmI tm3 (i := 23) rfl, List.forall_mem_cons.mpr ⟨tmI tm3 (i := 24) rfl, List.forall_mem_cons.mpr ⟨tmI tm3 (i := 25) rfl, List.forall_mem_cons.mpr ⟨tmI tm3 (i := 26) rfl, fun _ h => absurd h List.not_mem_nil⟩⟩⟩⟩⟩⟩⟩⟩⟩⟩⟩⟩⟩⟩⟩⟩⟩⟩⟩⟩⟩⟩⟩⟩
set_option maxRecDepth 20000 in
theorem wi_17 : ∀ w ∈ wsL_law_r17, w ∈ lw_tbl := List.forall_mem_cons.mpr ⟨tmI tm3 (i := 27) rfl, List.forall_mem_cons.mpr ⟨tmI tm3 (i := 28) rfl, List.forall_mem_cons.mpr ⟨tmI tm3 (i := 29) rfl, List.forall_mem_cons.mpr ⟨tmI tm3 (i := 30) rfl, List.forall_mem_cons.mpr ⟨tmI tm3 (i := 31) rfl, List.forall_mem_cons.mpr ⟨tmI tm3 (i := 32) rfl, List.forall_mem_cons.mpr ⟨tmI tm3 (i := 33) rfl, List.forall_mem_cons.mpr ⟨tmI tm3 (i := 34) rfl, List.forall_mem_cons.mpr ⟨tmI tm3 (i := 35) rfl, List.forall_mem_cons.mpr ⟨tmI tm3 (i := 36) rfl, List.forall_mem_cons.mpr ⟨tmI tm3 (i := 37) rfl, List.forall_mem_cons.mpr ⟨tmI tm3 (i := 38) rfl, List.forall_mem_cons.mpr ⟨tmI tm3 (i := 39) rfl, List.forall_mem_cons.mpr ⟨tmI tm3 (i := 40) rfl, List.forall_mem_cons.mpr ⟨tmI tm3 (i := 41) rfl, List.forall_mem_cons.mpr ⟨tmI tm3 (i := 42) rfl, List.forall_mem_cons.mpr ⟨tmI tm3 (i := 43) rfl, List.forall_mem_cons.mpr ⟨tmI tm1 (i := 158) rfl, List.forall_mem_cons.mpr ⟨tmI tm1 (i := 160) rfl, List.forall_mem_cons.mpr ⟨tmI tm3 (i := 45) rfl, List.forall_mem_cons.mpr ⟨tmI tm3 (i := 47) rfl, List.forall_mem_cons.mpr ⟨tmI tmS (i := 6) rfl, List.forall_mem_cons.mpr ⟨tmI tm3 (i := 48) rfl, List.forall_mem_cons.mpr ⟨tmI tm3 (i := 49) rfl, fun _ h => absurd h List.not_mem_nil⟩⟩⟩⟩⟩⟩⟩⟩⟩⟩⟩⟩⟩⟩⟩⟩⟩⟩⟩⟩⟩⟩⟩⟩
set_option maxRecDepth 20000 in
theorem wi_18 : ∀ w ∈ wsL_law_r18, w ∈ lw_tbl := List.forall_mem_cons.mpr ⟨tmI tm3 (i := 50) rfl, List.forall_mem_cons.mpr ⟨tmI tm3 (i := 51) rfl, List.forall_mem_cons.mpr ⟨tmI tm3 (i := 52) rfl, List.forall_mem_cons.mpr ⟨tmI tm3 (i := 53) rfl, List.forall_mem_cons.mpr ⟨tmI tm3 (i := 54) rfl, List.forall_mem_cons.mpr ⟨tmI tm3 (i := 55) rfl, List.forall_mem_cons.mpr ⟨tmI tm3 (i := 56) rfl, List.forall_mem_cons.mpr ⟨tmI tm3 (i := 57) rfl, List.forall_mem_cons.mpr ⟨tmI tm3 (i := 58) rfl, List.forall_mem_cons.mpr ⟨tmI tm3 (i := 59) rfl, List.forall_mem_cons.mpr ⟨tmI tm3 (i := 60) rfl, List.forall_mem_cons.mpr ⟨tmI tm3 (i := 61) rfl, List.forall_mem_cons.mpr ⟨tmI tm3 (i := 62) rfl, List.forall_mem_cons.mpr ⟨tmI tm3 (i := 63) rfl, List.forall_mem_cons.mpr ⟨tmI tm3 (i := 64) rfl, List.forall_mem_cons.mpr ⟨tmI tm3 (i := 65) rfl, fun _ h => absurd h List.not_mem_nil⟩⟩⟩⟩⟩⟩⟩⟩⟩⟩⟩⟩⟩⟩⟩⟩
set_option maxRecDepth 20000 in
theorem wy_7 : ∀ w ∈ wsX70, w ∈ lw_tbl := by
  show ∀ w ∈ (List.range 7).map (u_lay RX7 TX7), w ∈ lw_tbl
  exact List.forall_mem_cons.mpr ⟨tmI tm1 (i := 199) rfl, List.forall_mem_cons.mpr ⟨tmI tm1 (i := 201) rfl, List.forall_mem_cons.mpr ⟨tmI tm1 (i := 203) rfl, List.forall_mem_cons.mpr ⟨tmI tm1 (i := 205) rfl, List.forall_mem_cons.mpr ⟨tmI tm1 (i := 207) rfl, List.forall_mem_cons.mpr ⟨tmI tm1 (i := 209) rfl, List.forall_mem_cons.mpr ⟨tmI tm1 (i := 211) rfl, fun _ h => absurd h List.not_mem_nil⟩⟩⟩⟩⟩⟩⟩
set_option maxRecDepth 20000 in
theorem wy_1 : ∀ w ∈ wsX10, w ∈ lw_tbl := by
  show ∀ w ∈ (List.range 7).map (u_lay RX1 TX1), w ∈ lw_tbl
  exact List.forall_mem_cons.mpr ⟨tmI tm1 (i := 70) rfl, List.forall_mem_cons.mpr ⟨tmI tm1 (i := 72) rfl, List.forall_mem_cons.mpr ⟨tmI tm1 (i := 74) rfl, List.forall_mem_cons.mpr ⟨tmI tm1 (i := 76) rfl, List.forall_mem_cons.mpr ⟨tmI tm1 (i := 78) rfl, List.forall_mem_cons.mpr ⟨tmI tm1 (i := 80) rfl, List.forall_mem_cons.mpr ⟨tmI tm1 (i := 82) rfl, fun _ h => absurd h List.not_mem_nil⟩⟩⟩⟩⟩⟩⟩
set_option maxRecDepth 20000 in
theorem wy_0 : ∀ w ∈ wsX00, w ∈ lw_tbl := by
  show ∀ w ∈ (List.range 3).map (u_lay RX0 TX0), w ∈ lw_tbl
  exact List.forall_mem_cons.mpr ⟨tmI tm1 (i := 98) rfl, List.forall_mem_cons.mpr ⟨tmI tm1 (i := 100) rfl, List.forall_mem_cons.mpr ⟨tmI tm1 (i := 102) rfl, fun _ h => absurd h List.not_mem_nil⟩⟩⟩
set_option maxRecDepth 20000 in
theorem wy_4 : ∀ w ∈ wsX40, w ∈ lw_tbl := by
  show ∀ w ∈ (List.range 2).map (u_lay RX4 TX4), w ∈ lw_tbl
  exact List.forall_mem_cons.mpr ⟨tmI tm1 (i := 114) rfl, List.forall_mem_cons.mpr ⟨tmI tm1 (i := 116) rfl, fun _ h => absurd h List.not_mem_nil⟩⟩
set_option maxRecDepth 20000 in
theorem wy_2 : ∀ w ∈ wsX20, w ∈ lw_tbl := by
  show ∀ w ∈ (List.range 2).map (u_lay RX2 TX2), w ∈ lw_tbl
  exact List.forall_mem_cons.mpr ⟨tmI tm1 (i := 127) rfl, List.forall_mem_cons.mpr ⟨tmI tm1 (i := 129) rfl, fun _ h => absurd h List.not_mem_nil⟩⟩
set_option maxRecDepth 20000 in
theorem wy_5 : ∀ w ∈ wsX50, w ∈ lw_tbl := by
  show ∀ w ∈ (List.range 8).map (u_lay RX5 TX5), w ∈ lw_tbl
  exact List.forall_mem_cons.mpr ⟨tmI tm1 (i := 168) rfl, List.forall_mem_cons.mpr ⟨tmI tm1 (i := 170) rfl, List.forall_mem_cons.mpr ⟨tmI tm1 (i := 172) rfl, List.forall_mem_cons.mpr ⟨tmI tm1 (i := 174) rfl, List.forall_mem_cons.mpr ⟨tmI tm1 (i := 176) rfl, List.forall_mem_cons.mpr ⟨tmI tm1 (i := 178) rfl, List.forall_mem_cons.mpr ⟨tmI tm1 (i := 180) rfl, List.forall_mem_cons.mpr ⟨tmI tm1 (i := 182) rfl, fun _ h => absurd h List.not_mem_nil⟩⟩⟩⟩⟩⟩⟩⟩
set_option maxRecDepth 20000 in
theorem wy_3 : ∀ w ∈ wsX30, w ∈ lw_tbl := by
  show ∀ w ∈ (List.range 5).map (u_lay RX3 TX3), w ∈ lw_tbl
  exact List.forall_mem_cons.mpr ⟨tmI tm1 (i := 43) rfl, List.forall_mem_cons.mpr ⟨tmI tm1 (i := 45) rfl, List.forall_mem_cons.mpr ⟨tmI tm1 (i := 47) rfl, List.forall_mem_cons.mpr ⟨tmI tm1 (i := 49) rfl, List.forall_mem_cons.mpr ⟨tmI tm1 (i := 51) rfl, fun _ h => absurd h List.not_mem_nil⟩⟩⟩⟩⟩
set_option maxRecDepth 20000 in
theorem wy_6 : ∀ w ∈ wsX60, w ∈ lw_tbl := by
  show ∀ w ∈ (List.range 2).map (u_lay RX6 TX6), w ∈ lw_tbl
  exact List.forall_mem_cons.mpr ⟨tmI tm1 (i := 148) rfl, List.forall_mem_cons.mpr ⟨tmI tm1 (i := 150) rfl, fun _ h => absurd h List.not_mem_nil⟩⟩
theorem mapp {A B : List Cond} (ha : ∀ w ∈ A, w ∈ lw_tbl) (hb : ∀ w ∈ B, w ∈ lw_tbl) : ∀ w ∈ A ++ B, w ∈ lw_tbl := fun w h => (List.mem_append.mp h).elim (ha w) (hb w)
theorem wsL_law_in : ∀ w ∈ wsL_law, w ∈ lw_tbl := mapp (mapp (mapp (mapp (mapp (mapp (mapp (mapp (mapp (mapp wi_1 (mapp wi_2 (mapp wi_3 (mapp wi_4 (mapp wi_5 (mapp wi_6 (mapp wi_7 (mapp wi_8 (mapp wi_9 (mapp wi_10 (mapp wi_11 (mapp wi_12 (mapp wi_13 (mapp wi_14 (mapp wi_15 (mapp wi_16 (mapp wi_17 (wi_18)))))))))))))))))) wy_7) wy_1) wy_0) wy_4) wy_2) wy_5) wy_3) wy_6) (fun _ h => absurd h List.not_mem_nil)
theorem inlX0 : ∀ w ∈ wsX00, w ∈ wsL_law := fun _ h => List.mem_append_left _ (List.mem_append_left _ (List.mem_append_left _ (List.mem_append_left _ (List.mem_append_left _ (List.mem_append_left _ (List.mem_append_right _ h))))))
theorem inX0 : ∀ w ∈ wsX00, w ∈ lw_tbl := fun w h => wsL_law_in w (inlX0 w h)
theorem inlX1 : ∀ w ∈ wsX10, w ∈ wsL_law := fun _ h => List.mem_append_left _ (List.mem_append_left _ (List.mem_append_left _ (List.mem_append_left _ (List.mem_append_left _ (List.mem_append_left _ (List.mem_append_left _ (List.mem_append_right _ h)))))))
theorem inX1 : ∀ w ∈ wsX10, w ∈ lw_tbl := fun w h => wsL_law_in w (inlX1 w h)
theorem inlX2 : ∀ w ∈ wsX20, w ∈ wsL_law := fun _ h => List.mem_append_left _ (List.mem_append_left _ (List.mem_append_left _ (List.mem_append_left _ (List.mem_append_right _ h))))
theorem inX2 : ∀ w ∈ wsX20, w ∈ lw_tbl := fun w h => wsL_law_in w (inlX2 w h)
theorem inlX3 : ∀ w ∈ wsX30, w ∈ wsL_law := fun _ h => List.mem_append_left _ (List.mem_append_left _ (List.mem_append_right _ h))
theorem inX3 : ∀ w ∈ wsX30, w ∈ lw_tbl := fun w h => wsL_law_in w (inlX3 w h)
theorem inlX4 : ∀ w ∈ wsX40, w ∈ wsL_law := fun _ h => List.mem_append_left _ (List.mem_append_left _ (List.mem_append_left _ (List.mem_append_left _ (List.mem_append_left _ (List.mem_append_right _ h)))))
theorem inX4 : ∀ w ∈ wsX40, w ∈ lw_tbl := fun w h => wsL_law_in w (inlX4 w h)
theorem inlX5 : ∀ w ∈ wsX50, w ∈ wsL_law := fun _ h => List.mem_append_left _ (List.mem_append_left _ (List.mem_append_left _ (List.mem_append_right _ h)))
theorem inX5 : ∀ w ∈ wsX50, w ∈ lw_tbl := fun w h => wsL_law_in w (inlX5 w h)
theorem inlX6 : ∀ w ∈ wsX60, w ∈ wsL_law := fun _ h => List.mem_append_left _ (List.mem_append_right _ h)
theorem inX6 : ∀ w ∈ wsX60, w ∈ lw_tbl := fun w h => wsL_law_in w (inlX6 w h)
theorem inlX7 : ∀ w ∈ wsX70, w ∈ wsL_law := fun _ h => List.mem_append_left _ (List.mem_append_left _ (List.mem_append_left _ (List.mem_append_left _ (List.mem_append_left _ (List.mem_append_left _ (List.mem_append_left _ (List.mem_append_left _ (List.mem_append_right _ h))))))))
theorem inX7 : ∀ w ∈ wsX70, w ∈ lw_tbl := fun w h => wsL_law_in w (inlX7 w h)
theorem inX8 : ∀ w ∈ wsX80, w ∈ lw_tbl := by decide +kernel
theorem inJ9 : ∀ w ∈ wsJ90, w ∈ lw_tbl := by decide +kernel
abbrev vwCl : List vw_C := [(RX0, TX0, 3), (RX1, TX1, 7), (RX2, TX2, 2), (RX3, TX3, 5), (RX4, TX4, 2), (RX5, TX5, 8), (RX6, TX6, 2), (RX7, TX7, 7)]
