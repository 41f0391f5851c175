/-! names, out of the printed text of this claim -/
def RX0 : String := "DropBoxLoom$CardReader"
def TX0 : u_T := fun k => match k with
  | 0 => ("DropBoxLoom$CardReader", "frames", "I", false)
  | 1 => ("DropBoxLoom$CardReader", "left", "I", false)
  | 2 => ("DropBoxLoom$CardReader", "right", "I", false)
  | 3 => ("DropBoxLoom$CardReader", "step", "I", false)
  | _ => ("DropBoxLoom$CardReader", "lowestFrame", "I", false)
def tyX0 : Nat → FieldType := fun k => match k with
  | 0 => .int
  | 1 => .int
  | 2 => .int
  | 3 => .int
  | _ => .int
theorem nmX0 : ∀ a, a < 5 → ∀ b, b < 5 → a ≠ b → (TX0 a).2.1 ≠ (TX0 b).2.1 := by decide +kernel
theorem tyX0_ok : ∀ k, k < 5 → parseFieldDescriptor (TX0 k).2.2.1 = some (tyX0 k) := by decide +kernel
abbrev cX0_init : ByteArray := prog_2_method_1_code
def yX0_init : MethodName := ⟨RX0, "<init>", "()V"⟩
def RX1 : String := "DropBoxLoom$Chain"
def TX1 : u_T := fun k => match k with
  | 0 => ("DropBoxLoom$Chain", "frames", "[I", true)
  | 1 => ("DropBoxLoom$Chain", "left", "[I", true)
  | 2 => ("DropBoxLoom$Chain", "right", "[I", true)
  | 3 => ("DropBoxLoom$Chain", "cards", "I", false)
  | _ => ("DropBoxLoom$Chain", "place", "I", false)
def tyX1 : Nat → FieldType := fun k => match k with
  | 0 => .array .int
  | 1 => .array .int
  | 2 => .array .int
  | 3 => .int
  | _ => .int
theorem nmX1 : ∀ a, a < 5 → ∀ b, b < 5 → a ≠ b → (TX1 a).2.1 ≠ (TX1 b).2.1 := by decide +kernel
theorem tyX1_ok : ∀ k, k < 5 → parseFieldDescriptor (TX1 k).2.2.1 = some (tyX1 k) := by decide +kernel
abbrev cX1_init : ByteArray := prog_3_method_1_code
def yX1_init : MethodName := ⟨RX1, "<init>", "()V"⟩
abbrev cX1_copyFrom : ByteArray := prog_3_method_2_code
def yX1_copyFrom : MethodName := ⟨RX1, "copyFrom", "(LDropBoxLoom$Chain;)V"⟩
abbrev cX1_has : ByteArray := prog_3_method_3_code
def yX1_has : MethodName := ⟨RX1, "has", "(I)Z"⟩
abbrev cX1_framesOf : ByteArray := prog_3_method_4_code
def yX1_framesOf : MethodName := ⟨RX1, "framesOf", "(I)I"⟩
abbrev cX1_boxOf : ByteArray := prog_3_method_5_code
def yX1_boxOf : MethodName := ⟨RX1, "boxOf", "(II)I"⟩
abbrev cX1_append : ByteArray := prog_3_method_6_code
def yX1_append : MethodName := ⟨RX1, "append", "(III)V"⟩
abbrev cX1_remove : ByteArray := prog_3_method_7_code
def yX1_remove : MethodName := ⟨RX1, "remove", "(I)V"⟩
abbrev cX1_goOn : ByteArray := prog_3_method_8_code
def yX1_goOn : MethodName := ⟨RX1, "goOn", "()V"⟩
abbrev cX1_startAgainBehindLast : ByteArray := prog_3_method_9_code
def yX1_startAgainBehindLast : MethodName := ⟨RX1, "startAgainBehindLast", "()V"⟩
def RX2 : String := "DropBoxLoom$Cloth"
def TX2 : u_T := fun k => match k with
  | 0 => ("DropBoxLoom$Cloth", "colour", "[I", true)
  | 1 => ("DropBoxLoom$Cloth", "threads", "[I", true)
  | 2 => ("DropBoxLoom$Cloth", "flown", "[I", true)
  | 3 => ("DropBoxLoom$Cloth", "place", "[I", true)
  | 4 => ("DropBoxLoom$Cloth", "lifted", "[I", true)
  | 5 => ("DropBoxLoom$Cloth", "left", "[I", true)
  | 6 => ("DropBoxLoom$Cloth", "right", "[I", true)
  | 7 => ("DropBoxLoom$Cloth", "rows", "I", false)
  | _ => ("DropBoxLoom$Cloth", "latest", "I", false)
def tyX2 : Nat → FieldType := fun k => match k with
  | 0 => .array .int
  | 1 => .array .int
  | 2 => .array .int
  | 3 => .array .int
  | 4 => .array .int
  | 5 => .array .int
  | 6 => .array .int
  | 7 => .int
  | _ => .int
theorem nmX2 : ∀ a, a < 9 → ∀ b, b < 9 → a ≠ b → (TX2 a).2.1 ≠ (TX2 b).2.1 := by decide +kernel
theorem tyX2_ok : ∀ k, k < 9 → parseFieldDescriptor (TX2 k).2.2.1 = some (tyX2 k) := by decide +kernel
abbrev cX2_init : ByteArray := prog_4_method_1_code
def yX2_init : MethodName := ⟨RX2, "<init>", "()V"⟩
abbrev cX2_copyFrom : ByteArray := prog_4_method_2_code
def yX2_copyFrom : MethodName := ⟨RX2, "copyFrom", "(LDropBoxLoom$Cloth;)V"⟩
abbrev cX2_has : ByteArray := prog_4_method_3_code
def yX2_has : MethodName := ⟨RX2, "has", "(I)Z"⟩
abbrev cX2_colourOf : ByteArray := prog_4_method_4_code
def yX2_colourOf : MethodName := ⟨RX2, "colourOf", "(I)I"⟩
abbrev cX2_isLifted : ByteArray := prog_4_method_5_code
def yX2_isLifted : MethodName := ⟨RX2, "isLifted", "(II)Z"⟩
abbrev cX2_longestFloatOf : ByteArray := prog_4_method_6_code
def yX2_longestFloatOf : MethodName := ⟨RX2, "longestFloatOf", "(I)I"⟩
abbrev cX2_addRowOf : ByteArray := prog_4_method_7_code
def yX2_addRowOf : MethodName := ⟨RX2, "addRowOf", "(LDropBoxLoom$Gear;)V"⟩
abbrev cX2_takeRowBack : ByteArray := prog_4_method_8_code
def yX2_takeRowBack : MethodName := ⟨RX2, "takeRowBack", "(LDropBoxLoom$Gear;)V"⟩
abbrev cX2_slotOf : ByteArray := prog_4_method_9_code
def yX2_slotOf : MethodName := ⟨RX2, "slotOf", "(I)I"⟩
def RX3 : String := "DropBoxLoom$Gear"
def TX3 : u_T := fun k => match k with
  | 0 => ("DropBoxLoom$Gear", "shuttles", "LDropBoxLoom$Shuttles;", true)
  | 1 => ("DropBoxLoom$Gear", "threads", "LDropBoxLoom$Threads;", true)
  | 2 => ("DropBoxLoom$Gear", "chain", "LDropBoxLoom$Chain;", true)
  | 3 => ("DropBoxLoom$Gear", "atRace", "[I", true)
  | 4 => ("DropBoxLoom$Gear", "speed", "I", false)
  | _ => ("DropBoxLoom$Gear", "lifted", "I", false)
def tyX3 : Nat → FieldType := fun k => match k with
  | 0 => .object "DropBoxLoom$Shuttles"
  | 1 => .object "DropBoxLoom$Threads"
  | 2 => .object "DropBoxLoom$Chain"
  | 3 => .array .int
  | 4 => .int
  | _ => .int
theorem nmX3 : ∀ a, a < 6 → ∀ b, b < 6 → a ≠ b → (TX3 a).2.1 ≠ (TX3 b).2.1 := by decide +kernel
theorem tyX3_ok : ∀ k, k < 6 → parseFieldDescriptor (TX3 k).2.2.1 = some (tyX3 k) := by decide +kernel
abbrev cX3_init : ByteArray := prog_5_method_1_code
def yX3_init : MethodName := ⟨RX3, "<init>", "()V"⟩
abbrev cX3_copyFrom : ByteArray := prog_5_method_2_code
def yX3_copyFrom : MethodName := ⟨RX3, "copyFrom", "(LDropBoxLoom$Gear;)V"⟩
abbrev cX3_reasonToStop : ByteArray := prog_5_method_3_code
def yX3_reasonToStop : MethodName := ⟨RX3, "reasonToStop", "()I"⟩
abbrev cX3_reasonOfCardOrShuttle : ByteArray := prog_5_method_4_code
def yX3_reasonOfCardOrShuttle : MethodName := ⟨RX3, "reasonOfCardOrShuttle", "()I"⟩
abbrev cX3_numberTold : ByteArray := prog_5_method_5_code
def yX3_numberTold : MethodName := ⟨RX3, "numberTold", "(I)I"⟩
abbrev cX3_flyingShuttle : ByteArray := prog_5_method_6_code
def yX3_flyingShuttle : MethodName := ⟨RX3, "flyingShuttle", "()I"⟩
abbrev cX3_frames : ByteArray := prog_5_method_7_code
def yX3_frames : MethodName := ⟨RX3, "frames", "()I"⟩
abbrev cX3_makePick : ByteArray := prog_5_method_8_code
def yX3_makePick : MethodName := ⟨RX3, "makePick", "()V"⟩
abbrev cX3_fly : ByteArray := prog_5_method_9_code
def yX3_fly : MethodName := ⟨RX3, "fly", "(II)V"⟩
abbrev cX3_moveRaces : ByteArray := prog_5_method_10_code
def yX3_moveRaces : MethodName := ⟨RX3, "moveRaces", "(II)V"⟩
abbrev cX3_shuttleOn : ByteArray := prog_5_method_11_code
def yX3_shuttleOn : MethodName := ⟨RX3, "shuttleOn", "(I)I"⟩
abbrev cX3_sideTooFar : ByteArray := prog_5_method_12_code
def yX3_sideTooFar : MethodName := ⟨RX3, "sideTooFar", "()I"⟩
def RX4 : String := "DropBoxLoom$Loom"
def TX4 : u_T := fun k => match k with
  | 0 => ("DropBoxLoom$Loom", "gear", "LDropBoxLoom$Gear;", true)
  | 1 => ("DropBoxLoom$Loom", "cloth", "LDropBoxLoom$Cloth;", true)
  | 2 => ("DropBoxLoom$Loom", "picks", "I", false)
  | 3 => ("DropBoxLoom$Loom", "takeable", "I", false)
  | 4 => ("DropBoxLoom$Loom", "stopReason", "I", false)
  | 5 => ("DropBoxLoom$Loom", "stopNumber", "I", false)
  | _ => ("DropBoxLoom$Loom", "stops", "I", false)
def tyX4 : Nat → FieldType := fun k => match k with
  | 0 => .object "DropBoxLoom$Gear"
  | 1 => .object "DropBoxLoom$Cloth"
  | 2 => .int
  | 3 => .int
  | 4 => .int
  | 5 => .int
  | _ => .int
theorem nmX4 : ∀ a, a < 7 → ∀ b, b < 7 → a ≠ b → (TX4 a).2.1 ≠ (TX4 b).2.1 := by decide +kernel
theorem tyX4_ok : ∀ k, k < 7 → parseFieldDescriptor (TX4 k).2.2.1 = some (tyX4 k) := by decide +kernel
abbrev cX4_init : ByteArray := prog_6_method_1_code
def yX4_init : MethodName := ⟨RX4, "<init>", "()V"⟩
abbrev cX4_copyFrom : ByteArray := prog_6_method_2_code
def yX4_copyFrom : MethodName := ⟨RX4, "copyFrom", "(LDropBoxLoom$Loom;)V"⟩
abbrev cX4_makePick : ByteArray := prog_6_method_3_code
def yX4_makePick : MethodName := ⟨RX4, "makePick", "()V"⟩
abbrev cX4_takePickBack : ByteArray := prog_6_method_4_code
def yX4_takePickBack : MethodName := ⟨RX4, "takePickBack", "()V"⟩
abbrev cX4_noteStop : ByteArray := prog_6_method_5_code
def yX4_noteStop : MethodName := ⟨RX4, "noteStop", "(I)V"⟩
def RX5 : String := "DropBoxLoom$Shuttles"
def TX5 : u_T := fun k => match k with
  | 0 => ("DropBoxLoom$Shuttles", "colour", "[I", true)
  | 1 => ("DropBoxLoom$Shuttles", "yarn", "[I", true)
  | 2 => ("DropBoxLoom$Shuttles", "side", "[I", true)
  | _ => ("DropBoxLoom$Shuttles", "box", "[I", true)
def tyX5 : Nat → FieldType := fun k => match k with
  | 0 => .array .int
  | 1 => .array .int
  | 2 => .array .int
  | _ => .array .int
theorem nmX5 : ∀ a, a < 4 → ∀ b, b < 4 → a ≠ b → (TX5 a).2.1 ≠ (TX5 b).2.1 := by decide +kernel
theorem tyX5_ok : ∀ k, k < 4 → parseFieldDescriptor (TX5 k).2.2.1 = some (tyX5 k) := by decide +kernel
abbrev cX5_init : ByteArray := prog_7_method_1_code
def yX5_init : MethodName := ⟨RX5, "<init>", "()V"⟩
abbrev cX5_copyFrom : ByteArray := prog_7_method_2_code
def yX5_copyFrom : MethodName := ⟨RX5, "copyFrom", "(LDropBoxLoom$Shuttles;)V"⟩
abbrev cX5_isInDrawer : ByteArray := prog_7_method_3_code
def yX5_isInDrawer : MethodName := ⟨RX5, "isInDrawer", "(I)Z"⟩
abbrev cX5_isOnLeft : ByteArray := prog_7_method_4_code
def yX5_isOnLeft : MethodName := ⟨RX5, "isOnLeft", "(I)Z"⟩
abbrev cX5_hasYarn : ByteArray := prog_7_method_5_code
def yX5_hasYarn : MethodName := ⟨RX5, "hasYarn", "(I)Z"⟩
abbrev cX5_colourOf : ByteArray := prog_7_method_6_code
def yX5_colourOf : MethodName := ⟨RX5, "colourOf", "(I)I"⟩
abbrev cX5_findIn : ByteArray := prog_7_method_7_code
def yX5_findIn : MethodName := ⟨RX5, "findIn", "(II)I"⟩
abbrev cX5_numberInBoxes : ByteArray := prog_7_method_8_code
def yX5_numberInBoxes : MethodName := ⟨RX5, "numberInBoxes", "()I"⟩
abbrev cX5_place : ByteArray := prog_7_method_9_code
def yX5_place : MethodName := ⟨RX5, "place", "(III)V"⟩
abbrev cX5_addYarn : ByteArray := prog_7_method_10_code
def yX5_addYarn : MethodName := ⟨RX5, "addYarn", "(II)V"⟩
abbrev cX5_standAs : ByteArray := prog_7_method_11_code
def yX5_standAs : MethodName := ⟨RX5, "standAs", "(LDropBoxLoom$Shuttles;)Z"⟩
def RX6 : String := "DropBoxLoom$Threads"
def TX6 : u_T := fun k => match k with
  | 0 => ("DropBoxLoom$Threads", "frame", "[I", true)
  | _ => ("DropBoxLoom$Threads", "strength", "[I", true)
def tyX6 : Nat → FieldType := fun k => match k with
  | 0 => .array .int
  | _ => .array .int
theorem nmX6 : ∀ a, a < 2 → ∀ b, b < 2 → a ≠ b → (TX6 a).2.1 ≠ (TX6 b).2.1 := by decide +kernel
theorem tyX6_ok : ∀ k, k < 2 → parseFieldDescriptor (TX6 k).2.2.1 = some (tyX6 k) := by decide +kernel
abbrev cX6_init : ByteArray := prog_8_method_1_code
def yX6_init : MethodName := ⟨RX6, "<init>", "()V"⟩
abbrev cX6_copyFrom : ByteArray := prog_8_method_2_code
def yX6_copyFrom : MethodName := ⟨RX6, "copyFrom", "(LDropBoxLoom$Threads;)V"⟩
abbrev cX6_firstBroken : ByteArray := prog_8_method_3_code
def yX6_firstBroken : MethodName := ⟨RX6, "firstBroken", "()I"⟩
abbrev cX6_inFrames : ByteArray := prog_8_method_4_code
def yX6_inFrames : MethodName := ⟨RX6, "inFrames", "(I)I"⟩
abbrev cX6_wearOut : ByteArray := prog_8_method_5_code
def yX6_wearOut : MethodName := ⟨RX6, "wearOut", "(I)V"⟩
def RX7 : String := "DropBoxLoom"
def TX7 : u_T := fun k => match k with
  | 0 => ("DropBoxLoom", "now", "LDropBoxLoom$Loom;", true)
  | 1 => ("DropBoxLoom", "saved", "[LDropBoxLoom$Loom;", true)
  | 2 => ("DropBoxLoom", "savedStates", "I", false)
  | 3 => ("DropBoxLoom", "latestSaved", "I", false)
  | 4 => ("DropBoxLoom", "forecast", "LDropBoxLoom$Gear;", true)
  | 5 => ("DropBoxLoom", "reader", "LDropBoxLoom$CardReader;", true)
  | 6 => ("DropBoxLoom", "text", "[C", true)
  | _ => ("DropBoxLoom", "textLength", "I", false)
def tyX7 : Nat → FieldType := fun k => match k with
  | 0 => .object "DropBoxLoom$Loom"
  | 1 => .array (.object "DropBoxLoom$Loom")
  | 2 => .int
  | 3 => .int
  | 4 => .object "DropBoxLoom$Gear"
  | 5 => .object "DropBoxLoom$CardReader"
  | 6 => .array .char
  | _ => .int
theorem nmX7 : ∀ a, a < 8 → ∀ b, b < 8 → a ≠ b → (TX7 a).2.1 ≠ (TX7 b).2.1 := by decide +kernel
theorem tyX7_ok : ∀ k, k < 8 → parseFieldDescriptor (TX7 k).2.2.1 = some (tyX7 k) := by decide +kernel
abbrev cX7_init : ByteArray := prog_1_method_1_code
def yX7_init : MethodName := ⟨RX7, "<init>", "()V"⟩
abbrev cX7_putIn : ByteArray := prog_1_method_2_code
def yX7_putIn : MethodName := ⟨RX7, "putIn", "(III)I"⟩
abbrev cX7_takeOut : ByteArray := prog_1_method_3_code
def yX7_takeOut : MethodName := ⟨RX7, "takeOut", "(I)I"⟩
abbrev cX7_wind : ByteArray := prog_1_method_4_code
def yX7_wind : MethodName := ⟨RX7, "wind", "(III)I"⟩
abbrev cX7_moveBoxes : ByteArray := prog_1_method_5_code
def yX7_moveBoxes : MethodName := ⟨RX7, "moveBoxes", "(II)I"⟩
abbrev cX7_draw : ByteArray := prog_1_method_6_code
def yX7_draw : MethodName := ⟨RX7, "draw", "(II)I"⟩
abbrev cX7_mend : ByteArray := prog_1_method_7_code
def yX7_mend : MethodName := ⟨RX7, "mend", "(II)I"⟩
abbrev cX7_setSpeed : ByteArray := prog_1_method_8_code
def yX7_setSpeed : MethodName := ⟨RX7, "setSpeed", "(I)I"⟩
abbrev cX7_addCard : ByteArray := prog_1_method_9_code
def yX7_addCard : MethodName := ⟨RX7, "addCard", "(III)I"⟩
abbrev cX7_removeCard : ByteArray := prog_1_method_10_code
def yX7_removeCard : MethodName := ⟨RX7, "removeCard", "(I)I"⟩
abbrev cX7_turnTo : ByteArray := prog_1_method_11_code
def yX7_turnTo : MethodName := ⟨RX7, "turnTo", "(I)I"⟩
abbrev cX7_weave : ByteArray := prog_1_method_12_code
def yX7_weave : MethodName := ⟨RX7, "weave", "(I)I"⟩
abbrev cX7_takeBack : ByteArray := prog_1_method_13_code
def yX7_takeBack : MethodName := ⟨RX7, "takeBack", "()I"⟩
abbrev cX7_count : ByteArray := prog_1_method_14_code
def yX7_count : MethodName := ⟨RX7, "count", "(I)I"⟩
abbrev cX7_shuttle : ByteArray := prog_1_method_15_code
def yX7_shuttle : MethodName := ⟨RX7, "shuttle", "(II)I"⟩
abbrev cX7_inBox : ByteArray := prog_1_method_16_code
def yX7_inBox : MethodName := ⟨RX7, "inBox", "(II)I"⟩
abbrev cX7_thread : ByteArray := prog_1_method_17_code
def yX7_thread : MethodName := ⟨RX7, "thread", "(II)I"⟩
abbrev cX7_card : ByteArray := prog_1_method_18_code
def yX7_card : MethodName := ⟨RX7, "card", "(II)I"⟩
abbrev cX7_cloth : ByteArray := prog_1_method_19_code
def yX7_cloth : MethodName := ⟨RX7, "cloth", "(II)I"⟩
abbrev cX7_longestFloat : ByteArray := prog_1_method_20_code
def yX7_longestFloat : MethodName := ⟨RX7, "longestFloat", "(I)I"⟩
abbrev cX7_whyNot : ByteArray := prog_1_method_21_code
def yX7_whyNot : MethodName := ⟨RX7, "whyNot", "()I"⟩
abbrev cX7_picksLeft : ByteArray := prog_1_method_22_code
def yX7_picksLeft : MethodName := ⟨RX7, "picksLeft", "()I"⟩
abbrev cX7_firstEmpty : ByteArray := prog_1_method_23_code
def yX7_firstEmpty : MethodName := ⟨RX7, "firstEmpty", "()I"⟩
abbrev cX7_repeats : ByteArray := prog_1_method_24_code
def yX7_repeats : MethodName := ⟨RX7, "repeats", "()I"⟩
abbrev cX7_saveBeforeChange : ByteArray := prog_1_method_35_code
def yX7_saveBeforeChange : MethodName := ⟨RX7, "saveBeforeChange", "()V"⟩
abbrev cX7_save : ByteArray := prog_1_method_36_code
def yX7_save : MethodName := ⟨RX7, "save", "()V"⟩
abbrev cX7_isWithin : ByteArray := prog_1_method_38_code
def yX7_isWithin : MethodName := ⟨RX7, "isWithin", "(III)Z"⟩
abbrev cX7_isShuttle : ByteArray := prog_1_method_39_code
def yX7_isShuttle : MethodName := ⟨RX7, "isShuttle", "(I)Z"⟩
abbrev cX7_isThread : ByteArray := prog_1_method_40_code
def yX7_isThread : MethodName := ⟨RX7, "isThread", "(I)Z"⟩
abbrev cX7_isBox : ByteArray := prog_1_method_41_code
def yX7_isBox : MethodName := ⟨RX7, "isBox", "(II)Z"⟩
abbrev cX7_contains : ByteArray := prog_1_method_42_code
def yX7_contains : MethodName := ⟨RX7, "contains", "(II)Z"⟩
def RX8 : String := "DropBoxLoomModel"
def TX8 : u_T := fun k => match k with
  | _ => ("", "", "", false)
def tyX8 : Nat → FieldType := fun k => match k with
  | _ => .int
theorem nmX8 : ∀ a, a < 0 → ∀ b, b < 0 → a ≠ b → (TX8 a).2.1 ≠ (TX8 b).2.1 := by decide +kernel
theorem tyX8_ok : ∀ k, k < 0 → parseFieldDescriptor (TX8 k).2.2.1 = some (tyX8 k) := by decide +kernel
def RJ9 : String := "java/lang/Math"
def TJ9 : u_T := fun k => match k with
  | _ => ("", "", "", false)
def tyJ9 : Nat → FieldType := fun k => match k with
  | _ => .int
theorem nmJ9 : ∀ a, a < 0 → ∀ b, b < 0 → a ≠ b → (TJ9 a).2.1 ≠ (TJ9 b).2.1 := by decide +kernel
theorem tyJ9_ok : ∀ k, k < 0 → parseFieldDescriptor (TJ9 k).2.2.1 = some (tyJ9 k) := by decide +kernel
abbrev cJ9_floorMod_7cf53 : ByteArray := prog_11_method_50_code
def yJ9_floorMod_7cf53 : MethodName := ⟨RJ9, "floorMod", "(II)I"⟩
abbrev cJ9_abs_0f7a4 : ByteArray := prog_11_method_59_code
def yJ9_abs_0f7a4 : MethodName := ⟨RJ9, "abs", "(I)I"⟩
abbrev cJ9_max_7cf53 : ByteArray := prog_11_method_65_code
def yJ9_max_7cf53 : MethodName := ⟨RJ9, "max", "(II)I"⟩
abbrev cJ9_min_7cf53 : ByteArray := prog_11_method_69_code
def yJ9_min_7cf53 : MethodName := ⟨RJ9, "min", "(II)I"⟩
def RJ10 : String := "java/lang/System"
def TJ10 : u_T := fun k => match k with
  | _ => ("", "", "", false)
def tyJ10 : Nat → FieldType := fun k => match k with
  | _ => .int
theorem nmJ10 : ∀ a, a < 0 → ∀ b, b < 0 → a ≠ b → (TJ10 a).2.1 ≠ (TJ10 b).2.1 := by decide +kernel
theorem tyJ10_ok : ∀ k, k < 0 → parseFieldDescriptor (TJ10 k).2.2.1 = some (tyJ10 k) := by decide +kernel
def RL : String := "DropBoxLoomLaw"
abbrev cL_cell : ByteArray := method_2_code
abbrev cL_low : ByteArray := method_3_code
abbrev cL_in : ByteArray := method_4_code
abbrev cL_threads : ByteArray := method_5_code
abbrev cL_why : ByteArray := method_6_code
abbrev cL_reason : ByteArray := method_7_code
abbrev cL_number : ByteArray := method_8_code
abbrev cL_pick : ByteArray := method_9_code
abbrev cL_then : ByteArray := method_10_code
abbrev cL_same : ByteArray := method_11_code
abbrev cL_law : ByteArray := code
abbrev vwCl : List vw_C := [(RX0, TX0, 5), (RX1, TX1, 5), (RX2, TX2, 9), (RX3, TX3, 6), (RX4, TX4, 7), (RX5, TX5, 4), (RX6, TX6, 2), (RX7, TX7, 8)]
