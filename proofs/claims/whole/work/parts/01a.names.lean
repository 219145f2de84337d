/-! ===== BEGIN words of one list among another's, by their places ===== -/
theorem goodIn_r {big : List Cond} (ws : List Cond) (ps : List Nat) (hp : ws = ps.filterMap (fun i => big[i]?)) (h : ws.all goodWord = true) : GoodIn big ws := by
  intro w hw
  have h1 := List.all_eq_true.mp h w hw
  rw [hp] at hw
  obtain ⟨i, -, hi⟩ := List.mem_filterMap.mp hw
  have hm : w ∈ big := by first | exact List.mem_of_getElem? hi | exact List.getElem?_mem hi
  exact ⟨hm, good_of_word h1⟩
theorem goodIn_app {big a b : List Cond} (ha : GoodIn big a) (hb : GoodIn big b) : GoodIn big (a ++ b) := fun w h => (List.mem_append.mp h).elim (ha w) (hb w)
theorem goodIn_ca {big a b : List Cond} {c : Cond} (ha : GoodIn big (c :: a)) (hb : GoodIn big b) : GoodIn big (c :: (a ++ b)) := fun w h => (List.mem_cons.mp h).elim (fun e => ha w (List.mem_cons.mpr (Or.inl e))) (fun h => (List.mem_append.mp h).elim (fun h => ha w (List.mem_cons.mpr (Or.inr h))) (hb w))
theorem goodIn_sub {big ws : List Cond} (hm : ∀ w ∈ ws, w ∈ big) (h : ws.all goodWord = true) : GoodIn big ws := fun w hw => ⟨hm w hw, good_of_word (List.all_eq_true.mp h w hw)⟩
/-! ===== END ===== -/

def RX0 : String := "EchoRow$Element"
def TX0 : u_T := fun k => match k with
  | 0 => ("EchoRow$Element", "number", "I", true)
  | 1 => ("EchoRow$Element", "x", "I", true)
  | 2 => ("EchoRow$Element", "works", "Z", false)
  | _ => ("EchoRow$Element", "wait", "I", false)
def tyX0 : Nat → FieldType := fun k => match k with
  | 0 => .int
  | 1 => .int
  | 2 => .boolean
  | _ => .int
abbrev wsX00 : List Cond := u_ws RX0 TX0 4
theorem nmX0 : ∀ a, a < 4 → ∀ b, b < 4 → a ≠ b → (TX0 a).2.1 ≠ (TX0 b).2.1 := by decide +kernel
theorem tyX0_ok : ∀ k, k < 4 → parseFieldDescriptor (TX0 k).2.2.1 = some (tyX0 k) := by decide +kernel
abbrev cX0_init : ByteArray := prog_2_method_1_code
def yX0_init : MethodName := ⟨RX0, "<init>", "(II)V"⟩
def RX1 : String := "EchoRow$Layers"
def TX1 : u_T := fun k => match k with
  | 0 => ("EchoRow$Layers", "wedge", "I", false)
  | 1 => ("EchoRow$Layers", "plate", "I", false)
  | 2 => ("EchoRow$Layers", "plateSlowness", "I", false)
  | 3 => ("EchoRow$Layers", "wedgeTicks", "[I", true)
  | 4 => ("EchoRow$Layers", "plateTicks", "[I", true)
  | 5 => ("EchoRow$Layers", "times", "[I", true)
  | _ => ("EchoRow$Layers", "ready", "[Z", true)
def tyX1 : Nat → FieldType := fun k => match k with
  | 0 => .int
  | 1 => .int
  | 2 => .int
  | 3 => .array .int
  | 4 => .array .int
  | 5 => .array .int
  | _ => .array .boolean
abbrev wsX10 : List Cond := u_ws RX1 TX1 7
theorem nmX1 : ∀ a, a < 7 → ∀ b, b < 7 → a ≠ b → (TX1 a).2.1 ≠ (TX1 b).2.1 := by decide +kernel
theorem tyX1_ok : ∀ k, k < 7 → parseFieldDescriptor (TX1 k).2.2.1 = some (tyX1 k) := by decide +kernel
abbrev cX1_init : ByteArray := prog_3_method_1_code
def yX1_init : MethodName := ⟨RX1, "<init>", "()V"⟩
abbrev cX1_lay : ByteArray := prog_3_method_2_code
def yX1_lay : MethodName := ⟨RX1, "lay", "(IIII)V"⟩
abbrev cX1_floor : ByteArray := prog_3_method_3_code
def yX1_floor : MethodName := ⟨RX1, "floor", "()I"⟩
abbrev cX1_holds : ByteArray := prog_3_method_4_code
def yX1_holds : MethodName := ⟨RX1, "holds", "(II)Z"⟩
abbrev cX1_timeTo : ByteArray := prog_3_method_5_code
def yX1_timeTo : MethodName := ⟨RX1, "timeTo", "(III)I"⟩
abbrev cX1_bendTo : ByteArray := prog_3_method_6_code
def yX1_bendTo : MethodName := ⟨RX1, "bendTo", "(III)I"⟩
abbrev cX1_wallTime : ByteArray := prog_3_method_7_code
def yX1_wallTime : MethodName := ⟨RX1, "wallTime", "(III)I"⟩
abbrev cX1_fillTimes : ByteArray := prog_3_method_8_code
def yX1_fillTimes : MethodName := ⟨RX1, "fillTimes", "(III)V"⟩
abbrev cX1_fillTicks : ByteArray := prog_3_method_9_code
def yX1_fillTicks : MethodName := ⟨RX1, "fillTicks", "([III)V"⟩
def RX2 : String := "EchoRow$Sheet"
def TX2 : u_T := fun k => match k with
  | 0 => ("EchoRow$Sheet", "lane", "I", true)
  | _ => ("EchoRow$Sheet", "numbers", "[I", true)
def tyX2 : Nat → FieldType := fun k => match k with
  | 0 => .int
  | _ => .array .int
abbrev wsX20 : List Cond := u_ws RX2 TX2 2
theorem nmX2 : ∀ a, a < 2 → ∀ b, b < 2 → a ≠ b → (TX2 a).2.1 ≠ (TX2 b).2.1 := by decide +kernel
theorem tyX2_ok : ∀ k, k < 2 → parseFieldDescriptor (TX2 k).2.2.1 = some (tyX2 k) := by decide +kernel
abbrev cX2_init : ByteArray := prog_4_method_1_code
def yX2_init : MethodName := ⟨RX2, "<init>", "(II)V"⟩
abbrev cX2_hasRun : ByteArray := prog_4_method_2_code
def yX2_hasRun : MethodName := ⟨RX2, "hasRun", "(II)Z"⟩
abbrev cX2_nearestTo : ByteArray := prog_4_method_3_code
def yX2_nearestTo : MethodName := ⟨RX2, "nearestTo", "(J)I"⟩
def RX3 : String := "EchoRow$Target"
def TX3 : u_T := fun k => match k with
  | 0 => ("EchoRow$Target", "kind", "I", true)
  | 1 => ("EchoRow$Target", "x", "I", true)
  | 2 => ("EchoRow$Target", "z", "I", true)
  | 3 => ("EchoRow$Target", "y", "I", true)
  | 4 => ("EchoRow$Target", "strength", "I", true)
  | _ => ("EchoRow$Target", "times", "[I", true)
def tyX3 : Nat → FieldType := fun k => match k with
  | 0 => .int
  | 1 => .int
  | 2 => .int
  | 3 => .int
  | 4 => .int
  | _ => .array .int
abbrev wsX30 : List Cond := u_ws RX3 TX3 6
theorem nmX3 : ∀ a, a < 6 → ∀ b, b < 6 → a ≠ b → (TX3 a).2.1 ≠ (TX3 b).2.1 := by decide +kernel
theorem tyX3_ok : ∀ k, k < 6 → parseFieldDescriptor (TX3 k).2.2.1 = some (tyX3 k) := by decide +kernel
abbrev cX3_init : ByteArray := prog_5_method_1_code
def yX3_init : MethodName := ⟨RX3, "<init>", "(IIIII)V"⟩
abbrev cX3_forgetTimes : ByteArray := prog_5_method_2_code
def yX3_forgetTimes : MethodName := ⟨RX3, "forgetTimes", "()V"⟩
def RX4 : String := "EchoRow$Told"
def TX4 : u_T := fun k => match k with
  | 0 => ("EchoRow$Told", "a", "LEchoRow$Element;", true)
  | 1 => ("EchoRow$Told", "b", "LEchoRow$Element;", true)
  | _ => ("EchoRow$Told", "tick", "I", true)
def tyX4 : Nat → FieldType := fun k => match k with
  | 0 => .object "EchoRow$Element"
  | 1 => .object "EchoRow$Element"
  | _ => .int
abbrev wsX40 : List Cond := u_ws RX4 TX4 3
theorem nmX4 : ∀ a, a < 3 → ∀ b, b < 3 → a ≠ b → (TX4 a).2.1 ≠ (TX4 b).2.1 := by decide +kernel
theorem tyX4_ok : ∀ k, k < 3 → parseFieldDescriptor (TX4 k).2.2.1 = some (tyX4 k) := by decide +kernel
abbrev cX4_init : ByteArray := prog_6_method_1_code
def yX4_init : MethodName := ⟨RX4, "<init>", "(LEchoRow$Element;LEchoRow$Element;I)V"⟩
def RX5 : String := "EchoRow"
def TX5 : u_T := fun k => match k with
  | 0 => ("EchoRow", "layers", "LEchoRow$Layers;", true)
  | 1 => ("EchoRow", "elements", "[LEchoRow$Element;", true)
  | 2 => ("EchoRow", "targets", "[LEchoRow$Target;", true)
  | 3 => ("EchoRow", "tolds", "[LEchoRow$Told;", true)
  | 4 => ("EchoRow", "sheets", "[LEchoRow$Sheet;", true)
  | 5 => ("EchoRow", "ahead", "[I", true)
  | 6 => ("EchoRow", "elementCount", "I", false)
  | 7 => ("EchoRow", "targetCount", "I", false)
  | 8 => ("EchoRow", "toldCount", "I", false)
  | 9 => ("EchoRow", "findings", "I", false)
  | _ => ("EchoRow", "focused", "Z", false)
def tyX5 : Nat → FieldType := fun k => match k with
  | 0 => .object "EchoRow$Layers"
  | 1 => .array (.object "EchoRow$Element")
  | 2 => .array (.object "EchoRow$Target")
  | 3 => .array (.object "EchoRow$Told")
  | 4 => .array (.object "EchoRow$Sheet")
  | 5 => .array .int
  | 6 => .int
  | 7 => .int
  | 8 => .int
  | 9 => .int
  | _ => .boolean
abbrev wsX50 : List Cond := u_ws RX5 TX5 11
theorem nmX5 : ∀ a, a < 11 → ∀ b, b < 11 → a ≠ b → (TX5 a).2.1 ≠ (TX5 b).2.1 := by decide +kernel
theorem tyX5_ok : ∀ k, k < 11 → parseFieldDescriptor (TX5 k).2.2.1 = some (tyX5 k) := by decide +kernel
abbrev cX5_init : ByteArray := prog_1_method_1_code
def yX5_init : MethodName := ⟨RX5, "<init>", "()V"⟩
abbrev cX5_body : ByteArray := prog_1_method_2_code
def yX5_body : MethodName := ⟨RX5, "body", "(IIII)I"⟩
abbrev cX5_element : ByteArray := prog_1_method_3_code
def yX5_element : MethodName := ⟨RX5, "element", "(I)I"⟩
abbrev cX5_lose : ByteArray := prog_1_method_4_code
def yX5_lose : MethodName := ⟨RX5, "lose", "(IZ)I"⟩
abbrev cX5_target : ByteArray := prog_1_method_5_code
def yX5_target : MethodName := ⟨RX5, "target", "(IIIII)I"⟩
abbrev cX5_drop : ByteArray := prog_1_method_6_code
def yX5_drop : MethodName := ⟨RX5, "drop", "()I"⟩
abbrev cX5_taken : ByteArray := prog_1_method_7_code
def yX5_taken : MethodName := ⟨RX5, "taken", "(III)I"⟩
abbrev cX5_time : ByteArray := prog_1_method_8_code
def yX5_time : MethodName := ⟨RX5, "time", "(III)I"⟩
abbrev cX5_bend : ByteArray := prog_1_method_9_code
def yX5_bend : MethodName := ⟨RX5, "bend", "(III)I"⟩
abbrev cX5_echoTime : ByteArray := prog_1_method_10_code
def yX5_echoTime : MethodName := ⟨RX5, "echoTime", "(III)I"⟩
abbrev cX5_slowness : ByteArray := prog_1_method_11_code
def yX5_slowness : MethodName := ⟨RX5, "slowness", "(III)I"⟩
abbrev cX5_echo : ByteArray := prog_1_method_12_code
def yX5_echo : MethodName := ⟨RX5, "echo", "(III)I"⟩
abbrev cX5_gate : ByteArray := prog_1_method_13_code
def yX5_gate : MethodName := ⟨RX5, "gate", "(IIIII)I"⟩
abbrev cX5_focus : ByteArray := prog_1_method_14_code
def yX5_focus : MethodName := ⟨RX5, "focus", "(II)I"⟩
abbrev cX5_delay : ByteArray := prog_1_method_15_code
def yX5_delay : MethodName := ⟨RX5, "delay", "(I)I"⟩
abbrev cX5_heard : ByteArray := prog_1_method_16_code
def yX5_heard : MethodName := ⟨RX5, "heard", "(II)I"⟩
abbrev cX5_sum : ByteArray := prog_1_method_17_code
def yX5_sum : MethodName := ⟨RX5, "sum", "(I)I"⟩
abbrev cX5_board : ByteArray := prog_1_method_18_code
def yX5_board : MethodName := ⟨RX5, "board", "(II)I"⟩
abbrev cX5_tell : ByteArray := prog_1_method_19_code
def yX5_tell : MethodName := ⟨RX5, "tell", "(III)I"⟩
abbrev cX5_forget : ByteArray := prog_1_method_20_code
def yX5_forget : MethodName := ⟨RX5, "forget", "()I"⟩
abbrev cX5_places : ByteArray := prog_1_method_21_code
def yX5_places : MethodName := ⟨RX5, "places", "(I)I"⟩
abbrev cX5_place : ByteArray := prog_1_method_22_code
def yX5_place : MethodName := ⟨RX5, "place", "(II)I"⟩
abbrev cX5_sheet : ByteArray := prog_1_method_23_code
def yX5_sheet : MethodName := ⟨RX5, "sheet", "(III)I"⟩
abbrev cX5_tear : ByteArray := prog_1_method_24_code
def yX5_tear : MethodName := ⟨RX5, "tear", "(I)I"⟩
abbrev cX5_record : ByteArray := prog_1_method_25_code
def yX5_record : MethodName := ⟨RX5, "record", "(IIII)I"⟩
abbrev cX5_add : ByteArray := prog_1_method_26_code
def yX5_add : MethodName := ⟨RX5, "add", "(III)I"⟩
abbrev cX5_copy : ByteArray := prog_1_method_27_code
def yX5_copy : MethodName := ⟨RX5, "copy", "(IIIII)I"⟩
abbrev cX5_at : ByteArray := prog_1_method_28_code
def yX5_at : MethodName := ⟨RX5, "at", "(II)I"⟩
abbrev cX5_peak : ByteArray := prog_1_method_29_code
def yX5_peak : MethodName := ⟨RX5, "peak", "(I)I"⟩
abbrev cX5_total : ByteArray := prog_1_method_30_code
def yX5_total : MethodName := ⟨RX5, "total", "(I)I"⟩
abbrev cX5_outside : ByteArray := prog_1_method_31_code
def yX5_outside : MethodName := ⟨RX5, "outside", "(III)Z"⟩
abbrev cX5_noSheet : ByteArray := prog_1_method_32_code
def yX5_noSheet : MethodName := ⟨RX5, "noSheet", "(I)Z"⟩
abbrev cX5_found : ByteArray := prog_1_method_33_code
def yX5_found : MethodName := ⟨RX5, "found", "(I)I"⟩
abbrev cX5_elementNumbered : ByteArray := prog_1_method_34_code
def yX5_elementNumbered : MethodName := ⟨RX5, "elementNumbered", "(I)LEchoRow$Element;"⟩
abbrev cX5_targetNumbered : ByteArray := prog_1_method_35_code
def yX5_targetNumbered : MethodName := ⟨RX5, "targetNumbered", "(I)LEchoRow$Target;"⟩
abbrev cX5_newTarget : ByteArray := prog_1_method_36_code
def yX5_newTarget : MethodName := ⟨RX5, "newTarget", "(IIIII)LEchoRow$Target;"⟩
abbrev cX5_depthOf : ByteArray := prog_1_method_37_code
def yX5_depthOf : MethodName := ⟨RX5, "depthOf", "(LEchoRow$Target;)I"⟩
abbrev cX5_countWorking : ByteArray := prog_1_method_38_code
def yX5_countWorking : MethodName := ⟨RX5, "countWorking", "()I"⟩
abbrev cX5_countSheets : ByteArray := prog_1_method_39_code
def yX5_countSheets : MethodName := ⟨RX5, "countSheets", "()I"⟩
abbrev cX5_echoTimeBy : ByteArray := prog_1_method_40_code
def yX5_echoTimeBy : MethodName := ⟨RX5, "echoTimeBy", "(LEchoRow$Element;LEchoRow$Element;LEchoRow$Target;)I"⟩
abbrev cX5_echoAt : ByteArray := prog_1_method_41_code
def yX5_echoAt : MethodName := ⟨RX5, "echoAt", "(LEchoRow$Element;LEchoRow$Element;J)I"⟩
abbrev cX5_heardBy : ByteArray := prog_1_method_42_code
def yX5_heardBy : MethodName := ⟨RX5, "heardBy", "(LEchoRow$Element;J)I"⟩
abbrev cX5_fits : ByteArray := prog_1_method_43_code
def yX5_fits : MethodName := ⟨RX5, "fits", "(III)Z"⟩
def RX6 : String := "EchoRowModel"
def TX6 : u_T := fun k => match k with
  | 0 => ("EchoRowModel", "thrown", "I", false)
  | 1 => ("EchoRowModel", "wedge", "I", false)
  | 2 => ("EchoRowModel", "plate", "I", false)
  | 3 => ("EchoRowModel", "slowWedge", "I", false)
  | 4 => ("EchoRowModel", "slow", "I", false)
  | 5 => ("EchoRowModel", "elements", "I", false)
  | 6 => ("EchoRowModel", "at", "[I", true)
  | 7 => ("EchoRowModel", "isLost", "[Z", true)
  | 8 => ("EchoRowModel", "targets", "I", false)
  | 9 => ("EchoRowModel", "kind", "[I", true)
  | 10 => ("EchoRowModel", "fromX", "[I", true)
  | 11 => ("EchoRowModel", "toX", "[I", true)
  | 12 => ("EchoRowModel", "depth", "[I", true)
  | 13 => ("EchoRowModel", "strength", "[I", true)
  | 14 => ("EchoRowModel", "time", "[I", true)
  | 15 => ("EchoRowModel", "bend", "[I", true)
  | 16 => ("EchoRowModel", "isMade", "[Z", true)
  | 17 => ("EchoRowModel", "hasFocus", "Z", false)
  | 18 => ("EchoRowModel", "delay", "[I", true)
  | 19 => ("EchoRowModel", "told", "I", false)
  | 20 => ("EchoRowModel", "one", "[I", true)
  | 21 => ("EchoRowModel", "other", "[I", true)
  | 22 => ("EchoRowModel", "when", "[I", true)
  | 23 => ("EchoRowModel", "length", "[I", true)
  | 24 => ("EchoRowModel", "lane", "[I", true)
  | 25 => ("EchoRowModel", "number", "[I", true)
  | 26 => ("EchoRowModel", "spare", "[I", true)
  | _ => ("EchoRowModel", "findings", "I", false)
def tyX6 : Nat → FieldType := fun k => match k with
  | 0 => .int
  | 1 => .int
  | 2 => .int
  | 3 => .int
  | 4 => .int
  | 5 => .int
  | 6 => .array .int
  | 7 => .array .boolean
  | 8 => .int
  | 9 => .array .int
  | 10 => .array .int
  | 11 => .array .int
  | 12 => .array .int
  | 13 => .array .int
  | 14 => .array .int
  | 15 => .array .int
  | 16 => .array .boolean
  | 17 => .boolean
  | 18 => .array .int
  | 19 => .int
  | 20 => .array .int
  | 21 => .array .int
  | 22 => .array .int
  | 23 => .array .int
  | 24 => .array .int
  | 25 => .array .int
  | 26 => .array .int
  | _ => .int
abbrev wsX60 : List Cond := u_ws RX6 TX6 28
theorem nmX6 : ∀ a, a < 28 → ∀ b, b < 28 → a ≠ b → (TX6 a).2.1 ≠ (TX6 b).2.1 := by decide +kernel
theorem tyX6_ok : ∀ k, k < 28 → parseFieldDescriptor (TX6 k).2.2.1 = some (tyX6 k) := by decide +kernel
abbrev cX6_init : ByteArray := prog_8_method_1_code
def yX6_init : MethodName := ⟨RX6, "<init>", "()V"⟩
abbrev cX6_in : ByteArray := prog_8_method_3_code
def yX6_in : MethodName := ⟨RX6, "in", "(JJJ)Z"⟩
abbrev cX6_finds : ByteArray := prog_8_method_4_code
def yX6_finds : MethodName := ⟨RX6, "finds", "(I)I"⟩
abbrev cX6_floor : ByteArray := prog_8_method_5_code
def yX6_floor : MethodName := ⟨RX6, "floor", "()I"⟩
abbrev cX6_isPlace : ByteArray := prog_8_method_6_code
def yX6_isPlace : MethodName := ⟨RX6, "isPlace", "(II)Z"⟩
abbrev cX6_noElement : ByteArray := prog_8_method_7_code
def yX6_noElement : MethodName := ⟨RX6, "noElement", "(I)Z"⟩
abbrev cX6_working : ByteArray := prog_8_method_8_code
def yX6_working : MethodName := ⟨RX6, "working", "()I"⟩
abbrev cX6_ticks : ByteArray := prog_8_method_9_code
def yX6_ticks : MethodName := ⟨RX6, "ticks", "(III)I"⟩
abbrev cX6_unmake : ByteArray := prog_8_method_10_code
def yX6_unmake : MethodName := ⟨RX6, "unmake", "()V"⟩
abbrev cX6_make : ByteArray := prog_8_method_11_code
def yX6_make : MethodName := ⟨RX6, "make", "(II)V"⟩
abbrev cX6_timeOf : ByteArray := prog_8_method_12_code
def yX6_timeOf : MethodName := ⟨RX6, "timeOf", "(III)I"⟩
abbrev cX6_least : ByteArray := prog_8_method_13_code
def yX6_least : MethodName := ⟨RX6, "least", "(IIIII)I"⟩
abbrev cX6_depthOf : ByteArray := prog_8_method_14_code
def yX6_depthOf : MethodName := ⟨RX6, "depthOf", "(I)I"⟩
abbrev cX6_echoOf : ByteArray := prog_8_method_15_code
def yX6_echoOf : MethodName := ⟨RX6, "echoOf", "(III)I"⟩
abbrev cX6_echoAt : ByteArray := prog_8_method_16_code
def yX6_echoAt : MethodName := ⟨RX6, "echoAt", "(IIJ)I"⟩
abbrev cX6_body : ByteArray := prog_8_method_17_code
def yX6_body : MethodName := ⟨RX6, "body", "(IIII)I"⟩
abbrev cX6_element : ByteArray := prog_8_method_18_code
def yX6_element : MethodName := ⟨RX6, "element", "(I)I"⟩
abbrev cX6_lose : ByteArray := prog_8_method_19_code
def yX6_lose : MethodName := ⟨RX6, "lose", "(IZ)I"⟩
abbrev cX6_target : ByteArray := prog_8_method_20_code
def yX6_target : MethodName := ⟨RX6, "target", "(IIIII)I"⟩
abbrev cX6_drop : ByteArray := prog_8_method_21_code
def yX6_drop : MethodName := ⟨RX6, "drop", "()I"⟩
abbrev cX6_taken : ByteArray := prog_8_method_22_code
def yX6_taken : MethodName := ⟨RX6, "taken", "(III)I"⟩
abbrev cX6_time : ByteArray := prog_8_method_23_code
def yX6_time : MethodName := ⟨RX6, "time", "(III)I"⟩
abbrev cX6_bend : ByteArray := prog_8_method_24_code
def yX6_bend : MethodName := ⟨RX6, "bend", "(III)I"⟩
abbrev cX6_echoTime : ByteArray := prog_8_method_25_code
def yX6_echoTime : MethodName := ⟨RX6, "echoTime", "(III)I"⟩
abbrev cX6_slowness : ByteArray := prog_8_method_26_code
def yX6_slowness : MethodName := ⟨RX6, "slowness", "(III)I"⟩
abbrev cX6_echo : ByteArray := prog_8_method_27_code
def yX6_echo : MethodName := ⟨RX6, "echo", "(III)I"⟩
abbrev cX6_gate : ByteArray := prog_8_method_28_code
def yX6_gate : MethodName := ⟨RX6, "gate", "(IIIII)I"⟩
abbrev cX6_focus : ByteArray := prog_8_method_29_code
def yX6_focus : MethodName := ⟨RX6, "focus", "(II)I"⟩
abbrev cX6_delay : ByteArray := prog_8_method_30_code
def yX6_delay : MethodName := ⟨RX6, "delay", "(I)I"⟩
abbrev cX6_heardAt : ByteArray := prog_8_method_31_code
def yX6_heardAt : MethodName := ⟨RX6, "heardAt", "(IJ)I"⟩
abbrev cX6_heard : ByteArray := prog_8_method_32_code
def yX6_heard : MethodName := ⟨RX6, "heard", "(II)I"⟩
abbrev cX6_sum : ByteArray := prog_8_method_33_code
def yX6_sum : MethodName := ⟨RX6, "sum", "(I)I"⟩
abbrev cX6_board : ByteArray := prog_8_method_34_code
def yX6_board : MethodName := ⟨RX6, "board", "(II)I"⟩
abbrev cX6_tell : ByteArray := prog_8_method_35_code
def yX6_tell : MethodName := ⟨RX6, "tell", "(III)I"⟩
abbrev cX6_forget : ByteArray := prog_8_method_36_code
def yX6_forget : MethodName := ⟨RX6, "forget", "()I"⟩
abbrev cX6_isNear : ByteArray := prog_8_method_37_code
def yX6_isNear : MethodName := ⟨RX6, "isNear", "(III)Z"⟩
abbrev cX6_near : ByteArray := prog_8_method_38_code
def yX6_near : MethodName := ⟨RX6, "near", "(II)I"⟩
abbrev cX6_places : ByteArray := prog_8_method_39_code
def yX6_places : MethodName := ⟨RX6, "places", "(I)I"⟩
abbrev cX6_place : ByteArray := prog_8_method_40_code
def yX6_place : MethodName := ⟨RX6, "place", "(II)I"⟩
abbrev cX6_isSheet : ByteArray := prog_8_method_41_code
def yX6_isSheet : MethodName := ⟨RX6, "isSheet", "(I)Z"⟩
abbrev cX6_as : ByteArray := prog_8_method_42_code
def yX6_as : MethodName := ⟨RX6, "as", "(IJ)I"⟩
abbrev cX6_sheet : ByteArray := prog_8_method_43_code
def yX6_sheet : MethodName := ⟨RX6, "sheet", "(III)I"⟩
abbrev cX6_tear : ByteArray := prog_8_method_44_code
def yX6_tear : MethodName := ⟨RX6, "tear", "(I)I"⟩
abbrev cX6_record : ByteArray := prog_8_method_45_code
def yX6_record : MethodName := ⟨RX6, "record", "(IIII)I"⟩
abbrev cX6_add : ByteArray := prog_8_method_46_code
def yX6_add : MethodName := ⟨RX6, "add", "(III)I"⟩
abbrev cX6_copy : ByteArray := prog_8_method_47_code
def yX6_copy : MethodName := ⟨RX6, "copy", "(IIIII)I"⟩
abbrev cX6_at : ByteArray := prog_8_method_48_code
def yX6_at : MethodName := ⟨RX6, "at", "(II)I"⟩
abbrev cX6_peak : ByteArray := prog_8_method_49_code
def yX6_peak : MethodName := ⟨RX6, "peak", "(I)I"⟩
abbrev cX6_total : ByteArray := prog_8_method_50_code
def yX6_total : MethodName := ⟨RX6, "total", "(I)I"⟩
def RJ9 : String := "java/lang/Math"
def TJ9 : u_T := fun k => match k with
  | _ => ("", "", "", false)
def tyJ9 : Nat → FieldType := fun k => match k with
  | _ => .int
abbrev wsJ90 : List Cond := u_ws RJ9 TJ9 0
theorem nmJ9 : ∀ a, a < 0 → ∀ b, b < 0 → a ≠ b → (TJ9 a).2.1 ≠ (TJ9 b).2.1 := by decide +kernel
theorem tyJ9_ok : ∀ k, k < 0 → parseFieldDescriptor (TJ9 k).2.2.1 = some (tyJ9 k) := by decide +kernel
abbrev cJ9_abs_0f7a4 : ByteArray := prog_9_method_59_code
def yJ9_abs_0f7a4 : MethodName := ⟨RJ9, "abs", "(I)I"⟩
abbrev cJ9_abs_067f4 : ByteArray := prog_9_method_61_code
def yJ9_abs_067f4 : MethodName := ⟨RJ9, "abs", "(J)J"⟩
abbrev cJ9_max_7cf53 : ByteArray := prog_9_method_65_code
def yJ9_max_7cf53 : MethodName := ⟨RJ9, "max", "(II)I"⟩
abbrev cJ9_max_f86c9 : ByteArray := prog_9_method_66_code
def yJ9_max_f86c9 : MethodName := ⟨RJ9, "max", "(JJ)J"⟩
abbrev cJ9_min_7cf53 : ByteArray := prog_9_method_69_code
def yJ9_min_7cf53 : MethodName := ⟨RJ9, "min", "(II)I"⟩
abbrev cJ9_min_f86c9 : ByteArray := prog_9_method_70_code
def yJ9_min_f86c9 : MethodName := ⟨RJ9, "min", "(JJ)J"⟩
def RJ10 : String := "java/lang/System"
def TJ10 : u_T := fun k => match k with
  | _ => ("", "", "", false)
def tyJ10 : Nat → FieldType := fun k => match k with
  | _ => .int
abbrev wsJ100 : List Cond := u_ws RJ10 TJ10 0
theorem nmJ10 : ∀ a, a < 0 → ∀ b, b < 0 → a ≠ b → (TJ10 a).2.1 ≠ (TJ10 b).2.1 := by decide +kernel
theorem tyJ10_ok : ∀ k, k < 0 → parseFieldDescriptor (TJ10 k).2.2.1 = some (tyJ10 k) := by decide +kernel
def RJ7 : String := "java/util/Arrays"
def TJ7 : u_T := fun k => match k with
  | _ => ("", "", "", false)
def tyJ7 : Nat → FieldType := fun k => match k with
  | _ => .int
abbrev wsJ70 : List Cond := u_ws RJ7 TJ7 0
theorem nmJ7 : ∀ a, a < 0 → ∀ b, b < 0 → a ≠ b → (TJ7 a).2.1 ≠ (TJ7 b).2.1 := by decide +kernel
theorem tyJ7_ok : ∀ k, k < 0 → parseFieldDescriptor (TJ7 k).2.2.1 = some (tyJ7 k) := by decide +kernel
abbrev cJ7_fill_53178 : ByteArray := prog_11_method_103_code
def yJ7_fill_53178 : MethodName := ⟨RJ7, "fill", "([II)V"⟩
def RL : String := "EchoRowLaw"
abbrev cL_law : ByteArray := code
def yL_law : MethodName := ⟨RL, "law", "([I)Z"⟩
def wsX0_init : List Cond := .code yX0_init cX0_init 3 none :: ([.methodLink RX0 1 objectInit, .instanceMethod objectInit, .code objectInit ⟨#[0xb1]⟩ 1 none, .fieldLink RX0 7 "EchoRow$Element" "number" "I", .fieldLink RX0 13 "EchoRow$Element" "x" "I", .fieldLink RX0 16 "EchoRow$Element" "works" "Z"] ++ wsX00)
def wsX1_fillTicks : List Cond := .code yX1_fillTicks cX1_fillTicks 6 none :: ([])
def wsX1_lay : List Cond := .code yX1_lay cX1_lay 6 none :: ([.fieldLink RX1 29 "EchoRow$Layers" "wedge" "I", .fieldLink RX1 33 "EchoRow$Layers" "plate" "I", .fieldLink RX1 36 "EchoRow$Layers" "plateSlowness" "I", .fieldLink RX1 21 "EchoRow$Layers" "ready" "[Z", .fieldLink RX1 9 "EchoRow$Layers" "wedgeTicks" "[I", .methodLink RX1 39 yX1_fillTicks, .static yX1_fillTicks, .initialized RX1, .code yX1_fillTicks cX1_fillTicks 6 none] ++ wsX10)
def wsX1_init : List Cond := .code yX1_init cX1_init 1 none :: ([.methodLink RX1 3 objectInit, .instanceMethod objectInit, .code objectInit ⟨#[0xb1]⟩ 1 none, .arrayClass .int, .fieldLink RX1 9 "EchoRow$Layers" "wedgeTicks" "[I", .fieldLink RX1 15 "EchoRow$Layers" "plateTicks" "[I", .fieldLink RX1 18 "EchoRow$Layers" "times" "[I", .arrayClass .boolean, .fieldLink RX1 21 "EchoRow$Layers" "ready" "[Z", .methodLink RX1 25 yX1_lay, .instanceMethod yX1_lay, .selects RX1 yX1_lay yX1_lay, .initialized RX1, .code yX1_lay cX1_lay 6 none, .fieldLink RX1 29 "EchoRow$Layers" "wedge" "I", .fieldLink RX1 33 "EchoRow$Layers" "plate" "I", .fieldLink RX1 36 "EchoRow$Layers" "plateSlowness" "I", .methodLink RX1 39 yX1_fillTicks, .static yX1_fillTicks, .code yX1_fillTicks cX1_fillTicks 6 none] ++ wsX10)
def wsX1_floor : List Cond := .code yX1_floor cX1_floor 1 (some .int) :: ([.fieldLink RX1 29 "EchoRow$Layers" "wedge" "I", .fieldLink RX1 33 "EchoRow$Layers" "plate" "I"] ++ wsX10)
def wsX5_outside : List Cond := .code yX5_outside cX5_outside 3 (some .boolean) :: ([])
def wsX1_holds : List Cond := .code yX1_holds cX1_holds 3 (some .boolean) :: ([.fieldLink RX1 29 "EchoRow$Layers" "wedge" "I", .fieldLink RX1 33 "EchoRow$Layers" "plate" "I", .static yX5_outside, .initialized RX5, .code yX5_outside cX5_outside 3 (some .boolean)] ++ wsX10)
def wsX1_fillTimes : List Cond := .code yX1_fillTimes cX1_fillTimes 7 none :: ([.fieldLink RX1 15 "EchoRow$Layers" "plateTicks" "[I", .constant RX1 62 (2147483647), .fieldLink RX1 9 "EchoRow$Layers" "wedgeTicks" "[I", .methodLink RX1 63 Lib.Math.min.name, .static Lib.Math.min.name, .initialized "java/lang/Math", .code Lib.Math.min.name Lib.Math.min.code 2 (some .int), .fieldLink RX1 18 "EchoRow$Layers" "times" "[I", .fieldLink RX1 21 "EchoRow$Layers" "ready" "[Z", .static yX5_outside, .initialized RX5, .code yX5_outside cX5_outside 3 (some .boolean), .methodLink RX1 39 yX1_fillTicks, .static yX1_fillTicks, .initialized RX1, .code yX1_fillTicks cX1_fillTicks 6 none] ++ wsX10)
def wsX1_timeTo_r1 : List Cond := [Cond.fieldLink RX1 29 "EchoRow$Layers" "wedge" "I", Cond.methodLink RX1 47 Lib.Math.abs.name, Cond.static Lib.Math.abs.name, Cond.initialized "java/lang/Math", Cond.code Lib.Math.abs.name Lib.Math.abs.code 1 (some .int), Cond.constant RX1 53 (-99999), Cond.fieldLink RX1 21 "EchoRow$Layers" "ready" "[Z", Cond.fieldLink RX1 36 "EchoRow$Layers" "plateSlowness" "I", Cond.fieldLink RX1 18 "EchoRow$Layers" "times" "[I", Cond.static yX5_outside, Cond.initialized RX5, Cond.code yX5_outside cX5_outside 3 (some .boolean), Cond.methodLink RX1 54 yX1_fillTimes, Cond.instanceMethod yX1_fillTimes, Cond.selects RX1 yX1_fillTimes yX1_fillTimes, Cond.initialized RX1, Cond.code yX1_fillTimes cX1_fillTimes 7 none, Cond.fieldLink RX1 15 "EchoRow$Layers" "plateTicks" "[I", Cond.constant RX1 62 (2147483647), Cond.fieldLink RX1 9 "EchoRow$Layers" "wedgeTicks" "[I", Cond.methodLink RX1 63 Lib.Math.min.name, Cond.static Lib.Math.min.name, Cond.code Lib.Math.min.name Lib.Math.min.code 2 (some .int), Cond.methodLink RX1 39 yX1_fillTicks]
def wsX1_timeTo_r2 : List Cond := [Cond.static yX1_fillTicks, Cond.code yX1_fillTicks cX1_fillTicks 6 none]
def wsX1_timeTo : List Cond := .code yX1_timeTo cX1_timeTo 6 (some .int) :: ((wsX1_timeTo_r1 ++ wsX1_timeTo_r2) ++ wsX10)
def wsX1_bendTo_r1 : List Cond := [Cond.fieldLink RX1 15 "EchoRow$Layers" "plateTicks" "[I", Cond.fieldLink RX1 29 "EchoRow$Layers" "wedge" "I", Cond.fieldLink RX1 36 "EchoRow$Layers" "plateSlowness" "I", Cond.methodLink RX1 47 Lib.Math.abs.name, Cond.static Lib.Math.abs.name, Cond.initialized "java/lang/Math", Cond.code Lib.Math.abs.name Lib.Math.abs.code 1 (some .int), Cond.fieldLink RX1 9 "EchoRow$Layers" "wedgeTicks" "[I", Cond.constant RX1 53 (-99999), Cond.methodLink RX1 58 yX1_timeTo, Cond.instanceMethod yX1_timeTo, Cond.selects RX1 yX1_timeTo yX1_timeTo, Cond.initialized RX1, Cond.code yX1_timeTo cX1_timeTo 6 (some .int), Cond.fieldLink RX1 21 "EchoRow$Layers" "ready" "[Z", Cond.fieldLink RX1 18 "EchoRow$Layers" "times" "[I", Cond.static yX5_outside, Cond.initialized RX5, Cond.code yX5_outside cX5_outside 3 (some .boolean), Cond.methodLink RX1 54 yX1_fillTimes, Cond.instanceMethod yX1_fillTimes, Cond.selects RX1 yX1_fillTimes yX1_fillTimes, Cond.code yX1_fillTimes cX1_fillTimes 7 none, Cond.constant RX1 62 (2147483647)]
def wsX1_bendTo_r2 : List Cond := [Cond.methodLink RX1 63 Lib.Math.min.name, Cond.static Lib.Math.min.name, Cond.code Lib.Math.min.name Lib.Math.min.code 2 (some .int), Cond.methodLink RX1 39 yX1_fillTicks, Cond.static yX1_fillTicks, Cond.code yX1_fillTicks cX1_fillTicks 6 none]
def wsX1_bendTo : List Cond := .code yX1_bendTo cX1_bendTo 9 (some .int) :: ((wsX1_bendTo_r1 ++ wsX1_bendTo_r2) ++ wsX10)
def wsX1_wallTime : List Cond := .code yX1_wallTime cX1_wallTime 8 (some .int) :: ([.fieldLink RX1 33 "EchoRow$Layers" "plate" "I", .constant RX1 62 (2147483647), .methodLink RX1 47 Lib.Math.abs.name, .static Lib.Math.abs.name, .initialized "java/lang/Math", .code Lib.Math.abs.name Lib.Math.abs.code 1 (some .int), .fieldLink RX1 18 "EchoRow$Layers" "times" "[I", .methodLink RX1 63 Lib.Math.min.name, .static Lib.Math.min.name, .code Lib.Math.min.name Lib.Math.min.code 2 (some .int), .methodLink RX1 54 yX1_fillTimes, .instanceMethod yX1_fillTimes, .selects RX1 yX1_fillTimes yX1_fillTimes, .initialized RX1, .code yX1_fillTimes cX1_fillTimes 7 none, .fieldLink RX1 15 "EchoRow$Layers" "plateTicks" "[I", .fieldLink RX1 9 "EchoRow$Layers" "wedgeTicks" "[I", .fieldLink RX1 21 "EchoRow$Layers" "ready" "[Z", .static yX5_outside, .initialized RX5, .code yX5_outside cX5_outside 3 (some .boolean), .methodLink RX1 39 yX1_fillTicks, .static yX1_fillTicks, .code yX1_fillTicks cX1_fillTicks 6 none] ++ wsX10)
def wsX2_init : List Cond := .code yX2_init cX2_init 3 none :: ([.methodLink RX2 3 objectInit, .instanceMethod objectInit, .code objectInit ⟨#[0xb1]⟩ 1 none, .fieldLink RX2 9 "EchoRow$Sheet" "lane" "I", .arrayClass .int, .fieldLink RX2 15 "EchoRow$Sheet" "numbers" "[I"] ++ wsX20)
def wsX2_hasRun : List Cond := .code yX2_hasRun cX2_hasRun 3 (some .boolean) :: ([.fieldLink RX2 15 "EchoRow$Sheet" "numbers" "[I"] ++ wsX20)
def wsX2_nearestTo : List Cond := .code yX2_nearestTo cX2_nearestTo 7 (some .int) :: ([.fieldLink RX2 9 "EchoRow$Sheet" "lane" "I", .constantLong RX2 19 (127), .constantLong RX2 21 (32767), .constantLong RX2 23 (2147483647), .methodLink RX2 25 Lib.MathLoose.min_long.x, .static Lib.MathLoose.min_long.x, .initialized "java/lang/Math", .code Lib.MathLoose.min_long.x Lib.MathLoose.min_long.code 4 (some .long), .methodLink RX2 31 Lib.MathLoose.max_long.x, .static Lib.MathLoose.max_long.x, .code Lib.MathLoose.max_long.x Lib.MathLoose.max_long.code 4 (some .long)] ++ wsX20)
def wsJ7_fill_53178 : List Cond := .code yJ7_fill_53178 cJ7_fill_53178 4 none :: ([])
def wsX3_init : List Cond := .code yX3_init cX3_init 6 none :: ([.methodLink RX3 3 objectInit, .instanceMethod objectInit, .code objectInit ⟨#[0xb1]⟩ 1 none, .fieldLink RX3 9 "EchoRow$Target" "kind" "I", .fieldLink RX3 15 "EchoRow$Target" "x" "I", .fieldLink RX3 18 "EchoRow$Target" "z" "I", .fieldLink RX3 21 "EchoRow$Target" "y" "I", .fieldLink RX3 24 "EchoRow$Target" "strength" "I", .arrayClass .int, .fieldLink RX3 27 "EchoRow$Target" "times" "[I", .methodLink RX3 31 yJ7_fill_53178, .static yJ7_fill_53178, .initialized RJ7, .code yJ7_fill_53178 cJ7_fill_53178 4 none] ++ wsX30)
def wsX3_forgetTimes : List Cond := .code yX3_forgetTimes cX3_forgetTimes 1 none :: ([.fieldLink RX3 27 "EchoRow$Target" "times" "[I", .methodLink RX3 31 yJ7_fill_53178, .static yJ7_fill_53178, .initialized RJ7, .code yJ7_fill_53178 cJ7_fill_53178 4 none] ++ wsX30)
def wsX4_init : List Cond := .code yX4_init cX4_init 4 none :: ([.methodLink RX4 1 objectInit, .instanceMethod objectInit, .code objectInit ⟨#[0xb1]⟩ 1 none, .fieldLink RX4 7 "EchoRow$Told" "a" "LEchoRow$Element;", .fieldLink RX4 13 "EchoRow$Told" "b" "LEchoRow$Element;", .fieldLink RX4 16 "EchoRow$Told" "tick" "I"] ++ wsX40)
def wsX5_init_r1 : List Cond := [Cond.methodLink RX5 3 objectInit, Cond.instanceMethod objectInit, Cond.code objectInit ⟨#[0xb1]⟩ 1 none, Cond.classLink RX5 9 RX1, Cond.instantiable RX1 7, Cond.initialized RX1, Cond.fieldLink RX5 12 "EchoRow" "layers" "LEchoRow$Layers;", Cond.classLink RX5 16 RX0, Cond.fieldLink RX5 18 "EchoRow" "elements" "[LEchoRow$Element;", Cond.classLink RX5 22 RX3, Cond.fieldLink RX5 24 "EchoRow" "targets" "[LEchoRow$Target;", Cond.classLink RX5 28 RX4, Cond.fieldLink RX5 30 "EchoRow" "tolds" "[LEchoRow$Told;", Cond.classLink RX5 34 RX2, Cond.fieldLink RX5 36 "EchoRow" "sheets" "[LEchoRow$Sheet;", Cond.arrayClass .int, Cond.fieldLink RX5 40 "EchoRow" "ahead" "[I", Cond.methodLink RX5 11 yX1_init, Cond.instanceMethod yX1_init, Cond.code yX1_init cX1_init 1 none, Cond.methodLink RX1 3 objectInit, Cond.fieldLink RX1 9 "EchoRow$Layers" "wedgeTicks" "[I", Cond.fieldLink RX1 15 "EchoRow$Layers" "plateTicks" "[I", Cond.fieldLink RX1 18 "EchoRow$Layers" "times" "[I"]
def wsX5_init_r2 : List Cond := [Cond.arrayClass .boolean, Cond.fieldLink RX1 21 "EchoRow$Layers" "ready" "[Z", Cond.methodLink RX1 25 yX1_lay, Cond.instanceMethod yX1_lay, Cond.selects RX1 yX1_lay yX1_lay, Cond.code yX1_lay cX1_lay 6 none, Cond.fieldLink RX1 29 "EchoRow$Layers" "wedge" "I", Cond.fieldLink RX1 33 "EchoRow$Layers" "plate" "I", Cond.fieldLink RX1 36 "EchoRow$Layers" "plateSlowness" "I", Cond.methodLink RX1 39 yX1_fillTicks, Cond.static yX1_fillTicks, Cond.code yX1_fillTicks cX1_fillTicks 6 none]
def wsX5_init : List Cond := .code yX5_init cX5_init 1 none :: ((wsX5_init_r1 ++ wsX5_init_r2) ++ wsX10 ++ wsX50)
def wsX5_body_r1 : List Cond := [Cond.fieldLink RX5 24 "EchoRow" "targets" "[LEchoRow$Target;", Cond.fieldLink RX5 48 "EchoRow$Target" "kind" "I", Cond.fieldLink RX5 52 "EchoRow$Target" "y" "I", Cond.fieldLink RX5 12 "EchoRow" "layers" "LEchoRow$Layers;", Cond.fieldLink RX5 62 "EchoRow" "focused" "Z", Cond.methodLink RX5 44 yX5_outside, Cond.static yX5_outside, Cond.initialized RX5, Cond.code yX5_outside cX5_outside 3 (some .boolean), Cond.methodLink RX5 55 yX1_lay, Cond.instanceMethod yX1_lay, Cond.selects RX1 yX1_lay yX1_lay, Cond.initialized RX1, Cond.code yX1_lay cX1_lay 6 none, Cond.fieldLink RX1 29 "EchoRow$Layers" "wedge" "I", Cond.fieldLink RX1 33 "EchoRow$Layers" "plate" "I", Cond.fieldLink RX1 36 "EchoRow$Layers" "plateSlowness" "I", Cond.fieldLink RX1 21 "EchoRow$Layers" "ready" "[Z", Cond.fieldLink RX1 9 "EchoRow$Layers" "wedgeTicks" "[I", Cond.methodLink RX1 39 yX1_fillTicks, Cond.static yX1_fillTicks, Cond.code yX1_fillTicks cX1_fillTicks 6 none, Cond.methodLink RX5 59 yX3_forgetTimes, Cond.instanceMethod yX3_forgetTimes]
def wsX5_body_r2 : List Cond := [Cond.selects RX3 yX3_forgetTimes yX3_forgetTimes, Cond.initialized RX3, Cond.code yX3_forgetTimes cX3_forgetTimes 1 none, Cond.fieldLink RX3 27 "EchoRow$Target" "times" "[I", Cond.methodLink RX3 31 yJ7_fill_53178, Cond.static yJ7_fill_53178, Cond.initialized RJ7, Cond.code yJ7_fill_53178 cJ7_fill_53178 4 none, Cond.methodLink RX5 66 yX1_floor, Cond.instanceMethod yX1_floor, Cond.selects RX1 yX1_floor yX1_floor, Cond.code yX1_floor cX1_floor 1 (some .int)]
def wsX5_body : List Cond := .code yX5_body cX5_body 9 (some .int) :: ((wsX5_body_r1 ++ wsX5_body_r2) ++ wsX50 ++ wsX30 ++ wsX10)
def wsX5_element : List Cond := .code yX5_element cX5_element 2 (some .int) :: ([.fieldLink RX5 70 "EchoRow" "elementCount" "I", .fieldLink RX5 18 "EchoRow" "elements" "[LEchoRow$Element;", .classLink RX5 16 RX0, .instantiable RX0 4, .initialized RX0, .fieldLink RX5 62 "EchoRow" "focused" "Z", .methodLink RX5 44 yX5_outside, .static yX5_outside, .initialized RX5, .code yX5_outside cX5_outside 3 (some .boolean), .methodLink RX5 73 yX0_init, .instanceMethod yX0_init, .code yX0_init cX0_init 3 none, .methodLink RX0 1 objectInit, .instanceMethod objectInit, .code objectInit ⟨#[0xb1]⟩ 1 none, .fieldLink RX0 7 "EchoRow$Element" "number" "I", .fieldLink RX0 13 "EchoRow$Element" "x" "I", .fieldLink RX0 16 "EchoRow$Element" "works" "Z"] ++ wsX50 ++ wsX00)
def wsX5_elementNumbered : List Cond := .code yX5_elementNumbered cX5_elementNumbered 2 (some (.object "EchoRow$Element")) :: ([.fieldLink RX5 18 "EchoRow" "elements" "[LEchoRow$Element;"] ++ wsX50)
def wsX5_countWorking : List Cond := .code yX5_countWorking cX5_countWorking 6 (some .int) :: ([.fieldLink RX5 18 "EchoRow" "elements" "[LEchoRow$Element;", .fieldLink RX5 80 "EchoRow$Element" "works" "Z"] ++ wsX50 ++ wsX00)
def wsX5_lose : List Cond := .code yX5_lose cX5_lose 4 (some .int) :: ([.fieldLink RX5 80 "EchoRow$Element" "works" "Z", .fieldLink RX5 62 "EchoRow" "focused" "Z", .methodLink RX5 76 yX5_elementNumbered, .instanceMethod yX5_elementNumbered, .selects RX5 yX5_elementNumbered yX5_elementNumbered, .initialized RX5, .code yX5_elementNumbered cX5_elementNumbered 2 (some (.object "EchoRow$Element")), .fieldLink RX5 18 "EchoRow" "elements" "[LEchoRow$Element;", .methodLink RX5 83 yX5_countWorking, .instanceMethod yX5_countWorking, .selects RX5 yX5_countWorking yX5_countWorking, .code yX5_countWorking cX5_countWorking 6 (some .int)] ++ wsX00 ++ wsX50)
def wsX5_newTarget : List Cond := .code yX5_newTarget cX5_newTarget 5 (some (.object "EchoRow$Target")) :: ([.classLink RX5 22 RX3, .instantiable RX3 6, .initialized RX3, .methodLink RX5 205 yX3_init, .instanceMethod yX3_init, .code yX3_init cX3_init 6 none, .methodLink RX3 3 objectInit, .instanceMethod objectInit, .code objectInit ⟨#[0xb1]⟩ 1 none, .fieldLink RX3 9 "EchoRow$Target" "kind" "I", .fieldLink RX3 15 "EchoRow$Target" "x" "I", .fieldLink RX3 18 "EchoRow$Target" "z" "I", .fieldLink RX3 21 "EchoRow$Target" "y" "I", .fieldLink RX3 24 "EchoRow$Target" "strength" "I", .arrayClass .int, .fieldLink RX3 27 "EchoRow$Target" "times" "[I", .methodLink RX3 31 yJ7_fill_53178, .static yJ7_fill_53178, .initialized RJ7, .code yJ7_fill_53178 cJ7_fill_53178 4 none] ++ wsX30)
def wsX5_target_r1 : List Cond := [Cond.fieldLink RX5 12 "EchoRow" "layers" "LEchoRow$Layers;", Cond.fieldLink RX5 90 "EchoRow" "targetCount" "I", Cond.fieldLink RX5 24 "EchoRow" "targets" "[LEchoRow$Target;", Cond.methodLink RX5 44 yX5_outside, Cond.static yX5_outside, Cond.initialized RX5, Cond.code yX5_outside cX5_outside 3 (some .boolean), Cond.methodLink RX5 86 yX1_holds, Cond.instanceMethod yX1_holds, Cond.selects RX1 yX1_holds yX1_holds, Cond.initialized RX1, Cond.code yX1_holds cX1_holds 3 (some .boolean), Cond.fieldLink RX1 29 "EchoRow$Layers" "wedge" "I", Cond.fieldLink RX1 33 "EchoRow$Layers" "plate" "I", Cond.methodLink RX5 93 yX5_newTarget, Cond.static yX5_newTarget, Cond.code yX5_newTarget cX5_newTarget 5 (some (.object "EchoRow$Target")), Cond.classLink RX5 22 RX3, Cond.instantiable RX3 6, Cond.initialized RX3, Cond.methodLink RX5 205 yX3_init, Cond.instanceMethod yX3_init, Cond.code yX3_init cX3_init 6 none, Cond.methodLink RX3 3 objectInit]
def wsX5_target_r2 : List Cond := [Cond.instanceMethod objectInit, Cond.code objectInit ⟨#[0xb1]⟩ 1 none, Cond.fieldLink RX3 9 "EchoRow$Target" "kind" "I", Cond.fieldLink RX3 15 "EchoRow$Target" "x" "I", Cond.fieldLink RX3 18 "EchoRow$Target" "z" "I", Cond.fieldLink RX3 21 "EchoRow$Target" "y" "I", Cond.fieldLink RX3 24 "EchoRow$Target" "strength" "I", Cond.arrayClass .int, Cond.fieldLink RX3 27 "EchoRow$Target" "times" "[I", Cond.methodLink RX3 31 yJ7_fill_53178, Cond.static yJ7_fill_53178, Cond.initialized RJ7, Cond.code yJ7_fill_53178 cJ7_fill_53178 4 none]
def wsX5_target : List Cond := .code yX5_target cX5_target 6 (some .int) :: ((wsX5_target_r1 ++ wsX5_target_r2) ++ wsX50 ++ wsX10 ++ wsX30)
def wsX5_drop : List Cond := .code yX5_drop cX5_drop 1 (some .int) :: ([.fieldLink RX5 90 "EchoRow" "targetCount" "I", .fieldLink RX5 24 "EchoRow" "targets" "[LEchoRow$Target;"] ++ wsX50)
def wsX5_targetNumbered : List Cond := .code yX5_targetNumbered cX5_targetNumbered 2 (some (.object "EchoRow$Target")) :: ([.fieldLink RX5 24 "EchoRow" "targets" "[LEchoRow$Target;"] ++ wsX50)
def wsX5_found : List Cond := .code yX5_found cX5_found 2 (some .int) :: ([.fieldLink RX5 199 "EchoRow" "findings" "I"] ++ wsX50)
def wsX5_depthOf : List Cond := .code yX5_depthOf cX5_depthOf 2 (some .int) :: ([.fieldLink RX5 48 "EchoRow$Target" "kind" "I", .fieldLink RX5 12 "EchoRow" "layers" "LEchoRow$Layers;", .fieldLink RX5 52 "EchoRow$Target" "y" "I", .methodLink RX5 66 yX1_floor, .instanceMethod yX1_floor, .selects RX1 yX1_floor yX1_floor, .initialized RX1, .code yX1_floor cX1_floor 1 (some .int), .fieldLink RX1 29 "EchoRow$Layers" "wedge" "I", .fieldLink RX1 33 "EchoRow$Layers" "plate" "I"] ++ wsX30 ++ wsX50 ++ wsX10)
def wsX5_taken_r1 : List Cond := [Cond.fieldLink RX5 48 "EchoRow$Target" "kind" "I", Cond.fieldLink RX5 105 "EchoRow$Target" "strength" "I", Cond.fieldLink RX5 108 "EchoRow$Target" "x" "I", Cond.fieldLink RX5 115 "EchoRow$Target" "z" "I", Cond.methodLink RX5 97 yX5_targetNumbered, Cond.instanceMethod yX5_targetNumbered, Cond.selects RX5 yX5_targetNumbered yX5_targetNumbered, Cond.initialized RX5, Cond.code yX5_targetNumbered cX5_targetNumbered 2 (some (.object "EchoRow$Target")), Cond.fieldLink RX5 24 "EchoRow" "targets" "[LEchoRow$Target;", Cond.methodLink RX5 44 yX5_outside, Cond.static yX5_outside, Cond.code yX5_outside cX5_outside 3 (some .boolean), Cond.methodLink RX5 101 yX5_found, Cond.instanceMethod yX5_found, Cond.selects RX5 yX5_found yX5_found, Cond.code yX5_found cX5_found 2 (some .int), Cond.fieldLink RX5 199 "EchoRow" "findings" "I", Cond.methodLink RX5 111 yX5_depthOf, Cond.instanceMethod yX5_depthOf, Cond.selects RX5 yX5_depthOf yX5_depthOf, Cond.code yX5_depthOf cX5_depthOf 2 (some .int), Cond.fieldLink RX5 12 "EchoRow" "layers" "LEchoRow$Layers;", Cond.fieldLink RX5 52 "EchoRow$Target" "y" "I"]
def wsX5_taken_r2 : List Cond := [Cond.methodLink RX5 66 yX1_floor, Cond.instanceMethod yX1_floor, Cond.selects RX1 yX1_floor yX1_floor, Cond.initialized RX1, Cond.code yX1_floor cX1_floor 1 (some .int), Cond.fieldLink RX1 29 "EchoRow$Layers" "wedge" "I", Cond.fieldLink RX1 33 "EchoRow$Layers" "plate" "I"]
def wsX5_taken : List Cond := .code yX5_taken cX5_taken 5 (some .int) :: ((wsX5_taken_r1 ++ wsX5_taken_r2) ++ wsX30 ++ wsX50 ++ wsX10)
def wsX5_time_r1 : List Cond := [Cond.fieldLink RX5 12 "EchoRow" "layers" "LEchoRow$Layers;", Cond.fieldLink RX5 118 "EchoRow$Element" "x" "I", Cond.methodLink RX5 76 yX5_elementNumbered, Cond.instanceMethod yX5_elementNumbered, Cond.selects RX5 yX5_elementNumbered yX5_elementNumbered, Cond.initialized RX5, Cond.code yX5_elementNumbered cX5_elementNumbered 2 (some (.object "EchoRow$Element")), Cond.fieldLink RX5 18 "EchoRow" "elements" "[LEchoRow$Element;", Cond.methodLink RX5 86 yX1_holds, Cond.instanceMethod yX1_holds, Cond.selects RX1 yX1_holds yX1_holds, Cond.initialized RX1, Cond.code yX1_holds cX1_holds 3 (some .boolean), Cond.fieldLink RX1 29 "EchoRow$Layers" "wedge" "I", Cond.fieldLink RX1 33 "EchoRow$Layers" "plate" "I", Cond.static yX5_outside, Cond.code yX5_outside cX5_outside 3 (some .boolean), Cond.methodLink RX5 119 yX1_timeTo, Cond.instanceMethod yX1_timeTo, Cond.selects RX1 yX1_timeTo yX1_timeTo, Cond.code yX1_timeTo cX1_timeTo 6 (some .int), Cond.methodLink RX1 47 Lib.Math.abs.name, Cond.static Lib.Math.abs.name, Cond.initialized "java/lang/Math"]
def wsX5_time_r2 : List Cond := [Cond.code Lib.Math.abs.name Lib.Math.abs.code 1 (some .int), Cond.constant RX1 53 (-99999), Cond.fieldLink RX1 21 "EchoRow$Layers" "ready" "[Z", Cond.fieldLink RX1 36 "EchoRow$Layers" "plateSlowness" "I", Cond.fieldLink RX1 18 "EchoRow$Layers" "times" "[I", Cond.methodLink RX1 54 yX1_fillTimes, Cond.instanceMethod yX1_fillTimes, Cond.selects RX1 yX1_fillTimes yX1_fillTimes, Cond.code yX1_fillTimes cX1_fillTimes 7 none, Cond.fieldLink RX1 15 "EchoRow$Layers" "plateTicks" "[I", Cond.constant RX1 62 (2147483647), Cond.fieldLink RX1 9 "EchoRow$Layers" "wedgeTicks" "[I", Cond.methodLink RX1 63 Lib.Math.min.name, Cond.static Lib.Math.min.name, Cond.code Lib.Math.min.name Lib.Math.min.code 2 (some .int), Cond.methodLink RX1 39 yX1_fillTicks, Cond.static yX1_fillTicks, Cond.code yX1_fillTicks cX1_fillTicks 6 none]
def wsX5_time : List Cond := .code yX5_time cX5_time 5 (some .int) :: ((wsX5_time_r1 ++ wsX5_time_r2) ++ wsX50 ++ wsX00 ++ wsX10)
def wsX5_bend_r1 : List Cond := [Cond.fieldLink RX5 12 "EchoRow" "layers" "LEchoRow$Layers;", Cond.fieldLink RX5 118 "EchoRow$Element" "x" "I", Cond.methodLink RX5 76 yX5_elementNumbered, Cond.instanceMethod yX5_elementNumbered, Cond.selects RX5 yX5_elementNumbered yX5_elementNumbered, Cond.initialized RX5, Cond.code yX5_elementNumbered cX5_elementNumbered 2 (some (.object "EchoRow$Element")), Cond.fieldLink RX5 18 "EchoRow" "elements" "[LEchoRow$Element;", Cond.methodLink RX5 86 yX1_holds, Cond.instanceMethod yX1_holds, Cond.selects RX1 yX1_holds yX1_holds, Cond.initialized RX1, Cond.code yX1_holds cX1_holds 3 (some .boolean), Cond.fieldLink RX1 29 "EchoRow$Layers" "wedge" "I", Cond.fieldLink RX1 33 "EchoRow$Layers" "plate" "I", Cond.static yX5_outside, Cond.code yX5_outside cX5_outside 3 (some .boolean), Cond.methodLink RX5 123 yX1_bendTo, Cond.instanceMethod yX1_bendTo, Cond.selects RX1 yX1_bendTo yX1_bendTo, Cond.code yX1_bendTo cX1_bendTo 9 (some .int), Cond.fieldLink RX1 15 "EchoRow$Layers" "plateTicks" "[I", Cond.fieldLink RX1 36 "EchoRow$Layers" "plateSlowness" "I", Cond.methodLink RX1 47 Lib.Math.abs.name]
def wsX5_bend_r2 : List Cond := [Cond.static Lib.Math.abs.name, Cond.initialized "java/lang/Math", Cond.code Lib.Math.abs.name Lib.Math.abs.code 1 (some .int), Cond.fieldLink RX1 9 "EchoRow$Layers" "wedgeTicks" "[I", Cond.constant RX1 53 (-99999), Cond.methodLink RX1 58 yX1_timeTo, Cond.instanceMethod yX1_timeTo, Cond.selects RX1 yX1_timeTo yX1_timeTo, Cond.code yX1_timeTo cX1_timeTo 6 (some .int), Cond.fieldLink RX1 21 "EchoRow$Layers" "ready" "[Z", Cond.fieldLink RX1 18 "EchoRow$Layers" "times" "[I", Cond.methodLink RX1 54 yX1_fillTimes, Cond.instanceMethod yX1_fillTimes, Cond.selects RX1 yX1_fillTimes yX1_fillTimes, Cond.code yX1_fillTimes cX1_fillTimes 7 none, Cond.constant RX1 62 (2147483647), Cond.methodLink RX1 63 Lib.Math.min.name, Cond.static Lib.Math.min.name, Cond.code Lib.Math.min.name Lib.Math.min.code 2 (some .int), Cond.methodLink RX1 39 yX1_fillTicks, Cond.static yX1_fillTicks, Cond.code yX1_fillTicks cX1_fillTicks 6 none]
def wsX5_bend : List Cond := .code yX5_bend cX5_bend 5 (some .int) :: ((wsX5_bend_r1 ++ wsX5_bend_r2) ++ wsX50 ++ wsX00 ++ wsX10)
def wsX5_echoTimeBy_r1 : List Cond := [Cond.fieldLink RX5 208 "EchoRow$Element" "number" "I", Cond.fieldLink RX5 211 "EchoRow$Target" "times" "[I", Cond.constant RX5 143 (-99999), Cond.constant RX5 130 (2147483647), Cond.fieldLink RX5 108 "EchoRow$Target" "x" "I", Cond.fieldLink RX5 115 "EchoRow$Target" "z" "I", Cond.fieldLink RX5 12 "EchoRow" "layers" "LEchoRow$Layers;", Cond.fieldLink RX5 118 "EchoRow$Element" "x" "I", Cond.methodLink RX5 179 Lib.Math.min.name, Cond.static Lib.Math.min.name, Cond.initialized "java/lang/Math", Cond.code Lib.Math.min.name Lib.Math.min.code 2 (some .int), Cond.methodLink RX5 111 yX5_depthOf, Cond.instanceMethod yX5_depthOf, Cond.selects RX5 yX5_depthOf yX5_depthOf, Cond.initialized RX5, Cond.code yX5_depthOf cX5_depthOf 2 (some .int), Cond.fieldLink RX5 48 "EchoRow$Target" "kind" "I", Cond.fieldLink RX5 52 "EchoRow$Target" "y" "I", Cond.methodLink RX5 66 yX1_floor, Cond.instanceMethod yX1_floor, Cond.selects RX1 yX1_floor yX1_floor, Cond.initialized RX1, Cond.code yX1_floor cX1_floor 1 (some .int)]
def wsX5_echoTimeBy_r2 : List Cond := [Cond.fieldLink RX1 29 "EchoRow$Layers" "wedge" "I", Cond.fieldLink RX1 33 "EchoRow$Layers" "plate" "I", Cond.methodLink RX5 119 yX1_timeTo, Cond.instanceMethod yX1_timeTo, Cond.selects RX1 yX1_timeTo yX1_timeTo, Cond.code yX1_timeTo cX1_timeTo 6 (some .int), Cond.methodLink RX1 47 Lib.Math.abs.name, Cond.static Lib.Math.abs.name, Cond.code Lib.Math.abs.name Lib.Math.abs.code 1 (some .int), Cond.constant RX1 53 (-99999), Cond.fieldLink RX1 21 "EchoRow$Layers" "ready" "[Z", Cond.fieldLink RX1 36 "EchoRow$Layers" "plateSlowness" "I", Cond.fieldLink RX1 18 "EchoRow$Layers" "times" "[I", Cond.static yX5_outside, Cond.code yX5_outside cX5_outside 3 (some .boolean), Cond.methodLink RX1 54 yX1_fillTimes, Cond.instanceMethod yX1_fillTimes, Cond.selects RX1 yX1_fillTimes yX1_fillTimes, Cond.code yX1_fillTimes cX1_fillTimes 7 none, Cond.fieldLink RX1 15 "EchoRow$Layers" "plateTicks" "[I", Cond.constant RX1 62 (2147483647), Cond.fieldLink RX1 9 "EchoRow$Layers" "wedgeTicks" "[I", Cond.methodLink RX1 63 Lib.Math.min.name, Cond.methodLink RX1 39 yX1_fillTicks]
def wsX5_echoTimeBy_r3 : List Cond := [Cond.static yX1_fillTicks, Cond.code yX1_fillTicks cX1_fillTicks 6 none]
def wsX5_echoTimeBy : List Cond := .code yX5_echoTimeBy cX5_echoTimeBy 8 (some .int) :: ((wsX5_echoTimeBy_r1 ++ (wsX5_echoTimeBy_r2 ++ wsX5_echoTimeBy_r3)) ++ wsX00 ++ wsX30 ++ wsX50 ++ wsX10)
def wsX5_echoTime_r1 : List Cond := [Cond.methodLink RX5 76 yX5_elementNumbered, Cond.instanceMethod yX5_elementNumbered, Cond.selects RX5 yX5_elementNumbered yX5_elementNumbered, Cond.initialized RX5, Cond.code yX5_elementNumbered cX5_elementNumbered 2 (some (.object "EchoRow$Element")), Cond.fieldLink RX5 18 "EchoRow" "elements" "[LEchoRow$Element;", Cond.methodLink RX5 97 yX5_targetNumbered, Cond.instanceMethod yX5_targetNumbered, Cond.selects RX5 yX5_targetNumbered yX5_targetNumbered, Cond.code yX5_targetNumbered cX5_targetNumbered 2 (some (.object "EchoRow$Target")), Cond.fieldLink RX5 24 "EchoRow" "targets" "[LEchoRow$Target;", Cond.methodLink RX5 126 yX5_echoTimeBy, Cond.instanceMethod yX5_echoTimeBy, Cond.selects RX5 yX5_echoTimeBy yX5_echoTimeBy, Cond.code yX5_echoTimeBy cX5_echoTimeBy 8 (some .int), Cond.fieldLink RX5 208 "EchoRow$Element" "number" "I", Cond.fieldLink RX5 211 "EchoRow$Target" "times" "[I", Cond.constant RX5 143 (-99999), Cond.constant RX5 130 (2147483647), Cond.fieldLink RX5 108 "EchoRow$Target" "x" "I", Cond.fieldLink RX5 115 "EchoRow$Target" "z" "I", Cond.fieldLink RX5 12 "EchoRow" "layers" "LEchoRow$Layers;", Cond.fieldLink RX5 118 "EchoRow$Element" "x" "I", Cond.methodLink RX5 179 Lib.Math.min.name]
def wsX5_echoTime_r2 : List Cond := [Cond.static Lib.Math.min.name, Cond.initialized "java/lang/Math", Cond.code Lib.Math.min.name Lib.Math.min.code 2 (some .int), Cond.methodLink RX5 111 yX5_depthOf, Cond.instanceMethod yX5_depthOf, Cond.selects RX5 yX5_depthOf yX5_depthOf, Cond.code yX5_depthOf cX5_depthOf 2 (some .int), Cond.fieldLink RX5 48 "EchoRow$Target" "kind" "I", Cond.fieldLink RX5 52 "EchoRow$Target" "y" "I", Cond.methodLink RX5 66 yX1_floor, Cond.instanceMethod yX1_floor, Cond.selects RX1 yX1_floor yX1_floor, Cond.initialized RX1, Cond.code yX1_floor cX1_floor 1 (some .int), Cond.fieldLink RX1 29 "EchoRow$Layers" "wedge" "I", Cond.fieldLink RX1 33 "EchoRow$Layers" "plate" "I", Cond.methodLink RX5 119 yX1_timeTo, Cond.instanceMethod yX1_timeTo, Cond.selects RX1 yX1_timeTo yX1_timeTo, Cond.code yX1_timeTo cX1_timeTo 6 (some .int), Cond.methodLink RX1 47 Lib.Math.abs.name, Cond.static Lib.Math.abs.name, Cond.code Lib.Math.abs.name Lib.Math.abs.code 1 (some .int), Cond.constant RX1 53 (-99999)]
def wsX5_echoTime_r3 : List Cond := [Cond.fieldLink RX1 21 "EchoRow$Layers" "ready" "[Z", Cond.fieldLink RX1 36 "EchoRow$Layers" "plateSlowness" "I", Cond.fieldLink RX1 18 "EchoRow$Layers" "times" "[I", Cond.static yX5_outside, Cond.code yX5_outside cX5_outside 3 (some .boolean), Cond.methodLink RX1 54 yX1_fillTimes, Cond.instanceMethod yX1_fillTimes, Cond.selects RX1 yX1_fillTimes yX1_fillTimes, Cond.code yX1_fillTimes cX1_fillTimes 7 none, Cond.fieldLink RX1 15 "EchoRow$Layers" "plateTicks" "[I", Cond.constant RX1 62 (2147483647), Cond.fieldLink RX1 9 "EchoRow$Layers" "wedgeTicks" "[I", Cond.methodLink RX1 63 Lib.Math.min.name, Cond.methodLink RX1 39 yX1_fillTicks, Cond.static yX1_fillTicks, Cond.code yX1_fillTicks cX1_fillTicks 6 none]
def wsX5_echoTime : List Cond := .code yX5_echoTime cX5_echoTime 7 (some .int) :: ((wsX5_echoTime_r1 ++ (wsX5_echoTime_r2 ++ wsX5_echoTime_r3)) ++ wsX50 ++ wsX00 ++ wsX30 ++ wsX10)
def wsX5_slowness_r1 : List Cond := [Cond.constant RX5 130 (2147483647), Cond.fieldLink RX5 12 "EchoRow" "layers" "LEchoRow$Layers;", Cond.fieldLink RX5 118 "EchoRow$Element" "x" "I", Cond.methodLink RX5 134 Lib.Math.abs.name, Cond.static Lib.Math.abs.name, Cond.initialized "java/lang/Math", Cond.code Lib.Math.abs.name Lib.Math.abs.code 1 (some .int), Cond.methodLink RX5 76 yX5_elementNumbered, Cond.instanceMethod yX5_elementNumbered, Cond.selects RX5 yX5_elementNumbered yX5_elementNumbered, Cond.initialized RX5, Cond.code yX5_elementNumbered cX5_elementNumbered 2 (some (.object "EchoRow$Element")), Cond.fieldLink RX5 18 "EchoRow" "elements" "[LEchoRow$Element;", Cond.methodLink RX5 131 yX1_wallTime, Cond.instanceMethod yX1_wallTime, Cond.selects RX1 yX1_wallTime yX1_wallTime, Cond.initialized RX1, Cond.code yX1_wallTime cX1_wallTime 8 (some .int), Cond.fieldLink RX1 33 "EchoRow$Layers" "plate" "I", Cond.constant RX1 62 (2147483647), Cond.methodLink RX1 47 Lib.Math.abs.name, Cond.fieldLink RX1 18 "EchoRow$Layers" "times" "[I", Cond.methodLink RX1 63 Lib.Math.min.name, Cond.static Lib.Math.min.name]
def wsX5_slowness_r2 : List Cond := [Cond.code Lib.Math.min.name Lib.Math.min.code 2 (some .int), Cond.methodLink RX1 54 yX1_fillTimes, Cond.instanceMethod yX1_fillTimes, Cond.selects RX1 yX1_fillTimes yX1_fillTimes, Cond.code yX1_fillTimes cX1_fillTimes 7 none, Cond.fieldLink RX1 15 "EchoRow$Layers" "plateTicks" "[I", Cond.fieldLink RX1 9 "EchoRow$Layers" "wedgeTicks" "[I", Cond.fieldLink RX1 21 "EchoRow$Layers" "ready" "[Z", Cond.static yX5_outside, Cond.code yX5_outside cX5_outside 3 (some .boolean), Cond.methodLink RX1 39 yX1_fillTicks, Cond.static yX1_fillTicks, Cond.code yX1_fillTicks cX1_fillTicks 6 none]
def wsX5_slowness : List Cond := .code yX5_slowness cX5_slowness 10 (some .int) :: ((wsX5_slowness_r1 ++ wsX5_slowness_r2) ++ wsX50 ++ wsX00 ++ wsX10)
def wsX5_echoAt_r1 : List Cond := [Cond.fieldLink RX5 80 "EchoRow$Element" "works" "Z", Cond.fieldLink RX5 24 "EchoRow" "targets" "[LEchoRow$Target;", Cond.fieldLink RX5 105 "EchoRow$Target" "strength" "I", Cond.methodLink RX5 126 yX5_echoTimeBy, Cond.instanceMethod yX5_echoTimeBy, Cond.selects RX5 yX5_echoTimeBy yX5_echoTimeBy, Cond.initialized RX5, Cond.code yX5_echoTimeBy cX5_echoTimeBy 8 (some .int), Cond.fieldLink RX5 208 "EchoRow$Element" "number" "I", Cond.fieldLink RX5 211 "EchoRow$Target" "times" "[I", Cond.constant RX5 143 (-99999), Cond.constant RX5 130 (2147483647), Cond.fieldLink RX5 108 "EchoRow$Target" "x" "I", Cond.fieldLink RX5 115 "EchoRow$Target" "z" "I", Cond.fieldLink RX5 12 "EchoRow" "layers" "LEchoRow$Layers;", Cond.fieldLink RX5 118 "EchoRow$Element" "x" "I", Cond.methodLink RX5 179 Lib.Math.min.name, Cond.static Lib.Math.min.name, Cond.initialized "java/lang/Math", Cond.code Lib.Math.min.name Lib.Math.min.code 2 (some .int), Cond.methodLink RX5 111 yX5_depthOf, Cond.instanceMethod yX5_depthOf, Cond.selects RX5 yX5_depthOf yX5_depthOf, Cond.code yX5_depthOf cX5_depthOf 2 (some .int)]
def wsX5_echoAt_r2 : List Cond := [Cond.fieldLink RX5 48 "EchoRow$Target" "kind" "I", Cond.fieldLink RX5 52 "EchoRow$Target" "y" "I", Cond.methodLink RX5 66 yX1_floor, Cond.instanceMethod yX1_floor, Cond.selects RX1 yX1_floor yX1_floor, Cond.initialized RX1, Cond.code yX1_floor cX1_floor 1 (some .int), Cond.fieldLink RX1 29 "EchoRow$Layers" "wedge" "I", Cond.fieldLink RX1 33 "EchoRow$Layers" "plate" "I", Cond.methodLink RX5 119 yX1_timeTo, Cond.instanceMethod yX1_timeTo, Cond.selects RX1 yX1_timeTo yX1_timeTo, Cond.code yX1_timeTo cX1_timeTo 6 (some .int), Cond.methodLink RX1 47 Lib.Math.abs.name, Cond.static Lib.Math.abs.name, Cond.code Lib.Math.abs.name Lib.Math.abs.code 1 (some .int), Cond.constant RX1 53 (-99999), Cond.fieldLink RX1 21 "EchoRow$Layers" "ready" "[Z", Cond.fieldLink RX1 36 "EchoRow$Layers" "plateSlowness" "I", Cond.fieldLink RX1 18 "EchoRow$Layers" "times" "[I", Cond.static yX5_outside, Cond.code yX5_outside cX5_outside 3 (some .boolean), Cond.methodLink RX1 54 yX1_fillTimes, Cond.instanceMethod yX1_fillTimes]
def wsX5_echoAt_r3 : List Cond := [Cond.selects RX1 yX1_fillTimes yX1_fillTimes, Cond.code yX1_fillTimes cX1_fillTimes 7 none, Cond.fieldLink RX1 15 "EchoRow$Layers" "plateTicks" "[I", Cond.constant RX1 62 (2147483647), Cond.fieldLink RX1 9 "EchoRow$Layers" "wedgeTicks" "[I", Cond.methodLink RX1 63 Lib.Math.min.name, Cond.methodLink RX1 39 yX1_fillTicks, Cond.static yX1_fillTicks, Cond.code yX1_fillTicks cX1_fillTicks 6 none]
def wsX5_echoAt : List Cond := .code yX5_echoAt cX5_echoAt 10 (some .int) :: ((wsX5_echoAt_r1 ++ (wsX5_echoAt_r2 ++ wsX5_echoAt_r3)) ++ wsX00 ++ wsX50 ++ wsX30 ++ wsX10)
def wsX5_echo_r1 : List Cond := [Cond.methodLink RX5 76 yX5_elementNumbered, Cond.instanceMethod yX5_elementNumbered, Cond.selects RX5 yX5_elementNumbered yX5_elementNumbered, Cond.initialized RX5, Cond.code yX5_elementNumbered cX5_elementNumbered 2 (some (.object "EchoRow$Element")), Cond.fieldLink RX5 18 "EchoRow" "elements" "[LEchoRow$Element;", Cond.methodLink RX5 139 yX5_echoAt, Cond.instanceMethod yX5_echoAt, Cond.selects RX5 yX5_echoAt yX5_echoAt, Cond.code yX5_echoAt cX5_echoAt 10 (some .int), Cond.fieldLink RX5 80 "EchoRow$Element" "works" "Z", Cond.fieldLink RX5 24 "EchoRow" "targets" "[LEchoRow$Target;", Cond.fieldLink RX5 105 "EchoRow$Target" "strength" "I", Cond.methodLink RX5 126 yX5_echoTimeBy, Cond.instanceMethod yX5_echoTimeBy, Cond.selects RX5 yX5_echoTimeBy yX5_echoTimeBy, Cond.code yX5_echoTimeBy cX5_echoTimeBy 8 (some .int), Cond.fieldLink RX5 208 "EchoRow$Element" "number" "I", Cond.fieldLink RX5 211 "EchoRow$Target" "times" "[I", Cond.constant RX5 143 (-99999), Cond.constant RX5 130 (2147483647), Cond.fieldLink RX5 108 "EchoRow$Target" "x" "I", Cond.fieldLink RX5 115 "EchoRow$Target" "z" "I", Cond.fieldLink RX5 12 "EchoRow" "layers" "LEchoRow$Layers;"]
def wsX5_echo_r2 : List Cond := [Cond.fieldLink RX5 118 "EchoRow$Element" "x" "I", Cond.methodLink RX5 179 Lib.Math.min.name, Cond.static Lib.Math.min.name, Cond.initialized "java/lang/Math", Cond.code Lib.Math.min.name Lib.Math.min.code 2 (some .int), Cond.methodLink RX5 111 yX5_depthOf, Cond.instanceMethod yX5_depthOf, Cond.selects RX5 yX5_depthOf yX5_depthOf, Cond.code yX5_depthOf cX5_depthOf 2 (some .int), Cond.fieldLink RX5 48 "EchoRow$Target" "kind" "I", Cond.fieldLink RX5 52 "EchoRow$Target" "y" "I", Cond.methodLink RX5 66 yX1_floor, Cond.instanceMethod yX1_floor, Cond.selects RX1 yX1_floor yX1_floor, Cond.initialized RX1, Cond.code yX1_floor cX1_floor 1 (some .int), Cond.fieldLink RX1 29 "EchoRow$Layers" "wedge" "I", Cond.fieldLink RX1 33 "EchoRow$Layers" "plate" "I", Cond.methodLink RX5 119 yX1_timeTo, Cond.instanceMethod yX1_timeTo, Cond.selects RX1 yX1_timeTo yX1_timeTo, Cond.code yX1_timeTo cX1_timeTo 6 (some .int), Cond.methodLink RX1 47 Lib.Math.abs.name, Cond.static Lib.Math.abs.name]
def wsX5_echo_r3 : List Cond := [Cond.code Lib.Math.abs.name Lib.Math.abs.code 1 (some .int), Cond.constant RX1 53 (-99999), Cond.fieldLink RX1 21 "EchoRow$Layers" "ready" "[Z", Cond.fieldLink RX1 36 "EchoRow$Layers" "plateSlowness" "I", Cond.fieldLink RX1 18 "EchoRow$Layers" "times" "[I", Cond.static yX5_outside, Cond.code yX5_outside cX5_outside 3 (some .boolean), Cond.methodLink RX1 54 yX1_fillTimes, Cond.instanceMethod yX1_fillTimes, Cond.selects RX1 yX1_fillTimes yX1_fillTimes, Cond.code yX1_fillTimes cX1_fillTimes 7 none, Cond.fieldLink RX1 15 "EchoRow$Layers" "plateTicks" "[I", Cond.constant RX1 62 (2147483647), Cond.fieldLink RX1 9 "EchoRow$Layers" "wedgeTicks" "[I", Cond.methodLink RX1 63 Lib.Math.min.name, Cond.methodLink RX1 39 yX1_fillTicks, Cond.static yX1_fillTicks, Cond.code yX1_fillTicks cX1_fillTicks 6 none]
def wsX5_echo : List Cond := .code yX5_echo cX5_echo 6 (some .int) :: ((wsX5_echo_r1 ++ (wsX5_echo_r2 ++ wsX5_echo_r3)) ++ wsX50 ++ wsX00 ++ wsX30 ++ wsX10)
def wsX5_gate_r1 : List Cond := [Cond.constant RX5 143 (-99999), Cond.fieldLink RX5 24 "EchoRow" "targets" "[LEchoRow$Target;", Cond.methodLink RX5 134 Lib.Math.abs.name, Cond.static Lib.Math.abs.name, Cond.initialized "java/lang/Math", Cond.code Lib.Math.abs.name Lib.Math.abs.code 1 (some .int), Cond.methodLink RX5 76 yX5_elementNumbered, Cond.instanceMethod yX5_elementNumbered, Cond.selects RX5 yX5_elementNumbered yX5_elementNumbered, Cond.initialized RX5, Cond.code yX5_elementNumbered cX5_elementNumbered 2 (some (.object "EchoRow$Element")), Cond.fieldLink RX5 18 "EchoRow" "elements" "[LEchoRow$Element;", Cond.methodLink RX5 44 yX5_outside, Cond.static yX5_outside, Cond.code yX5_outside cX5_outside 3 (some .boolean), Cond.methodLink RX5 126 yX5_echoTimeBy, Cond.instanceMethod yX5_echoTimeBy, Cond.selects RX5 yX5_echoTimeBy yX5_echoTimeBy, Cond.code yX5_echoTimeBy cX5_echoTimeBy 8 (some .int), Cond.fieldLink RX5 208 "EchoRow$Element" "number" "I", Cond.fieldLink RX5 211 "EchoRow$Target" "times" "[I", Cond.constant RX5 130 (2147483647), Cond.fieldLink RX5 108 "EchoRow$Target" "x" "I", Cond.fieldLink RX5 115 "EchoRow$Target" "z" "I"]
def wsX5_gate_r2 : List Cond := [Cond.fieldLink RX5 12 "EchoRow" "layers" "LEchoRow$Layers;", Cond.fieldLink RX5 118 "EchoRow$Element" "x" "I", Cond.methodLink RX5 179 Lib.Math.min.name, Cond.static Lib.Math.min.name, Cond.code Lib.Math.min.name Lib.Math.min.code 2 (some .int), Cond.methodLink RX5 111 yX5_depthOf, Cond.instanceMethod yX5_depthOf, Cond.selects RX5 yX5_depthOf yX5_depthOf, Cond.code yX5_depthOf cX5_depthOf 2 (some .int), Cond.fieldLink RX5 48 "EchoRow$Target" "kind" "I", Cond.fieldLink RX5 52 "EchoRow$Target" "y" "I", Cond.methodLink RX5 66 yX1_floor, Cond.instanceMethod yX1_floor, Cond.selects RX1 yX1_floor yX1_floor, Cond.initialized RX1, Cond.code yX1_floor cX1_floor 1 (some .int), Cond.fieldLink RX1 29 "EchoRow$Layers" "wedge" "I", Cond.fieldLink RX1 33 "EchoRow$Layers" "plate" "I", Cond.methodLink RX5 119 yX1_timeTo, Cond.instanceMethod yX1_timeTo, Cond.selects RX1 yX1_timeTo yX1_timeTo, Cond.code yX1_timeTo cX1_timeTo 6 (some .int), Cond.methodLink RX1 47 Lib.Math.abs.name, Cond.constant RX1 53 (-99999)]
def wsX5_gate_r3 : List Cond := [Cond.fieldLink RX1 21 "EchoRow$Layers" "ready" "[Z", Cond.fieldLink RX1 36 "EchoRow$Layers" "plateSlowness" "I", Cond.fieldLink RX1 18 "EchoRow$Layers" "times" "[I", Cond.methodLink RX1 54 yX1_fillTimes, Cond.instanceMethod yX1_fillTimes, Cond.selects RX1 yX1_fillTimes yX1_fillTimes, Cond.code yX1_fillTimes cX1_fillTimes 7 none, Cond.fieldLink RX1 15 "EchoRow$Layers" "plateTicks" "[I", Cond.constant RX1 62 (2147483647), Cond.fieldLink RX1 9 "EchoRow$Layers" "wedgeTicks" "[I", Cond.methodLink RX1 63 Lib.Math.min.name, Cond.methodLink RX1 39 yX1_fillTicks, Cond.static yX1_fillTicks, Cond.code yX1_fillTicks cX1_fillTicks 6 none, Cond.methodLink RX5 139 yX5_echoAt, Cond.instanceMethod yX5_echoAt, Cond.selects RX5 yX5_echoAt yX5_echoAt, Cond.code yX5_echoAt cX5_echoAt 10 (some .int), Cond.fieldLink RX5 80 "EchoRow$Element" "works" "Z", Cond.fieldLink RX5 105 "EchoRow$Target" "strength" "I"]
def wsX5_gate : List Cond := .code yX5_gate cX5_gate 15 (some .int) :: ((wsX5_gate_r1 ++ (wsX5_gate_r2 ++ wsX5_gate_r3)) ++ wsX50 ++ wsX00 ++ wsX30 ++ wsX10)
def wsX5_focus_r1 : List Cond := [Cond.fieldLink RX5 12 "EchoRow" "layers" "LEchoRow$Layers;", Cond.fieldLink RX5 18 "EchoRow" "elements" "[LEchoRow$Element;", Cond.fieldLink RX5 80 "EchoRow$Element" "works" "Z", Cond.fieldLink RX5 118 "EchoRow$Element" "x" "I", Cond.methodLink RX5 144 Lib.Math.max.name, Cond.static Lib.Math.max.name, Cond.initialized "java/lang/Math", Cond.code Lib.Math.max.name Lib.Math.max.code 2 (some .int), Cond.fieldLink RX5 148 "EchoRow$Element" "wait" "I", Cond.fieldLink RX5 62 "EchoRow" "focused" "Z", Cond.methodLink RX5 86 yX1_holds, Cond.instanceMethod yX1_holds, Cond.selects RX1 yX1_holds yX1_holds, Cond.initialized RX1, Cond.code yX1_holds cX1_holds 3 (some .boolean), Cond.fieldLink RX1 29 "EchoRow$Layers" "wedge" "I", Cond.fieldLink RX1 33 "EchoRow$Layers" "plate" "I", Cond.static yX5_outside, Cond.initialized RX5, Cond.code yX5_outside cX5_outside 3 (some .boolean), Cond.methodLink RX5 83 yX5_countWorking, Cond.instanceMethod yX5_countWorking, Cond.selects RX5 yX5_countWorking yX5_countWorking, Cond.code yX5_countWorking cX5_countWorking 6 (some .int)]
def wsX5_focus_r2 : List Cond := [Cond.methodLink RX5 119 yX1_timeTo, Cond.instanceMethod yX1_timeTo, Cond.selects RX1 yX1_timeTo yX1_timeTo, Cond.code yX1_timeTo cX1_timeTo 6 (some .int), Cond.methodLink RX1 47 Lib.Math.abs.name, Cond.static Lib.Math.abs.name, Cond.code Lib.Math.abs.name Lib.Math.abs.code 1 (some .int), Cond.constant RX1 53 (-99999), Cond.fieldLink RX1 21 "EchoRow$Layers" "ready" "[Z", Cond.fieldLink RX1 36 "EchoRow$Layers" "plateSlowness" "I", Cond.fieldLink RX1 18 "EchoRow$Layers" "times" "[I", Cond.methodLink RX1 54 yX1_fillTimes, Cond.instanceMethod yX1_fillTimes, Cond.selects RX1 yX1_fillTimes yX1_fillTimes, Cond.code yX1_fillTimes cX1_fillTimes 7 none, Cond.fieldLink RX1 15 "EchoRow$Layers" "plateTicks" "[I", Cond.constant RX1 62 (2147483647), Cond.fieldLink RX1 9 "EchoRow$Layers" "wedgeTicks" "[I", Cond.methodLink RX1 63 Lib.Math.min.name, Cond.static Lib.Math.min.name, Cond.code Lib.Math.min.name Lib.Math.min.code 2 (some .int), Cond.methodLink RX1 39 yX1_fillTicks, Cond.static yX1_fillTicks, Cond.code yX1_fillTicks cX1_fillTicks 6 none]
def wsX5_focus : List Cond := .code yX5_focus cX5_focus 8 (some .int) :: ((wsX5_focus_r1 ++ wsX5_focus_r2) ++ wsX50 ++ wsX00 ++ wsX10)
def wsX5_delay : List Cond := .code yX5_delay cX5_delay 3 (some .int) :: ([.fieldLink RX5 62 "EchoRow" "focused" "Z", .fieldLink RX5 80 "EchoRow$Element" "works" "Z", .fieldLink RX5 148 "EchoRow$Element" "wait" "I", .constant RX5 143 (-99999), .methodLink RX5 76 yX5_elementNumbered, .instanceMethod yX5_elementNumbered, .selects RX5 yX5_elementNumbered yX5_elementNumbered, .initialized RX5, .code yX5_elementNumbered cX5_elementNumbered 2 (some (.object "EchoRow$Element")), .fieldLink RX5 18 "EchoRow" "elements" "[LEchoRow$Element;"] ++ wsX50 ++ wsX00)
def wsX5_heardBy_r1 : List Cond := [Cond.fieldLink RX5 18 "EchoRow" "elements" "[LEchoRow$Element;", Cond.fieldLink RX5 80 "EchoRow$Element" "works" "Z", Cond.fieldLink RX5 148 "EchoRow$Element" "wait" "I", Cond.methodLink RX5 139 yX5_echoAt, Cond.instanceMethod yX5_echoAt, Cond.selects RX5 yX5_echoAt yX5_echoAt, Cond.initialized RX5, Cond.code yX5_echoAt cX5_echoAt 10 (some .int), Cond.fieldLink RX5 24 "EchoRow" "targets" "[LEchoRow$Target;", Cond.fieldLink RX5 105 "EchoRow$Target" "strength" "I", Cond.methodLink RX5 126 yX5_echoTimeBy, Cond.instanceMethod yX5_echoTimeBy, Cond.selects RX5 yX5_echoTimeBy yX5_echoTimeBy, Cond.code yX5_echoTimeBy cX5_echoTimeBy 8 (some .int), Cond.fieldLink RX5 208 "EchoRow$Element" "number" "I", Cond.fieldLink RX5 211 "EchoRow$Target" "times" "[I", Cond.constant RX5 143 (-99999), Cond.constant RX5 130 (2147483647), Cond.fieldLink RX5 108 "EchoRow$Target" "x" "I", Cond.fieldLink RX5 115 "EchoRow$Target" "z" "I", Cond.fieldLink RX5 12 "EchoRow" "layers" "LEchoRow$Layers;", Cond.fieldLink RX5 118 "EchoRow$Element" "x" "I", Cond.methodLink RX5 179 Lib.Math.min.name, Cond.static Lib.Math.min.name]
def wsX5_heardBy_r2 : List Cond := [Cond.initialized "java/lang/Math", Cond.code Lib.Math.min.name Lib.Math.min.code 2 (some .int), Cond.methodLink RX5 111 yX5_depthOf, Cond.instanceMethod yX5_depthOf, Cond.selects RX5 yX5_depthOf yX5_depthOf, Cond.code yX5_depthOf cX5_depthOf 2 (some .int), Cond.fieldLink RX5 48 "EchoRow$Target" "kind" "I", Cond.fieldLink RX5 52 "EchoRow$Target" "y" "I", Cond.methodLink RX5 66 yX1_floor, Cond.instanceMethod yX1_floor, Cond.selects RX1 yX1_floor yX1_floor, Cond.initialized RX1, Cond.code yX1_floor cX1_floor 1 (some .int), Cond.fieldLink RX1 29 "EchoRow$Layers" "wedge" "I", Cond.fieldLink RX1 33 "EchoRow$Layers" "plate" "I", Cond.methodLink RX5 119 yX1_timeTo, Cond.instanceMethod yX1_timeTo, Cond.selects RX1 yX1_timeTo yX1_timeTo, Cond.code yX1_timeTo cX1_timeTo 6 (some .int), Cond.methodLink RX1 47 Lib.Math.abs.name, Cond.static Lib.Math.abs.name, Cond.code Lib.Math.abs.name Lib.Math.abs.code 1 (some .int), Cond.constant RX1 53 (-99999), Cond.fieldLink RX1 21 "EchoRow$Layers" "ready" "[Z"]
def wsX5_heardBy_r3 : List Cond := [Cond.fieldLink RX1 36 "EchoRow$Layers" "plateSlowness" "I", Cond.fieldLink RX1 18 "EchoRow$Layers" "times" "[I", Cond.static yX5_outside, Cond.code yX5_outside cX5_outside 3 (some .boolean), Cond.methodLink RX1 54 yX1_fillTimes, Cond.instanceMethod yX1_fillTimes, Cond.selects RX1 yX1_fillTimes yX1_fillTimes, Cond.code yX1_fillTimes cX1_fillTimes 7 none, Cond.fieldLink RX1 15 "EchoRow$Layers" "plateTicks" "[I", Cond.constant RX1 62 (2147483647), Cond.fieldLink RX1 9 "EchoRow$Layers" "wedgeTicks" "[I", Cond.methodLink RX1 63 Lib.Math.min.name, Cond.methodLink RX1 39 yX1_fillTicks, Cond.static yX1_fillTicks, Cond.code yX1_fillTicks cX1_fillTicks 6 none]
def wsX5_heardBy : List Cond := .code yX5_heardBy cX5_heardBy 9 (some .int) :: ((wsX5_heardBy_r1 ++ (wsX5_heardBy_r2 ++ wsX5_heardBy_r3)) ++ wsX50 ++ wsX00 ++ wsX30 ++ wsX10)
def wsX5_heard_r1 : List Cond := [Cond.fieldLink RX5 62 "EchoRow" "focused" "Z", Cond.methodLink RX5 76 yX5_elementNumbered, Cond.instanceMethod yX5_elementNumbered, Cond.selects RX5 yX5_elementNumbered yX5_elementNumbered, Cond.initialized RX5, Cond.code yX5_elementNumbered cX5_elementNumbered 2 (some (.object "EchoRow$Element")), Cond.fieldLink RX5 18 "EchoRow" "elements" "[LEchoRow$Element;", Cond.methodLink RX5 151 yX5_heardBy, Cond.instanceMethod yX5_heardBy, Cond.selects RX5 yX5_heardBy yX5_heardBy, Cond.code yX5_heardBy cX5_heardBy 9 (some .int), Cond.fieldLink RX5 80 "EchoRow$Element" "works" "Z", Cond.fieldLink RX5 148 "EchoRow$Element" "wait" "I", Cond.methodLink RX5 139 yX5_echoAt, Cond.instanceMethod yX5_echoAt, Cond.selects RX5 yX5_echoAt yX5_echoAt, Cond.code yX5_echoAt cX5_echoAt 10 (some .int), Cond.fieldLink RX5 24 "EchoRow" "targets" "[LEchoRow$Target;", Cond.fieldLink RX5 105 "EchoRow$Target" "strength" "I", Cond.methodLink RX5 126 yX5_echoTimeBy, Cond.instanceMethod yX5_echoTimeBy, Cond.selects RX5 yX5_echoTimeBy yX5_echoTimeBy, Cond.code yX5_echoTimeBy cX5_echoTimeBy 8 (some .int), Cond.fieldLink RX5 208 "EchoRow$Element" "number" "I"]
def wsX5_heard_r2 : List Cond := [Cond.fieldLink RX5 211 "EchoRow$Target" "times" "[I", Cond.constant RX5 143 (-99999), Cond.constant RX5 130 (2147483647), Cond.fieldLink RX5 108 "EchoRow$Target" "x" "I", Cond.fieldLink RX5 115 "EchoRow$Target" "z" "I", Cond.fieldLink RX5 12 "EchoRow" "layers" "LEchoRow$Layers;", Cond.fieldLink RX5 118 "EchoRow$Element" "x" "I", Cond.methodLink RX5 179 Lib.Math.min.name, Cond.static Lib.Math.min.name, Cond.initialized "java/lang/Math", Cond.code Lib.Math.min.name Lib.Math.min.code 2 (some .int), Cond.methodLink RX5 111 yX5_depthOf, Cond.instanceMethod yX5_depthOf, Cond.selects RX5 yX5_depthOf yX5_depthOf, Cond.code yX5_depthOf cX5_depthOf 2 (some .int), Cond.fieldLink RX5 48 "EchoRow$Target" "kind" "I", Cond.fieldLink RX5 52 "EchoRow$Target" "y" "I", Cond.methodLink RX5 66 yX1_floor, Cond.instanceMethod yX1_floor, Cond.selects RX1 yX1_floor yX1_floor, Cond.initialized RX1, Cond.code yX1_floor cX1_floor 1 (some .int), Cond.fieldLink RX1 29 "EchoRow$Layers" "wedge" "I", Cond.fieldLink RX1 33 "EchoRow$Layers" "plate" "I"]
def wsX5_heard_r3 : List Cond := [Cond.methodLink RX5 119 yX1_timeTo, Cond.instanceMethod yX1_timeTo, Cond.selects RX1 yX1_timeTo yX1_timeTo, Cond.code yX1_timeTo cX1_timeTo 6 (some .int), Cond.methodLink RX1 47 Lib.Math.abs.name, Cond.static Lib.Math.abs.name, Cond.code Lib.Math.abs.name Lib.Math.abs.code 1 (some .int), Cond.constant RX1 53 (-99999), Cond.fieldLink RX1 21 "EchoRow$Layers" "ready" "[Z", Cond.fieldLink RX1 36 "EchoRow$Layers" "plateSlowness" "I", Cond.fieldLink RX1 18 "EchoRow$Layers" "times" "[I", Cond.static yX5_outside, Cond.code yX5_outside cX5_outside 3 (some .boolean), Cond.methodLink RX1 54 yX1_fillTimes, Cond.instanceMethod yX1_fillTimes, Cond.selects RX1 yX1_fillTimes yX1_fillTimes, Cond.code yX1_fillTimes cX1_fillTimes 7 none, Cond.fieldLink RX1 15 "EchoRow$Layers" "plateTicks" "[I", Cond.constant RX1 62 (2147483647), Cond.fieldLink RX1 9 "EchoRow$Layers" "wedgeTicks" "[I", Cond.methodLink RX1 63 Lib.Math.min.name, Cond.methodLink RX1 39 yX1_fillTicks, Cond.static yX1_fillTicks, Cond.code yX1_fillTicks cX1_fillTicks 6 none]
def wsX5_heard : List Cond := .code yX5_heard cX5_heard 4 (some .int) :: ((wsX5_heard_r1 ++ (wsX5_heard_r2 ++ wsX5_heard_r3)) ++ wsX50 ++ wsX00 ++ wsX30 ++ wsX10)
def wsX5_sum_r1 : List Cond := [Cond.fieldLink RX5 62 "EchoRow" "focused" "Z", Cond.fieldLink RX5 18 "EchoRow" "elements" "[LEchoRow$Element;", Cond.fieldLink RX5 80 "EchoRow$Element" "works" "Z", Cond.fieldLink RX5 148 "EchoRow$Element" "wait" "I", Cond.methodLink RX5 151 yX5_heardBy, Cond.instanceMethod yX5_heardBy, Cond.selects RX5 yX5_heardBy yX5_heardBy, Cond.initialized RX5, Cond.code yX5_heardBy cX5_heardBy 9 (some .int), Cond.methodLink RX5 139 yX5_echoAt, Cond.instanceMethod yX5_echoAt, Cond.selects RX5 yX5_echoAt yX5_echoAt, Cond.code yX5_echoAt cX5_echoAt 10 (some .int), Cond.fieldLink RX5 24 "EchoRow" "targets" "[LEchoRow$Target;", Cond.fieldLink RX5 105 "EchoRow$Target" "strength" "I", Cond.methodLink RX5 126 yX5_echoTimeBy, Cond.instanceMethod yX5_echoTimeBy, Cond.selects RX5 yX5_echoTimeBy yX5_echoTimeBy, Cond.code yX5_echoTimeBy cX5_echoTimeBy 8 (some .int), Cond.fieldLink RX5 208 "EchoRow$Element" "number" "I", Cond.fieldLink RX5 211 "EchoRow$Target" "times" "[I", Cond.constant RX5 143 (-99999), Cond.constant RX5 130 (2147483647), Cond.fieldLink RX5 108 "EchoRow$Target" "x" "I"]
def wsX5_sum_r2 : List Cond := [Cond.fieldLink RX5 115 "EchoRow$Target" "z" "I", Cond.fieldLink RX5 12 "EchoRow" "layers" "LEchoRow$Layers;", Cond.fieldLink RX5 118 "EchoRow$Element" "x" "I", Cond.methodLink RX5 179 Lib.Math.min.name, Cond.static Lib.Math.min.name, Cond.initialized "java/lang/Math", Cond.code Lib.Math.min.name Lib.Math.min.code 2 (some .int), Cond.methodLink RX5 111 yX5_depthOf, Cond.instanceMethod yX5_depthOf, Cond.selects RX5 yX5_depthOf yX5_depthOf, Cond.code yX5_depthOf cX5_depthOf 2 (some .int), Cond.fieldLink RX5 48 "EchoRow$Target" "kind" "I", Cond.fieldLink RX5 52 "EchoRow$Target" "y" "I", Cond.methodLink RX5 66 yX1_floor, Cond.instanceMethod yX1_floor, Cond.selects RX1 yX1_floor yX1_floor, Cond.initialized RX1, Cond.code yX1_floor cX1_floor 1 (some .int), Cond.fieldLink RX1 29 "EchoRow$Layers" "wedge" "I", Cond.fieldLink RX1 33 "EchoRow$Layers" "plate" "I", Cond.methodLink RX5 119 yX1_timeTo, Cond.instanceMethod yX1_timeTo, Cond.selects RX1 yX1_timeTo yX1_timeTo, Cond.code yX1_timeTo cX1_timeTo 6 (some .int)]
def wsX5_sum_r3 : List Cond := [Cond.methodLink RX1 47 Lib.Math.abs.name, Cond.static Lib.Math.abs.name, Cond.code Lib.Math.abs.name Lib.Math.abs.code 1 (some .int), Cond.constant RX1 53 (-99999), Cond.fieldLink RX1 21 "EchoRow$Layers" "ready" "[Z", Cond.fieldLink RX1 36 "EchoRow$Layers" "plateSlowness" "I", Cond.fieldLink RX1 18 "EchoRow$Layers" "times" "[I", Cond.static yX5_outside, Cond.code yX5_outside cX5_outside 3 (some .boolean), Cond.methodLink RX1 54 yX1_fillTimes, Cond.instanceMethod yX1_fillTimes, Cond.selects RX1 yX1_fillTimes yX1_fillTimes, Cond.code yX1_fillTimes cX1_fillTimes 7 none, Cond.fieldLink RX1 15 "EchoRow$Layers" "plateTicks" "[I", Cond.constant RX1 62 (2147483647), Cond.fieldLink RX1 9 "EchoRow$Layers" "wedgeTicks" "[I", Cond.methodLink RX1 63 Lib.Math.min.name, Cond.methodLink RX1 39 yX1_fillTicks, Cond.static yX1_fillTicks, Cond.code yX1_fillTicks cX1_fillTicks 6 none]
def wsX5_sum : List Cond := .code yX5_sum cX5_sum 7 (some .int) :: ((wsX5_sum_r1 ++ (wsX5_sum_r2 ++ wsX5_sum_r3)) ++ wsX50 ++ wsX00 ++ wsX30 ++ wsX10)
def wsX5_board_r1 : List Cond := [Cond.fieldLink RX5 12 "EchoRow" "layers" "LEchoRow$Layers;", Cond.fieldLink RX5 18 "EchoRow" "elements" "[LEchoRow$Element;", Cond.fieldLink RX5 80 "EchoRow$Element" "works" "Z", Cond.fieldLink RX5 118 "EchoRow$Element" "x" "I", Cond.methodLink RX5 86 yX1_holds, Cond.instanceMethod yX1_holds, Cond.selects RX1 yX1_holds yX1_holds, Cond.initialized RX1, Cond.code yX1_holds cX1_holds 3 (some .boolean), Cond.fieldLink RX1 29 "EchoRow$Layers" "wedge" "I", Cond.fieldLink RX1 33 "EchoRow$Layers" "plate" "I", Cond.static yX5_outside, Cond.initialized RX5, Cond.code yX5_outside cX5_outside 3 (some .boolean), Cond.methodLink RX5 119 yX1_timeTo, Cond.instanceMethod yX1_timeTo, Cond.selects RX1 yX1_timeTo yX1_timeTo, Cond.code yX1_timeTo cX1_timeTo 6 (some .int), Cond.methodLink RX1 47 Lib.Math.abs.name, Cond.static Lib.Math.abs.name, Cond.initialized "java/lang/Math", Cond.code Lib.Math.abs.name Lib.Math.abs.code 1 (some .int), Cond.constant RX1 53 (-99999), Cond.fieldLink RX1 21 "EchoRow$Layers" "ready" "[Z"]
def wsX5_board_r2 : List Cond := [Cond.fieldLink RX1 36 "EchoRow$Layers" "plateSlowness" "I", Cond.fieldLink RX1 18 "EchoRow$Layers" "times" "[I", Cond.methodLink RX1 54 yX1_fillTimes, Cond.instanceMethod yX1_fillTimes, Cond.selects RX1 yX1_fillTimes yX1_fillTimes, Cond.code yX1_fillTimes cX1_fillTimes 7 none, Cond.fieldLink RX1 15 "EchoRow$Layers" "plateTicks" "[I", Cond.constant RX1 62 (2147483647), Cond.fieldLink RX1 9 "EchoRow$Layers" "wedgeTicks" "[I", Cond.methodLink RX1 63 Lib.Math.min.name, Cond.static Lib.Math.min.name, Cond.code Lib.Math.min.name Lib.Math.min.code 2 (some .int), Cond.methodLink RX1 39 yX1_fillTicks, Cond.static yX1_fillTicks, Cond.code yX1_fillTicks cX1_fillTicks 6 none, Cond.methodLink RX5 139 yX5_echoAt, Cond.instanceMethod yX5_echoAt, Cond.selects RX5 yX5_echoAt yX5_echoAt, Cond.code yX5_echoAt cX5_echoAt 10 (some .int), Cond.fieldLink RX5 24 "EchoRow" "targets" "[LEchoRow$Target;", Cond.fieldLink RX5 105 "EchoRow$Target" "strength" "I", Cond.methodLink RX5 126 yX5_echoTimeBy, Cond.instanceMethod yX5_echoTimeBy, Cond.selects RX5 yX5_echoTimeBy yX5_echoTimeBy]
def wsX5_board_r3 : List Cond := [Cond.code yX5_echoTimeBy cX5_echoTimeBy 8 (some .int), Cond.fieldLink RX5 208 "EchoRow$Element" "number" "I", Cond.fieldLink RX5 211 "EchoRow$Target" "times" "[I", Cond.constant RX5 143 (-99999), Cond.constant RX5 130 (2147483647), Cond.fieldLink RX5 108 "EchoRow$Target" "x" "I", Cond.fieldLink RX5 115 "EchoRow$Target" "z" "I", Cond.methodLink RX5 179 Lib.Math.min.name, Cond.methodLink RX5 111 yX5_depthOf, Cond.instanceMethod yX5_depthOf, Cond.selects RX5 yX5_depthOf yX5_depthOf, Cond.code yX5_depthOf cX5_depthOf 2 (some .int), Cond.fieldLink RX5 48 "EchoRow$Target" "kind" "I", Cond.fieldLink RX5 52 "EchoRow$Target" "y" "I", Cond.methodLink RX5 66 yX1_floor, Cond.instanceMethod yX1_floor, Cond.selects RX1 yX1_floor yX1_floor, Cond.code yX1_floor cX1_floor 1 (some .int)]
def wsX5_board : List Cond := .code yX5_board cX5_board 12 (some .int) :: ((wsX5_board_r1 ++ (wsX5_board_r2 ++ wsX5_board_r3)) ++ wsX50 ++ wsX00 ++ wsX10 ++ wsX30)
def wsX5_tell : List Cond := .code yX5_tell cX5_tell 6 (some .int) :: ([.fieldLink RX5 155 "EchoRow" "toldCount" "I", .fieldLink RX5 30 "EchoRow" "tolds" "[LEchoRow$Told;", .classLink RX5 28 RX4, .instantiable RX4 3, .initialized RX4, .methodLink RX5 76 yX5_elementNumbered, .instanceMethod yX5_elementNumbered, .selects RX5 yX5_elementNumbered yX5_elementNumbered, .initialized RX5, .code yX5_elementNumbered cX5_elementNumbered 2 (some (.object "EchoRow$Element")), .fieldLink RX5 18 "EchoRow" "elements" "[LEchoRow$Element;", .methodLink RX5 44 yX5_outside, .static yX5_outside, .code yX5_outside cX5_outside 3 (some .boolean), .methodLink RX5 158 yX4_init, .instanceMethod yX4_init, .code yX4_init cX4_init 4 none, .methodLink RX4 1 objectInit, .instanceMethod objectInit, .code objectInit ⟨#[0xb1]⟩ 1 none, .fieldLink RX4 7 "EchoRow$Told" "a" "LEchoRow$Element;", .fieldLink RX4 13 "EchoRow$Told" "b" "LEchoRow$Element;", .fieldLink RX4 16 "EchoRow$Told" "tick" "I"] ++ wsX50 ++ wsX40)
def wsX5_forget : List Cond := .code yX5_forget cX5_forget 3 (some .int) :: ([.fieldLink RX5 155 "EchoRow" "toldCount" "I", .fieldLink RX5 30 "EchoRow" "tolds" "[LEchoRow$Told;"] ++ wsX50)
def wsX5_fits_r1 : List Cond := [Cond.fieldLink RX5 30 "EchoRow" "tolds" "[LEchoRow$Told;", Cond.fieldLink RX5 12 "EchoRow" "layers" "LEchoRow$Layers;", Cond.fieldLink RX5 214 "EchoRow$Told" "a" "LEchoRow$Element;", Cond.fieldLink RX5 118 "EchoRow$Element" "x" "I", Cond.fieldLink RX5 218 "EchoRow$Told" "b" "LEchoRow$Element;", Cond.fieldLink RX5 221 "EchoRow$Told" "tick" "I", Cond.methodLink RX5 134 Lib.Math.abs.name, Cond.static Lib.Math.abs.name, Cond.initialized "java/lang/Math", Cond.code Lib.Math.abs.name Lib.Math.abs.code 1 (some .int), Cond.methodLink RX5 119 yX1_timeTo, Cond.instanceMethod yX1_timeTo, Cond.selects RX1 yX1_timeTo yX1_timeTo, Cond.initialized RX1, Cond.code yX1_timeTo cX1_timeTo 6 (some .int), Cond.fieldLink RX1 29 "EchoRow$Layers" "wedge" "I", Cond.methodLink RX1 47 Lib.Math.abs.name, Cond.constant RX1 53 (-99999), Cond.fieldLink RX1 21 "EchoRow$Layers" "ready" "[Z", Cond.fieldLink RX1 36 "EchoRow$Layers" "plateSlowness" "I", Cond.fieldLink RX1 18 "EchoRow$Layers" "times" "[I", Cond.static yX5_outside, Cond.initialized RX5, Cond.code yX5_outside cX5_outside 3 (some .boolean)]
def wsX5_fits_r2 : List Cond := [Cond.methodLink RX1 54 yX1_fillTimes, Cond.instanceMethod yX1_fillTimes, Cond.selects RX1 yX1_fillTimes yX1_fillTimes, Cond.code yX1_fillTimes cX1_fillTimes 7 none, Cond.fieldLink RX1 15 "EchoRow$Layers" "plateTicks" "[I", Cond.constant RX1 62 (2147483647), Cond.fieldLink RX1 9 "EchoRow$Layers" "wedgeTicks" "[I", Cond.methodLink RX1 63 Lib.Math.min.name, Cond.static Lib.Math.min.name, Cond.code Lib.Math.min.name Lib.Math.min.code 2 (some .int), Cond.methodLink RX1 39 yX1_fillTicks, Cond.static yX1_fillTicks, Cond.code yX1_fillTicks cX1_fillTicks 6 none]
def wsX5_fits : List Cond := .code yX5_fits cX5_fits 9 (some .boolean) :: ((wsX5_fits_r1 ++ wsX5_fits_r2) ++ wsX50 ++ wsX40 ++ wsX00 ++ wsX10)
def wsX5_places_r1 : List Cond := [Cond.fieldLink RX5 12 "EchoRow" "layers" "LEchoRow$Layers;", Cond.fieldLink RX5 161 "EchoRow$Layers" "wedge" "I", Cond.methodLink RX5 44 yX5_outside, Cond.static yX5_outside, Cond.initialized RX5, Cond.code yX5_outside cX5_outside 3 (some .boolean), Cond.methodLink RX5 66 yX1_floor, Cond.instanceMethod yX1_floor, Cond.selects RX1 yX1_floor yX1_floor, Cond.initialized RX1, Cond.code yX1_floor cX1_floor 1 (some .int), Cond.fieldLink RX1 29 "EchoRow$Layers" "wedge" "I", Cond.fieldLink RX1 33 "EchoRow$Layers" "plate" "I", Cond.methodLink RX5 164 yX5_fits, Cond.instanceMethod yX5_fits, Cond.selects RX5 yX5_fits yX5_fits, Cond.code yX5_fits cX5_fits 9 (some .boolean), Cond.fieldLink RX5 30 "EchoRow" "tolds" "[LEchoRow$Told;", Cond.fieldLink RX5 214 "EchoRow$Told" "a" "LEchoRow$Element;", Cond.fieldLink RX5 118 "EchoRow$Element" "x" "I", Cond.fieldLink RX5 218 "EchoRow$Told" "b" "LEchoRow$Element;", Cond.fieldLink RX5 221 "EchoRow$Told" "tick" "I", Cond.methodLink RX5 134 Lib.Math.abs.name, Cond.static Lib.Math.abs.name]
def wsX5_places_r2 : List Cond := [Cond.initialized "java/lang/Math", Cond.code Lib.Math.abs.name Lib.Math.abs.code 1 (some .int), Cond.methodLink RX5 119 yX1_timeTo, Cond.instanceMethod yX1_timeTo, Cond.selects RX1 yX1_timeTo yX1_timeTo, Cond.code yX1_timeTo cX1_timeTo 6 (some .int), Cond.methodLink RX1 47 Lib.Math.abs.name, Cond.constant RX1 53 (-99999), Cond.fieldLink RX1 21 "EchoRow$Layers" "ready" "[Z", Cond.fieldLink RX1 36 "EchoRow$Layers" "plateSlowness" "I", Cond.fieldLink RX1 18 "EchoRow$Layers" "times" "[I", Cond.methodLink RX1 54 yX1_fillTimes, Cond.instanceMethod yX1_fillTimes, Cond.selects RX1 yX1_fillTimes yX1_fillTimes, Cond.code yX1_fillTimes cX1_fillTimes 7 none, Cond.fieldLink RX1 15 "EchoRow$Layers" "plateTicks" "[I", Cond.constant RX1 62 (2147483647), Cond.fieldLink RX1 9 "EchoRow$Layers" "wedgeTicks" "[I", Cond.methodLink RX1 63 Lib.Math.min.name, Cond.static Lib.Math.min.name, Cond.code Lib.Math.min.name Lib.Math.min.code 2 (some .int), Cond.methodLink RX1 39 yX1_fillTicks, Cond.static yX1_fillTicks, Cond.code yX1_fillTicks cX1_fillTicks 6 none]
def wsX5_places : List Cond := .code yX5_places cX5_places 5 (some .int) :: ((wsX5_places_r1 ++ wsX5_places_r2) ++ wsX50 ++ wsX10 ++ wsX40 ++ wsX00)
def wsX5_place_r1 : List Cond := [Cond.constant RX5 143 (-99999), Cond.fieldLink RX5 12 "EchoRow" "layers" "LEchoRow$Layers;", Cond.fieldLink RX5 161 "EchoRow$Layers" "wedge" "I", Cond.methodLink RX5 44 yX5_outside, Cond.static yX5_outside, Cond.initialized RX5, Cond.code yX5_outside cX5_outside 3 (some .boolean), Cond.methodLink RX5 66 yX1_floor, Cond.instanceMethod yX1_floor, Cond.selects RX1 yX1_floor yX1_floor, Cond.initialized RX1, Cond.code yX1_floor cX1_floor 1 (some .int), Cond.fieldLink RX1 29 "EchoRow$Layers" "wedge" "I", Cond.fieldLink RX1 33 "EchoRow$Layers" "plate" "I", Cond.methodLink RX5 164 yX5_fits, Cond.instanceMethod yX5_fits, Cond.selects RX5 yX5_fits yX5_fits, Cond.code yX5_fits cX5_fits 9 (some .boolean), Cond.fieldLink RX5 30 "EchoRow" "tolds" "[LEchoRow$Told;", Cond.fieldLink RX5 214 "EchoRow$Told" "a" "LEchoRow$Element;", Cond.fieldLink RX5 118 "EchoRow$Element" "x" "I", Cond.fieldLink RX5 218 "EchoRow$Told" "b" "LEchoRow$Element;", Cond.fieldLink RX5 221 "EchoRow$Told" "tick" "I", Cond.methodLink RX5 134 Lib.Math.abs.name]
def wsX5_place_r2 : List Cond := [Cond.static Lib.Math.abs.name, Cond.initialized "java/lang/Math", Cond.code Lib.Math.abs.name Lib.Math.abs.code 1 (some .int), Cond.methodLink RX5 119 yX1_timeTo, Cond.instanceMethod yX1_timeTo, Cond.selects RX1 yX1_timeTo yX1_timeTo, Cond.code yX1_timeTo cX1_timeTo 6 (some .int), Cond.methodLink RX1 47 Lib.Math.abs.name, Cond.constant RX1 53 (-99999), Cond.fieldLink RX1 21 "EchoRow$Layers" "ready" "[Z", Cond.fieldLink RX1 36 "EchoRow$Layers" "plateSlowness" "I", Cond.fieldLink RX1 18 "EchoRow$Layers" "times" "[I", Cond.methodLink RX1 54 yX1_fillTimes, Cond.instanceMethod yX1_fillTimes, Cond.selects RX1 yX1_fillTimes yX1_fillTimes, Cond.code yX1_fillTimes cX1_fillTimes 7 none, Cond.fieldLink RX1 15 "EchoRow$Layers" "plateTicks" "[I", Cond.constant RX1 62 (2147483647), Cond.fieldLink RX1 9 "EchoRow$Layers" "wedgeTicks" "[I", Cond.methodLink RX1 63 Lib.Math.min.name, Cond.static Lib.Math.min.name, Cond.code Lib.Math.min.name Lib.Math.min.code 2 (some .int), Cond.methodLink RX1 39 yX1_fillTicks, Cond.static yX1_fillTicks]
def wsX5_place_r3 : List Cond := [Cond.code yX1_fillTicks cX1_fillTicks 6 none]
def wsX5_place : List Cond := .code yX5_place cX5_place 6 (some .int) :: ((wsX5_place_r1 ++ (wsX5_place_r2 ++ wsX5_place_r3)) ++ wsX50 ++ wsX10 ++ wsX40 ++ wsX00)
def wsX5_noSheet : List Cond := .code yX5_noSheet cX5_noSheet 1 (some .boolean) :: ([.methodLink RX5 44 yX5_outside, .static yX5_outside, .initialized RX5, .code yX5_outside cX5_outside 3 (some .boolean)])
def wsX5_sheet_r1 : List Cond := [Cond.fieldLink RX5 36 "EchoRow" "sheets" "[LEchoRow$Sheet;", Cond.classLink RX5 34 RX2, Cond.instantiable RX2 2, Cond.initialized RX2, Cond.methodLink RX5 167 yX5_noSheet, Cond.static yX5_noSheet, Cond.initialized RX5, Cond.code yX5_noSheet cX5_noSheet 1 (some .boolean), Cond.methodLink RX5 44 yX5_outside, Cond.static yX5_outside, Cond.code yX5_outside cX5_outside 3 (some .boolean), Cond.methodLink RX5 101 yX5_found, Cond.instanceMethod yX5_found, Cond.selects RX5 yX5_found yX5_found, Cond.code yX5_found cX5_found 2 (some .int), Cond.fieldLink RX5 199 "EchoRow" "findings" "I", Cond.methodLink RX5 171 yX2_init, Cond.instanceMethod yX2_init, Cond.code yX2_init cX2_init 3 none, Cond.methodLink RX2 3 objectInit, Cond.instanceMethod objectInit, Cond.code objectInit ⟨#[0xb1]⟩ 1 none, Cond.fieldLink RX2 9 "EchoRow$Sheet" "lane" "I", Cond.arrayClass .int]
def wsX5_sheet_r2 : List Cond := [Cond.fieldLink RX2 15 "EchoRow$Sheet" "numbers" "[I"]
def wsX5_sheet : List Cond := .code yX5_sheet cX5_sheet 4 (some .int) :: ((wsX5_sheet_r1 ++ wsX5_sheet_r2) ++ wsX50 ++ wsX20)
def wsX5_tear : List Cond := .code yX5_tear cX5_tear 3 (some .int) :: ([.fieldLink RX5 36 "EchoRow" "sheets" "[LEchoRow$Sheet;", .methodLink RX5 167 yX5_noSheet, .static yX5_noSheet, .initialized RX5, .code yX5_noSheet cX5_noSheet 1 (some .boolean), .methodLink RX5 44 yX5_outside, .static yX5_outside, .code yX5_outside cX5_outside 3 (some .boolean), .methodLink RX5 101 yX5_found, .instanceMethod yX5_found, .selects RX5 yX5_found yX5_found, .code yX5_found cX5_found 2 (some .int), .fieldLink RX5 199 "EchoRow" "findings" "I"] ++ wsX50)
def wsX5_record_r1 : List Cond := [Cond.fieldLink RX5 36 "EchoRow" "sheets" "[LEchoRow$Sheet;", Cond.fieldLink RX5 172 "EchoRow$Sheet" "numbers" "[I", Cond.methodLink RX5 167 yX5_noSheet, Cond.static yX5_noSheet, Cond.initialized RX5, Cond.code yX5_noSheet cX5_noSheet 1 (some .boolean), Cond.methodLink RX5 44 yX5_outside, Cond.static yX5_outside, Cond.code yX5_outside cX5_outside 3 (some .boolean), Cond.methodLink RX5 101 yX5_found, Cond.instanceMethod yX5_found, Cond.selects RX5 yX5_found yX5_found, Cond.code yX5_found cX5_found 2 (some .int), Cond.fieldLink RX5 199 "EchoRow" "findings" "I", Cond.methodLink RX5 76 yX5_elementNumbered, Cond.instanceMethod yX5_elementNumbered, Cond.selects RX5 yX5_elementNumbered yX5_elementNumbered, Cond.code yX5_elementNumbered cX5_elementNumbered 2 (some (.object "EchoRow$Element")), Cond.fieldLink RX5 18 "EchoRow" "elements" "[LEchoRow$Element;", Cond.methodLink RX5 139 yX5_echoAt, Cond.instanceMethod yX5_echoAt, Cond.selects RX5 yX5_echoAt yX5_echoAt, Cond.code yX5_echoAt cX5_echoAt 10 (some .int), Cond.fieldLink RX5 80 "EchoRow$Element" "works" "Z"]
def wsX5_record_r2 : List Cond := [Cond.fieldLink RX5 24 "EchoRow" "targets" "[LEchoRow$Target;", Cond.fieldLink RX5 105 "EchoRow$Target" "strength" "I", Cond.methodLink RX5 126 yX5_echoTimeBy, Cond.instanceMethod yX5_echoTimeBy, Cond.selects RX5 yX5_echoTimeBy yX5_echoTimeBy, Cond.code yX5_echoTimeBy cX5_echoTimeBy 8 (some .int), Cond.fieldLink RX5 208 "EchoRow$Element" "number" "I", Cond.fieldLink RX5 211 "EchoRow$Target" "times" "[I", Cond.constant RX5 143 (-99999), Cond.constant RX5 130 (2147483647), Cond.fieldLink RX5 108 "EchoRow$Target" "x" "I", Cond.fieldLink RX5 115 "EchoRow$Target" "z" "I", Cond.fieldLink RX5 12 "EchoRow" "layers" "LEchoRow$Layers;", Cond.fieldLink RX5 118 "EchoRow$Element" "x" "I", Cond.methodLink RX5 179 Lib.Math.min.name, Cond.static Lib.Math.min.name, Cond.initialized "java/lang/Math", Cond.code Lib.Math.min.name Lib.Math.min.code 2 (some .int), Cond.methodLink RX5 111 yX5_depthOf, Cond.instanceMethod yX5_depthOf, Cond.selects RX5 yX5_depthOf yX5_depthOf, Cond.code yX5_depthOf cX5_depthOf 2 (some .int), Cond.fieldLink RX5 48 "EchoRow$Target" "kind" "I", Cond.fieldLink RX5 52 "EchoRow$Target" "y" "I"]
def wsX5_record_r3 : List Cond := [Cond.methodLink RX5 66 yX1_floor, Cond.instanceMethod yX1_floor, Cond.selects RX1 yX1_floor yX1_floor, Cond.initialized RX1, Cond.code yX1_floor cX1_floor 1 (some .int), Cond.fieldLink RX1 29 "EchoRow$Layers" "wedge" "I", Cond.fieldLink RX1 33 "EchoRow$Layers" "plate" "I", Cond.methodLink RX5 119 yX1_timeTo, Cond.instanceMethod yX1_timeTo, Cond.selects RX1 yX1_timeTo yX1_timeTo, Cond.code yX1_timeTo cX1_timeTo 6 (some .int), Cond.methodLink RX1 47 Lib.Math.abs.name, Cond.static Lib.Math.abs.name, Cond.code Lib.Math.abs.name Lib.Math.abs.code 1 (some .int), Cond.constant RX1 53 (-99999), Cond.fieldLink RX1 21 "EchoRow$Layers" "ready" "[Z", Cond.fieldLink RX1 36 "EchoRow$Layers" "plateSlowness" "I", Cond.fieldLink RX1 18 "EchoRow$Layers" "times" "[I", Cond.methodLink RX1 54 yX1_fillTimes, Cond.instanceMethod yX1_fillTimes, Cond.selects RX1 yX1_fillTimes yX1_fillTimes, Cond.code yX1_fillTimes cX1_fillTimes 7 none, Cond.fieldLink RX1 15 "EchoRow$Layers" "plateTicks" "[I", Cond.constant RX1 62 (2147483647)]
def wsX5_record_r4 : List Cond := [Cond.fieldLink RX1 9 "EchoRow$Layers" "wedgeTicks" "[I", Cond.methodLink RX1 63 Lib.Math.min.name, Cond.methodLink RX1 39 yX1_fillTicks, Cond.static yX1_fillTicks, Cond.code yX1_fillTicks cX1_fillTicks 6 none, Cond.methodLink RX5 175 yX2_nearestTo, Cond.instanceMethod yX2_nearestTo, Cond.selects RX2 yX2_nearestTo yX2_nearestTo, Cond.initialized RX2, Cond.code yX2_nearestTo cX2_nearestTo 7 (some .int), Cond.fieldLink RX2 9 "EchoRow$Sheet" "lane" "I", Cond.constantLong RX2 19 (127), Cond.constantLong RX2 21 (32767), Cond.constantLong RX2 23 (2147483647), Cond.methodLink RX2 25 Lib.MathLoose.min_long.x, Cond.static Lib.MathLoose.min_long.x, Cond.code Lib.MathLoose.min_long.x Lib.MathLoose.min_long.code 4 (some .long), Cond.methodLink RX2 31 Lib.MathLoose.max_long.x, Cond.static Lib.MathLoose.max_long.x, Cond.code Lib.MathLoose.max_long.x Lib.MathLoose.max_long.code 4 (some .long)]
def wsX5_record : List Cond := .code yX5_record cX5_record 9 (some .int) :: ((wsX5_record_r1 ++ (wsX5_record_r2 ++ (wsX5_record_r3 ++ wsX5_record_r4))) ++ wsX50 ++ wsX20 ++ wsX00 ++ wsX30 ++ wsX10)
def wsX5_add_r1 : List Cond := [Cond.fieldLink RX5 36 "EchoRow" "sheets" "[LEchoRow$Sheet;", Cond.fieldLink RX5 172 "EchoRow$Sheet" "numbers" "[I", Cond.fieldLink RX5 40 "EchoRow" "ahead" "[I", Cond.methodLink RX5 179 Lib.Math.min.name, Cond.static Lib.Math.min.name, Cond.initialized "java/lang/Math", Cond.code Lib.Math.min.name Lib.Math.min.code 2 (some .int), Cond.methodLink RX5 182 arraycopyName, Cond.native arraycopyName, Cond.static arraycopyName, Cond.initialized "java/lang/System", Cond.methodLink RX5 167 yX5_noSheet, Cond.static yX5_noSheet, Cond.initialized RX5, Cond.code yX5_noSheet cX5_noSheet 1 (some .boolean), Cond.methodLink RX5 44 yX5_outside, Cond.static yX5_outside, Cond.code yX5_outside cX5_outside 3 (some .boolean), Cond.methodLink RX5 101 yX5_found, Cond.instanceMethod yX5_found, Cond.selects RX5 yX5_found yX5_found, Cond.code yX5_found cX5_found 2 (some .int), Cond.fieldLink RX5 199 "EchoRow" "findings" "I", Cond.methodLink RX5 175 yX2_nearestTo]
def wsX5_add_r2 : List Cond := [Cond.instanceMethod yX2_nearestTo, Cond.selects RX2 yX2_nearestTo yX2_nearestTo, Cond.initialized RX2, Cond.code yX2_nearestTo cX2_nearestTo 7 (some .int), Cond.fieldLink RX2 9 "EchoRow$Sheet" "lane" "I", Cond.constantLong RX2 19 (127), Cond.constantLong RX2 21 (32767), Cond.constantLong RX2 23 (2147483647), Cond.methodLink RX2 25 Lib.MathLoose.min_long.x, Cond.static Lib.MathLoose.min_long.x, Cond.code Lib.MathLoose.min_long.x Lib.MathLoose.min_long.code 4 (some .long), Cond.methodLink RX2 31 Lib.MathLoose.max_long.x, Cond.static Lib.MathLoose.max_long.x, Cond.code Lib.MathLoose.max_long.x Lib.MathLoose.max_long.code 4 (some .long)]
def wsX5_add : List Cond := .code yX5_add cX5_add 12 (some .int) :: ((wsX5_add_r1 ++ wsX5_add_r2) ++ wsX50 ++ wsX20)
def wsX5_copy_r1 : List Cond := [Cond.fieldLink RX5 36 "EchoRow" "sheets" "[LEchoRow$Sheet;", Cond.fieldLink RX5 188 "EchoRow$Sheet" "lane" "I", Cond.fieldLink RX5 172 "EchoRow$Sheet" "numbers" "[I", Cond.methodLink RX5 182 arraycopyName, Cond.native arraycopyName, Cond.static arraycopyName, Cond.initialized "java/lang/System", Cond.methodLink RX5 167 yX5_noSheet, Cond.static yX5_noSheet, Cond.initialized RX5, Cond.code yX5_noSheet cX5_noSheet 1 (some .boolean), Cond.methodLink RX5 44 yX5_outside, Cond.static yX5_outside, Cond.code yX5_outside cX5_outside 3 (some .boolean), Cond.methodLink RX5 101 yX5_found, Cond.instanceMethod yX5_found, Cond.selects RX5 yX5_found yX5_found, Cond.code yX5_found cX5_found 2 (some .int), Cond.fieldLink RX5 199 "EchoRow" "findings" "I", Cond.methodLink RX5 191 yX2_hasRun, Cond.instanceMethod yX2_hasRun, Cond.selects RX2 yX2_hasRun yX2_hasRun, Cond.initialized RX2, Cond.code yX2_hasRun cX2_hasRun 3 (some .boolean)]
def wsX5_copy_r2 : List Cond := [Cond.fieldLink RX2 15 "EchoRow$Sheet" "numbers" "[I"]
def wsX5_copy : List Cond := .code yX5_copy cX5_copy 8 (some .int) :: ((wsX5_copy_r1 ++ wsX5_copy_r2) ++ wsX50 ++ wsX20)
def wsX5_at : List Cond := .code yX5_at cX5_at 4 (some .int) :: ([.fieldLink RX5 36 "EchoRow" "sheets" "[LEchoRow$Sheet;", .fieldLink RX5 172 "EchoRow$Sheet" "numbers" "[I", .methodLink RX5 167 yX5_noSheet, .static yX5_noSheet, .initialized RX5, .code yX5_noSheet cX5_noSheet 1 (some .boolean), .methodLink RX5 44 yX5_outside, .static yX5_outside, .code yX5_outside cX5_outside 3 (some .boolean), .methodLink RX5 101 yX5_found, .instanceMethod yX5_found, .selects RX5 yX5_found yX5_found, .code yX5_found cX5_found 2 (some .int), .fieldLink RX5 199 "EchoRow" "findings" "I"] ++ wsX50 ++ wsX20)
def wsX5_peak : List Cond := .code yX5_peak cX5_peak 9 (some .int) :: ([.fieldLink RX5 36 "EchoRow" "sheets" "[LEchoRow$Sheet;", .constant RX5 143 (-99999), .constantLong RX5 194 (-1), .fieldLink RX5 172 "EchoRow$Sheet" "numbers" "[I", .methodLink RX5 196 Lib.MathLoose.abs_long.x, .static Lib.MathLoose.abs_long.x, .initialized "java/lang/Math", .code Lib.MathLoose.abs_long.x Lib.MathLoose.abs_long.code 2 (some .long), .methodLink RX5 167 yX5_noSheet, .static yX5_noSheet, .initialized RX5, .code yX5_noSheet cX5_noSheet 1 (some .boolean), .methodLink RX5 44 yX5_outside, .static yX5_outside, .code yX5_outside cX5_outside 3 (some .boolean), .methodLink RX5 101 yX5_found, .instanceMethod yX5_found, .selects RX5 yX5_found yX5_found, .code yX5_found cX5_found 2 (some .int), .fieldLink RX5 199 "EchoRow" "findings" "I"] ++ wsX50 ++ wsX20)
def wsX5_countSheets : List Cond := .code yX5_countSheets cX5_countSheets 6 (some .int) :: ([.fieldLink RX5 36 "EchoRow" "sheets" "[LEchoRow$Sheet;"] ++ wsX50)
def wsX5_total_r1 : List Cond := [Cond.fieldLink RX5 70 "EchoRow" "elementCount" "I", Cond.fieldLink RX5 90 "EchoRow" "targetCount" "I", Cond.fieldLink RX5 155 "EchoRow" "toldCount" "I", Cond.fieldLink RX5 199 "EchoRow" "findings" "I", Cond.fieldLink RX5 12 "EchoRow" "layers" "LEchoRow$Layers;", Cond.fieldLink RX5 62 "EchoRow" "focused" "Z", Cond.methodLink RX5 83 yX5_countWorking, Cond.instanceMethod yX5_countWorking, Cond.selects RX5 yX5_countWorking yX5_countWorking, Cond.initialized RX5, Cond.code yX5_countWorking cX5_countWorking 6 (some .int), Cond.fieldLink RX5 18 "EchoRow" "elements" "[LEchoRow$Element;", Cond.fieldLink RX5 80 "EchoRow$Element" "works" "Z", Cond.methodLink RX5 202 yX5_countSheets, Cond.instanceMethod yX5_countSheets, Cond.selects RX5 yX5_countSheets yX5_countSheets, Cond.code yX5_countSheets cX5_countSheets 6 (some .int), Cond.fieldLink RX5 36 "EchoRow" "sheets" "[LEchoRow$Sheet;", Cond.methodLink RX5 66 yX1_floor, Cond.instanceMethod yX1_floor, Cond.selects RX1 yX1_floor yX1_floor, Cond.initialized RX1, Cond.code yX1_floor cX1_floor 1 (some .int), Cond.fieldLink RX1 29 "EchoRow$Layers" "wedge" "I"]
def wsX5_total_r2 : List Cond := [Cond.fieldLink RX1 33 "EchoRow$Layers" "plate" "I"]
def wsX5_total : List Cond := .code yX5_total cX5_total 2 (some .int) :: ((wsX5_total_r1 ++ wsX5_total_r2) ++ wsX50 ++ wsX00 ++ wsX10)
def wsX6_init_r1 : List Cond := [Cond.methodLink RX6 1 objectInit, Cond.instanceMethod objectInit, Cond.code objectInit ⟨#[0xb1]⟩ 1 none, Cond.fieldLink RX6 7 "EchoRowModel" "plate" "I", Cond.fieldLink RX6 13 "EchoRowModel" "slowWedge" "I", Cond.fieldLink RX6 16 "EchoRowModel" "slow" "I", Cond.arrayClass .int, Cond.fieldLink RX6 19 "EchoRowModel" "at" "[I", Cond.arrayClass .boolean, Cond.fieldLink RX6 23 "EchoRowModel" "isLost" "[Z", Cond.fieldLink RX6 27 "EchoRowModel" "kind" "[I", Cond.fieldLink RX6 30 "EchoRowModel" "fromX" "[I", Cond.fieldLink RX6 33 "EchoRowModel" "toX" "[I", Cond.fieldLink RX6 36 "EchoRowModel" "depth" "[I", Cond.fieldLink RX6 39 "EchoRowModel" "strength" "[I", Cond.fieldLink RX6 42 "EchoRowModel" "time" "[I", Cond.fieldLink RX6 45 "EchoRowModel" "bend" "[I", Cond.fieldLink RX6 48 "EchoRowModel" "isMade" "[Z", Cond.fieldLink RX6 51 "EchoRowModel" "delay" "[I", Cond.fieldLink RX6 54 "EchoRowModel" "one" "[I", Cond.fieldLink RX6 57 "EchoRowModel" "other" "[I", Cond.fieldLink RX6 60 "EchoRowModel" "when" "[I", Cond.fieldLink RX6 63 "EchoRowModel" "length" "[I", Cond.fieldLink RX6 66 "EchoRowModel" "lane" "[I"]
def wsX6_init_r2 : List Cond := [Cond.fieldLink RX6 69 "EchoRowModel" "number" "[I", Cond.fieldLink RX6 72 "EchoRowModel" "spare" "[I"]
def wsX6_init : List Cond := .code yX6_init cX6_init 1 none :: ((wsX6_init_r1 ++ wsX6_init_r2) ++ wsX60)
def wsX6_in : List Cond := .code yX6_in cX6_in 6 (some .boolean) :: ([])
def wsX6_finds : List Cond := .code yX6_finds cX6_finds 2 (some .int) :: ([.fieldLink RX6 78 "EchoRowModel" "findings" "I"] ++ wsX60)
def wsX6_floor : List Cond := .code yX6_floor cX6_floor 1 (some .int) :: ([.fieldLink RX6 81 "EchoRowModel" "wedge" "I", .fieldLink RX6 7 "EchoRowModel" "plate" "I"] ++ wsX60)
def wsX6_isPlace : List Cond := .code yX6_isPlace cX6_isPlace 3 (some .boolean) :: ([.constantLong RX6 84 (50), .fieldLink RX6 81 "EchoRowModel" "wedge" "I", .methodLink RX6 86 yX6_in, .static yX6_in, .initialized RX6, .code yX6_in cX6_in 6 (some .boolean), .methodLink RX6 90 yX6_floor, .instanceMethod yX6_floor, .selects RX6 yX6_floor yX6_floor, .code yX6_floor cX6_floor 1 (some .int), .fieldLink RX6 7 "EchoRowModel" "plate" "I"] ++ wsX60)
def wsX6_noElement : List Cond := .code yX6_noElement cX6_noElement 2 (some .boolean) :: ([.fieldLink RX6 94 "EchoRowModel" "elements" "I", .methodLink RX6 86 yX6_in, .static yX6_in, .initialized RX6, .code yX6_in cX6_in 6 (some .boolean)] ++ wsX60)
def wsX6_working : List Cond := .code yX6_working cX6_working 3 (some .int) :: ([.fieldLink RX6 94 "EchoRowModel" "elements" "I", .fieldLink RX6 23 "EchoRowModel" "isLost" "[Z"] ++ wsX60)
def wsX6_ticks : List Cond := .code yX6_ticks cX6_ticks 6 (some .int) :: ([])
def wsX6_unmake : List Cond := .code yX6_unmake cX6_unmake 2 none :: ([.fieldLink RX6 48 "EchoRowModel" "isMade" "[Z"] ++ wsX60)
def wsX6_make : List Cond := .code yX6_make cX6_make 7 none :: ([.fieldLink RX6 48 "EchoRowModel" "isMade" "[Z", .fieldLink RX6 13 "EchoRowModel" "slowWedge" "I", .fieldLink RX6 19 "EchoRowModel" "at" "[I", .fieldLink RX6 81 "EchoRowModel" "wedge" "I", .fieldLink RX6 16 "EchoRowModel" "slow" "I", .fieldLink RX6 42 "EchoRowModel" "time" "[I", .fieldLink RX6 45 "EchoRowModel" "bend" "[I", .methodLink RX6 97 yX6_ticks, .static yX6_ticks, .initialized RX6, .code yX6_ticks cX6_ticks 6 (some .int)] ++ wsX60)
def wsX6_timeOf : List Cond := .code yX6_timeOf cX6_timeOf 4 (some .int) :: ([.fieldLink RX6 42 "EchoRowModel" "time" "[I", .methodLink RX6 101 yX6_make, .instanceMethod yX6_make, .selects RX6 yX6_make yX6_make, .initialized RX6, .code yX6_make cX6_make 7 none, .fieldLink RX6 48 "EchoRowModel" "isMade" "[Z", .fieldLink RX6 13 "EchoRowModel" "slowWedge" "I", .fieldLink RX6 19 "EchoRowModel" "at" "[I", .fieldLink RX6 81 "EchoRowModel" "wedge" "I", .fieldLink RX6 16 "EchoRowModel" "slow" "I", .fieldLink RX6 45 "EchoRowModel" "bend" "[I", .methodLink RX6 97 yX6_ticks, .static yX6_ticks, .code yX6_ticks cX6_ticks 6 (some .int)] ++ wsX60)
def wsX6_least : List Cond := .code yX6_least cX6_least 9 (some .int) :: ([.methodLink RX6 105 yX6_timeOf, .instanceMethod yX6_timeOf, .selects RX6 yX6_timeOf yX6_timeOf, .initialized RX6, .code yX6_timeOf cX6_timeOf 4 (some .int), .fieldLink RX6 42 "EchoRowModel" "time" "[I", .methodLink RX6 101 yX6_make, .instanceMethod yX6_make, .selects RX6 yX6_make yX6_make, .code yX6_make cX6_make 7 none, .fieldLink RX6 48 "EchoRowModel" "isMade" "[Z", .fieldLink RX6 13 "EchoRowModel" "slowWedge" "I", .fieldLink RX6 19 "EchoRowModel" "at" "[I", .fieldLink RX6 81 "EchoRowModel" "wedge" "I", .fieldLink RX6 16 "EchoRowModel" "slow" "I", .fieldLink RX6 45 "EchoRowModel" "bend" "[I", .methodLink RX6 97 yX6_ticks, .static yX6_ticks, .code yX6_ticks cX6_ticks 6 (some .int)] ++ wsX60)
def wsX6_depthOf : List Cond := .code yX6_depthOf cX6_depthOf 2 (some .int) :: ([.fieldLink RX6 27 "EchoRowModel" "kind" "[I", .fieldLink RX6 36 "EchoRowModel" "depth" "[I", .methodLink RX6 90 yX6_floor, .instanceMethod yX6_floor, .selects RX6 yX6_floor yX6_floor, .initialized RX6, .code yX6_floor cX6_floor 1 (some .int), .fieldLink RX6 81 "EchoRowModel" "wedge" "I", .fieldLink RX6 7 "EchoRowModel" "plate" "I"] ++ wsX60)
def wsX6_echoOf_r1 : List Cond := [Cond.fieldLink RX6 30 "EchoRowModel" "fromX" "[I", Cond.fieldLink RX6 33 "EchoRowModel" "toX" "[I", Cond.methodLink RX6 108 yX6_depthOf, Cond.instanceMethod yX6_depthOf, Cond.selects RX6 yX6_depthOf yX6_depthOf, Cond.initialized RX6, Cond.code yX6_depthOf cX6_depthOf 2 (some .int), Cond.fieldLink RX6 27 "EchoRowModel" "kind" "[I", Cond.fieldLink RX6 36 "EchoRowModel" "depth" "[I", Cond.methodLink RX6 90 yX6_floor, Cond.instanceMethod yX6_floor, Cond.selects RX6 yX6_floor yX6_floor, Cond.code yX6_floor cX6_floor 1 (some .int), Cond.fieldLink RX6 81 "EchoRowModel" "wedge" "I", Cond.fieldLink RX6 7 "EchoRowModel" "plate" "I", Cond.methodLink RX6 112 yX6_least, Cond.instanceMethod yX6_least, Cond.selects RX6 yX6_least yX6_least, Cond.code yX6_least cX6_least 9 (some .int), Cond.methodLink RX6 105 yX6_timeOf, Cond.instanceMethod yX6_timeOf, Cond.selects RX6 yX6_timeOf yX6_timeOf, Cond.code yX6_timeOf cX6_timeOf 4 (some .int), Cond.fieldLink RX6 42 "EchoRowModel" "time" "[I"]
def wsX6_echoOf_r2 : List Cond := [Cond.methodLink RX6 101 yX6_make, Cond.instanceMethod yX6_make, Cond.selects RX6 yX6_make yX6_make, Cond.code yX6_make cX6_make 7 none, Cond.fieldLink RX6 48 "EchoRowModel" "isMade" "[Z", Cond.fieldLink RX6 13 "EchoRowModel" "slowWedge" "I", Cond.fieldLink RX6 19 "EchoRowModel" "at" "[I", Cond.fieldLink RX6 16 "EchoRowModel" "slow" "I", Cond.fieldLink RX6 45 "EchoRowModel" "bend" "[I", Cond.methodLink RX6 97 yX6_ticks, Cond.static yX6_ticks, Cond.code yX6_ticks cX6_ticks 6 (some .int)]
def wsX6_echoOf : List Cond := .code yX6_echoOf cX6_echoOf 4 (some .int) :: ((wsX6_echoOf_r1 ++ wsX6_echoOf_r2) ++ wsX60)
def wsX6_echoAt_r1 : List Cond := [Cond.fieldLink RX6 116 "EchoRowModel" "targets" "I", Cond.fieldLink RX6 23 "EchoRowModel" "isLost" "[Z", Cond.fieldLink RX6 39 "EchoRowModel" "strength" "[I", Cond.methodLink RX6 119 yX6_echoOf, Cond.instanceMethod yX6_echoOf, Cond.selects RX6 yX6_echoOf yX6_echoOf, Cond.initialized RX6, Cond.code yX6_echoOf cX6_echoOf 4 (some .int), Cond.fieldLink RX6 30 "EchoRowModel" "fromX" "[I", Cond.fieldLink RX6 33 "EchoRowModel" "toX" "[I", Cond.methodLink RX6 108 yX6_depthOf, Cond.instanceMethod yX6_depthOf, Cond.selects RX6 yX6_depthOf yX6_depthOf, Cond.code yX6_depthOf cX6_depthOf 2 (some .int), Cond.fieldLink RX6 27 "EchoRowModel" "kind" "[I", Cond.fieldLink RX6 36 "EchoRowModel" "depth" "[I", Cond.methodLink RX6 90 yX6_floor, Cond.instanceMethod yX6_floor, Cond.selects RX6 yX6_floor yX6_floor, Cond.code yX6_floor cX6_floor 1 (some .int), Cond.fieldLink RX6 81 "EchoRowModel" "wedge" "I", Cond.fieldLink RX6 7 "EchoRowModel" "plate" "I", Cond.methodLink RX6 112 yX6_least, Cond.instanceMethod yX6_least]
def wsX6_echoAt_r2 : List Cond := [Cond.selects RX6 yX6_least yX6_least, Cond.code yX6_least cX6_least 9 (some .int), Cond.methodLink RX6 105 yX6_timeOf, Cond.instanceMethod yX6_timeOf, Cond.selects RX6 yX6_timeOf yX6_timeOf, Cond.code yX6_timeOf cX6_timeOf 4 (some .int), Cond.fieldLink RX6 42 "EchoRowModel" "time" "[I", Cond.methodLink RX6 101 yX6_make, Cond.instanceMethod yX6_make, Cond.selects RX6 yX6_make yX6_make, Cond.code yX6_make cX6_make 7 none, Cond.fieldLink RX6 48 "EchoRowModel" "isMade" "[Z", Cond.fieldLink RX6 13 "EchoRowModel" "slowWedge" "I", Cond.fieldLink RX6 19 "EchoRowModel" "at" "[I", Cond.fieldLink RX6 16 "EchoRowModel" "slow" "I", Cond.fieldLink RX6 45 "EchoRowModel" "bend" "[I", Cond.methodLink RX6 97 yX6_ticks, Cond.static yX6_ticks, Cond.code yX6_ticks cX6_ticks 6 (some .int)]
def wsX6_echoAt : List Cond := .code yX6_echoAt cX6_echoAt 7 (some .int) :: ((wsX6_echoAt_r1 ++ wsX6_echoAt_r2) ++ wsX60)
def wsX6_body_r1 : List Cond := [Cond.fieldLink RX6 75 "EchoRowModel" "thrown" "I", Cond.constantLong RX6 122 (20), Cond.constantLong RX6 124 (30), Cond.constantLong RX6 126 (8), Cond.fieldLink RX6 116 "EchoRowModel" "targets" "I", Cond.fieldLink RX6 27 "EchoRowModel" "kind" "[I", Cond.fieldLink RX6 36 "EchoRowModel" "depth" "[I", Cond.fieldLink RX6 81 "EchoRowModel" "wedge" "I", Cond.fieldLink RX6 7 "EchoRowModel" "plate" "I", Cond.fieldLink RX6 13 "EchoRowModel" "slowWedge" "I", Cond.fieldLink RX6 16 "EchoRowModel" "slow" "I", Cond.fieldLink RX6 128 "EchoRowModel" "hasFocus" "Z", Cond.methodLink RX6 86 yX6_in, Cond.static yX6_in, Cond.initialized RX6, Cond.code yX6_in cX6_in 6 (some .boolean), Cond.methodLink RX6 132 yX6_unmake, Cond.instanceMethod yX6_unmake, Cond.selects RX6 yX6_unmake yX6_unmake, Cond.code yX6_unmake cX6_unmake 2 none, Cond.fieldLink RX6 48 "EchoRowModel" "isMade" "[Z", Cond.methodLink RX6 90 yX6_floor, Cond.instanceMethod yX6_floor, Cond.selects RX6 yX6_floor yX6_floor]
def wsX6_body_r2 : List Cond := [Cond.code yX6_floor cX6_floor 1 (some .int)]
def wsX6_body : List Cond := .code yX6_body cX6_body 6 (some .int) :: ((wsX6_body_r1 ++ wsX6_body_r2) ++ wsX60)
def wsX6_element : List Cond := .code yX6_element cX6_element 2 (some .int) :: ([.fieldLink RX6 75 "EchoRowModel" "thrown" "I", .constantLong RX6 84 (50), .fieldLink RX6 94 "EchoRowModel" "elements" "I", .fieldLink RX6 19 "EchoRowModel" "at" "[I", .fieldLink RX6 23 "EchoRowModel" "isLost" "[Z", .fieldLink RX6 128 "EchoRowModel" "hasFocus" "Z", .methodLink RX6 86 yX6_in, .static yX6_in, .initialized RX6, .code yX6_in cX6_in 6 (some .boolean)] ++ wsX60)
def wsX6_lose : List Cond := .code yX6_lose cX6_lose 3 (some .int) :: ([.fieldLink RX6 75 "EchoRowModel" "thrown" "I", .fieldLink RX6 23 "EchoRowModel" "isLost" "[Z", .fieldLink RX6 128 "EchoRowModel" "hasFocus" "Z", .methodLink RX6 135 yX6_noElement, .instanceMethod yX6_noElement, .selects RX6 yX6_noElement yX6_noElement, .initialized RX6, .code yX6_noElement cX6_noElement 2 (some .boolean), .fieldLink RX6 94 "EchoRowModel" "elements" "I", .methodLink RX6 86 yX6_in, .static yX6_in, .code yX6_in cX6_in 6 (some .boolean), .methodLink RX6 139 yX6_working, .instanceMethod yX6_working, .selects RX6 yX6_working yX6_working, .code yX6_working cX6_working 3 (some .int)] ++ wsX60)
def wsX6_target_r1 : List Cond := [Cond.fieldLink RX6 75 "EchoRowModel" "thrown" "I", Cond.constantLong RX6 142 (2), Cond.constantLong RX6 84 (50), Cond.constantLong RX6 148 (-1000), Cond.constantLong RX6 150 (1000), Cond.fieldLink RX6 116 "EchoRowModel" "targets" "I", Cond.fieldLink RX6 27 "EchoRowModel" "kind" "[I", Cond.fieldLink RX6 30 "EchoRowModel" "fromX" "[I", Cond.fieldLink RX6 33 "EchoRowModel" "toX" "[I", Cond.fieldLink RX6 36 "EchoRowModel" "depth" "[I", Cond.fieldLink RX6 39 "EchoRowModel" "strength" "[I", Cond.methodLink RX6 86 yX6_in, Cond.static yX6_in, Cond.initialized RX6, Cond.code yX6_in cX6_in 6 (some .boolean), Cond.methodLink RX6 144 yX6_isPlace, Cond.instanceMethod yX6_isPlace, Cond.selects RX6 yX6_isPlace yX6_isPlace, Cond.code yX6_isPlace cX6_isPlace 3 (some .boolean), Cond.fieldLink RX6 81 "EchoRowModel" "wedge" "I", Cond.methodLink RX6 90 yX6_floor, Cond.instanceMethod yX6_floor, Cond.selects RX6 yX6_floor yX6_floor, Cond.code yX6_floor cX6_floor 1 (some .int)]
def wsX6_target_r2 : List Cond := [Cond.fieldLink RX6 7 "EchoRowModel" "plate" "I"]
def wsX6_target : List Cond := .code yX6_target cX6_target 6 (some .int) :: ((wsX6_target_r1 ++ wsX6_target_r2) ++ wsX60)
def wsX6_drop : List Cond := .code yX6_drop cX6_drop 1 (some .int) :: ([.fieldLink RX6 75 "EchoRowModel" "thrown" "I", .fieldLink RX6 116 "EchoRowModel" "targets" "I"] ++ wsX60)
def wsX6_taken_r1 : List Cond := [Cond.fieldLink RX6 75 "EchoRowModel" "thrown" "I", Cond.fieldLink RX6 116 "EchoRowModel" "targets" "I", Cond.constantLong RX6 142 (2), Cond.constantLong RX6 152 (3), Cond.fieldLink RX6 27 "EchoRowModel" "kind" "[I", Cond.fieldLink RX6 39 "EchoRowModel" "strength" "[I", Cond.fieldLink RX6 30 "EchoRowModel" "fromX" "[I", Cond.fieldLink RX6 33 "EchoRowModel" "toX" "[I", Cond.methodLink RX6 86 yX6_in, Cond.static yX6_in, Cond.initialized RX6, Cond.code yX6_in cX6_in 6 (some .boolean), Cond.methodLink RX6 154 yX6_finds, Cond.instanceMethod yX6_finds, Cond.selects RX6 yX6_finds yX6_finds, Cond.code yX6_finds cX6_finds 2 (some .int), Cond.fieldLink RX6 78 "EchoRowModel" "findings" "I", Cond.methodLink RX6 108 yX6_depthOf, Cond.instanceMethod yX6_depthOf, Cond.selects RX6 yX6_depthOf yX6_depthOf, Cond.code yX6_depthOf cX6_depthOf 2 (some .int), Cond.fieldLink RX6 36 "EchoRowModel" "depth" "[I", Cond.methodLink RX6 90 yX6_floor, Cond.instanceMethod yX6_floor]
def wsX6_taken_r2 : List Cond := [Cond.selects RX6 yX6_floor yX6_floor, Cond.code yX6_floor cX6_floor 1 (some .int), Cond.fieldLink RX6 81 "EchoRowModel" "wedge" "I", Cond.fieldLink RX6 7 "EchoRowModel" "plate" "I"]
def wsX6_taken : List Cond := .code yX6_taken cX6_taken 4 (some .int) :: ((wsX6_taken_r1 ++ wsX6_taken_r2) ++ wsX60)
def wsX6_time_r1 : List Cond := [Cond.fieldLink RX6 75 "EchoRowModel" "thrown" "I", Cond.methodLink RX6 135 yX6_noElement, Cond.instanceMethod yX6_noElement, Cond.selects RX6 yX6_noElement yX6_noElement, Cond.initialized RX6, Cond.code yX6_noElement cX6_noElement 2 (some .boolean), Cond.fieldLink RX6 94 "EchoRowModel" "elements" "I", Cond.methodLink RX6 86 yX6_in, Cond.static yX6_in, Cond.code yX6_in cX6_in 6 (some .boolean), Cond.methodLink RX6 144 yX6_isPlace, Cond.instanceMethod yX6_isPlace, Cond.selects RX6 yX6_isPlace yX6_isPlace, Cond.code yX6_isPlace cX6_isPlace 3 (some .boolean), Cond.constantLong RX6 84 (50), Cond.fieldLink RX6 81 "EchoRowModel" "wedge" "I", Cond.methodLink RX6 90 yX6_floor, Cond.instanceMethod yX6_floor, Cond.selects RX6 yX6_floor yX6_floor, Cond.code yX6_floor cX6_floor 1 (some .int), Cond.fieldLink RX6 7 "EchoRowModel" "plate" "I", Cond.methodLink RX6 105 yX6_timeOf, Cond.instanceMethod yX6_timeOf, Cond.selects RX6 yX6_timeOf yX6_timeOf]
def wsX6_time_r2 : List Cond := [Cond.code yX6_timeOf cX6_timeOf 4 (some .int), Cond.fieldLink RX6 42 "EchoRowModel" "time" "[I", Cond.methodLink RX6 101 yX6_make, Cond.instanceMethod yX6_make, Cond.selects RX6 yX6_make yX6_make, Cond.code yX6_make cX6_make 7 none, Cond.fieldLink RX6 48 "EchoRowModel" "isMade" "[Z", Cond.fieldLink RX6 13 "EchoRowModel" "slowWedge" "I", Cond.fieldLink RX6 19 "EchoRowModel" "at" "[I", Cond.fieldLink RX6 16 "EchoRowModel" "slow" "I", Cond.fieldLink RX6 45 "EchoRowModel" "bend" "[I", Cond.methodLink RX6 97 yX6_ticks, Cond.static yX6_ticks, Cond.code yX6_ticks cX6_ticks 6 (some .int)]
def wsX6_time : List Cond := .code yX6_time cX6_time 4 (some .int) :: ((wsX6_time_r1 ++ wsX6_time_r2) ++ wsX60)
def wsX6_bend_r1 : List Cond := [Cond.fieldLink RX6 75 "EchoRowModel" "thrown" "I", Cond.fieldLink RX6 45 "EchoRowModel" "bend" "[I", Cond.methodLink RX6 135 yX6_noElement, Cond.instanceMethod yX6_noElement, Cond.selects RX6 yX6_noElement yX6_noElement, Cond.initialized RX6, Cond.code yX6_noElement cX6_noElement 2 (some .boolean), Cond.fieldLink RX6 94 "EchoRowModel" "elements" "I", Cond.methodLink RX6 86 yX6_in, Cond.static yX6_in, Cond.code yX6_in cX6_in 6 (some .boolean), Cond.methodLink RX6 144 yX6_isPlace, Cond.instanceMethod yX6_isPlace, Cond.selects RX6 yX6_isPlace yX6_isPlace, Cond.code yX6_isPlace cX6_isPlace 3 (some .boolean), Cond.constantLong RX6 84 (50), Cond.fieldLink RX6 81 "EchoRowModel" "wedge" "I", Cond.methodLink RX6 90 yX6_floor, Cond.instanceMethod yX6_floor, Cond.selects RX6 yX6_floor yX6_floor, Cond.code yX6_floor cX6_floor 1 (some .int), Cond.fieldLink RX6 7 "EchoRowModel" "plate" "I", Cond.methodLink RX6 101 yX6_make, Cond.instanceMethod yX6_make]
def wsX6_bend_r2 : List Cond := [Cond.selects RX6 yX6_make yX6_make, Cond.code yX6_make cX6_make 7 none, Cond.fieldLink RX6 48 "EchoRowModel" "isMade" "[Z", Cond.fieldLink RX6 13 "EchoRowModel" "slowWedge" "I", Cond.fieldLink RX6 19 "EchoRowModel" "at" "[I", Cond.fieldLink RX6 16 "EchoRowModel" "slow" "I", Cond.fieldLink RX6 42 "EchoRowModel" "time" "[I", Cond.methodLink RX6 97 yX6_ticks, Cond.static yX6_ticks, Cond.code yX6_ticks cX6_ticks 6 (some .int)]
def wsX6_bend : List Cond := .code yX6_bend cX6_bend 4 (some .int) :: ((wsX6_bend_r1 ++ wsX6_bend_r2) ++ wsX60)
def wsX6_echoTime_r1 : List Cond := [Cond.fieldLink RX6 75 "EchoRowModel" "thrown" "I", Cond.fieldLink RX6 116 "EchoRowModel" "targets" "I", Cond.methodLink RX6 135 yX6_noElement, Cond.instanceMethod yX6_noElement, Cond.selects RX6 yX6_noElement yX6_noElement, Cond.initialized RX6, Cond.code yX6_noElement cX6_noElement 2 (some .boolean), Cond.fieldLink RX6 94 "EchoRowModel" "elements" "I", Cond.methodLink RX6 86 yX6_in, Cond.static yX6_in, Cond.code yX6_in cX6_in 6 (some .boolean), Cond.methodLink RX6 119 yX6_echoOf, Cond.instanceMethod yX6_echoOf, Cond.selects RX6 yX6_echoOf yX6_echoOf, Cond.code yX6_echoOf cX6_echoOf 4 (some .int), Cond.fieldLink RX6 30 "EchoRowModel" "fromX" "[I", Cond.fieldLink RX6 33 "EchoRowModel" "toX" "[I", Cond.methodLink RX6 108 yX6_depthOf, Cond.instanceMethod yX6_depthOf, Cond.selects RX6 yX6_depthOf yX6_depthOf, Cond.code yX6_depthOf cX6_depthOf 2 (some .int), Cond.fieldLink RX6 27 "EchoRowModel" "kind" "[I", Cond.fieldLink RX6 36 "EchoRowModel" "depth" "[I", Cond.methodLink RX6 90 yX6_floor]
def wsX6_echoTime_r2 : List Cond := [Cond.instanceMethod yX6_floor, Cond.selects RX6 yX6_floor yX6_floor, Cond.code yX6_floor cX6_floor 1 (some .int), Cond.fieldLink RX6 81 "EchoRowModel" "wedge" "I", Cond.fieldLink RX6 7 "EchoRowModel" "plate" "I", Cond.methodLink RX6 112 yX6_least, Cond.instanceMethod yX6_least, Cond.selects RX6 yX6_least yX6_least, Cond.code yX6_least cX6_least 9 (some .int), Cond.methodLink RX6 105 yX6_timeOf, Cond.instanceMethod yX6_timeOf, Cond.selects RX6 yX6_timeOf yX6_timeOf, Cond.code yX6_timeOf cX6_timeOf 4 (some .int), Cond.fieldLink RX6 42 "EchoRowModel" "time" "[I", Cond.methodLink RX6 101 yX6_make, Cond.instanceMethod yX6_make, Cond.selects RX6 yX6_make yX6_make, Cond.code yX6_make cX6_make 7 none, Cond.fieldLink RX6 48 "EchoRowModel" "isMade" "[Z", Cond.fieldLink RX6 13 "EchoRowModel" "slowWedge" "I", Cond.fieldLink RX6 19 "EchoRowModel" "at" "[I", Cond.fieldLink RX6 16 "EchoRowModel" "slow" "I", Cond.fieldLink RX6 45 "EchoRowModel" "bend" "[I", Cond.methodLink RX6 97 yX6_ticks]
def wsX6_echoTime_r3 : List Cond := [Cond.static yX6_ticks, Cond.code yX6_ticks cX6_ticks 6 (some .int)]
def wsX6_echoTime : List Cond := .code yX6_echoTime cX6_echoTime 4 (some .int) :: ((wsX6_echoTime_r1 ++ (wsX6_echoTime_r2 ++ wsX6_echoTime_r3)) ++ wsX60)
def wsX6_slowness_r1 : List Cond := [Cond.fieldLink RX6 75 "EchoRowModel" "thrown" "I", Cond.fieldLink RX6 16 "EchoRowModel" "slow" "I", Cond.methodLink RX6 135 yX6_noElement, Cond.instanceMethod yX6_noElement, Cond.selects RX6 yX6_noElement yX6_noElement, Cond.initialized RX6, Cond.code yX6_noElement cX6_noElement 2 (some .boolean), Cond.fieldLink RX6 94 "EchoRowModel" "elements" "I", Cond.methodLink RX6 86 yX6_in, Cond.static yX6_in, Cond.code yX6_in cX6_in 6 (some .boolean), Cond.methodLink RX6 132 yX6_unmake, Cond.instanceMethod yX6_unmake, Cond.selects RX6 yX6_unmake yX6_unmake, Cond.code yX6_unmake cX6_unmake 2 none, Cond.fieldLink RX6 48 "EchoRowModel" "isMade" "[Z", Cond.methodLink RX6 90 yX6_floor, Cond.instanceMethod yX6_floor, Cond.selects RX6 yX6_floor yX6_floor, Cond.code yX6_floor cX6_floor 1 (some .int), Cond.fieldLink RX6 81 "EchoRowModel" "wedge" "I", Cond.fieldLink RX6 7 "EchoRowModel" "plate" "I", Cond.methodLink RX6 112 yX6_least, Cond.instanceMethod yX6_least]
def wsX6_slowness_r2 : List Cond := [Cond.selects RX6 yX6_least yX6_least, Cond.code yX6_least cX6_least 9 (some .int), Cond.methodLink RX6 105 yX6_timeOf, Cond.instanceMethod yX6_timeOf, Cond.selects RX6 yX6_timeOf yX6_timeOf, Cond.code yX6_timeOf cX6_timeOf 4 (some .int), Cond.fieldLink RX6 42 "EchoRowModel" "time" "[I", Cond.methodLink RX6 101 yX6_make, Cond.instanceMethod yX6_make, Cond.selects RX6 yX6_make yX6_make, Cond.code yX6_make cX6_make 7 none, Cond.fieldLink RX6 13 "EchoRowModel" "slowWedge" "I", Cond.fieldLink RX6 19 "EchoRowModel" "at" "[I", Cond.fieldLink RX6 45 "EchoRowModel" "bend" "[I", Cond.methodLink RX6 97 yX6_ticks, Cond.static yX6_ticks, Cond.code yX6_ticks cX6_ticks 6 (some .int)]
def wsX6_slowness : List Cond := .code yX6_slowness cX6_slowness 11 (some .int) :: ((wsX6_slowness_r1 ++ wsX6_slowness_r2) ++ wsX60)
def wsX6_echo_r1 : List Cond := [Cond.fieldLink RX6 75 "EchoRowModel" "thrown" "I", Cond.methodLink RX6 135 yX6_noElement, Cond.instanceMethod yX6_noElement, Cond.selects RX6 yX6_noElement yX6_noElement, Cond.initialized RX6, Cond.code yX6_noElement cX6_noElement 2 (some .boolean), Cond.fieldLink RX6 94 "EchoRowModel" "elements" "I", Cond.methodLink RX6 86 yX6_in, Cond.static yX6_in, Cond.code yX6_in cX6_in 6 (some .boolean), Cond.methodLink RX6 157 yX6_echoAt, Cond.instanceMethod yX6_echoAt, Cond.selects RX6 yX6_echoAt yX6_echoAt, Cond.code yX6_echoAt cX6_echoAt 7 (some .int), Cond.fieldLink RX6 116 "EchoRowModel" "targets" "I", Cond.fieldLink RX6 23 "EchoRowModel" "isLost" "[Z", Cond.fieldLink RX6 39 "EchoRowModel" "strength" "[I", Cond.methodLink RX6 119 yX6_echoOf, Cond.instanceMethod yX6_echoOf, Cond.selects RX6 yX6_echoOf yX6_echoOf, Cond.code yX6_echoOf cX6_echoOf 4 (some .int), Cond.fieldLink RX6 30 "EchoRowModel" "fromX" "[I", Cond.fieldLink RX6 33 "EchoRowModel" "toX" "[I", Cond.methodLink RX6 108 yX6_depthOf]
def wsX6_echo_r2 : List Cond := [Cond.instanceMethod yX6_depthOf, Cond.selects RX6 yX6_depthOf yX6_depthOf, Cond.code yX6_depthOf cX6_depthOf 2 (some .int), Cond.fieldLink RX6 27 "EchoRowModel" "kind" "[I", Cond.fieldLink RX6 36 "EchoRowModel" "depth" "[I", Cond.methodLink RX6 90 yX6_floor, Cond.instanceMethod yX6_floor, Cond.selects RX6 yX6_floor yX6_floor, Cond.code yX6_floor cX6_floor 1 (some .int), Cond.fieldLink RX6 81 "EchoRowModel" "wedge" "I", Cond.fieldLink RX6 7 "EchoRowModel" "plate" "I", Cond.methodLink RX6 112 yX6_least, Cond.instanceMethod yX6_least, Cond.selects RX6 yX6_least yX6_least, Cond.code yX6_least cX6_least 9 (some .int), Cond.methodLink RX6 105 yX6_timeOf, Cond.instanceMethod yX6_timeOf, Cond.selects RX6 yX6_timeOf yX6_timeOf, Cond.code yX6_timeOf cX6_timeOf 4 (some .int), Cond.fieldLink RX6 42 "EchoRowModel" "time" "[I", Cond.methodLink RX6 101 yX6_make, Cond.instanceMethod yX6_make, Cond.selects RX6 yX6_make yX6_make, Cond.code yX6_make cX6_make 7 none]
def wsX6_echo_r3 : List Cond := [Cond.fieldLink RX6 48 "EchoRowModel" "isMade" "[Z", Cond.fieldLink RX6 13 "EchoRowModel" "slowWedge" "I", Cond.fieldLink RX6 19 "EchoRowModel" "at" "[I", Cond.fieldLink RX6 16 "EchoRowModel" "slow" "I", Cond.fieldLink RX6 45 "EchoRowModel" "bend" "[I", Cond.methodLink RX6 97 yX6_ticks, Cond.static yX6_ticks, Cond.code yX6_ticks cX6_ticks 6 (some .int)]
def wsX6_echo : List Cond := .code yX6_echo cX6_echo 4 (some .int) :: ((wsX6_echo_r1 ++ (wsX6_echo_r2 ++ wsX6_echo_r3)) ++ wsX60)
def wsX6_gate_r1 : List Cond := [Cond.fieldLink RX6 75 "EchoRowModel" "thrown" "I", Cond.constant RX6 161 (-99999), Cond.fieldLink RX6 116 "EchoRowModel" "targets" "I", Cond.methodLink RX6 135 yX6_noElement, Cond.instanceMethod yX6_noElement, Cond.selects RX6 yX6_noElement yX6_noElement, Cond.initialized RX6, Cond.code yX6_noElement cX6_noElement 2 (some .boolean), Cond.fieldLink RX6 94 "EchoRowModel" "elements" "I", Cond.methodLink RX6 86 yX6_in, Cond.static yX6_in, Cond.code yX6_in cX6_in 6 (some .boolean), Cond.methodLink RX6 119 yX6_echoOf, Cond.instanceMethod yX6_echoOf, Cond.selects RX6 yX6_echoOf yX6_echoOf, Cond.code yX6_echoOf cX6_echoOf 4 (some .int), Cond.fieldLink RX6 30 "EchoRowModel" "fromX" "[I", Cond.fieldLink RX6 33 "EchoRowModel" "toX" "[I", Cond.methodLink RX6 108 yX6_depthOf, Cond.instanceMethod yX6_depthOf, Cond.selects RX6 yX6_depthOf yX6_depthOf, Cond.code yX6_depthOf cX6_depthOf 2 (some .int), Cond.fieldLink RX6 27 "EchoRowModel" "kind" "[I", Cond.fieldLink RX6 36 "EchoRowModel" "depth" "[I"]
def wsX6_gate_r2 : List Cond := [Cond.methodLink RX6 90 yX6_floor, Cond.instanceMethod yX6_floor, Cond.selects RX6 yX6_floor yX6_floor, Cond.code yX6_floor cX6_floor 1 (some .int), Cond.fieldLink RX6 81 "EchoRowModel" "wedge" "I", Cond.fieldLink RX6 7 "EchoRowModel" "plate" "I", Cond.methodLink RX6 112 yX6_least, Cond.instanceMethod yX6_least, Cond.selects RX6 yX6_least yX6_least, Cond.code yX6_least cX6_least 9 (some .int), Cond.methodLink RX6 105 yX6_timeOf, Cond.instanceMethod yX6_timeOf, Cond.selects RX6 yX6_timeOf yX6_timeOf, Cond.code yX6_timeOf cX6_timeOf 4 (some .int), Cond.fieldLink RX6 42 "EchoRowModel" "time" "[I", Cond.methodLink RX6 101 yX6_make, Cond.instanceMethod yX6_make, Cond.selects RX6 yX6_make yX6_make, Cond.code yX6_make cX6_make 7 none, Cond.fieldLink RX6 48 "EchoRowModel" "isMade" "[Z", Cond.fieldLink RX6 13 "EchoRowModel" "slowWedge" "I", Cond.fieldLink RX6 19 "EchoRowModel" "at" "[I", Cond.fieldLink RX6 16 "EchoRowModel" "slow" "I", Cond.fieldLink RX6 45 "EchoRowModel" "bend" "[I"]
def wsX6_gate_r3 : List Cond := [Cond.methodLink RX6 97 yX6_ticks, Cond.static yX6_ticks, Cond.code yX6_ticks cX6_ticks 6 (some .int), Cond.methodLink RX6 157 yX6_echoAt, Cond.instanceMethod yX6_echoAt, Cond.selects RX6 yX6_echoAt yX6_echoAt, Cond.code yX6_echoAt cX6_echoAt 7 (some .int), Cond.fieldLink RX6 23 "EchoRowModel" "isLost" "[Z", Cond.fieldLink RX6 39 "EchoRowModel" "strength" "[I"]
def wsX6_gate : List Cond := .code yX6_gate cX6_gate 11 (some .int) :: ((wsX6_gate_r1 ++ (wsX6_gate_r2 ++ wsX6_gate_r3)) ++ wsX60)
def wsX6_focus_r1 : List Cond := [Cond.fieldLink RX6 75 "EchoRowModel" "thrown" "I", Cond.fieldLink RX6 94 "EchoRowModel" "elements" "I", Cond.fieldLink RX6 23 "EchoRowModel" "isLost" "[Z", Cond.fieldLink RX6 51 "EchoRowModel" "delay" "[I", Cond.fieldLink RX6 128 "EchoRowModel" "hasFocus" "Z", Cond.methodLink RX6 144 yX6_isPlace, Cond.instanceMethod yX6_isPlace, Cond.selects RX6 yX6_isPlace yX6_isPlace, Cond.initialized RX6, Cond.code yX6_isPlace cX6_isPlace 3 (some .boolean), Cond.constantLong RX6 84 (50), Cond.fieldLink RX6 81 "EchoRowModel" "wedge" "I", Cond.methodLink RX6 86 yX6_in, Cond.static yX6_in, Cond.code yX6_in cX6_in 6 (some .boolean), Cond.methodLink RX6 90 yX6_floor, Cond.instanceMethod yX6_floor, Cond.selects RX6 yX6_floor yX6_floor, Cond.code yX6_floor cX6_floor 1 (some .int), Cond.fieldLink RX6 7 "EchoRowModel" "plate" "I", Cond.methodLink RX6 139 yX6_working, Cond.instanceMethod yX6_working, Cond.selects RX6 yX6_working yX6_working, Cond.code yX6_working cX6_working 3 (some .int)]
def wsX6_focus_r2 : List Cond := [Cond.methodLink RX6 105 yX6_timeOf, Cond.instanceMethod yX6_timeOf, Cond.selects RX6 yX6_timeOf yX6_timeOf, Cond.code yX6_timeOf cX6_timeOf 4 (some .int), Cond.fieldLink RX6 42 "EchoRowModel" "time" "[I", Cond.methodLink RX6 101 yX6_make, Cond.instanceMethod yX6_make, Cond.selects RX6 yX6_make yX6_make, Cond.code yX6_make cX6_make 7 none, Cond.fieldLink RX6 48 "EchoRowModel" "isMade" "[Z", Cond.fieldLink RX6 13 "EchoRowModel" "slowWedge" "I", Cond.fieldLink RX6 19 "EchoRowModel" "at" "[I", Cond.fieldLink RX6 16 "EchoRowModel" "slow" "I", Cond.fieldLink RX6 45 "EchoRowModel" "bend" "[I", Cond.methodLink RX6 97 yX6_ticks, Cond.static yX6_ticks, Cond.code yX6_ticks cX6_ticks 6 (some .int)]
def wsX6_focus : List Cond := .code yX6_focus cX6_focus 5 (some .int) :: ((wsX6_focus_r1 ++ wsX6_focus_r2) ++ wsX60)
def wsX6_delay : List Cond := .code yX6_delay cX6_delay 2 (some .int) :: ([.fieldLink RX6 75 "EchoRowModel" "thrown" "I", .fieldLink RX6 128 "EchoRowModel" "hasFocus" "Z", .fieldLink RX6 23 "EchoRowModel" "isLost" "[Z", .constant RX6 161 (-99999), .fieldLink RX6 51 "EchoRowModel" "delay" "[I", .methodLink RX6 135 yX6_noElement, .instanceMethod yX6_noElement, .selects RX6 yX6_noElement yX6_noElement, .initialized RX6, .code yX6_noElement cX6_noElement 2 (some .boolean), .fieldLink RX6 94 "EchoRowModel" "elements" "I", .methodLink RX6 86 yX6_in, .static yX6_in, .code yX6_in cX6_in 6 (some .boolean)] ++ wsX60)
def wsX6_heardAt_r1 : List Cond := [Cond.fieldLink RX6 94 "EchoRowModel" "elements" "I", Cond.fieldLink RX6 23 "EchoRowModel" "isLost" "[Z", Cond.fieldLink RX6 51 "EchoRowModel" "delay" "[I", Cond.methodLink RX6 157 yX6_echoAt, Cond.instanceMethod yX6_echoAt, Cond.selects RX6 yX6_echoAt yX6_echoAt, Cond.initialized RX6, Cond.code yX6_echoAt cX6_echoAt 7 (some .int), Cond.fieldLink RX6 116 "EchoRowModel" "targets" "I", Cond.fieldLink RX6 39 "EchoRowModel" "strength" "[I", Cond.methodLink RX6 119 yX6_echoOf, Cond.instanceMethod yX6_echoOf, Cond.selects RX6 yX6_echoOf yX6_echoOf, Cond.code yX6_echoOf cX6_echoOf 4 (some .int), Cond.fieldLink RX6 30 "EchoRowModel" "fromX" "[I", Cond.fieldLink RX6 33 "EchoRowModel" "toX" "[I", Cond.methodLink RX6 108 yX6_depthOf, Cond.instanceMethod yX6_depthOf, Cond.selects RX6 yX6_depthOf yX6_depthOf, Cond.code yX6_depthOf cX6_depthOf 2 (some .int), Cond.fieldLink RX6 27 "EchoRowModel" "kind" "[I", Cond.fieldLink RX6 36 "EchoRowModel" "depth" "[I", Cond.methodLink RX6 90 yX6_floor, Cond.instanceMethod yX6_floor]
def wsX6_heardAt_r2 : List Cond := [Cond.selects RX6 yX6_floor yX6_floor, Cond.code yX6_floor cX6_floor 1 (some .int), Cond.fieldLink RX6 81 "EchoRowModel" "wedge" "I", Cond.fieldLink RX6 7 "EchoRowModel" "plate" "I", Cond.methodLink RX6 112 yX6_least, Cond.instanceMethod yX6_least, Cond.selects RX6 yX6_least yX6_least, Cond.code yX6_least cX6_least 9 (some .int), Cond.methodLink RX6 105 yX6_timeOf, Cond.instanceMethod yX6_timeOf, Cond.selects RX6 yX6_timeOf yX6_timeOf, Cond.code yX6_timeOf cX6_timeOf 4 (some .int), Cond.fieldLink RX6 42 "EchoRowModel" "time" "[I", Cond.methodLink RX6 101 yX6_make, Cond.instanceMethod yX6_make, Cond.selects RX6 yX6_make yX6_make, Cond.code yX6_make cX6_make 7 none, Cond.fieldLink RX6 48 "EchoRowModel" "isMade" "[Z", Cond.fieldLink RX6 13 "EchoRowModel" "slowWedge" "I", Cond.fieldLink RX6 19 "EchoRowModel" "at" "[I", Cond.fieldLink RX6 16 "EchoRowModel" "slow" "I", Cond.fieldLink RX6 45 "EchoRowModel" "bend" "[I", Cond.methodLink RX6 97 yX6_ticks, Cond.static yX6_ticks]
def wsX6_heardAt_r3 : List Cond := [Cond.code yX6_ticks cX6_ticks 6 (some .int)]
def wsX6_heardAt : List Cond := .code yX6_heardAt cX6_heardAt 6 (some .int) :: ((wsX6_heardAt_r1 ++ (wsX6_heardAt_r2 ++ wsX6_heardAt_r3)) ++ wsX60)
def wsX6_heard_r1 : List Cond := [Cond.fieldLink RX6 75 "EchoRowModel" "thrown" "I", Cond.fieldLink RX6 128 "EchoRowModel" "hasFocus" "Z", Cond.methodLink RX6 135 yX6_noElement, Cond.instanceMethod yX6_noElement, Cond.selects RX6 yX6_noElement yX6_noElement, Cond.initialized RX6, Cond.code yX6_noElement cX6_noElement 2 (some .boolean), Cond.fieldLink RX6 94 "EchoRowModel" "elements" "I", Cond.methodLink RX6 86 yX6_in, Cond.static yX6_in, Cond.code yX6_in cX6_in 6 (some .boolean), Cond.methodLink RX6 162 yX6_heardAt, Cond.instanceMethod yX6_heardAt, Cond.selects RX6 yX6_heardAt yX6_heardAt, Cond.code yX6_heardAt cX6_heardAt 6 (some .int), Cond.fieldLink RX6 23 "EchoRowModel" "isLost" "[Z", Cond.fieldLink RX6 51 "EchoRowModel" "delay" "[I", Cond.methodLink RX6 157 yX6_echoAt, Cond.instanceMethod yX6_echoAt, Cond.selects RX6 yX6_echoAt yX6_echoAt, Cond.code yX6_echoAt cX6_echoAt 7 (some .int), Cond.fieldLink RX6 116 "EchoRowModel" "targets" "I", Cond.fieldLink RX6 39 "EchoRowModel" "strength" "[I", Cond.methodLink RX6 119 yX6_echoOf]
def wsX6_heard_r2 : List Cond := [Cond.instanceMethod yX6_echoOf, Cond.selects RX6 yX6_echoOf yX6_echoOf, Cond.code yX6_echoOf cX6_echoOf 4 (some .int), Cond.fieldLink RX6 30 "EchoRowModel" "fromX" "[I", Cond.fieldLink RX6 33 "EchoRowModel" "toX" "[I", Cond.methodLink RX6 108 yX6_depthOf, Cond.instanceMethod yX6_depthOf, Cond.selects RX6 yX6_depthOf yX6_depthOf, Cond.code yX6_depthOf cX6_depthOf 2 (some .int), Cond.fieldLink RX6 27 "EchoRowModel" "kind" "[I", Cond.fieldLink RX6 36 "EchoRowModel" "depth" "[I", Cond.methodLink RX6 90 yX6_floor, Cond.instanceMethod yX6_floor, Cond.selects RX6 yX6_floor yX6_floor, Cond.code yX6_floor cX6_floor 1 (some .int), Cond.fieldLink RX6 81 "EchoRowModel" "wedge" "I", Cond.fieldLink RX6 7 "EchoRowModel" "plate" "I", Cond.methodLink RX6 112 yX6_least, Cond.instanceMethod yX6_least, Cond.selects RX6 yX6_least yX6_least, Cond.code yX6_least cX6_least 9 (some .int), Cond.methodLink RX6 105 yX6_timeOf, Cond.instanceMethod yX6_timeOf, Cond.selects RX6 yX6_timeOf yX6_timeOf]
def wsX6_heard_r3 : List Cond := [Cond.code yX6_timeOf cX6_timeOf 4 (some .int), Cond.fieldLink RX6 42 "EchoRowModel" "time" "[I", Cond.methodLink RX6 101 yX6_make, Cond.instanceMethod yX6_make, Cond.selects RX6 yX6_make yX6_make, Cond.code yX6_make cX6_make 7 none, Cond.fieldLink RX6 48 "EchoRowModel" "isMade" "[Z", Cond.fieldLink RX6 13 "EchoRowModel" "slowWedge" "I", Cond.fieldLink RX6 19 "EchoRowModel" "at" "[I", Cond.fieldLink RX6 16 "EchoRowModel" "slow" "I", Cond.fieldLink RX6 45 "EchoRowModel" "bend" "[I", Cond.methodLink RX6 97 yX6_ticks, Cond.static yX6_ticks, Cond.code yX6_ticks cX6_ticks 6 (some .int)]
def wsX6_heard : List Cond := .code yX6_heard cX6_heard 3 (some .int) :: ((wsX6_heard_r1 ++ (wsX6_heard_r2 ++ wsX6_heard_r3)) ++ wsX60)
def wsX6_sum_r1 : List Cond := [Cond.fieldLink RX6 75 "EchoRowModel" "thrown" "I", Cond.fieldLink RX6 128 "EchoRowModel" "hasFocus" "Z", Cond.fieldLink RX6 94 "EchoRowModel" "elements" "I", Cond.fieldLink RX6 23 "EchoRowModel" "isLost" "[Z", Cond.fieldLink RX6 51 "EchoRowModel" "delay" "[I", Cond.methodLink RX6 162 yX6_heardAt, Cond.instanceMethod yX6_heardAt, Cond.selects RX6 yX6_heardAt yX6_heardAt, Cond.initialized RX6, Cond.code yX6_heardAt cX6_heardAt 6 (some .int), Cond.methodLink RX6 157 yX6_echoAt, Cond.instanceMethod yX6_echoAt, Cond.selects RX6 yX6_echoAt yX6_echoAt, Cond.code yX6_echoAt cX6_echoAt 7 (some .int), Cond.fieldLink RX6 116 "EchoRowModel" "targets" "I", Cond.fieldLink RX6 39 "EchoRowModel" "strength" "[I", Cond.methodLink RX6 119 yX6_echoOf, Cond.instanceMethod yX6_echoOf, Cond.selects RX6 yX6_echoOf yX6_echoOf, Cond.code yX6_echoOf cX6_echoOf 4 (some .int), Cond.fieldLink RX6 30 "EchoRowModel" "fromX" "[I", Cond.fieldLink RX6 33 "EchoRowModel" "toX" "[I", Cond.methodLink RX6 108 yX6_depthOf, Cond.instanceMethod yX6_depthOf]
def wsX6_sum_r2 : List Cond := [Cond.selects RX6 yX6_depthOf yX6_depthOf, Cond.code yX6_depthOf cX6_depthOf 2 (some .int), Cond.fieldLink RX6 27 "EchoRowModel" "kind" "[I", Cond.fieldLink RX6 36 "EchoRowModel" "depth" "[I", Cond.methodLink RX6 90 yX6_floor, Cond.instanceMethod yX6_floor, Cond.selects RX6 yX6_floor yX6_floor, Cond.code yX6_floor cX6_floor 1 (some .int), Cond.fieldLink RX6 81 "EchoRowModel" "wedge" "I", Cond.fieldLink RX6 7 "EchoRowModel" "plate" "I", Cond.methodLink RX6 112 yX6_least, Cond.instanceMethod yX6_least, Cond.selects RX6 yX6_least yX6_least, Cond.code yX6_least cX6_least 9 (some .int), Cond.methodLink RX6 105 yX6_timeOf, Cond.instanceMethod yX6_timeOf, Cond.selects RX6 yX6_timeOf yX6_timeOf, Cond.code yX6_timeOf cX6_timeOf 4 (some .int), Cond.fieldLink RX6 42 "EchoRowModel" "time" "[I", Cond.methodLink RX6 101 yX6_make, Cond.instanceMethod yX6_make, Cond.selects RX6 yX6_make yX6_make, Cond.code yX6_make cX6_make 7 none, Cond.fieldLink RX6 48 "EchoRowModel" "isMade" "[Z"]
def wsX6_sum_r3 : List Cond := [Cond.fieldLink RX6 13 "EchoRowModel" "slowWedge" "I", Cond.fieldLink RX6 19 "EchoRowModel" "at" "[I", Cond.fieldLink RX6 16 "EchoRowModel" "slow" "I", Cond.fieldLink RX6 45 "EchoRowModel" "bend" "[I", Cond.methodLink RX6 97 yX6_ticks, Cond.static yX6_ticks, Cond.code yX6_ticks cX6_ticks 6 (some .int)]
def wsX6_sum : List Cond := .code yX6_sum cX6_sum 4 (some .int) :: ((wsX6_sum_r1 ++ (wsX6_sum_r2 ++ wsX6_sum_r3)) ++ wsX60)
def wsX6_board_r1 : List Cond := [Cond.fieldLink RX6 75 "EchoRowModel" "thrown" "I", Cond.fieldLink RX6 94 "EchoRowModel" "elements" "I", Cond.methodLink RX6 144 yX6_isPlace, Cond.instanceMethod yX6_isPlace, Cond.selects RX6 yX6_isPlace yX6_isPlace, Cond.initialized RX6, Cond.code yX6_isPlace cX6_isPlace 3 (some .boolean), Cond.constantLong RX6 84 (50), Cond.fieldLink RX6 81 "EchoRowModel" "wedge" "I", Cond.methodLink RX6 86 yX6_in, Cond.static yX6_in, Cond.code yX6_in cX6_in 6 (some .boolean), Cond.methodLink RX6 90 yX6_floor, Cond.instanceMethod yX6_floor, Cond.selects RX6 yX6_floor yX6_floor, Cond.code yX6_floor cX6_floor 1 (some .int), Cond.fieldLink RX6 7 "EchoRowModel" "plate" "I", Cond.methodLink RX6 105 yX6_timeOf, Cond.instanceMethod yX6_timeOf, Cond.selects RX6 yX6_timeOf yX6_timeOf, Cond.code yX6_timeOf cX6_timeOf 4 (some .int), Cond.fieldLink RX6 42 "EchoRowModel" "time" "[I", Cond.methodLink RX6 101 yX6_make, Cond.instanceMethod yX6_make]
def wsX6_board_r2 : List Cond := [Cond.selects RX6 yX6_make yX6_make, Cond.code yX6_make cX6_make 7 none, Cond.fieldLink RX6 48 "EchoRowModel" "isMade" "[Z", Cond.fieldLink RX6 13 "EchoRowModel" "slowWedge" "I", Cond.fieldLink RX6 19 "EchoRowModel" "at" "[I", Cond.fieldLink RX6 16 "EchoRowModel" "slow" "I", Cond.fieldLink RX6 45 "EchoRowModel" "bend" "[I", Cond.methodLink RX6 97 yX6_ticks, Cond.static yX6_ticks, Cond.code yX6_ticks cX6_ticks 6 (some .int), Cond.methodLink RX6 157 yX6_echoAt, Cond.instanceMethod yX6_echoAt, Cond.selects RX6 yX6_echoAt yX6_echoAt, Cond.code yX6_echoAt cX6_echoAt 7 (some .int), Cond.fieldLink RX6 116 "EchoRowModel" "targets" "I", Cond.fieldLink RX6 23 "EchoRowModel" "isLost" "[Z", Cond.fieldLink RX6 39 "EchoRowModel" "strength" "[I", Cond.methodLink RX6 119 yX6_echoOf, Cond.instanceMethod yX6_echoOf, Cond.selects RX6 yX6_echoOf yX6_echoOf, Cond.code yX6_echoOf cX6_echoOf 4 (some .int), Cond.fieldLink RX6 30 "EchoRowModel" "fromX" "[I", Cond.fieldLink RX6 33 "EchoRowModel" "toX" "[I", Cond.methodLink RX6 108 yX6_depthOf]
def wsX6_board_r3 : List Cond := [Cond.instanceMethod yX6_depthOf, Cond.selects RX6 yX6_depthOf yX6_depthOf, Cond.code yX6_depthOf cX6_depthOf 2 (some .int), Cond.fieldLink RX6 27 "EchoRowModel" "kind" "[I", Cond.fieldLink RX6 36 "EchoRowModel" "depth" "[I", Cond.methodLink RX6 112 yX6_least, Cond.instanceMethod yX6_least, Cond.selects RX6 yX6_least yX6_least, Cond.code yX6_least cX6_least 9 (some .int)]
def wsX6_board : List Cond := .code yX6_board cX6_board 6 (some .int) :: ((wsX6_board_r1 ++ (wsX6_board_r2 ++ wsX6_board_r3)) ++ wsX60)
def wsX6_tell : List Cond := .code yX6_tell cX6_tell 4 (some .int) :: ([.fieldLink RX6 75 "EchoRowModel" "thrown" "I", .constantLong RX6 166 (4000), .fieldLink RX6 168 "EchoRowModel" "told" "I", .fieldLink RX6 54 "EchoRowModel" "one" "[I", .fieldLink RX6 57 "EchoRowModel" "other" "[I", .fieldLink RX6 60 "EchoRowModel" "when" "[I", .methodLink RX6 135 yX6_noElement, .instanceMethod yX6_noElement, .selects RX6 yX6_noElement yX6_noElement, .initialized RX6, .code yX6_noElement cX6_noElement 2 (some .boolean), .fieldLink RX6 94 "EchoRowModel" "elements" "I", .methodLink RX6 86 yX6_in, .static yX6_in, .code yX6_in cX6_in 6 (some .boolean)] ++ wsX60)
def wsX6_forget : List Cond := .code yX6_forget cX6_forget 2 (some .int) :: ([.fieldLink RX6 75 "EchoRowModel" "thrown" "I", .fieldLink RX6 168 "EchoRowModel" "told" "I"] ++ wsX60)
def wsX6_isNear_r1 : List Cond := [Cond.fieldLink RX6 168 "EchoRowModel" "told" "I", Cond.fieldLink RX6 54 "EchoRowModel" "one" "[I", Cond.fieldLink RX6 57 "EchoRowModel" "other" "[I", Cond.fieldLink RX6 60 "EchoRowModel" "when" "[I", Cond.methodLink RX6 105 yX6_timeOf, Cond.instanceMethod yX6_timeOf, Cond.selects RX6 yX6_timeOf yX6_timeOf, Cond.initialized RX6, Cond.code yX6_timeOf cX6_timeOf 4 (some .int), Cond.fieldLink RX6 42 "EchoRowModel" "time" "[I", Cond.methodLink RX6 101 yX6_make, Cond.instanceMethod yX6_make, Cond.selects RX6 yX6_make yX6_make, Cond.code yX6_make cX6_make 7 none, Cond.fieldLink RX6 48 "EchoRowModel" "isMade" "[Z", Cond.fieldLink RX6 13 "EchoRowModel" "slowWedge" "I", Cond.fieldLink RX6 19 "EchoRowModel" "at" "[I", Cond.fieldLink RX6 81 "EchoRowModel" "wedge" "I", Cond.fieldLink RX6 16 "EchoRowModel" "slow" "I", Cond.fieldLink RX6 45 "EchoRowModel" "bend" "[I", Cond.methodLink RX6 97 yX6_ticks, Cond.static yX6_ticks, Cond.code yX6_ticks cX6_ticks 6 (some .int), Cond.methodLink RX6 86 yX6_in]
def wsX6_isNear_r2 : List Cond := [Cond.static yX6_in, Cond.code yX6_in cX6_in 6 (some .boolean)]
def wsX6_isNear : List Cond := .code yX6_isNear cX6_isNear 6 (some .boolean) :: ((wsX6_isNear_r1 ++ wsX6_isNear_r2) ++ wsX60)
def wsX6_near_r1 : List Cond := [Cond.fieldLink RX6 81 "EchoRowModel" "wedge" "I", Cond.constant RX6 161 (-99999), Cond.methodLink RX6 90 yX6_floor, Cond.instanceMethod yX6_floor, Cond.selects RX6 yX6_floor yX6_floor, Cond.initialized RX6, Cond.code yX6_floor cX6_floor 1 (some .int), Cond.fieldLink RX6 7 "EchoRowModel" "plate" "I", Cond.methodLink RX6 171 yX6_isNear, Cond.instanceMethod yX6_isNear, Cond.selects RX6 yX6_isNear yX6_isNear, Cond.code yX6_isNear cX6_isNear 6 (some .boolean), Cond.fieldLink RX6 168 "EchoRowModel" "told" "I", Cond.fieldLink RX6 54 "EchoRowModel" "one" "[I", Cond.fieldLink RX6 57 "EchoRowModel" "other" "[I", Cond.fieldLink RX6 60 "EchoRowModel" "when" "[I", Cond.methodLink RX6 105 yX6_timeOf, Cond.instanceMethod yX6_timeOf, Cond.selects RX6 yX6_timeOf yX6_timeOf, Cond.code yX6_timeOf cX6_timeOf 4 (some .int), Cond.fieldLink RX6 42 "EchoRowModel" "time" "[I", Cond.methodLink RX6 101 yX6_make, Cond.instanceMethod yX6_make, Cond.selects RX6 yX6_make yX6_make]
def wsX6_near_r2 : List Cond := [Cond.code yX6_make cX6_make 7 none, Cond.fieldLink RX6 48 "EchoRowModel" "isMade" "[Z", Cond.fieldLink RX6 13 "EchoRowModel" "slowWedge" "I", Cond.fieldLink RX6 19 "EchoRowModel" "at" "[I", Cond.fieldLink RX6 16 "EchoRowModel" "slow" "I", Cond.fieldLink RX6 45 "EchoRowModel" "bend" "[I", Cond.methodLink RX6 97 yX6_ticks, Cond.static yX6_ticks, Cond.code yX6_ticks cX6_ticks 6 (some .int), Cond.methodLink RX6 86 yX6_in, Cond.static yX6_in, Cond.code yX6_in cX6_in 6 (some .boolean)]
def wsX6_near : List Cond := .code yX6_near cX6_near 6 (some .int) :: ((wsX6_near_r1 ++ wsX6_near_r2) ++ wsX60)
def wsX6_places_r1 : List Cond := [Cond.fieldLink RX6 75 "EchoRowModel" "thrown" "I", Cond.constantLong RX6 175 (100), Cond.methodLink RX6 86 yX6_in, Cond.static yX6_in, Cond.initialized RX6, Cond.code yX6_in cX6_in 6 (some .boolean), Cond.methodLink RX6 177 yX6_near, Cond.instanceMethod yX6_near, Cond.selects RX6 yX6_near yX6_near, Cond.code yX6_near cX6_near 6 (some .int), Cond.fieldLink RX6 81 "EchoRowModel" "wedge" "I", Cond.constant RX6 161 (-99999), Cond.methodLink RX6 90 yX6_floor, Cond.instanceMethod yX6_floor, Cond.selects RX6 yX6_floor yX6_floor, Cond.code yX6_floor cX6_floor 1 (some .int), Cond.fieldLink RX6 7 "EchoRowModel" "plate" "I", Cond.methodLink RX6 171 yX6_isNear, Cond.instanceMethod yX6_isNear, Cond.selects RX6 yX6_isNear yX6_isNear, Cond.code yX6_isNear cX6_isNear 6 (some .boolean), Cond.fieldLink RX6 168 "EchoRowModel" "told" "I", Cond.fieldLink RX6 54 "EchoRowModel" "one" "[I", Cond.fieldLink RX6 57 "EchoRowModel" "other" "[I"]
def wsX6_places_r2 : List Cond := [Cond.fieldLink RX6 60 "EchoRowModel" "when" "[I", Cond.methodLink RX6 105 yX6_timeOf, Cond.instanceMethod yX6_timeOf, Cond.selects RX6 yX6_timeOf yX6_timeOf, Cond.code yX6_timeOf cX6_timeOf 4 (some .int), Cond.fieldLink RX6 42 "EchoRowModel" "time" "[I", Cond.methodLink RX6 101 yX6_make, Cond.instanceMethod yX6_make, Cond.selects RX6 yX6_make yX6_make, Cond.code yX6_make cX6_make 7 none, Cond.fieldLink RX6 48 "EchoRowModel" "isMade" "[Z", Cond.fieldLink RX6 13 "EchoRowModel" "slowWedge" "I", Cond.fieldLink RX6 19 "EchoRowModel" "at" "[I", Cond.fieldLink RX6 16 "EchoRowModel" "slow" "I", Cond.fieldLink RX6 45 "EchoRowModel" "bend" "[I", Cond.methodLink RX6 97 yX6_ticks, Cond.static yX6_ticks, Cond.code yX6_ticks cX6_ticks 6 (some .int)]
def wsX6_places : List Cond := .code yX6_places cX6_places 2 (some .int) :: ((wsX6_places_r1 ++ wsX6_places_r2) ++ wsX60)
def wsX6_place_r1 : List Cond := [Cond.fieldLink RX6 75 "EchoRowModel" "thrown" "I", Cond.constantLong RX6 175 (100), Cond.constant RX6 161 (-99999), Cond.methodLink RX6 86 yX6_in, Cond.static yX6_in, Cond.initialized RX6, Cond.code yX6_in cX6_in 6 (some .boolean), Cond.methodLink RX6 177 yX6_near, Cond.instanceMethod yX6_near, Cond.selects RX6 yX6_near yX6_near, Cond.code yX6_near cX6_near 6 (some .int), Cond.fieldLink RX6 81 "EchoRowModel" "wedge" "I", Cond.methodLink RX6 90 yX6_floor, Cond.instanceMethod yX6_floor, Cond.selects RX6 yX6_floor yX6_floor, Cond.code yX6_floor cX6_floor 1 (some .int), Cond.fieldLink RX6 7 "EchoRowModel" "plate" "I", Cond.methodLink RX6 171 yX6_isNear, Cond.instanceMethod yX6_isNear, Cond.selects RX6 yX6_isNear yX6_isNear, Cond.code yX6_isNear cX6_isNear 6 (some .boolean), Cond.fieldLink RX6 168 "EchoRowModel" "told" "I", Cond.fieldLink RX6 54 "EchoRowModel" "one" "[I", Cond.fieldLink RX6 57 "EchoRowModel" "other" "[I"]
def wsX6_place_r2 : List Cond := [Cond.fieldLink RX6 60 "EchoRowModel" "when" "[I", Cond.methodLink RX6 105 yX6_timeOf, Cond.instanceMethod yX6_timeOf, Cond.selects RX6 yX6_timeOf yX6_timeOf, Cond.code yX6_timeOf cX6_timeOf 4 (some .int), Cond.fieldLink RX6 42 "EchoRowModel" "time" "[I", Cond.methodLink RX6 101 yX6_make, Cond.instanceMethod yX6_make, Cond.selects RX6 yX6_make yX6_make, Cond.code yX6_make cX6_make 7 none, Cond.fieldLink RX6 48 "EchoRowModel" "isMade" "[Z", Cond.fieldLink RX6 13 "EchoRowModel" "slowWedge" "I", Cond.fieldLink RX6 19 "EchoRowModel" "at" "[I", Cond.fieldLink RX6 16 "EchoRowModel" "slow" "I", Cond.fieldLink RX6 45 "EchoRowModel" "bend" "[I", Cond.methodLink RX6 97 yX6_ticks, Cond.static yX6_ticks, Cond.code yX6_ticks cX6_ticks 6 (some .int)]
def wsX6_place : List Cond := .code yX6_place cX6_place 3 (some .int) :: ((wsX6_place_r1 ++ wsX6_place_r2) ++ wsX60)
def wsX6_isSheet : List Cond := .code yX6_isSheet cX6_isSheet 1 (some .boolean) :: ([.constantLong RX6 181 (5), .methodLink RX6 86 yX6_in, .static yX6_in, .initialized RX6, .code yX6_in cX6_in 6 (some .boolean)])
def wsX6_as : List Cond := .code yX6_as cX6_as 5 (some .int) :: ([.constantLong RX6 183 (127), .constantLong RX6 185 (32767), .constantLong RX6 187 (2147483647)])
def wsX6_sheet : List Cond := .code yX6_sheet cX6_sheet 5 (some .int) :: ([.fieldLink RX6 75 "EchoRowModel" "thrown" "I", .constantLong RX6 142 (2), .fieldLink RX6 63 "EchoRowModel" "length" "[I", .fieldLink RX6 66 "EchoRowModel" "lane" "[I", .fieldLink RX6 69 "EchoRowModel" "number" "[I", .methodLink RX6 189 yX6_isSheet, .static yX6_isSheet, .initialized RX6, .code yX6_isSheet cX6_isSheet 1 (some .boolean), .constantLong RX6 181 (5), .methodLink RX6 86 yX6_in, .static yX6_in, .code yX6_in cX6_in 6 (some .boolean), .methodLink RX6 154 yX6_finds, .instanceMethod yX6_finds, .selects RX6 yX6_finds yX6_finds, .code yX6_finds cX6_finds 2 (some .int), .fieldLink RX6 78 "EchoRowModel" "findings" "I"] ++ wsX60)
def wsX6_tear : List Cond := .code yX6_tear cX6_tear 3 (some .int) :: ([.fieldLink RX6 75 "EchoRowModel" "thrown" "I", .fieldLink RX6 63 "EchoRowModel" "length" "[I", .methodLink RX6 189 yX6_isSheet, .static yX6_isSheet, .initialized RX6, .code yX6_isSheet cX6_isSheet 1 (some .boolean), .constantLong RX6 181 (5), .methodLink RX6 86 yX6_in, .static yX6_in, .code yX6_in cX6_in 6 (some .boolean), .methodLink RX6 154 yX6_finds, .instanceMethod yX6_finds, .selects RX6 yX6_finds yX6_finds, .code yX6_finds cX6_finds 2 (some .int), .fieldLink RX6 78 "EchoRowModel" "findings" "I"] ++ wsX60)
def wsX6_record_r1 : List Cond := [Cond.fieldLink RX6 75 "EchoRowModel" "thrown" "I", Cond.fieldLink RX6 63 "EchoRowModel" "length" "[I", Cond.fieldLink RX6 69 "EchoRowModel" "number" "[I", Cond.fieldLink RX6 66 "EchoRowModel" "lane" "[I", Cond.methodLink RX6 189 yX6_isSheet, Cond.static yX6_isSheet, Cond.initialized RX6, Cond.code yX6_isSheet cX6_isSheet 1 (some .boolean), Cond.constantLong RX6 181 (5), Cond.methodLink RX6 86 yX6_in, Cond.static yX6_in, Cond.code yX6_in cX6_in 6 (some .boolean), Cond.methodLink RX6 154 yX6_finds, Cond.instanceMethod yX6_finds, Cond.selects RX6 yX6_finds yX6_finds, Cond.code yX6_finds cX6_finds 2 (some .int), Cond.fieldLink RX6 78 "EchoRowModel" "findings" "I", Cond.methodLink RX6 135 yX6_noElement, Cond.instanceMethod yX6_noElement, Cond.selects RX6 yX6_noElement yX6_noElement, Cond.code yX6_noElement cX6_noElement 2 (some .boolean), Cond.fieldLink RX6 94 "EchoRowModel" "elements" "I", Cond.methodLink RX6 157 yX6_echoAt, Cond.instanceMethod yX6_echoAt]
def wsX6_record_r2 : List Cond := [Cond.selects RX6 yX6_echoAt yX6_echoAt, Cond.code yX6_echoAt cX6_echoAt 7 (some .int), Cond.fieldLink RX6 116 "EchoRowModel" "targets" "I", Cond.fieldLink RX6 23 "EchoRowModel" "isLost" "[Z", Cond.fieldLink RX6 39 "EchoRowModel" "strength" "[I", Cond.methodLink RX6 119 yX6_echoOf, Cond.instanceMethod yX6_echoOf, Cond.selects RX6 yX6_echoOf yX6_echoOf, Cond.code yX6_echoOf cX6_echoOf 4 (some .int), Cond.fieldLink RX6 30 "EchoRowModel" "fromX" "[I", Cond.fieldLink RX6 33 "EchoRowModel" "toX" "[I", Cond.methodLink RX6 108 yX6_depthOf, Cond.instanceMethod yX6_depthOf, Cond.selects RX6 yX6_depthOf yX6_depthOf, Cond.code yX6_depthOf cX6_depthOf 2 (some .int), Cond.fieldLink RX6 27 "EchoRowModel" "kind" "[I", Cond.fieldLink RX6 36 "EchoRowModel" "depth" "[I", Cond.methodLink RX6 90 yX6_floor, Cond.instanceMethod yX6_floor, Cond.selects RX6 yX6_floor yX6_floor, Cond.code yX6_floor cX6_floor 1 (some .int), Cond.fieldLink RX6 81 "EchoRowModel" "wedge" "I", Cond.fieldLink RX6 7 "EchoRowModel" "plate" "I", Cond.methodLink RX6 112 yX6_least]
def wsX6_record_r3 : List Cond := [Cond.instanceMethod yX6_least, Cond.selects RX6 yX6_least yX6_least, Cond.code yX6_least cX6_least 9 (some .int), Cond.methodLink RX6 105 yX6_timeOf, Cond.instanceMethod yX6_timeOf, Cond.selects RX6 yX6_timeOf yX6_timeOf, Cond.code yX6_timeOf cX6_timeOf 4 (some .int), Cond.fieldLink RX6 42 "EchoRowModel" "time" "[I", Cond.methodLink RX6 101 yX6_make, Cond.instanceMethod yX6_make, Cond.selects RX6 yX6_make yX6_make, Cond.code yX6_make cX6_make 7 none, Cond.fieldLink RX6 48 "EchoRowModel" "isMade" "[Z", Cond.fieldLink RX6 13 "EchoRowModel" "slowWedge" "I", Cond.fieldLink RX6 19 "EchoRowModel" "at" "[I", Cond.fieldLink RX6 16 "EchoRowModel" "slow" "I", Cond.fieldLink RX6 45 "EchoRowModel" "bend" "[I", Cond.methodLink RX6 97 yX6_ticks, Cond.static yX6_ticks, Cond.code yX6_ticks cX6_ticks 6 (some .int), Cond.methodLink RX6 192 yX6_as, Cond.static yX6_as, Cond.code yX6_as cX6_as 5 (some .int), Cond.constantLong RX6 183 (127)]
def wsX6_record_r4 : List Cond := [Cond.constantLong RX6 185 (32767), Cond.constantLong RX6 187 (2147483647)]
def wsX6_record : List Cond := .code yX6_record cX6_record 6 (some .int) :: ((wsX6_record_r1 ++ (wsX6_record_r2 ++ (wsX6_record_r3 ++ wsX6_record_r4))) ++ wsX60)
def wsX6_add : List Cond := .code yX6_add cX6_add 9 (some .int) :: ([.fieldLink RX6 75 "EchoRowModel" "thrown" "I", .fieldLink RX6 63 "EchoRowModel" "length" "[I", .fieldLink RX6 72 "EchoRowModel" "spare" "[I", .fieldLink RX6 69 "EchoRowModel" "number" "[I", .fieldLink RX6 66 "EchoRowModel" "lane" "[I", .methodLink RX6 189 yX6_isSheet, .static yX6_isSheet, .initialized RX6, .code yX6_isSheet cX6_isSheet 1 (some .boolean), .constantLong RX6 181 (5), .methodLink RX6 86 yX6_in, .static yX6_in, .code yX6_in cX6_in 6 (some .boolean), .methodLink RX6 154 yX6_finds, .instanceMethod yX6_finds, .selects RX6 yX6_finds yX6_finds, .code yX6_finds cX6_finds 2 (some .int), .fieldLink RX6 78 "EchoRowModel" "findings" "I", .methodLink RX6 192 yX6_as, .static yX6_as, .code yX6_as cX6_as 5 (some .int), .constantLong RX6 183 (127), .constantLong RX6 185 (32767), .constantLong RX6 187 (2147483647)] ++ wsX60)
def wsX6_copy : List Cond := .code yX6_copy cX6_copy 7 (some .int) :: ([.fieldLink RX6 75 "EchoRowModel" "thrown" "I", .fieldLink RX6 63 "EchoRowModel" "length" "[I", .fieldLink RX6 66 "EchoRowModel" "lane" "[I", .fieldLink RX6 72 "EchoRowModel" "spare" "[I", .fieldLink RX6 69 "EchoRowModel" "number" "[I", .methodLink RX6 189 yX6_isSheet, .static yX6_isSheet, .initialized RX6, .code yX6_isSheet cX6_isSheet 1 (some .boolean), .constantLong RX6 181 (5), .methodLink RX6 86 yX6_in, .static yX6_in, .code yX6_in cX6_in 6 (some .boolean), .methodLink RX6 154 yX6_finds, .instanceMethod yX6_finds, .selects RX6 yX6_finds yX6_finds, .code yX6_finds cX6_finds 2 (some .int), .fieldLink RX6 78 "EchoRowModel" "findings" "I"] ++ wsX60)
def wsX6_at : List Cond := .code yX6_at cX6_at 3 (some .int) :: ([.fieldLink RX6 75 "EchoRowModel" "thrown" "I", .fieldLink RX6 63 "EchoRowModel" "length" "[I", .fieldLink RX6 69 "EchoRowModel" "number" "[I", .methodLink RX6 189 yX6_isSheet, .static yX6_isSheet, .initialized RX6, .code yX6_isSheet cX6_isSheet 1 (some .boolean), .constantLong RX6 181 (5), .methodLink RX6 86 yX6_in, .static yX6_in, .code yX6_in cX6_in 6 (some .boolean), .methodLink RX6 154 yX6_finds, .instanceMethod yX6_finds, .selects RX6 yX6_finds yX6_finds, .code yX6_finds cX6_finds 2 (some .int), .fieldLink RX6 78 "EchoRowModel" "findings" "I"] ++ wsX60)
def wsX6_peak : List Cond := .code yX6_peak cX6_peak 8 (some .int) :: ([.fieldLink RX6 75 "EchoRowModel" "thrown" "I", .fieldLink RX6 63 "EchoRowModel" "length" "[I", .constant RX6 161 (-99999), .constantLong RX6 195 (-1), .fieldLink RX6 69 "EchoRowModel" "number" "[I", .methodLink RX6 189 yX6_isSheet, .static yX6_isSheet, .initialized RX6, .code yX6_isSheet cX6_isSheet 1 (some .boolean), .constantLong RX6 181 (5), .methodLink RX6 86 yX6_in, .static yX6_in, .code yX6_in cX6_in 6 (some .boolean), .methodLink RX6 154 yX6_finds, .instanceMethod yX6_finds, .selects RX6 yX6_finds yX6_finds, .code yX6_finds cX6_finds 2 (some .int), .fieldLink RX6 78 "EchoRowModel" "findings" "I"] ++ wsX60)
def wsX6_total : List Cond := .code yX6_total cX6_total 4 (some .int) :: ([.fieldLink RX6 75 "EchoRowModel" "thrown" "I", .fieldLink RX6 63 "EchoRowModel" "length" "[I", .fieldLink RX6 94 "EchoRowModel" "elements" "I", .fieldLink RX6 116 "EchoRowModel" "targets" "I", .fieldLink RX6 168 "EchoRowModel" "told" "I", .fieldLink RX6 78 "EchoRowModel" "findings" "I", .fieldLink RX6 128 "EchoRowModel" "hasFocus" "Z", .methodLink RX6 139 yX6_working, .instanceMethod yX6_working, .selects RX6 yX6_working yX6_working, .initialized RX6, .code yX6_working cX6_working 3 (some .int), .fieldLink RX6 23 "EchoRowModel" "isLost" "[Z", .methodLink RX6 90 yX6_floor, .instanceMethod yX6_floor, .selects RX6 yX6_floor yX6_floor, .code yX6_floor cX6_floor 1 (some .int), .fieldLink RX6 81 "EchoRowModel" "wedge" "I", .fieldLink RX6 7 "EchoRowModel" "plate" "I"] ++ wsX60)
def wsJ9_abs_0f7a4 : List Cond := .code yJ9_abs_0f7a4 cJ9_abs_0f7a4 1 (some .int) :: ([])
def wsJ9_abs_067f4 : List Cond := .code yJ9_abs_067f4 cJ9_abs_067f4 2 (some .long) :: ([])
def wsJ9_max_7cf53 : List Cond := .code yJ9_max_7cf53 cJ9_max_7cf53 2 (some .int) :: ([])
def wsJ9_max_f86c9 : List Cond := .code yJ9_max_f86c9 cJ9_max_f86c9 4 (some .long) :: ([])
def wsJ9_min_7cf53 : List Cond := .code yJ9_min_7cf53 cJ9_min_7cf53 2 (some .int) :: ([])
def wsJ9_min_f86c9 : List Cond := .code yJ9_min_f86c9 cJ9_min_f86c9 4 (some .long) :: ([])
def wsL_law_r1 : List Cond := [Cond.classLink RL 7 RX5, Cond.instantiable RX5 11, Cond.initialized RX5, Cond.classLink RL 10 RX6, Cond.instantiable RX6 28, Cond.initialized RX6, Cond.methodLink RL 9 yX5_init, Cond.instanceMethod yX5_init, Cond.code yX5_init cX5_init 1 none, Cond.methodLink RX5 3 objectInit, Cond.instanceMethod objectInit, Cond.code objectInit ⟨#[0xb1]⟩ 1 none, Cond.classLink RX5 9 RX1, Cond.instantiable RX1 7, Cond.initialized RX1, Cond.fieldLink RX5 12 "EchoRow" "layers" "LEchoRow$Layers;", Cond.classLink RX5 16 RX0, Cond.fieldLink RX5 18 "EchoRow" "elements" "[LEchoRow$Element;", Cond.classLink RX5 22 RX3, Cond.fieldLink RX5 24 "EchoRow" "targets" "[LEchoRow$Target;", Cond.classLink RX5 28 RX4, Cond.fieldLink RX5 30 "EchoRow" "tolds" "[LEchoRow$Told;", Cond.classLink RX5 34 RX2, Cond.fieldLink RX5 36 "EchoRow" "sheets" "[LEchoRow$Sheet;"]
def wsL_law_r2 : List Cond := [Cond.arrayClass .int, Cond.fieldLink RX5 40 "EchoRow" "ahead" "[I", Cond.methodLink RX5 11 yX1_init, Cond.instanceMethod yX1_init, Cond.code yX1_init cX1_init 1 none, Cond.methodLink RX1 3 objectInit, Cond.fieldLink RX1 9 "EchoRow$Layers" "wedgeTicks" "[I", Cond.fieldLink RX1 15 "EchoRow$Layers" "plateTicks" "[I", Cond.fieldLink RX1 18 "EchoRow$Layers" "times" "[I", Cond.arrayClass .boolean, Cond.fieldLink RX1 21 "EchoRow$Layers" "ready" "[Z", Cond.methodLink RX1 25 yX1_lay, Cond.instanceMethod yX1_lay, Cond.selects RX1 yX1_lay yX1_lay, Cond.code yX1_lay cX1_lay 6 none, Cond.fieldLink RX1 29 "EchoRow$Layers" "wedge" "I", Cond.fieldLink RX1 33 "EchoRow$Layers" "plate" "I", Cond.fieldLink RX1 36 "EchoRow$Layers" "plateSlowness" "I", Cond.methodLink RX1 39 yX1_fillTicks, Cond.static yX1_fillTicks, Cond.code yX1_fillTicks cX1_fillTicks 6 none, Cond.methodLink RL 12 yX6_init, Cond.instanceMethod yX6_init, Cond.code yX6_init cX6_init 1 none]
def wsL_law_r3 : List Cond := [Cond.methodLink RX6 1 objectInit, Cond.fieldLink RX6 7 "EchoRowModel" "plate" "I", Cond.fieldLink RX6 13 "EchoRowModel" "slowWedge" "I", Cond.fieldLink RX6 16 "EchoRowModel" "slow" "I", Cond.fieldLink RX6 19 "EchoRowModel" "at" "[I", Cond.fieldLink RX6 23 "EchoRowModel" "isLost" "[Z", Cond.fieldLink RX6 27 "EchoRowModel" "kind" "[I", Cond.fieldLink RX6 30 "EchoRowModel" "fromX" "[I", Cond.fieldLink RX6 33 "EchoRowModel" "toX" "[I", Cond.fieldLink RX6 36 "EchoRowModel" "depth" "[I", Cond.fieldLink RX6 39 "EchoRowModel" "strength" "[I", Cond.fieldLink RX6 42 "EchoRowModel" "time" "[I", Cond.fieldLink RX6 45 "EchoRowModel" "bend" "[I", Cond.fieldLink RX6 48 "EchoRowModel" "isMade" "[Z", Cond.fieldLink RX6 51 "EchoRowModel" "delay" "[I", Cond.fieldLink RX6 54 "EchoRowModel" "one" "[I", Cond.fieldLink RX6 57 "EchoRowModel" "other" "[I", Cond.fieldLink RX6 60 "EchoRowModel" "when" "[I", Cond.fieldLink RX6 63 "EchoRowModel" "length" "[I", Cond.fieldLink RX6 66 "EchoRowModel" "lane" "[I", Cond.fieldLink RX6 69 "EchoRowModel" "number" "[I", Cond.fieldLink RX6 72 "EchoRowModel" "spare" "[I", Cond.methodLink RL 13 yX5_body, Cond.instanceMethod yX5_body]
def wsL_law_r4 : List Cond := [Cond.selects RX5 yX5_body yX5_body, Cond.code yX5_body cX5_body 9 (some .int), Cond.fieldLink RX5 48 "EchoRow$Target" "kind" "I", Cond.fieldLink RX5 52 "EchoRow$Target" "y" "I", Cond.fieldLink RX5 62 "EchoRow" "focused" "Z", Cond.methodLink RX5 44 yX5_outside, Cond.static yX5_outside, Cond.code yX5_outside cX5_outside 3 (some .boolean), Cond.methodLink RX5 55 yX1_lay, Cond.methodLink RX5 59 yX3_forgetTimes, Cond.instanceMethod yX3_forgetTimes, Cond.selects RX3 yX3_forgetTimes yX3_forgetTimes, Cond.initialized RX3, Cond.code yX3_forgetTimes cX3_forgetTimes 1 none, Cond.fieldLink RX3 27 "EchoRow$Target" "times" "[I", Cond.methodLink RX3 31 yJ7_fill_53178, Cond.static yJ7_fill_53178, Cond.initialized RJ7, Cond.code yJ7_fill_53178 cJ7_fill_53178 4 none, Cond.methodLink RX5 66 yX1_floor, Cond.instanceMethod yX1_floor, Cond.selects RX1 yX1_floor yX1_floor, Cond.code yX1_floor cX1_floor 1 (some .int), Cond.methodLink RL 17 yX6_body]
def wsL_law_r5 : List Cond := [Cond.instanceMethod yX6_body, Cond.selects RX6 yX6_body yX6_body, Cond.code yX6_body cX6_body 6 (some .int), Cond.fieldLink RX6 75 "EchoRowModel" "thrown" "I", Cond.constantLong RX6 122 (20), Cond.constantLong RX6 124 (30), Cond.constantLong RX6 126 (8), Cond.fieldLink RX6 116 "EchoRowModel" "targets" "I", Cond.fieldLink RX6 81 "EchoRowModel" "wedge" "I", Cond.fieldLink RX6 128 "EchoRowModel" "hasFocus" "Z", Cond.methodLink RX6 86 yX6_in, Cond.static yX6_in, Cond.code yX6_in cX6_in 6 (some .boolean), Cond.methodLink RX6 132 yX6_unmake, Cond.instanceMethod yX6_unmake, Cond.selects RX6 yX6_unmake yX6_unmake, Cond.code yX6_unmake cX6_unmake 2 none, Cond.methodLink RX6 90 yX6_floor, Cond.instanceMethod yX6_floor, Cond.selects RX6 yX6_floor yX6_floor, Cond.code yX6_floor cX6_floor 1 (some .int), Cond.methodLink RL 18 yX5_element, Cond.instanceMethod yX5_element, Cond.selects RX5 yX5_element yX5_element]
def wsL_law_r6 : List Cond := [Cond.code yX5_element cX5_element 2 (some .int), Cond.fieldLink RX5 70 "EchoRow" "elementCount" "I", Cond.instantiable RX0 4, Cond.initialized RX0, Cond.methodLink RX5 73 yX0_init, Cond.instanceMethod yX0_init, Cond.code yX0_init cX0_init 3 none, Cond.methodLink RX0 1 objectInit, Cond.fieldLink RX0 7 "EchoRow$Element" "number" "I", Cond.fieldLink RX0 13 "EchoRow$Element" "x" "I", Cond.fieldLink RX0 16 "EchoRow$Element" "works" "Z", Cond.methodLink RL 22 yX6_element, Cond.instanceMethod yX6_element, Cond.selects RX6 yX6_element yX6_element, Cond.code yX6_element cX6_element 2 (some .int), Cond.constantLong RX6 84 (50), Cond.fieldLink RX6 94 "EchoRowModel" "elements" "I", Cond.methodLink RL 23 yX5_lose, Cond.instanceMethod yX5_lose, Cond.selects RX5 yX5_lose yX5_lose, Cond.code yX5_lose cX5_lose 4 (some .int), Cond.fieldLink RX5 80 "EchoRow$Element" "works" "Z", Cond.methodLink RX5 76 yX5_elementNumbered, Cond.instanceMethod yX5_elementNumbered]
def wsL_law_r7 : List Cond := [Cond.selects RX5 yX5_elementNumbered yX5_elementNumbered, Cond.code yX5_elementNumbered cX5_elementNumbered 2 (some (.object "EchoRow$Element")), Cond.methodLink RX5 83 yX5_countWorking, Cond.instanceMethod yX5_countWorking, Cond.selects RX5 yX5_countWorking yX5_countWorking, Cond.code yX5_countWorking cX5_countWorking 6 (some .int), Cond.methodLink RL 27 yX6_lose, Cond.instanceMethod yX6_lose, Cond.selects RX6 yX6_lose yX6_lose, Cond.code yX6_lose cX6_lose 3 (some .int), Cond.methodLink RX6 135 yX6_noElement, Cond.instanceMethod yX6_noElement, Cond.selects RX6 yX6_noElement yX6_noElement, Cond.code yX6_noElement cX6_noElement 2 (some .boolean), Cond.methodLink RX6 139 yX6_working, Cond.instanceMethod yX6_working, Cond.selects RX6 yX6_working yX6_working, Cond.code yX6_working cX6_working 3 (some .int), Cond.methodLink RL 28 yX5_target, Cond.instanceMethod yX5_target, Cond.selects RX5 yX5_target yX5_target, Cond.code yX5_target cX5_target 6 (some .int), Cond.fieldLink RX5 90 "EchoRow" "targetCount" "I", Cond.methodLink RX5 86 yX1_holds]
def wsL_law_r8 : List Cond := [Cond.instanceMethod yX1_holds, Cond.selects RX1 yX1_holds yX1_holds, Cond.code yX1_holds cX1_holds 3 (some .boolean), Cond.methodLink RX5 93 yX5_newTarget, Cond.static yX5_newTarget, Cond.code yX5_newTarget cX5_newTarget 5 (some (.object "EchoRow$Target")), Cond.instantiable RX3 6, Cond.methodLink RX5 205 yX3_init, Cond.instanceMethod yX3_init, Cond.code yX3_init cX3_init 6 none, Cond.methodLink RX3 3 objectInit, Cond.fieldLink RX3 9 "EchoRow$Target" "kind" "I", Cond.fieldLink RX3 15 "EchoRow$Target" "x" "I", Cond.fieldLink RX3 18 "EchoRow$Target" "z" "I", Cond.fieldLink RX3 21 "EchoRow$Target" "y" "I", Cond.fieldLink RX3 24 "EchoRow$Target" "strength" "I", Cond.methodLink RL 32 yX6_target, Cond.instanceMethod yX6_target, Cond.selects RX6 yX6_target yX6_target, Cond.code yX6_target cX6_target 6 (some .int), Cond.constantLong RX6 142 (2), Cond.constantLong RX6 148 (-1000), Cond.constantLong RX6 150 (1000), Cond.methodLink RX6 144 yX6_isPlace]
def wsL_law_r9 : List Cond := [Cond.instanceMethod yX6_isPlace, Cond.selects RX6 yX6_isPlace yX6_isPlace, Cond.code yX6_isPlace cX6_isPlace 3 (some .boolean), Cond.methodLink RL 33 yX5_drop, Cond.instanceMethod yX5_drop, Cond.selects RX5 yX5_drop yX5_drop, Cond.code yX5_drop cX5_drop 1 (some .int), Cond.methodLink RL 37 yX6_drop, Cond.instanceMethod yX6_drop, Cond.selects RX6 yX6_drop yX6_drop, Cond.code yX6_drop cX6_drop 1 (some .int), Cond.methodLink RL 38 yX5_taken, Cond.instanceMethod yX5_taken, Cond.selects RX5 yX5_taken yX5_taken, Cond.code yX5_taken cX5_taken 5 (some .int), Cond.fieldLink RX5 105 "EchoRow$Target" "strength" "I", Cond.fieldLink RX5 108 "EchoRow$Target" "x" "I", Cond.fieldLink RX5 115 "EchoRow$Target" "z" "I", Cond.methodLink RX5 97 yX5_targetNumbered, Cond.instanceMethod yX5_targetNumbered, Cond.selects RX5 yX5_targetNumbered yX5_targetNumbered, Cond.code yX5_targetNumbered cX5_targetNumbered 2 (some (.object "EchoRow$Target")), Cond.methodLink RX5 101 yX5_found, Cond.instanceMethod yX5_found]
def wsL_law_r10 : List Cond := [Cond.selects RX5 yX5_found yX5_found, Cond.code yX5_found cX5_found 2 (some .int), Cond.fieldLink RX5 199 "EchoRow" "findings" "I", Cond.methodLink RX5 111 yX5_depthOf, Cond.instanceMethod yX5_depthOf, Cond.selects RX5 yX5_depthOf yX5_depthOf, Cond.code yX5_depthOf cX5_depthOf 2 (some .int), Cond.methodLink RL 42 yX6_taken, Cond.instanceMethod yX6_taken, Cond.selects RX6 yX6_taken yX6_taken, Cond.code yX6_taken cX6_taken 4 (some .int), Cond.constantLong RX6 152 (3), Cond.methodLink RX6 154 yX6_finds, Cond.instanceMethod yX6_finds, Cond.selects RX6 yX6_finds yX6_finds, Cond.code yX6_finds cX6_finds 2 (some .int), Cond.fieldLink RX6 78 "EchoRowModel" "findings" "I", Cond.methodLink RX6 108 yX6_depthOf, Cond.instanceMethod yX6_depthOf, Cond.selects RX6 yX6_depthOf yX6_depthOf, Cond.code yX6_depthOf cX6_depthOf 2 (some .int), Cond.methodLink RL 43 yX5_time, Cond.instanceMethod yX5_time, Cond.selects RX5 yX5_time yX5_time]
def wsL_law_r11 : List Cond := [Cond.code yX5_time cX5_time 5 (some .int), Cond.fieldLink RX5 118 "EchoRow$Element" "x" "I", Cond.methodLink RX5 119 yX1_timeTo, Cond.instanceMethod yX1_timeTo, Cond.selects RX1 yX1_timeTo yX1_timeTo, Cond.code yX1_timeTo cX1_timeTo 6 (some .int), Cond.methodLink RX1 47 Lib.Math.abs.name, Cond.static Lib.Math.abs.name, Cond.initialized "java/lang/Math", Cond.code Lib.Math.abs.name Lib.Math.abs.code 1 (some .int), Cond.constant RX1 53 (-99999), Cond.methodLink RX1 54 yX1_fillTimes, Cond.instanceMethod yX1_fillTimes, Cond.selects RX1 yX1_fillTimes yX1_fillTimes, Cond.code yX1_fillTimes cX1_fillTimes 7 none, Cond.constant RX1 62 (2147483647), Cond.methodLink RX1 63 Lib.Math.min.name, Cond.static Lib.Math.min.name, Cond.code Lib.Math.min.name Lib.Math.min.code 2 (some .int), Cond.methodLink RL 46 yX6_time, Cond.instanceMethod yX6_time, Cond.selects RX6 yX6_time yX6_time, Cond.code yX6_time cX6_time 4 (some .int), Cond.methodLink RX6 105 yX6_timeOf]
def wsL_law_r12 : List Cond := [Cond.instanceMethod yX6_timeOf, Cond.selects RX6 yX6_timeOf yX6_timeOf, Cond.code yX6_timeOf cX6_timeOf 4 (some .int), Cond.methodLink RX6 101 yX6_make, Cond.instanceMethod yX6_make, Cond.selects RX6 yX6_make yX6_make, Cond.code yX6_make cX6_make 7 none, Cond.methodLink RX6 97 yX6_ticks, Cond.static yX6_ticks, Cond.code yX6_ticks cX6_ticks 6 (some .int), Cond.methodLink RL 47 yX5_bend, Cond.instanceMethod yX5_bend, Cond.selects RX5 yX5_bend yX5_bend, Cond.code yX5_bend cX5_bend 5 (some .int), Cond.methodLink RX5 123 yX1_bendTo, Cond.instanceMethod yX1_bendTo, Cond.selects RX1 yX1_bendTo yX1_bendTo, Cond.code yX1_bendTo cX1_bendTo 9 (some .int), Cond.methodLink RX1 58 yX1_timeTo, Cond.methodLink RL 50 yX6_bend, Cond.instanceMethod yX6_bend, Cond.selects RX6 yX6_bend yX6_bend, Cond.code yX6_bend cX6_bend 4 (some .int), Cond.methodLink RL 51 yX5_echoTime]
def wsL_law_r13 : List Cond := [Cond.instanceMethod yX5_echoTime, Cond.selects RX5 yX5_echoTime yX5_echoTime, Cond.code yX5_echoTime cX5_echoTime 7 (some .int), Cond.methodLink RX5 126 yX5_echoTimeBy, Cond.instanceMethod yX5_echoTimeBy, Cond.selects RX5 yX5_echoTimeBy yX5_echoTimeBy, Cond.code yX5_echoTimeBy cX5_echoTimeBy 8 (some .int), Cond.fieldLink RX5 208 "EchoRow$Element" "number" "I", Cond.fieldLink RX5 211 "EchoRow$Target" "times" "[I", Cond.constant RX5 143 (-99999), Cond.constant RX5 130 (2147483647), Cond.methodLink RX5 179 Lib.Math.min.name, Cond.methodLink RL 54 yX6_echoTime, Cond.instanceMethod yX6_echoTime, Cond.selects RX6 yX6_echoTime yX6_echoTime, Cond.code yX6_echoTime cX6_echoTime 4 (some .int), Cond.methodLink RX6 119 yX6_echoOf, Cond.instanceMethod yX6_echoOf, Cond.selects RX6 yX6_echoOf yX6_echoOf, Cond.code yX6_echoOf cX6_echoOf 4 (some .int), Cond.methodLink RX6 112 yX6_least, Cond.instanceMethod yX6_least, Cond.selects RX6 yX6_least yX6_least, Cond.code yX6_least cX6_least 9 (some .int)]
def wsL_law_r14 : List Cond := [Cond.methodLink RL 55 yX5_slowness, Cond.instanceMethod yX5_slowness, Cond.selects RX5 yX5_slowness yX5_slowness, Cond.code yX5_slowness cX5_slowness 10 (some .int), Cond.methodLink RX5 134 Lib.Math.abs.name, Cond.methodLink RX5 131 yX1_wallTime, Cond.instanceMethod yX1_wallTime, Cond.selects RX1 yX1_wallTime yX1_wallTime, Cond.code yX1_wallTime cX1_wallTime 8 (some .int), Cond.methodLink RL 58 yX6_slowness, Cond.instanceMethod yX6_slowness, Cond.selects RX6 yX6_slowness yX6_slowness, Cond.code yX6_slowness cX6_slowness 11 (some .int), Cond.methodLink RL 59 yX5_echo, Cond.instanceMethod yX5_echo, Cond.selects RX5 yX5_echo yX5_echo, Cond.code yX5_echo cX5_echo 6 (some .int), Cond.methodLink RX5 139 yX5_echoAt, Cond.instanceMethod yX5_echoAt, Cond.selects RX5 yX5_echoAt yX5_echoAt, Cond.code yX5_echoAt cX5_echoAt 10 (some .int), Cond.methodLink RL 62 yX6_echo, Cond.instanceMethod yX6_echo, Cond.selects RX6 yX6_echo yX6_echo]
def wsL_law_r15 : List Cond := [Cond.code yX6_echo cX6_echo 4 (some .int), Cond.methodLink RX6 157 yX6_echoAt, Cond.instanceMethod yX6_echoAt, Cond.selects RX6 yX6_echoAt yX6_echoAt, Cond.code yX6_echoAt cX6_echoAt 7 (some .int), Cond.methodLink RL 63 yX5_gate, Cond.instanceMethod yX5_gate, Cond.selects RX5 yX5_gate yX5_gate, Cond.code yX5_gate cX5_gate 15 (some .int), Cond.methodLink RL 66 yX6_gate, Cond.instanceMethod yX6_gate, Cond.selects RX6 yX6_gate yX6_gate, Cond.code yX6_gate cX6_gate 11 (some .int), Cond.constant RX6 161 (-99999), Cond.methodLink RL 67 yX5_focus, Cond.instanceMethod yX5_focus, Cond.selects RX5 yX5_focus yX5_focus, Cond.code yX5_focus cX5_focus 8 (some .int), Cond.methodLink RX5 144 Lib.Math.max.name, Cond.static Lib.Math.max.name, Cond.code Lib.Math.max.name Lib.Math.max.code 2 (some .int), Cond.fieldLink RX5 148 "EchoRow$Element" "wait" "I", Cond.methodLink RL 71 yX6_focus, Cond.instanceMethod yX6_focus]
def wsL_law_r16 : List Cond := [Cond.selects RX6 yX6_focus yX6_focus, Cond.code yX6_focus cX6_focus 5 (some .int), Cond.methodLink RL 72 yX5_delay, Cond.instanceMethod yX5_delay, Cond.selects RX5 yX5_delay yX5_delay, Cond.code yX5_delay cX5_delay 3 (some .int), Cond.methodLink RL 75 yX6_delay, Cond.instanceMethod yX6_delay, Cond.selects RX6 yX6_delay yX6_delay, Cond.code yX6_delay cX6_delay 2 (some .int), Cond.methodLink RL 76 yX5_heard, Cond.instanceMethod yX5_heard, Cond.selects RX5 yX5_heard yX5_heard, Cond.code yX5_heard cX5_heard 4 (some .int), Cond.methodLink RX5 151 yX5_heardBy, Cond.instanceMethod yX5_heardBy, Cond.selects RX5 yX5_heardBy yX5_heardBy, Cond.code yX5_heardBy cX5_heardBy 9 (some .int), Cond.methodLink RL 79 yX6_heard, Cond.instanceMethod yX6_heard, Cond.selects RX6 yX6_heard yX6_heard, Cond.code yX6_heard cX6_heard 3 (some .int), Cond.methodLink RX6 162 yX6_heardAt, Cond.instanceMethod yX6_heardAt]
def wsL_law_r17 : List Cond := [Cond.selects RX6 yX6_heardAt yX6_heardAt, Cond.code yX6_heardAt cX6_heardAt 6 (some .int), Cond.methodLink RL 80 yX5_sum, Cond.instanceMethod yX5_sum, Cond.selects RX5 yX5_sum yX5_sum, Cond.code yX5_sum cX5_sum 7 (some .int), Cond.methodLink RL 83 yX6_sum, Cond.instanceMethod yX6_sum, Cond.selects RX6 yX6_sum yX6_sum, Cond.code yX6_sum cX6_sum 4 (some .int), Cond.methodLink RL 84 yX5_board, Cond.instanceMethod yX5_board, Cond.selects RX5 yX5_board yX5_board, Cond.code yX5_board cX5_board 12 (some .int), Cond.methodLink RL 87 yX6_board, Cond.instanceMethod yX6_board, Cond.selects RX6 yX6_board yX6_board, Cond.code yX6_board cX6_board 6 (some .int), Cond.methodLink RL 88 yX5_tell, Cond.instanceMethod yX5_tell, Cond.selects RX5 yX5_tell yX5_tell, Cond.code yX5_tell cX5_tell 6 (some .int), Cond.fieldLink RX5 155 "EchoRow" "toldCount" "I", Cond.instantiable RX4 3]
def wsL_law_r18 : List Cond := [Cond.initialized RX4, Cond.methodLink RX5 158 yX4_init, Cond.instanceMethod yX4_init, Cond.code yX4_init cX4_init 4 none, Cond.methodLink RX4 1 objectInit, Cond.fieldLink RX4 7 "EchoRow$Told" "a" "LEchoRow$Element;", Cond.fieldLink RX4 13 "EchoRow$Told" "b" "LEchoRow$Element;", Cond.fieldLink RX4 16 "EchoRow$Told" "tick" "I", Cond.methodLink RL 91 yX6_tell, Cond.instanceMethod yX6_tell, Cond.selects RX6 yX6_tell yX6_tell, Cond.code yX6_tell cX6_tell 4 (some .int), Cond.constantLong RX6 166 (4000), Cond.fieldLink RX6 168 "EchoRowModel" "told" "I", Cond.methodLink RL 92 yX5_forget, Cond.instanceMethod yX5_forget, Cond.selects RX5 yX5_forget yX5_forget, Cond.code yX5_forget cX5_forget 3 (some .int), Cond.methodLink RL 95 yX6_forget, Cond.instanceMethod yX6_forget, Cond.selects RX6 yX6_forget yX6_forget, Cond.code yX6_forget cX6_forget 2 (some .int), Cond.methodLink RL 96 yX5_places, Cond.instanceMethod yX5_places]
def wsL_law_r19 : List Cond := [Cond.selects RX5 yX5_places yX5_places, Cond.code yX5_places cX5_places 5 (some .int), Cond.fieldLink RX5 161 "EchoRow$Layers" "wedge" "I", Cond.methodLink RX5 164 yX5_fits, Cond.instanceMethod yX5_fits, Cond.selects RX5 yX5_fits yX5_fits, Cond.code yX5_fits cX5_fits 9 (some .boolean), Cond.fieldLink RX5 214 "EchoRow$Told" "a" "LEchoRow$Element;", Cond.fieldLink RX5 218 "EchoRow$Told" "b" "LEchoRow$Element;", Cond.fieldLink RX5 221 "EchoRow$Told" "tick" "I", Cond.methodLink RL 99 yX6_places, Cond.instanceMethod yX6_places, Cond.selects RX6 yX6_places yX6_places, Cond.code yX6_places cX6_places 2 (some .int), Cond.constantLong RX6 175 (100), Cond.methodLink RX6 177 yX6_near, Cond.instanceMethod yX6_near, Cond.selects RX6 yX6_near yX6_near, Cond.code yX6_near cX6_near 6 (some .int), Cond.methodLink RX6 171 yX6_isNear, Cond.instanceMethod yX6_isNear, Cond.selects RX6 yX6_isNear yX6_isNear, Cond.code yX6_isNear cX6_isNear 6 (some .boolean), Cond.methodLink RL 100 yX5_place]
def wsL_law_r20 : List Cond := [Cond.instanceMethod yX5_place, Cond.selects RX5 yX5_place yX5_place, Cond.code yX5_place cX5_place 6 (some .int), Cond.methodLink RL 103 yX6_place, Cond.instanceMethod yX6_place, Cond.selects RX6 yX6_place yX6_place, Cond.code yX6_place cX6_place 3 (some .int), Cond.methodLink RL 104 yX5_sheet, Cond.instanceMethod yX5_sheet, Cond.selects RX5 yX5_sheet yX5_sheet, Cond.code yX5_sheet cX5_sheet 4 (some .int), Cond.instantiable RX2 2, Cond.initialized RX2, Cond.methodLink RX5 167 yX5_noSheet, Cond.static yX5_noSheet, Cond.code yX5_noSheet cX5_noSheet 1 (some .boolean), Cond.methodLink RX5 171 yX2_init, Cond.instanceMethod yX2_init, Cond.code yX2_init cX2_init 3 none, Cond.methodLink RX2 3 objectInit, Cond.fieldLink RX2 9 "EchoRow$Sheet" "lane" "I", Cond.fieldLink RX2 15 "EchoRow$Sheet" "numbers" "[I", Cond.methodLink RL 107 yX6_sheet, Cond.instanceMethod yX6_sheet]
def wsL_law_r21 : List Cond := [Cond.selects RX6 yX6_sheet yX6_sheet, Cond.code yX6_sheet cX6_sheet 5 (some .int), Cond.methodLink RX6 189 yX6_isSheet, Cond.static yX6_isSheet, Cond.code yX6_isSheet cX6_isSheet 1 (some .boolean), Cond.constantLong RX6 181 (5), Cond.methodLink RL 108 yX5_tear, Cond.instanceMethod yX5_tear, Cond.selects RX5 yX5_tear yX5_tear, Cond.code yX5_tear cX5_tear 3 (some .int), Cond.methodLink RL 111 yX6_tear, Cond.instanceMethod yX6_tear, Cond.selects RX6 yX6_tear yX6_tear, Cond.code yX6_tear cX6_tear 3 (some .int), Cond.methodLink RL 112 yX5_record, Cond.instanceMethod yX5_record, Cond.selects RX5 yX5_record yX5_record, Cond.code yX5_record cX5_record 9 (some .int), Cond.fieldLink RX5 172 "EchoRow$Sheet" "numbers" "[I", Cond.methodLink RX5 175 yX2_nearestTo, Cond.instanceMethod yX2_nearestTo, Cond.selects RX2 yX2_nearestTo yX2_nearestTo, Cond.code yX2_nearestTo cX2_nearestTo 7 (some .int), Cond.constantLong RX2 19 (127)]
def wsL_law_r22 : List Cond := [Cond.constantLong RX2 21 (32767), Cond.constantLong RX2 23 (2147483647), Cond.methodLink RX2 25 Lib.MathLoose.min_long.x, Cond.static Lib.MathLoose.min_long.x, Cond.code Lib.MathLoose.min_long.x Lib.MathLoose.min_long.code 4 (some .long), Cond.methodLink RX2 31 Lib.MathLoose.max_long.x, Cond.static Lib.MathLoose.max_long.x, Cond.code Lib.MathLoose.max_long.x Lib.MathLoose.max_long.code 4 (some .long), Cond.methodLink RL 115 yX6_record, Cond.instanceMethod yX6_record, Cond.selects RX6 yX6_record yX6_record, Cond.code yX6_record cX6_record 6 (some .int), Cond.methodLink RX6 192 yX6_as, Cond.static yX6_as, Cond.code yX6_as cX6_as 5 (some .int), Cond.constantLong RX6 183 (127), Cond.constantLong RX6 185 (32767), Cond.constantLong RX6 187 (2147483647), Cond.methodLink RL 116 yX5_add, Cond.instanceMethod yX5_add, Cond.selects RX5 yX5_add yX5_add, Cond.code yX5_add cX5_add 12 (some .int), Cond.methodLink RX5 182 arraycopyName, Cond.native arraycopyName]
def wsL_law_r23 : List Cond := [Cond.static arraycopyName, Cond.initialized "java/lang/System", Cond.methodLink RL 119 yX6_add, Cond.instanceMethod yX6_add, Cond.selects RX6 yX6_add yX6_add, Cond.code yX6_add cX6_add 9 (some .int), Cond.methodLink RL 120 yX5_copy, Cond.instanceMethod yX5_copy, Cond.selects RX5 yX5_copy yX5_copy, Cond.code yX5_copy cX5_copy 8 (some .int), Cond.fieldLink RX5 188 "EchoRow$Sheet" "lane" "I", Cond.methodLink RX5 191 yX2_hasRun, Cond.instanceMethod yX2_hasRun, Cond.selects RX2 yX2_hasRun yX2_hasRun, Cond.code yX2_hasRun cX2_hasRun 3 (some .boolean), Cond.methodLink RL 123 yX6_copy, Cond.instanceMethod yX6_copy, Cond.selects RX6 yX6_copy yX6_copy, Cond.code yX6_copy cX6_copy 7 (some .int), Cond.methodLink RL 124 yX5_at, Cond.instanceMethod yX5_at, Cond.selects RX5 yX5_at yX5_at, Cond.code yX5_at cX5_at 4 (some .int), Cond.methodLink RL 127 yX6_at]
def wsL_law_r24 : List Cond := [Cond.instanceMethod yX6_at, Cond.selects RX6 yX6_at yX6_at, Cond.code yX6_at cX6_at 3 (some .int), Cond.methodLink RL 128 yX5_peak, Cond.instanceMethod yX5_peak, Cond.selects RX5 yX5_peak yX5_peak, Cond.code yX5_peak cX5_peak 9 (some .int), Cond.constantLong RX5 194 (-1), Cond.methodLink RX5 196 Lib.MathLoose.abs_long.x, Cond.static Lib.MathLoose.abs_long.x, Cond.code Lib.MathLoose.abs_long.x Lib.MathLoose.abs_long.code 2 (some .long), Cond.methodLink RL 131 yX6_peak, Cond.instanceMethod yX6_peak, Cond.selects RX6 yX6_peak yX6_peak, Cond.code yX6_peak cX6_peak 8 (some .int), Cond.constantLong RX6 195 (-1), Cond.methodLink RL 132 yX5_total, Cond.instanceMethod yX5_total, Cond.selects RX5 yX5_total yX5_total, Cond.code yX5_total cX5_total 2 (some .int), Cond.methodLink RX5 202 yX5_countSheets, Cond.instanceMethod yX5_countSheets, Cond.selects RX5 yX5_countSheets yX5_countSheets, Cond.code yX5_countSheets cX5_countSheets 6 (some .int)]
def wsL_law_r25 : List Cond := [Cond.methodLink RL 135 yX6_total, Cond.instanceMethod yX6_total, Cond.selects RX6 yX6_total yX6_total, Cond.code yX6_total cX6_total 4 (some .int)]
def wsL_law : List Cond := (wsL_law_r1 ++ (wsL_law_r2 ++ (wsL_law_r3 ++ (wsL_law_r4 ++ (wsL_law_r5 ++ (wsL_law_r6 ++ (wsL_law_r7 ++ (wsL_law_r8 ++ (wsL_law_r9 ++ (wsL_law_r10 ++ (wsL_law_r11 ++ (wsL_law_r12 ++ (wsL_law_r13 ++ (wsL_law_r14 ++ (wsL_law_r15 ++ (wsL_law_r16 ++ (wsL_law_r17 ++ (wsL_law_r18 ++ (wsL_law_r19 ++ (wsL_law_r20 ++ (wsL_law_r21 ++ (wsL_law_r22 ++ (wsL_law_r23 ++ (wsL_law_r24 ++ wsL_law_r25)))))))))))))))))))))))) ++ wsX50 ++ wsX60 ++ wsX10 ++ wsX30 ++ wsX00 ++ wsX40 ++ wsX20 ++ ([] : List Cond)
theorem dX0_init_0 : decode cX0_init 0 = .ok (.aload_n 0, 1) := by decide +kernel
theorem dX0_init_1 : decode cX0_init 1 = .ok (.invokespecial 1, 3) := by decide +kernel
theorem dX0_init_4 : decode cX0_init 4 = .ok (.aload_n 0, 1) := by decide +kernel
theorem dX0_init_5 : decode cX0_init 5 = .ok (.iload_n 1, 1) := by decide +kernel
theorem dX0_init_6 : decode cX0_init 6 = .ok (.putfield 7, 3) := by decide +kernel
theorem dX0_init_9 : decode cX0_init 9 = .ok (.aload_n 0, 1) := by decide +kernel
theorem dX0_init_10 : decode cX0_init 10 = .ok (.iload_n 2, 1) := by decide +kernel
theorem dX0_init_11 : decode cX0_init 11 = .ok (.putfield 13, 3) := by decide +kernel
theorem dX0_init_14 : decode cX0_init 14 = .ok (.aload_n 0, 1) := by decide +kernel
theorem dX0_init_15 : decode cX0_init 15 = .ok (.iconst 1, 1) := by decide +kernel
theorem dX0_init_16 : decode cX0_init 16 = .ok (.putfield 16, 3) := by decide +kernel
theorem dX0_init_19 : decode cX0_init 19 = .ok (.return_, 1) := by decide +kernel
set_option maxRecDepth 20000 in
theorem ggX1_init_X1_lay : GoodIn wsX1_init wsX1_lay := goodIn_r _ [14, 15, 16, 17, 9, 5, 18, 19, 13, 20, 21, 22, 23, 24, 25, 26, 27] (by decide +kernel) (by decide +kernel)
set_option maxRecDepth 20000 in
theorem gX1_init_X1_lay : GoodIn wsX1_init (wsV RX1 25 RX1 yX1_lay wsX1_lay) := goodIn_app (goodIn_of _ (by decide +kernel)) ggX1_init_X1_lay
theorem dX1_init_0 : decode cX1_init 0 = .ok (.aload_n 0, 1) := by decide +kernel
theorem dX1_init_1 : decode cX1_init 1 = .ok (.invokespecial 3, 3) := by decide +kernel
theorem dX1_init_4 : decode cX1_init 4 = .ok (.aload_n 0, 1) := by decide +kernel
theorem dX1_init_5 : decode cX1_init 5 = .ok (.bipush 51, 2) := by decide +kernel
theorem dX1_init_7 : decode cX1_init 7 = .ok (.newarray .int, 2) := by decide +kernel
theorem dX1_init_9 : decode cX1_init 9 = .ok (.putfield 9, 3) := by decide +kernel
theorem dX1_init_12 : decode cX1_init 12 = .ok (.aload_n 0, 1) := by decide +kernel
theorem dX1_init_13 : decode cX1_init 13 = .ok (.bipush 51, 2) := by decide +kernel
theorem dX1_init_15 : decode cX1_init 15 = .ok (.newarray .int, 2) := by decide +kernel
theorem dX1_init_17 : decode cX1_init 17 = .ok (.putfield 15, 3) := by decide +kernel
theorem dX1_init_20 : decode cX1_init 20 = .ok (.aload_n 0, 1) := by decide +kernel
theorem dX1_init_21 : decode cX1_init 21 = .ok (.sipush 1632, 3) := by decide +kernel
theorem dX1_init_24 : decode cX1_init 24 = .ok (.newarray .int, 2) := by decide +kernel
theorem dX1_init_26 : decode cX1_init 26 = .ok (.putfield 18, 3) := by decide +kernel
theorem dX1_init_29 : decode cX1_init 29 = .ok (.aload_n 0, 1) := by decide +kernel
theorem dX1_init_30 : decode cX1_init 30 = .ok (.bipush 32, 2) := by decide +kernel
theorem dX1_init_32 : decode cX1_init 32 = .ok (.newarray .boolean, 2) := by decide +kernel
theorem dX1_init_34 : decode cX1_init 34 = .ok (.putfield 21, 3) := by decide +kernel
theorem dX1_init_37 : decode cX1_init 37 = .ok (.aload_n 0, 1) := by decide +kernel
theorem dX1_init_38 : decode cX1_init 38 = .ok (.iconst 0, 1) := by decide +kernel
theorem dX1_init_39 : decode cX1_init 39 = .ok (.bipush 30, 2) := by decide +kernel
theorem dX1_init_41 : decode cX1_init 41 = .ok (.iconst 1, 1) := by decide +kernel
theorem dX1_init_42 : decode cX1_init 42 = .ok (.iconst 1, 1) := by decide +kernel
theorem dX1_init_43 : decode cX1_init 43 = .ok (.invokevirtual 25, 3) := by decide +kernel
theorem dX1_init_46 : decode cX1_init 46 = .ok (.return_, 1) := by decide +kernel
set_option maxRecDepth 20000 in
theorem ggX1_lay_X1_fillTicks : GoodIn wsX1_lay wsX1_fillTicks := goodIn_r _ [9] (by decide +kernel) (by decide +kernel)
set_option maxRecDepth 20000 in
theorem gX1_lay_X1_fillTicks : GoodIn wsX1_lay (va_wsS RX1 39 yX1_fillTicks wsX1_fillTicks) := goodIn_app (goodIn_of _ (by decide +kernel)) ggX1_lay_X1_fillTicks
theorem dX1_lay_0 : decode cX1_lay 0 = .ok (.aload_n 0, 1) := by decide +kernel
theorem dX1_lay_1 : decode cX1_lay 1 = .ok (.iload_n 1, 1) := by decide +kernel
theorem dX1_lay_2 : decode cX1_lay 2 = .ok (.putfield 29, 3) := by decide +kernel
theorem dX1_lay_5 : decode cX1_lay 5 = .ok (.aload_n 0, 1) := by decide +kernel
theorem dX1_lay_6 : decode cX1_lay 6 = .ok (.iload_n 2, 1) := by decide +kernel
theorem dX1_lay_7 : decode cX1_lay 7 = .ok (.putfield 33, 3) := by decide +kernel
theorem dX1_lay_10 : decode cX1_lay 10 = .ok (.aload_n 0, 1) := by decide +kernel
theorem dX1_lay_11 : decode cX1_lay 11 = .ok (.iload 4, 2) := by decide +kernel
theorem dX1_lay_13 : decode cX1_lay 13 = .ok (.putfield 36, 3) := by decide +kernel
theorem dX1_lay_16 : decode cX1_lay 16 = .ok (.iconst 0, 1) := by decide +kernel
theorem dX1_lay_17 : decode cX1_lay 17 = .ok (.istore 5, 2) := by decide +kernel
theorem dX1_lay_19 : decode cX1_lay 19 = .ok (.iload 5, 2) := by decide +kernel
theorem dX1_lay_21 : decode cX1_lay 21 = .ok (.aload_n 0, 1) := by decide +kernel
theorem dX1_lay_22 : decode cX1_lay 22 = .ok (.getfield 21, 3) := by decide +kernel
theorem dX1_lay_25 : decode cX1_lay 25 = .ok (.arraylength, 1) := by decide +kernel
theorem dX1_lay_26 : decode cX1_lay 26 = .ok (.if_icmp .ge 17, 3) := by decide +kernel
theorem dX1_lay_29 : decode cX1_lay 29 = .ok (.aload_n 0, 1) := by decide +kernel
theorem dX1_lay_30 : decode cX1_lay 30 = .ok (.getfield 21, 3) := by decide +kernel
theorem dX1_lay_33 : decode cX1_lay 33 = .ok (.iload 5, 2) := by decide +kernel
theorem dX1_lay_35 : decode cX1_lay 35 = .ok (.iconst 0, 1) := by decide +kernel
theorem dX1_lay_36 : decode cX1_lay 36 = .ok (.bastore, 1) := by decide +kernel
theorem dX1_lay_37 : decode cX1_lay 37 = .ok (.iinc 5 1, 3) := by decide +kernel
theorem dX1_lay_40 : decode cX1_lay 40 = .ok (.goto (-21), 3) := by decide +kernel
theorem dX1_lay_43 : decode cX1_lay 43 = .ok (.aload_n 0, 1) := by decide +kernel
theorem dX1_lay_44 : decode cX1_lay 44 = .ok (.getfield 9, 3) := by decide +kernel
theorem dX1_lay_47 : decode cX1_lay 47 = .ok (.iload_n 1, 1) := by decide +kernel
theorem dX1_lay_48 : decode cX1_lay 48 = .ok (.iload_n 3, 1) := by decide +kernel
theorem dX1_lay_49 : decode cX1_lay 49 = .ok (.invokestatic 39, 3) := by decide +kernel
theorem dX1_lay_52 : decode cX1_lay 52 = .ok (.return_, 1) := by decide +kernel
theorem dX1_floor_0 : decode cX1_floor 0 = .ok (.aload_n 0, 1) := by decide +kernel
theorem dX1_floor_1 : decode cX1_floor 1 = .ok (.getfield 29, 3) := by decide +kernel
theorem dX1_floor_4 : decode cX1_floor 4 = .ok (.aload_n 0, 1) := by decide +kernel
theorem dX1_floor_5 : decode cX1_floor 5 = .ok (.getfield 33, 3) := by decide +kernel
theorem dX1_floor_8 : decode cX1_floor 8 = .ok (.iadd, 1) := by decide +kernel
theorem dX1_floor_9 : decode cX1_floor 9 = .ok (.ireturn, 1) := by decide +kernel
set_option maxRecDepth 20000 in
theorem ggX1_holds_X5_outside : GoodIn wsX1_holds wsX5_outside := goodIn_r _ [5] (by decide +kernel) (by decide +kernel)
set_option maxRecDepth 20000 in
theorem gX1_holds_X5_outside_n43 : GoodIn wsX1_holds (wsX5_outside) := ggX1_holds_X5_outside
theorem dX1_holds_0 : decode cX1_holds 0 = .ok (.iload_n 1, 1) := by decide +kernel
theorem dX1_holds_1 : decode cX1_holds 1 = .ok (.iconst 0, 1) := by decide +kernel
theorem dX1_holds_2 : decode cX1_holds 2 = .ok (.bipush 50, 2) := by decide +kernel
theorem dX1_holds_4 : decode cX1_holds 4 = .ok (.invokestatic 43, 3) := by decide +kernel
theorem dX1_holds_7 : decode cX1_holds 7 = .ok (.ifCond .ne 27, 3) := by decide +kernel
theorem dX1_holds_10 : decode cX1_holds 10 = .ok (.iload_n 2, 1) := by decide +kernel
theorem dX1_holds_11 : decode cX1_holds 11 = .ok (.aload_n 0, 1) := by decide +kernel
theorem dX1_holds_12 : decode cX1_holds 12 = .ok (.getfield 29, 3) := by decide +kernel
theorem dX1_holds_15 : decode cX1_holds 15 = .ok (.aload_n 0, 1) := by decide +kernel
theorem dX1_holds_16 : decode cX1_holds 16 = .ok (.getfield 29, 3) := by decide +kernel
theorem dX1_holds_19 : decode cX1_holds 19 = .ok (.aload_n 0, 1) := by decide +kernel
theorem dX1_holds_20 : decode cX1_holds 20 = .ok (.getfield 33, 3) := by decide +kernel
theorem dX1_holds_23 : decode cX1_holds 23 = .ok (.iadd, 1) := by decide +kernel
theorem dX1_holds_24 : decode cX1_holds 24 = .ok (.invokestatic 43, 3) := by decide +kernel
theorem dX1_holds_27 : decode cX1_holds 27 = .ok (.ifCond .ne 7, 3) := by decide +kernel
theorem dX1_holds_30 : decode cX1_holds 30 = .ok (.iconst 1, 1) := by decide +kernel
theorem dX1_holds_31 : decode cX1_holds 31 = .ok (.goto 4, 3) := by decide +kernel
theorem dX1_holds_34 : decode cX1_holds 34 = .ok (.iconst 0, 1) := by decide +kernel
theorem dX1_holds_35 : decode cX1_holds 35 = .ok (.ireturn, 1) := by decide +kernel
set_option maxRecDepth 20000 in
theorem ggX1_timeTo_X5_outside : GoodIn wsX1_timeTo wsX5_outside := goodIn_r _ [12] (by decide +kernel) (by decide +kernel)
set_option maxRecDepth 20000 in
theorem gX1_timeTo_X5_outside_n43 : GoodIn wsX1_timeTo (wsX5_outside) := ggX1_timeTo_X5_outside
set_option maxRecDepth 20000 in
theorem ggX1_timeTo_X1_fillTimes : GoodIn wsX1_timeTo wsX1_fillTimes := goodIn_r _ [17, 18, 19, 20, 21, 22, 4, 23, 9, 7, 10, 11, 12, 24, 25, 16, 26, 27, 28, 29, 30, 31, 32, 33] (by decide +kernel) (by decide +kernel)
set_option maxRecDepth 20000 in
theorem gX1_timeTo_X1_fillTimes : GoodIn wsX1_timeTo (wsV RX1 54 RX1 yX1_fillTimes wsX1_fillTimes) := goodIn_app (goodIn_of _ (by decide +kernel)) ggX1_timeTo_X1_fillTimes
theorem dX1_timeTo_0 : decode cX1_timeTo 0 = .ok (.iload_n 3, 1) := by decide +kernel
theorem dX1_timeTo_1 : decode cX1_timeTo 1 = .ok (.aload_n 0, 1) := by decide +kernel
theorem dX1_timeTo_2 : decode cX1_timeTo 2 = .ok (.getfield 29, 3) := by decide +kernel
theorem dX1_timeTo_5 : decode cX1_timeTo 5 = .ok (.isub, 1) := by decide +kernel
theorem dX1_timeTo_6 : decode cX1_timeTo 6 = .ok (.istore 4, 2) := by decide +kernel
theorem dX1_timeTo_8 : decode cX1_timeTo 8 = .ok (.iload_n 1, 1) := by decide +kernel
theorem dX1_timeTo_9 : decode cX1_timeTo 9 = .ok (.iload_n 2, 1) := by decide +kernel
theorem dX1_timeTo_10 : decode cX1_timeTo 10 = .ok (.isub, 1) := by decide +kernel
theorem dX1_timeTo_11 : decode cX1_timeTo 11 = .ok (.invokestatic 47, 3) := by decide +kernel
theorem dX1_timeTo_14 : decode cX1_timeTo 14 = .ok (.istore 5, 2) := by decide +kernel
theorem dX1_timeTo_16 : decode cX1_timeTo 16 = .ok (.iload 4, 2) := by decide +kernel
theorem dX1_timeTo_18 : decode cX1_timeTo 18 = .ok (.iconst 0, 1) := by decide +kernel
theorem dX1_timeTo_19 : decode cX1_timeTo 19 = .ok (.bipush 30, 2) := by decide +kernel
theorem dX1_timeTo_21 : decode cX1_timeTo 21 = .ok (.invokestatic 43, 3) := by decide +kernel
theorem dX1_timeTo_24 : decode cX1_timeTo 24 = .ok (.ifCond .ne 14, 3) := by decide +kernel
theorem dX1_timeTo_27 : decode cX1_timeTo 27 = .ok (.iload 5, 2) := by decide +kernel
theorem dX1_timeTo_29 : decode cX1_timeTo 29 = .ok (.iconst 0, 1) := by decide +kernel
theorem dX1_timeTo_30 : decode cX1_timeTo 30 = .ok (.bipush 50, 2) := by decide +kernel
theorem dX1_timeTo_32 : decode cX1_timeTo 32 = .ok (.invokestatic 43, 3) := by decide +kernel
theorem dX1_timeTo_35 : decode cX1_timeTo 35 = .ok (.ifCond .eq 6, 3) := by decide +kernel
theorem dX1_timeTo_38 : decode cX1_timeTo 38 = .ok (.ldc 53, 2) := by decide +kernel
theorem dX1_timeTo_40 : decode cX1_timeTo 40 = .ok (.ireturn, 1) := by decide +kernel
theorem dX1_timeTo_41 : decode cX1_timeTo 41 = .ok (.aload_n 0, 1) := by decide +kernel
theorem dX1_timeTo_42 : decode cX1_timeTo 42 = .ok (.getfield 21, 3) := by decide +kernel
theorem dX1_timeTo_45 : decode cX1_timeTo 45 = .ok (.iload 4, 2) := by decide +kernel
theorem dX1_timeTo_47 : decode cX1_timeTo 47 = .ok (.baload, 1) := by decide +kernel
theorem dX1_timeTo_48 : decode cX1_timeTo 48 = .ok (.ifCond .ne 15, 3) := by decide +kernel
theorem dX1_timeTo_51 : decode cX1_timeTo 51 = .ok (.aload_n 0, 1) := by decide +kernel
theorem dX1_timeTo_52 : decode cX1_timeTo 52 = .ok (.iload 4, 2) := by decide +kernel
theorem dX1_timeTo_54 : decode cX1_timeTo 54 = .ok (.iload 4, 2) := by decide +kernel
theorem dX1_timeTo_56 : decode cX1_timeTo 56 = .ok (.aload_n 0, 1) := by decide +kernel
theorem dX1_timeTo_57 : decode cX1_timeTo 57 = .ok (.getfield 36, 3) := by decide +kernel
theorem dX1_timeTo_60 : decode cX1_timeTo 60 = .ok (.invokevirtual 54, 3) := by decide +kernel
theorem dX1_timeTo_63 : decode cX1_timeTo 63 = .ok (.aload_n 0, 1) := by decide +kernel
theorem dX1_timeTo_64 : decode cX1_timeTo 64 = .ok (.getfield 18, 3) := by decide +kernel
theorem dX1_timeTo_67 : decode cX1_timeTo 67 = .ok (.iload 4, 2) := by decide +kernel
theorem dX1_timeTo_69 : decode cX1_timeTo 69 = .ok (.bipush 51, 2) := by decide +kernel
theorem dX1_timeTo_71 : decode cX1_timeTo 71 = .ok (.imul, 1) := by decide +kernel
theorem dX1_timeTo_72 : decode cX1_timeTo 72 = .ok (.iload 5, 2) := by decide +kernel
theorem dX1_timeTo_74 : decode cX1_timeTo 74 = .ok (.iadd, 1) := by decide +kernel
theorem dX1_timeTo_75 : decode cX1_timeTo 75 = .ok (.iaload, 1) := by decide +kernel
theorem dX1_timeTo_76 : decode cX1_timeTo 76 = .ok (.ireturn, 1) := by decide +kernel
set_option maxRecDepth 20000 in
theorem ggX1_bendTo_X1_timeTo : GoodIn wsX1_bendTo wsX1_timeTo := goodIn_r _ [14, 2, 4, 5, 6, 7, 9, 15, 3, 16, 17, 18, 19, 20, 21, 22, 13, 23, 1, 24, 8, 25, 26, 27, 28, 29, 30, 31, 32, 33, 34, 35, 36, 37] (by decide +kernel) (by decide +kernel)
set_option maxRecDepth 20000 in
theorem gX1_bendTo_X1_timeTo : GoodIn wsX1_bendTo (wsV RX1 58 RX1 yX1_timeTo wsX1_timeTo) := goodIn_app (goodIn_of _ (by decide +kernel)) ggX1_bendTo_X1_timeTo
set_option maxRecDepth 20000 in
theorem ggX1_bendTo_X1_fillTicks : GoodIn wsX1_bendTo wsX1_fillTicks := goodIn_r _ [30] (by decide +kernel) (by decide +kernel)
set_option maxRecDepth 20000 in
theorem gX1_bendTo_X1_fillTicks : GoodIn wsX1_bendTo (va_wsS RX1 39 yX1_fillTicks wsX1_fillTicks) := goodIn_app (goodIn_of _ (by decide +kernel)) ggX1_bendTo_X1_fillTicks
theorem dX1_bendTo_0 : decode cX1_bendTo 0 = .ok (.aload_n 0, 1) := by decide +kernel
theorem dX1_bendTo_1 : decode cX1_bendTo 1 = .ok (.iload_n 1, 1) := by decide +kernel
theorem dX1_bendTo_2 : decode cX1_bendTo 2 = .ok (.iload_n 2, 1) := by decide +kernel
theorem dX1_bendTo_3 : decode cX1_bendTo 3 = .ok (.iload_n 3, 1) := by decide +kernel
theorem dX1_bendTo_4 : decode cX1_bendTo 4 = .ok (.invokevirtual 58, 3) := by decide +kernel
theorem dX1_bendTo_7 : decode cX1_bendTo 7 = .ok (.istore 4, 2) := by decide +kernel
theorem dX1_bendTo_9 : decode cX1_bendTo 9 = .ok (.aload_n 0, 1) := by decide +kernel
theorem dX1_bendTo_10 : decode cX1_bendTo 10 = .ok (.getfield 15, 3) := by decide +kernel
theorem dX1_bendTo_13 : decode cX1_bendTo 13 = .ok (.iload_n 3, 1) := by decide +kernel
theorem dX1_bendTo_14 : decode cX1_bendTo 14 = .ok (.aload_n 0, 1) := by decide +kernel
theorem dX1_bendTo_15 : decode cX1_bendTo 15 = .ok (.getfield 29, 3) := by decide +kernel
theorem dX1_bendTo_18 : decode cX1_bendTo 18 = .ok (.isub, 1) := by decide +kernel
theorem dX1_bendTo_19 : decode cX1_bendTo 19 = .ok (.aload_n 0, 1) := by decide +kernel
theorem dX1_bendTo_20 : decode cX1_bendTo 20 = .ok (.getfield 36, 3) := by decide +kernel
theorem dX1_bendTo_23 : decode cX1_bendTo 23 = .ok (.invokestatic 39, 3) := by decide +kernel
theorem dX1_bendTo_26 : decode cX1_bendTo 26 = .ok (.iconst 0, 1) := by decide +kernel
theorem dX1_bendTo_27 : decode cX1_bendTo 27 = .ok (.istore 5, 2) := by decide +kernel
theorem dX1_bendTo_29 : decode cX1_bendTo 29 = .ok (.iload 5, 2) := by decide +kernel
theorem dX1_bendTo_31 : decode cX1_bendTo 31 = .ok (.bipush 50, 2) := by decide +kernel
theorem dX1_bendTo_33 : decode cX1_bendTo 33 = .ok (.if_icmp .gt 82, 3) := by decide +kernel
theorem dX1_bendTo_36 : decode cX1_bendTo 36 = .ok (.iload_n 1, 1) := by decide +kernel
theorem dX1_bendTo_37 : decode cX1_bendTo 37 = .ok (.iload 5, 2) := by decide +kernel
theorem dX1_bendTo_39 : decode cX1_bendTo 39 = .ok (.isub, 1) := by decide +kernel
theorem dX1_bendTo_40 : decode cX1_bendTo 40 = .ok (.invokestatic 47, 3) := by decide +kernel
theorem dX1_bendTo_43 : decode cX1_bendTo 43 = .ok (.istore 6, 2) := by decide +kernel
theorem dX1_bendTo_45 : decode cX1_bendTo 45 = .ok (.iload 5, 2) := by decide +kernel
theorem dX1_bendTo_47 : decode cX1_bendTo 47 = .ok (.iload_n 2, 1) := by decide +kernel
theorem dX1_bendTo_48 : decode cX1_bendTo 48 = .ok (.isub, 1) := by decide +kernel
theorem dX1_bendTo_49 : decode cX1_bendTo 49 = .ok (.invokestatic 47, 3) := by decide +kernel
theorem dX1_bendTo_52 : decode cX1_bendTo 52 = .ok (.istore 7, 2) := by decide +kernel
theorem dX1_bendTo_54 : decode cX1_bendTo 54 = .ok (.iload 6, 2) := by decide +kernel
theorem dX1_bendTo_56 : decode cX1_bendTo 56 = .ok (.aload_n 0, 1) := by decide +kernel
theorem dX1_bendTo_57 : decode cX1_bendTo 57 = .ok (.getfield 9, 3) := by decide +kernel
theorem dX1_bendTo_60 : decode cX1_bendTo 60 = .ok (.arraylength, 1) := by decide +kernel
theorem dX1_bendTo_61 : decode cX1_bendTo 61 = .ok (.if_icmp .ge 17, 3) := by decide +kernel
theorem dX1_bendTo_64 : decode cX1_bendTo 64 = .ok (.iload 7, 2) := by decide +kernel
theorem dX1_bendTo_66 : decode cX1_bendTo 66 = .ok (.aload_n 0, 1) := by decide +kernel
theorem dX1_bendTo_67 : decode cX1_bendTo 67 = .ok (.getfield 15, 3) := by decide +kernel
theorem dX1_bendTo_70 : decode cX1_bendTo 70 = .ok (.arraylength, 1) := by decide +kernel
theorem dX1_bendTo_71 : decode cX1_bendTo 71 = .ok (.if_icmp .ge 7, 3) := by decide +kernel
theorem dX1_bendTo_74 : decode cX1_bendTo 74 = .ok (.iconst 1, 1) := by decide +kernel
theorem dX1_bendTo_75 : decode cX1_bendTo 75 = .ok (.goto 4, 3) := by decide +kernel
theorem dX1_bendTo_78 : decode cX1_bendTo 78 = .ok (.iconst 0, 1) := by decide +kernel
theorem dX1_bendTo_79 : decode cX1_bendTo 79 = .ok (.istore 8, 2) := by decide +kernel
theorem dX1_bendTo_81 : decode cX1_bendTo 81 = .ok (.iload 8, 2) := by decide +kernel
theorem dX1_bendTo_83 : decode cX1_bendTo 83 = .ok (.ifCond .eq 26, 3) := by decide +kernel
theorem dX1_bendTo_86 : decode cX1_bendTo 86 = .ok (.aload_n 0, 1) := by decide +kernel
theorem dX1_bendTo_87 : decode cX1_bendTo 87 = .ok (.getfield 9, 3) := by decide +kernel
theorem dX1_bendTo_90 : decode cX1_bendTo 90 = .ok (.iload 6, 2) := by decide +kernel
theorem dX1_bendTo_92 : decode cX1_bendTo 92 = .ok (.iaload, 1) := by decide +kernel
theorem dX1_bendTo_93 : decode cX1_bendTo 93 = .ok (.aload_n 0, 1) := by decide +kernel
theorem dX1_bendTo_94 : decode cX1_bendTo 94 = .ok (.getfield 15, 3) := by decide +kernel
theorem dX1_bendTo_97 : decode cX1_bendTo 97 = .ok (.iload 7, 2) := by decide +kernel
theorem dX1_bendTo_99 : decode cX1_bendTo 99 = .ok (.iaload, 1) := by decide +kernel
theorem dX1_bendTo_100 : decode cX1_bendTo 100 = .ok (.iadd, 1) := by decide +kernel
theorem dX1_bendTo_101 : decode cX1_bendTo 101 = .ok (.iload 4, 2) := by decide +kernel
theorem dX1_bendTo_103 : decode cX1_bendTo 103 = .ok (.if_icmp .ne 6, 3) := by decide +kernel
theorem dX1_bendTo_106 : decode cX1_bendTo 106 = .ok (.iload 5, 2) := by decide +kernel
theorem dX1_bendTo_108 : decode cX1_bendTo 108 = .ok (.ireturn, 1) := by decide +kernel
theorem dX1_bendTo_109 : decode cX1_bendTo 109 = .ok (.iinc 5 1, 3) := by decide +kernel
theorem dX1_bendTo_112 : decode cX1_bendTo 112 = .ok (.goto (-83), 3) := by decide +kernel
theorem dX1_bendTo_115 : decode cX1_bendTo 115 = .ok (.ldc 53, 2) := by decide +kernel
theorem dX1_bendTo_117 : decode cX1_bendTo 117 = .ok (.ireturn, 1) := by decide +kernel
set_option maxRecDepth 20000 in
theorem ggX1_wallTime_X1_fillTimes : GoodIn wsX1_wallTime wsX1_fillTimes := goodIn_r _ [15, 16, 2, 17, 8, 9, 5, 10, 7, 18, 19, 20, 21, 22, 23, 14, 24, 25, 26, 27, 28, 29, 30, 31] (by decide +kernel) (by decide +kernel)
set_option maxRecDepth 20000 in
theorem gX1_wallTime_X1_fillTimes : GoodIn wsX1_wallTime (wsV RX1 54 RX1 yX1_fillTimes wsX1_fillTimes) := goodIn_app (goodIn_of _ (by decide +kernel)) ggX1_wallTime_X1_fillTimes
theorem dX1_wallTime_0 : decode cX1_wallTime 0 = .ok (.aload_n 0, 1) := by decide +kernel
theorem dX1_wallTime_1 : decode cX1_wallTime 1 = .ok (.bipush 31, 2) := by decide +kernel
theorem dX1_wallTime_3 : decode cX1_wallTime 3 = .ok (.aload_n 0, 1) := by decide +kernel
theorem dX1_wallTime_4 : decode cX1_wallTime 4 = .ok (.getfield 33, 3) := by decide +kernel
theorem dX1_wallTime_7 : decode cX1_wallTime 7 = .ok (.iload_n 3, 1) := by decide +kernel
theorem dX1_wallTime_8 : decode cX1_wallTime 8 = .ok (.invokevirtual 54, 3) := by decide +kernel
theorem dX1_wallTime_11 : decode cX1_wallTime 11 = .ok (.ldc 62, 2) := by decide +kernel
theorem dX1_wallTime_13 : decode cX1_wallTime 13 = .ok (.istore 4, 2) := by decide +kernel
theorem dX1_wallTime_15 : decode cX1_wallTime 15 = .ok (.iconst 0, 1) := by decide +kernel
theorem dX1_wallTime_16 : decode cX1_wallTime 16 = .ok (.istore 5, 2) := by decide +kernel
theorem dX1_wallTime_18 : decode cX1_wallTime 18 = .ok (.iload 5, 2) := by decide +kernel
theorem dX1_wallTime_20 : decode cX1_wallTime 20 = .ok (.bipush 50, 2) := by decide +kernel
theorem dX1_wallTime_22 : decode cX1_wallTime 22 = .ok (.if_icmp .gt 71, 3) := by decide +kernel
theorem dX1_wallTime_25 : decode cX1_wallTime 25 = .ok (.iload_n 1, 1) := by decide +kernel
theorem dX1_wallTime_26 : decode cX1_wallTime 26 = .ok (.iload 5, 2) := by decide +kernel
theorem dX1_wallTime_28 : decode cX1_wallTime 28 = .ok (.isub, 1) := by decide +kernel
theorem dX1_wallTime_29 : decode cX1_wallTime 29 = .ok (.invokestatic 47, 3) := by decide +kernel
theorem dX1_wallTime_32 : decode cX1_wallTime 32 = .ok (.istore 6, 2) := by decide +kernel
theorem dX1_wallTime_34 : decode cX1_wallTime 34 = .ok (.iload_n 2, 1) := by decide +kernel
theorem dX1_wallTime_35 : decode cX1_wallTime 35 = .ok (.iload 5, 2) := by decide +kernel
theorem dX1_wallTime_37 : decode cX1_wallTime 37 = .ok (.isub, 1) := by decide +kernel
theorem dX1_wallTime_38 : decode cX1_wallTime 38 = .ok (.invokestatic 47, 3) := by decide +kernel
theorem dX1_wallTime_41 : decode cX1_wallTime 41 = .ok (.istore 7, 2) := by decide +kernel
theorem dX1_wallTime_43 : decode cX1_wallTime 43 = .ok (.iload 6, 2) := by decide +kernel
theorem dX1_wallTime_45 : decode cX1_wallTime 45 = .ok (.bipush 50, 2) := by decide +kernel
theorem dX1_wallTime_47 : decode cX1_wallTime 47 = .ok (.if_icmp .gt 40, 3) := by decide +kernel
theorem dX1_wallTime_50 : decode cX1_wallTime 50 = .ok (.iload 7, 2) := by decide +kernel
theorem dX1_wallTime_52 : decode cX1_wallTime 52 = .ok (.bipush 50, 2) := by decide +kernel
theorem dX1_wallTime_54 : decode cX1_wallTime 54 = .ok (.if_icmp .gt 33, 3) := by decide +kernel
theorem dX1_wallTime_57 : decode cX1_wallTime 57 = .ok (.iload 4, 2) := by decide +kernel
theorem dX1_wallTime_59 : decode cX1_wallTime 59 = .ok (.aload_n 0, 1) := by decide +kernel
theorem dX1_wallTime_60 : decode cX1_wallTime 60 = .ok (.getfield 18, 3) := by decide +kernel
theorem dX1_wallTime_63 : decode cX1_wallTime 63 = .ok (.sipush 1581, 3) := by decide +kernel
theorem dX1_wallTime_66 : decode cX1_wallTime 66 = .ok (.iload 6, 2) := by decide +kernel
theorem dX1_wallTime_68 : decode cX1_wallTime 68 = .ok (.iadd, 1) := by decide +kernel
theorem dX1_wallTime_69 : decode cX1_wallTime 69 = .ok (.iaload, 1) := by decide +kernel
theorem dX1_wallTime_70 : decode cX1_wallTime 70 = .ok (.aload_n 0, 1) := by decide +kernel
theorem dX1_wallTime_71 : decode cX1_wallTime 71 = .ok (.getfield 18, 3) := by decide +kernel
theorem dX1_wallTime_74 : decode cX1_wallTime 74 = .ok (.sipush 1581, 3) := by decide +kernel
theorem dX1_wallTime_77 : decode cX1_wallTime 77 = .ok (.iload 7, 2) := by decide +kernel
theorem dX1_wallTime_79 : decode cX1_wallTime 79 = .ok (.iadd, 1) := by decide +kernel
theorem dX1_wallTime_80 : decode cX1_wallTime 80 = .ok (.iaload, 1) := by decide +kernel
theorem dX1_wallTime_81 : decode cX1_wallTime 81 = .ok (.iadd, 1) := by decide +kernel
theorem dX1_wallTime_82 : decode cX1_wallTime 82 = .ok (.invokestatic 63, 3) := by decide +kernel
theorem dX1_wallTime_85 : decode cX1_wallTime 85 = .ok (.istore 4, 2) := by decide +kernel
theorem dX1_wallTime_87 : decode cX1_wallTime 87 = .ok (.iinc 5 1, 3) := by decide +kernel
theorem dX1_wallTime_90 : decode cX1_wallTime 90 = .ok (.goto (-72), 3) := by decide +kernel
theorem dX1_wallTime_93 : decode cX1_wallTime 93 = .ok (.iload 4, 2) := by decide +kernel
theorem dX1_wallTime_95 : decode cX1_wallTime 95 = .ok (.ireturn, 1) := by decide +kernel
set_option maxRecDepth 20000 in
theorem ggX1_fillTimes_X5_outside : GoodIn wsX1_fillTimes wsX5_outside := goodIn_r _ [12] (by decide +kernel) (by decide +kernel)
set_option maxRecDepth 20000 in
theorem gX1_fillTimes_X5_outside_n43 : GoodIn wsX1_fillTimes (wsX5_outside) := ggX1_fillTimes_X5_outside
set_option maxRecDepth 20000 in
theorem ggX1_fillTimes_X1_fillTicks : GoodIn wsX1_fillTimes wsX1_fillTicks := goodIn_r _ [16] (by decide +kernel) (by decide +kernel)
set_option maxRecDepth 20000 in
theorem gX1_fillTimes_X1_fillTicks : GoodIn wsX1_fillTimes (va_wsS RX1 39 yX1_fillTicks wsX1_fillTicks) := goodIn_app (goodIn_of _ (by decide +kernel)) ggX1_fillTimes_X1_fillTicks
theorem dX1_fillTimes_0 : decode cX1_fillTimes 0 = .ok (.iload_n 1, 1) := by decide +kernel
theorem dX1_fillTimes_1 : decode cX1_fillTimes 1 = .ok (.iconst 0, 1) := by decide +kernel
theorem dX1_fillTimes_2 : decode cX1_fillTimes 2 = .ok (.bipush 31, 2) := by decide +kernel
theorem dX1_fillTimes_4 : decode cX1_fillTimes 4 = .ok (.invokestatic 43, 3) := by decide +kernel
theorem dX1_fillTimes_7 : decode cX1_fillTimes 7 = .ok (.ifCond .eq 4, 3) := by decide +kernel
theorem dX1_fillTimes_10 : decode cX1_fillTimes 10 = .ok (.return_, 1) := by decide +kernel
theorem dX1_fillTimes_11 : decode cX1_fillTimes 11 = .ok (.aload_n 0, 1) := by decide +kernel
theorem dX1_fillTimes_12 : decode cX1_fillTimes 12 = .ok (.getfield 15, 3) := by decide +kernel
theorem dX1_fillTimes_15 : decode cX1_fillTimes 15 = .ok (.iload_n 2, 1) := by decide +kernel
theorem dX1_fillTimes_16 : decode cX1_fillTimes 16 = .ok (.iload_n 3, 1) := by decide +kernel
theorem dX1_fillTimes_17 : decode cX1_fillTimes 17 = .ok (.invokestatic 39, 3) := by decide +kernel
theorem dX1_fillTimes_20 : decode cX1_fillTimes 20 = .ok (.iconst 0, 1) := by decide +kernel
theorem dX1_fillTimes_21 : decode cX1_fillTimes 21 = .ok (.istore 4, 2) := by decide +kernel
theorem dX1_fillTimes_23 : decode cX1_fillTimes 23 = .ok (.iload 4, 2) := by decide +kernel
theorem dX1_fillTimes_25 : decode cX1_fillTimes 25 = .ok (.bipush 50, 2) := by decide +kernel
theorem dX1_fillTimes_27 : decode cX1_fillTimes 27 = .ok (.if_icmp .gt 68, 3) := by decide +kernel
theorem dX1_fillTimes_30 : decode cX1_fillTimes 30 = .ok (.ldc 62, 2) := by decide +kernel
theorem dX1_fillTimes_32 : decode cX1_fillTimes 32 = .ok (.istore 5, 2) := by decide +kernel
theorem dX1_fillTimes_34 : decode cX1_fillTimes 34 = .ok (.iconst 0, 1) := by decide +kernel
theorem dX1_fillTimes_35 : decode cX1_fillTimes 35 = .ok (.istore 6, 2) := by decide +kernel
theorem dX1_fillTimes_37 : decode cX1_fillTimes 37 = .ok (.iload 6, 2) := by decide +kernel
theorem dX1_fillTimes_39 : decode cX1_fillTimes 39 = .ok (.iload 4, 2) := by decide +kernel
theorem dX1_fillTimes_41 : decode cX1_fillTimes 41 = .ok (.if_icmp .gt 34, 3) := by decide +kernel
theorem dX1_fillTimes_44 : decode cX1_fillTimes 44 = .ok (.iload 5, 2) := by decide +kernel
theorem dX1_fillTimes_46 : decode cX1_fillTimes 46 = .ok (.aload_n 0, 1) := by decide +kernel
theorem dX1_fillTimes_47 : decode cX1_fillTimes 47 = .ok (.getfield 9, 3) := by decide +kernel
theorem dX1_fillTimes_50 : decode cX1_fillTimes 50 = .ok (.iload 6, 2) := by decide +kernel
theorem dX1_fillTimes_52 : decode cX1_fillTimes 52 = .ok (.iaload, 1) := by decide +kernel
theorem dX1_fillTimes_53 : decode cX1_fillTimes 53 = .ok (.aload_n 0, 1) := by decide +kernel
theorem dX1_fillTimes_54 : decode cX1_fillTimes 54 = .ok (.getfield 15, 3) := by decide +kernel
theorem dX1_fillTimes_57 : decode cX1_fillTimes 57 = .ok (.iload 4, 2) := by decide +kernel
theorem dX1_fillTimes_59 : decode cX1_fillTimes 59 = .ok (.iload 6, 2) := by decide +kernel
theorem dX1_fillTimes_61 : decode cX1_fillTimes 61 = .ok (.isub, 1) := by decide +kernel
theorem dX1_fillTimes_62 : decode cX1_fillTimes 62 = .ok (.iaload, 1) := by decide +kernel
theorem dX1_fillTimes_63 : decode cX1_fillTimes 63 = .ok (.iadd, 1) := by decide +kernel
theorem dX1_fillTimes_64 : decode cX1_fillTimes 64 = .ok (.invokestatic 63, 3) := by decide +kernel
theorem dX1_fillTimes_67 : decode cX1_fillTimes 67 = .ok (.istore 5, 2) := by decide +kernel
theorem dX1_fillTimes_69 : decode cX1_fillTimes 69 = .ok (.iinc 6 1, 3) := by decide +kernel
theorem dX1_fillTimes_72 : decode cX1_fillTimes 72 = .ok (.goto (-35), 3) := by decide +kernel
theorem dX1_fillTimes_75 : decode cX1_fillTimes 75 = .ok (.aload_n 0, 1) := by decide +kernel
theorem dX1_fillTimes_76 : decode cX1_fillTimes 76 = .ok (.getfield 18, 3) := by decide +kernel
theorem dX1_fillTimes_79 : decode cX1_fillTimes 79 = .ok (.iload_n 1, 1) := by decide +kernel
theorem dX1_fillTimes_80 : decode cX1_fillTimes 80 = .ok (.bipush 51, 2) := by decide +kernel
theorem dX1_fillTimes_82 : decode cX1_fillTimes 82 = .ok (.imul, 1) := by decide +kernel
theorem dX1_fillTimes_83 : decode cX1_fillTimes 83 = .ok (.iload 4, 2) := by decide +kernel
theorem dX1_fillTimes_85 : decode cX1_fillTimes 85 = .ok (.iadd, 1) := by decide +kernel
theorem dX1_fillTimes_86 : decode cX1_fillTimes 86 = .ok (.iload 5, 2) := by decide +kernel
theorem dX1_fillTimes_88 : decode cX1_fillTimes 88 = .ok (.iastore, 1) := by decide +kernel
theorem dX1_fillTimes_89 : decode cX1_fillTimes 89 = .ok (.iinc 4 1, 3) := by decide +kernel
theorem dX1_fillTimes_92 : decode cX1_fillTimes 92 = .ok (.goto (-69), 3) := by decide +kernel
theorem dX1_fillTimes_95 : decode cX1_fillTimes 95 = .ok (.aload_n 0, 1) := by decide +kernel
theorem dX1_fillTimes_96 : decode cX1_fillTimes 96 = .ok (.getfield 21, 3) := by decide +kernel
theorem dX1_fillTimes_99 : decode cX1_fillTimes 99 = .ok (.iload_n 1, 1) := by decide +kernel
theorem dX1_fillTimes_100 : decode cX1_fillTimes 100 = .ok (.iconst 1, 1) := by decide +kernel
theorem dX1_fillTimes_101 : decode cX1_fillTimes 101 = .ok (.bastore, 1) := by decide +kernel
theorem dX1_fillTimes_102 : decode cX1_fillTimes 102 = .ok (.return_, 1) := by decide +kernel
theorem dX1_fillTicks_0 : decode cX1_fillTicks 0 = .ok (.iconst 0, 1) := by decide +kernel
theorem dX1_fillTicks_1 : decode cX1_fillTicks 1 = .ok (.istore_n 3, 1) := by decide +kernel
theorem dX1_fillTicks_2 : decode cX1_fillTicks 2 = .ok (.iconst 0, 1) := by decide +kernel
theorem dX1_fillTicks_3 : decode cX1_fillTicks 3 = .ok (.istore 4, 2) := by decide +kernel
theorem dX1_fillTicks_5 : decode cX1_fillTicks 5 = .ok (.iload 4, 2) := by decide +kernel
theorem dX1_fillTicks_7 : decode cX1_fillTicks 7 = .ok (.aload_n 0, 1) := by decide +kernel
theorem dX1_fillTicks_8 : decode cX1_fillTicks 8 = .ok (.arraylength, 1) := by decide +kernel
theorem dX1_fillTicks_9 : decode cX1_fillTicks 9 = .ok (.if_icmp .ge 54, 3) := by decide +kernel
theorem dX1_fillTicks_12 : decode cX1_fillTicks 12 = .ok (.iload_n 2, 1) := by decide +kernel
theorem dX1_fillTicks_13 : decode cX1_fillTicks 13 = .ok (.iload_n 2, 1) := by decide +kernel
theorem dX1_fillTicks_14 : decode cX1_fillTicks 14 = .ok (.imul, 1) := by decide +kernel
theorem dX1_fillTicks_15 : decode cX1_fillTicks 15 = .ok (.iload 4, 2) := by decide +kernel
theorem dX1_fillTicks_17 : decode cX1_fillTicks 17 = .ok (.iload 4, 2) := by decide +kernel
theorem dX1_fillTicks_19 : decode cX1_fillTicks 19 = .ok (.imul, 1) := by decide +kernel
theorem dX1_fillTicks_20 : decode cX1_fillTicks 20 = .ok (.iload_n 1, 1) := by decide +kernel
theorem dX1_fillTicks_21 : decode cX1_fillTicks 21 = .ok (.iload_n 1, 1) := by decide +kernel
theorem dX1_fillTicks_22 : decode cX1_fillTicks 22 = .ok (.imul, 1) := by decide +kernel
theorem dX1_fillTicks_23 : decode cX1_fillTicks 23 = .ok (.iadd, 1) := by decide +kernel
theorem dX1_fillTicks_24 : decode cX1_fillTicks 24 = .ok (.imul, 1) := by decide +kernel
theorem dX1_fillTicks_25 : decode cX1_fillTicks 25 = .ok (.istore 5, 2) := by decide +kernel
theorem dX1_fillTicks_27 : decode cX1_fillTicks 27 = .ok (.iload_n 3, 1) := by decide +kernel
theorem dX1_fillTicks_28 : decode cX1_fillTicks 28 = .ok (.sipush 640, 3) := by decide +kernel
theorem dX1_fillTicks_31 : decode cX1_fillTicks 31 = .ok (.if_icmp .ge 21, 3) := by decide +kernel
theorem dX1_fillTicks_34 : decode cX1_fillTicks 34 = .ok (.iload_n 3, 1) := by decide +kernel
theorem dX1_fillTicks_35 : decode cX1_fillTicks 35 = .ok (.iconst 1, 1) := by decide +kernel
theorem dX1_fillTicks_36 : decode cX1_fillTicks 36 = .ok (.iadd, 1) := by decide +kernel
theorem dX1_fillTicks_37 : decode cX1_fillTicks 37 = .ok (.iload_n 3, 1) := by decide +kernel
theorem dX1_fillTicks_38 : decode cX1_fillTicks 38 = .ok (.iconst 1, 1) := by decide +kernel
theorem dX1_fillTicks_39 : decode cX1_fillTicks 39 = .ok (.iadd, 1) := by decide +kernel
theorem dX1_fillTicks_40 : decode cX1_fillTicks 40 = .ok (.imul, 1) := by decide +kernel
theorem dX1_fillTicks_41 : decode cX1_fillTicks 41 = .ok (.iload 5, 2) := by decide +kernel
theorem dX1_fillTicks_43 : decode cX1_fillTicks 43 = .ok (.if_icmp .gt 9, 3) := by decide +kernel
theorem dX1_fillTicks_46 : decode cX1_fillTicks 46 = .ok (.iinc 3 1, 3) := by decide +kernel
theorem dX1_fillTicks_49 : decode cX1_fillTicks 49 = .ok (.goto (-22), 3) := by decide +kernel
theorem dX1_fillTicks_52 : decode cX1_fillTicks 52 = .ok (.aload_n 0, 1) := by decide +kernel
theorem dX1_fillTicks_53 : decode cX1_fillTicks 53 = .ok (.iload 4, 2) := by decide +kernel
theorem dX1_fillTicks_55 : decode cX1_fillTicks 55 = .ok (.iload_n 3, 1) := by decide +kernel
theorem dX1_fillTicks_56 : decode cX1_fillTicks 56 = .ok (.iastore, 1) := by decide +kernel
theorem dX1_fillTicks_57 : decode cX1_fillTicks 57 = .ok (.iinc 4 1, 3) := by decide +kernel
theorem dX1_fillTicks_60 : decode cX1_fillTicks 60 = .ok (.goto (-55), 3) := by decide +kernel
theorem dX1_fillTicks_63 : decode cX1_fillTicks 63 = .ok (.return_, 1) := by decide +kernel
theorem dX2_init_0 : decode cX2_init 0 = .ok (.aload_n 0, 1) := by decide +kernel
theorem dX2_init_1 : decode cX2_init 1 = .ok (.invokespecial 3, 3) := by decide +kernel
theorem dX2_init_4 : decode cX2_init 4 = .ok (.aload_n 0, 1) := by decide +kernel
theorem dX2_init_5 : decode cX2_init 5 = .ok (.iload_n 1, 1) := by decide +kernel
theorem dX2_init_6 : decode cX2_init 6 = .ok (.putfield 9, 3) := by decide +kernel
theorem dX2_init_9 : decode cX2_init 9 = .ok (.aload_n 0, 1) := by decide +kernel
theorem dX2_init_10 : decode cX2_init 10 = .ok (.iload_n 2, 1) := by decide +kernel
theorem dX2_init_11 : decode cX2_init 11 = .ok (.newarray .int, 2) := by decide +kernel
theorem dX2_init_13 : decode cX2_init 13 = .ok (.putfield 15, 3) := by decide +kernel
theorem dX2_init_16 : decode cX2_init 16 = .ok (.return_, 1) := by decide +kernel
theorem dX2_hasRun_0 : decode cX2_hasRun 0 = .ok (.iload_n 1, 1) := by decide +kernel
theorem dX2_hasRun_1 : decode cX2_hasRun 1 = .ok (.ifCond .lt 22, 3) := by decide +kernel
theorem dX2_hasRun_4 : decode cX2_hasRun 4 = .ok (.iload_n 1, 1) := by decide +kernel
theorem dX2_hasRun_5 : decode cX2_hasRun 5 = .ok (.i2l, 1) := by decide +kernel
theorem dX2_hasRun_6 : decode cX2_hasRun 6 = .ok (.iload_n 2, 1) := by decide +kernel
theorem dX2_hasRun_7 : decode cX2_hasRun 7 = .ok (.i2l, 1) := by decide +kernel
theorem dX2_hasRun_8 : decode cX2_hasRun 8 = .ok (.ladd, 1) := by decide +kernel
theorem dX2_hasRun_9 : decode cX2_hasRun 9 = .ok (.aload_n 0, 1) := by decide +kernel
theorem dX2_hasRun_10 : decode cX2_hasRun 10 = .ok (.getfield 15, 3) := by decide +kernel
theorem dX2_hasRun_13 : decode cX2_hasRun 13 = .ok (.arraylength, 1) := by decide +kernel
theorem dX2_hasRun_14 : decode cX2_hasRun 14 = .ok (.i2l, 1) := by decide +kernel
theorem dX2_hasRun_15 : decode cX2_hasRun 15 = .ok (.lcmp, 1) := by decide +kernel
theorem dX2_hasRun_16 : decode cX2_hasRun 16 = .ok (.ifCond .gt 7, 3) := by decide +kernel
theorem dX2_hasRun_19 : decode cX2_hasRun 19 = .ok (.iconst 1, 1) := by decide +kernel
theorem dX2_hasRun_20 : decode cX2_hasRun 20 = .ok (.goto 4, 3) := by decide +kernel
theorem dX2_hasRun_23 : decode cX2_hasRun 23 = .ok (.iconst 0, 1) := by decide +kernel
theorem dX2_hasRun_24 : decode cX2_hasRun 24 = .ok (.ireturn, 1) := by decide +kernel
theorem dX2_nearestTo_0 : decode cX2_nearestTo 0 = .ok (.aload_n 0, 1) := by decide +kernel
theorem dX2_nearestTo_1 : decode cX2_nearestTo 1 = .ok (.getfield 9, 3) := by decide +kernel
theorem dX2_nearestTo_4 : decode cX2_nearestTo 4 = .ok (.ifCond .ne 9, 3) := by decide +kernel
theorem dX2_nearestTo_7 : decode cX2_nearestTo 7 = .ok (.ldc2_w 19, 3) := by decide +kernel
theorem dX2_nearestTo_10 : decode cX2_nearestTo 10 = .ok (.goto 20, 3) := by decide +kernel
theorem dX2_nearestTo_13 : decode cX2_nearestTo 13 = .ok (.aload_n 0, 1) := by decide +kernel
theorem dX2_nearestTo_14 : decode cX2_nearestTo 14 = .ok (.getfield 9, 3) := by decide +kernel
theorem dX2_nearestTo_17 : decode cX2_nearestTo 17 = .ok (.iconst 1, 1) := by decide +kernel
theorem dX2_nearestTo_18 : decode cX2_nearestTo 18 = .ok (.if_icmp .ne 9, 3) := by decide +kernel
theorem dX2_nearestTo_21 : decode cX2_nearestTo 21 = .ok (.ldc2_w 21, 3) := by decide +kernel
theorem dX2_nearestTo_24 : decode cX2_nearestTo 24 = .ok (.goto 6, 3) := by decide +kernel
theorem dX2_nearestTo_27 : decode cX2_nearestTo 27 = .ok (.ldc2_w 23, 3) := by decide +kernel
theorem dX2_nearestTo_30 : decode cX2_nearestTo 30 = .ok (.lstore_n 3, 1) := by decide +kernel
theorem dX2_nearestTo_31 : decode cX2_nearestTo 31 = .ok (.lload_n 3, 1) := by decide +kernel
theorem dX2_nearestTo_32 : decode cX2_nearestTo 32 = .ok (.lneg, 1) := by decide +kernel
theorem dX2_nearestTo_33 : decode cX2_nearestTo 33 = .ok (.lconst 1, 1) := by decide +kernel
theorem dX2_nearestTo_34 : decode cX2_nearestTo 34 = .ok (.lsub, 1) := by decide +kernel
theorem dX2_nearestTo_35 : decode cX2_nearestTo 35 = .ok (.lstore 5, 2) := by decide +kernel
theorem dX2_nearestTo_37 : decode cX2_nearestTo 37 = .ok (.lload 5, 2) := by decide +kernel
theorem dX2_nearestTo_39 : decode cX2_nearestTo 39 = .ok (.lload_n 3, 1) := by decide +kernel
theorem dX2_nearestTo_40 : decode cX2_nearestTo 40 = .ok (.lload_n 1, 1) := by decide +kernel
theorem dX2_nearestTo_41 : decode cX2_nearestTo 41 = .ok (.invokestatic 25, 3) := by decide +kernel
theorem dX2_nearestTo_44 : decode cX2_nearestTo 44 = .ok (.invokestatic 31, 3) := by decide +kernel
theorem dX2_nearestTo_47 : decode cX2_nearestTo 47 = .ok (.l2i, 1) := by decide +kernel
theorem dX2_nearestTo_48 : decode cX2_nearestTo 48 = .ok (.ireturn, 1) := by decide +kernel
set_option maxRecDepth 20000 in
theorem ggX3_init_J7_fill_53178 : GoodIn wsX3_init wsJ7_fill_53178 := goodIn_r _ [14] (by decide +kernel) (by decide +kernel)
set_option maxRecDepth 20000 in
theorem gX3_init_J7_fill_53178 : GoodIn wsX3_init (va_wsS RX3 31 yJ7_fill_53178 wsJ7_fill_53178) := goodIn_app (goodIn_of _ (by decide +kernel)) ggX3_init_J7_fill_53178
theorem dX3_init_0 : decode cX3_init 0 = .ok (.aload_n 0, 1) := by decide +kernel
theorem dX3_init_1 : decode cX3_init 1 = .ok (.invokespecial 3, 3) := by decide +kernel
theorem dX3_init_4 : decode cX3_init 4 = .ok (.aload_n 0, 1) := by decide +kernel
theorem dX3_init_5 : decode cX3_init 5 = .ok (.iload_n 1, 1) := by decide +kernel
theorem dX3_init_6 : decode cX3_init 6 = .ok (.putfield 9, 3) := by decide +kernel
theorem dX3_init_9 : decode cX3_init 9 = .ok (.aload_n 0, 1) := by decide +kernel
theorem dX3_init_10 : decode cX3_init 10 = .ok (.iload_n 2, 1) := by decide +kernel
theorem dX3_init_11 : decode cX3_init 11 = .ok (.putfield 15, 3) := by decide +kernel
theorem dX3_init_14 : decode cX3_init 14 = .ok (.aload_n 0, 1) := by decide +kernel
theorem dX3_init_15 : decode cX3_init 15 = .ok (.iload_n 3, 1) := by decide +kernel
theorem dX3_init_16 : decode cX3_init 16 = .ok (.putfield 18, 3) := by decide +kernel
theorem dX3_init_19 : decode cX3_init 19 = .ok (.aload_n 0, 1) := by decide +kernel
theorem dX3_init_20 : decode cX3_init 20 = .ok (.iload 4, 2) := by decide +kernel
theorem dX3_init_22 : decode cX3_init 22 = .ok (.putfield 21, 3) := by decide +kernel
theorem dX3_init_25 : decode cX3_init 25 = .ok (.aload_n 0, 1) := by decide +kernel
theorem dX3_init_26 : decode cX3_init 26 = .ok (.iload 5, 2) := by decide +kernel
theorem dX3_init_28 : decode cX3_init 28 = .ok (.putfield 24, 3) := by decide +kernel
theorem dX3_init_31 : decode cX3_init 31 = .ok (.aload_n 0, 1) := by decide +kernel
theorem dX3_init_32 : decode cX3_init 32 = .ok (.bipush 64, 2) := by decide +kernel
theorem dX3_init_34 : decode cX3_init 34 = .ok (.newarray .int, 2) := by decide +kernel
theorem dX3_init_36 : decode cX3_init 36 = .ok (.putfield 27, 3) := by decide +kernel
theorem dX3_init_39 : decode cX3_init 39 = .ok (.aload_n 0, 1) := by decide +kernel
theorem dX3_init_40 : decode cX3_init 40 = .ok (.getfield 27, 3) := by decide +kernel
theorem dX3_init_43 : decode cX3_init 43 = .ok (.iconst (-1), 1) := by decide +kernel
theorem dX3_init_44 : decode cX3_init 44 = .ok (.invokestatic 31, 3) := by decide +kernel
theorem dX3_init_47 : decode cX3_init 47 = .ok (.return_, 1) := by decide +kernel
set_option maxRecDepth 20000 in
theorem ggX3_forgetTimes_J7_fill_53178 : GoodIn wsX3_forgetTimes wsJ7_fill_53178 := goodIn_r _ [5] (by decide +kernel) (by decide +kernel)
set_option maxRecDepth 20000 in
theorem gX3_forgetTimes_J7_fill_53178 : GoodIn wsX3_forgetTimes (va_wsS RX3 31 yJ7_fill_53178 wsJ7_fill_53178) := goodIn_app (goodIn_of _ (by decide +kernel)) ggX3_forgetTimes_J7_fill_53178
theorem dX3_forgetTimes_0 : decode cX3_forgetTimes 0 = .ok (.aload_n 0, 1) := by decide +kernel
theorem dX3_forgetTimes_1 : decode cX3_forgetTimes 1 = .ok (.getfield 27, 3) := by decide +kernel
theorem dX3_forgetTimes_4 : decode cX3_forgetTimes 4 = .ok (.iconst (-1), 1) := by decide +kernel
theorem dX3_forgetTimes_5 : decode cX3_forgetTimes 5 = .ok (.invokestatic 31, 3) := by decide +kernel
theorem dX3_forgetTimes_8 : decode cX3_forgetTimes 8 = .ok (.return_, 1) := by decide +kernel
theorem dX4_init_0 : decode cX4_init 0 = .ok (.aload_n 0, 1) := by decide +kernel
theorem dX4_init_1 : decode cX4_init 1 = .ok (.invokespecial 1, 3) := by decide +kernel
theorem dX4_init_4 : decode cX4_init 4 = .ok (.aload_n 0, 1) := by decide +kernel
theorem dX4_init_5 : decode cX4_init 5 = .ok (.aload_n 1, 1) := by decide +kernel
theorem dX4_init_6 : decode cX4_init 6 = .ok (.putfield 7, 3) := by decide +kernel
theorem dX4_init_9 : decode cX4_init 9 = .ok (.aload_n 0, 1) := by decide +kernel
theorem dX4_init_10 : decode cX4_init 10 = .ok (.aload_n 2, 1) := by decide +kernel
theorem dX4_init_11 : decode cX4_init 11 = .ok (.putfield 13, 3) := by decide +kernel
theorem dX4_init_14 : decode cX4_init 14 = .ok (.aload_n 0, 1) := by decide +kernel
theorem dX4_init_15 : decode cX4_init 15 = .ok (.iload_n 3, 1) := by decide +kernel
theorem dX4_init_16 : decode cX4_init 16 = .ok (.putfield 16, 3) := by decide +kernel
theorem dX4_init_19 : decode cX4_init 19 = .ok (.return_, 1) := by decide +kernel
abbrev vwCl : List vw_C := [(RX0, TX0, 4), (RX1, TX1, 7), (RX2, TX2, 2), (RX3, TX3, 6), (RX4, TX4, 3), (RX5, TX5, 11), (RX6, TX6, 28)]
